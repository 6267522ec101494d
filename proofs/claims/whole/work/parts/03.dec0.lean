theorem dX0_init_0 : decode cX0_init 0 = .ok (.aload_n 0, 1) := by decide +kernel
theorem dX0_init_1 : decode cX0_init 1 = .ok (.invokespecial 3, 3) := by decide +kernel
theorem dX0_init_4 : decode cX0_init 4 = .ok (.aload_n 0, 1) := by decide +kernel
theorem dX0_init_5 : decode cX0_init 5 = .ok (.bipush 6, 2) := by decide +kernel
theorem dX0_init_7 : decode cX0_init 7 = .ok (.anewarray 9, 3) := by decide +kernel
theorem dX0_init_10 : decode cX0_init 10 = .ok (.putfield 11, 3) := by decide +kernel
theorem dX0_init_13 : decode cX0_init 13 = .ok (.aload_n 0, 1) := by decide +kernel
theorem dX0_init_14 : decode cX0_init 14 = .ok (.bipush 6, 2) := by decide +kernel
theorem dX0_init_16 : decode cX0_init 16 = .ok (.anewarray 17, 3) := by decide +kernel
theorem dX0_init_19 : decode cX0_init 19 = .ok (.putfield 19, 3) := by decide +kernel
theorem dX0_init_22 : decode cX0_init 22 = .ok (.aload_n 0, 1) := by decide +kernel
theorem dX0_init_23 : decode cX0_init 23 = .ok (.bipush 12, 2) := by decide +kernel
theorem dX0_init_25 : decode cX0_init 25 = .ok (.anewarray 23, 3) := by decide +kernel
theorem dX0_init_28 : decode cX0_init 28 = .ok (.putfield 25, 3) := by decide +kernel
theorem dX0_init_31 : decode cX0_init 31 = .ok (.aload_n 0, 1) := by decide +kernel
theorem dX0_init_32 : decode cX0_init 32 = .ok (.iconst 0, 1) := by decide +kernel
theorem dX0_init_33 : decode cX0_init 33 = .ok (.putfield 29, 3) := by decide +kernel
theorem dX0_init_36 : decode cX0_init 36 = .ok (.aload_n 0, 1) := by decide +kernel
theorem dX0_init_37 : decode cX0_init 37 = .ok (.iconst 0, 1) := by decide +kernel
theorem dX0_init_38 : decode cX0_init 38 = .ok (.putfield 33, 3) := by decide +kernel
theorem dX0_init_41 : decode cX0_init 41 = .ok (.aload_n 0, 1) := by decide +kernel
theorem dX0_init_42 : decode cX0_init 42 = .ok (.iconst 0, 1) := by decide +kernel
theorem dX0_init_43 : decode cX0_init 43 = .ok (.putfield 36, 3) := by decide +kernel
theorem dX0_init_46 : decode cX0_init 46 = .ok (.aload_n 0, 1) := by decide +kernel
theorem dX0_init_47 : decode cX0_init 47 = .ok (.bipush (-4), 2) := by decide +kernel
theorem dX0_init_49 : decode cX0_init 49 = .ok (.putfield 39, 3) := by decide +kernel
theorem dX0_init_52 : decode cX0_init 52 = .ok (.aload_n 0, 1) := by decide +kernel
theorem dX0_init_53 : decode cX0_init 53 = .ok (.bipush (-4), 2) := by decide +kernel
theorem dX0_init_55 : decode cX0_init 55 = .ok (.putfield 42, 3) := by decide +kernel
theorem dX0_init_58 : decode cX0_init 58 = .ok (.aload_n 0, 1) := by decide +kernel
theorem dX0_init_59 : decode cX0_init 59 = .ok (.bipush (-4), 2) := by decide +kernel
theorem dX0_init_61 : decode cX0_init 61 = .ok (.putfield 45, 3) := by decide +kernel
theorem dX0_init_64 : decode cX0_init 64 = .ok (.aload_n 0, 1) := by decide +kernel
theorem dX0_init_65 : decode cX0_init 65 = .ok (.iconst 1, 1) := by decide +kernel
theorem dX0_init_66 : decode cX0_init 66 = .ok (.putfield 48, 3) := by decide +kernel
theorem dX0_init_69 : decode cX0_init 69 = .ok (.iconst 0, 1) := by decide +kernel
theorem dX0_init_70 : decode cX0_init 70 = .ok (.istore_n 1, 1) := by decide +kernel
theorem dX0_init_71 : decode cX0_init 71 = .ok (.iload_n 1, 1) := by decide +kernel
theorem dX0_init_72 : decode cX0_init 72 = .ok (.aload_n 0, 1) := by decide +kernel
theorem dX0_init_73 : decode cX0_init 73 = .ok (.getfield 11, 3) := by decide +kernel
theorem dX0_init_76 : decode cX0_init 76 = .ok (.arraylength, 1) := by decide +kernel
theorem dX0_init_77 : decode cX0_init 77 = .ok (.if_icmp .ge 22, 3) := by decide +kernel
theorem dX0_init_80 : decode cX0_init 80 = .ok (.aload_n 0, 1) := by decide +kernel
theorem dX0_init_81 : decode cX0_init 81 = .ok (.getfield 11, 3) := by decide +kernel
theorem dX0_init_84 : decode cX0_init 84 = .ok (.iload_n 1, 1) := by decide +kernel
theorem dX0_init_85 : decode cX0_init 85 = .ok (.new 9, 3) := by decide +kernel
theorem dX0_init_88 : decode cX0_init 88 = .ok (.dup, 1) := by decide +kernel
theorem dX0_init_89 : decode cX0_init 89 = .ok (.invokespecial 51, 3) := by decide +kernel
theorem dX0_init_92 : decode cX0_init 92 = .ok (.aastore, 1) := by decide +kernel
theorem dX0_init_93 : decode cX0_init 93 = .ok (.iinc 1 1, 3) := by decide +kernel
theorem dX0_init_96 : decode cX0_init 96 = .ok (.goto (-25), 3) := by decide +kernel
theorem dX0_init_99 : decode cX0_init 99 = .ok (.iconst 0, 1) := by decide +kernel
theorem dX0_init_100 : decode cX0_init 100 = .ok (.istore_n 1, 1) := by decide +kernel
theorem dX0_init_101 : decode cX0_init 101 = .ok (.iload_n 1, 1) := by decide +kernel
theorem dX0_init_102 : decode cX0_init 102 = .ok (.aload_n 0, 1) := by decide +kernel
theorem dX0_init_103 : decode cX0_init 103 = .ok (.getfield 19, 3) := by decide +kernel
theorem dX0_init_106 : decode cX0_init 106 = .ok (.arraylength, 1) := by decide +kernel
theorem dX0_init_107 : decode cX0_init 107 = .ok (.if_icmp .ge 22, 3) := by decide +kernel
theorem dX0_init_110 : decode cX0_init 110 = .ok (.aload_n 0, 1) := by decide +kernel
theorem dX0_init_111 : decode cX0_init 111 = .ok (.getfield 19, 3) := by decide +kernel
theorem dX0_init_114 : decode cX0_init 114 = .ok (.iload_n 1, 1) := by decide +kernel
theorem dX0_init_115 : decode cX0_init 115 = .ok (.new 17, 3) := by decide +kernel
theorem dX0_init_118 : decode cX0_init 118 = .ok (.dup, 1) := by decide +kernel
theorem dX0_init_119 : decode cX0_init 119 = .ok (.invokespecial 52, 3) := by decide +kernel
theorem dX0_init_122 : decode cX0_init 122 = .ok (.aastore, 1) := by decide +kernel
theorem dX0_init_123 : decode cX0_init 123 = .ok (.iinc 1 1, 3) := by decide +kernel
theorem dX0_init_126 : decode cX0_init 126 = .ok (.goto (-25), 3) := by decide +kernel
theorem dX0_init_129 : decode cX0_init 129 = .ok (.iconst 0, 1) := by decide +kernel
theorem dX0_init_130 : decode cX0_init 130 = .ok (.istore_n 1, 1) := by decide +kernel
theorem dX0_init_131 : decode cX0_init 131 = .ok (.iload_n 1, 1) := by decide +kernel
theorem dX0_init_132 : decode cX0_init 132 = .ok (.aload_n 0, 1) := by decide +kernel
theorem dX0_init_133 : decode cX0_init 133 = .ok (.getfield 25, 3) := by decide +kernel
theorem dX0_init_136 : decode cX0_init 136 = .ok (.arraylength, 1) := by decide +kernel
theorem dX0_init_137 : decode cX0_init 137 = .ok (.if_icmp .ge 22, 3) := by decide +kernel
theorem dX0_init_140 : decode cX0_init 140 = .ok (.aload_n 0, 1) := by decide +kernel
theorem dX0_init_141 : decode cX0_init 141 = .ok (.getfield 25, 3) := by decide +kernel
theorem dX0_init_144 : decode cX0_init 144 = .ok (.iload_n 1, 1) := by decide +kernel
theorem dX0_init_145 : decode cX0_init 145 = .ok (.new 23, 3) := by decide +kernel
theorem dX0_init_148 : decode cX0_init 148 = .ok (.dup, 1) := by decide +kernel
theorem dX0_init_149 : decode cX0_init 149 = .ok (.invokespecial 53, 3) := by decide +kernel
theorem dX0_init_152 : decode cX0_init 152 = .ok (.aastore, 1) := by decide +kernel
theorem dX0_init_153 : decode cX0_init 153 = .ok (.iinc 1 1, 3) := by decide +kernel
theorem dX0_init_156 : decode cX0_init 156 = .ok (.goto (-25), 3) := by decide +kernel
theorem dX0_init_159 : decode cX0_init 159 = .ok (.return_, 1) := by decide +kernel
theorem dX0_empty_0 : decode cX0_empty 0 = .ok (.aload_n 0, 1) := by decide +kernel
theorem dX0_empty_1 : decode cX0_empty 1 = .ok (.iconst 0, 1) := by decide +kernel
theorem dX0_empty_2 : decode cX0_empty 2 = .ok (.putfield 29, 3) := by decide +kernel
theorem dX0_empty_5 : decode cX0_empty 5 = .ok (.aload_n 0, 1) := by decide +kernel
theorem dX0_empty_6 : decode cX0_empty 6 = .ok (.iconst 0, 1) := by decide +kernel
theorem dX0_empty_7 : decode cX0_empty 7 = .ok (.putfield 33, 3) := by decide +kernel
theorem dX0_empty_10 : decode cX0_empty 10 = .ok (.aload_n 0, 1) := by decide +kernel
theorem dX0_empty_11 : decode cX0_empty 11 = .ok (.iconst 0, 1) := by decide +kernel
theorem dX0_empty_12 : decode cX0_empty 12 = .ok (.putfield 36, 3) := by decide +kernel
theorem dX0_empty_15 : decode cX0_empty 15 = .ok (.aload_n 0, 1) := by decide +kernel
theorem dX0_empty_16 : decode cX0_empty 16 = .ok (.iconst 1, 1) := by decide +kernel
theorem dX0_empty_17 : decode cX0_empty 17 = .ok (.putfield 48, 3) := by decide +kernel
theorem dX0_empty_20 : decode cX0_empty 20 = .ok (.aload_n 0, 1) := by decide +kernel
theorem dX0_empty_21 : decode cX0_empty 21 = .ok (.invokevirtual 54, 3) := by decide +kernel
theorem dX0_empty_24 : decode cX0_empty 24 = .ok (.return_, 1) := by decide +kernel
theorem dX0_free_0 : decode cX0_free 0 = .ok (.aload_n 0, 1) := by decide +kernel
theorem dX0_free_1 : decode cX0_free 1 = .ok (.bipush (-4), 2) := by decide +kernel
theorem dX0_free_3 : decode cX0_free 3 = .ok (.bipush (-4), 2) := by decide +kernel
theorem dX0_free_5 : decode cX0_free 5 = .ok (.bipush (-4), 2) := by decide +kernel
theorem dX0_free_7 : decode cX0_free 7 = .ok (.invokevirtual 57, 3) := by decide +kernel
theorem dX0_free_10 : decode cX0_free 10 = .ok (.return_, 1) := by decide +kernel
theorem dX0_jam_0 : decode cX0_jam 0 = .ok (.aload_n 0, 1) := by decide +kernel
theorem dX0_jam_1 : decode cX0_jam 1 = .ok (.iload_n 1, 1) := by decide +kernel
theorem dX0_jam_2 : decode cX0_jam 2 = .ok (.putfield 39, 3) := by decide +kernel
theorem dX0_jam_5 : decode cX0_jam 5 = .ok (.aload_n 0, 1) := by decide +kernel
theorem dX0_jam_6 : decode cX0_jam 6 = .ok (.iload_n 2, 1) := by decide +kernel
theorem dX0_jam_7 : decode cX0_jam 7 = .ok (.putfield 42, 3) := by decide +kernel
theorem dX0_jam_10 : decode cX0_jam 10 = .ok (.aload_n 0, 1) := by decide +kernel
theorem dX0_jam_11 : decode cX0_jam 11 = .ok (.iload_n 3, 1) := by decide +kernel
theorem dX0_jam_12 : decode cX0_jam 12 = .ok (.putfield 45, 3) := by decide +kernel
theorem dX0_jam_15 : decode cX0_jam 15 = .ok (.return_, 1) := by decide +kernel
theorem dX0_become_0 : decode cX0_become 0 = .ok (.iconst 0, 1) := by decide +kernel
theorem dX0_become_1 : decode cX0_become 1 = .ok (.istore_n 2, 1) := by decide +kernel
theorem dX0_become_2 : decode cX0_become 2 = .ok (.iload_n 2, 1) := by decide +kernel
theorem dX0_become_3 : decode cX0_become 3 = .ok (.aload_n 1, 1) := by decide +kernel
theorem dX0_become_4 : decode cX0_become 4 = .ok (.getfield 29, 3) := by decide +kernel
theorem dX0_become_7 : decode cX0_become 7 = .ok (.if_icmp .ge 24, 3) := by decide +kernel
theorem dX0_become_10 : decode cX0_become 10 = .ok (.aload_n 0, 1) := by decide +kernel
theorem dX0_become_11 : decode cX0_become 11 = .ok (.getfield 11, 3) := by decide +kernel
theorem dX0_become_14 : decode cX0_become 14 = .ok (.iload_n 2, 1) := by decide +kernel
theorem dX0_become_15 : decode cX0_become 15 = .ok (.aaload, 1) := by decide +kernel
theorem dX0_become_16 : decode cX0_become 16 = .ok (.aload_n 1, 1) := by decide +kernel
theorem dX0_become_17 : decode cX0_become 17 = .ok (.getfield 11, 3) := by decide +kernel
theorem dX0_become_20 : decode cX0_become 20 = .ok (.iload_n 2, 1) := by decide +kernel
theorem dX0_become_21 : decode cX0_become 21 = .ok (.aaload, 1) := by decide +kernel
theorem dX0_become_22 : decode cX0_become 22 = .ok (.invokevirtual 61, 3) := by decide +kernel
theorem dX0_become_25 : decode cX0_become 25 = .ok (.iinc 2 1, 3) := by decide +kernel
theorem dX0_become_28 : decode cX0_become 28 = .ok (.goto (-26), 3) := by decide +kernel
theorem dX0_become_31 : decode cX0_become 31 = .ok (.iconst 0, 1) := by decide +kernel
theorem dX0_become_32 : decode cX0_become 32 = .ok (.istore_n 2, 1) := by decide +kernel
theorem dX0_become_33 : decode cX0_become 33 = .ok (.iload_n 2, 1) := by decide +kernel
theorem dX0_become_34 : decode cX0_become 34 = .ok (.aload_n 1, 1) := by decide +kernel
theorem dX0_become_35 : decode cX0_become 35 = .ok (.getfield 33, 3) := by decide +kernel
theorem dX0_become_38 : decode cX0_become 38 = .ok (.if_icmp .ge 24, 3) := by decide +kernel
theorem dX0_become_41 : decode cX0_become 41 = .ok (.aload_n 0, 1) := by decide +kernel
theorem dX0_become_42 : decode cX0_become 42 = .ok (.getfield 19, 3) := by decide +kernel
theorem dX0_become_45 : decode cX0_become 45 = .ok (.iload_n 2, 1) := by decide +kernel
theorem dX0_become_46 : decode cX0_become 46 = .ok (.aaload, 1) := by decide +kernel
theorem dX0_become_47 : decode cX0_become 47 = .ok (.aload_n 1, 1) := by decide +kernel
theorem dX0_become_48 : decode cX0_become 48 = .ok (.getfield 19, 3) := by decide +kernel
theorem dX0_become_51 : decode cX0_become 51 = .ok (.iload_n 2, 1) := by decide +kernel
theorem dX0_become_52 : decode cX0_become 52 = .ok (.aaload, 1) := by decide +kernel
theorem dX0_become_53 : decode cX0_become 53 = .ok (.invokevirtual 65, 3) := by decide +kernel
theorem dX0_become_56 : decode cX0_become 56 = .ok (.iinc 2 1, 3) := by decide +kernel
theorem dX0_become_59 : decode cX0_become 59 = .ok (.goto (-26), 3) := by decide +kernel
theorem dX0_become_62 : decode cX0_become 62 = .ok (.iconst 0, 1) := by decide +kernel
theorem dX0_become_63 : decode cX0_become 63 = .ok (.istore_n 2, 1) := by decide +kernel
theorem dX0_become_64 : decode cX0_become 64 = .ok (.iload_n 2, 1) := by decide +kernel
theorem dX0_become_65 : decode cX0_become 65 = .ok (.aload_n 1, 1) := by decide +kernel
theorem dX0_become_66 : decode cX0_become 66 = .ok (.getfield 36, 3) := by decide +kernel
theorem dX0_become_69 : decode cX0_become 69 = .ok (.if_icmp .ge 37, 3) := by decide +kernel
theorem dX0_become_72 : decode cX0_become 72 = .ok (.aload_n 1, 1) := by decide +kernel
theorem dX0_become_73 : decode cX0_become 73 = .ok (.getfield 25, 3) := by decide +kernel
theorem dX0_become_76 : decode cX0_become 76 = .ok (.iload_n 2, 1) := by decide +kernel
theorem dX0_become_77 : decode cX0_become 77 = .ok (.aaload, 1) := by decide +kernel
theorem dX0_become_78 : decode cX0_become 78 = .ok (.astore_n 3, 1) := by decide +kernel
theorem dX0_become_79 : decode cX0_become 79 = .ok (.aload_n 0, 1) := by decide +kernel
theorem dX0_become_80 : decode cX0_become 80 = .ok (.getfield 25, 3) := by decide +kernel
theorem dX0_become_83 : decode cX0_become 83 = .ok (.iload_n 2, 1) := by decide +kernel
theorem dX0_become_84 : decode cX0_become 84 = .ok (.aaload, 1) := by decide +kernel
theorem dX0_become_85 : decode cX0_become 85 = .ok (.aload_n 3, 1) := by decide +kernel
theorem dX0_become_86 : decode cX0_become 86 = .ok (.getfield 68, 3) := by decide +kernel
theorem dX0_become_89 : decode cX0_become 89 = .ok (.aload_n 3, 1) := by decide +kernel
theorem dX0_become_90 : decode cX0_become 90 = .ok (.getfield 71, 3) := by decide +kernel
theorem dX0_become_93 : decode cX0_become 93 = .ok (.aload_n 3, 1) := by decide +kernel
theorem dX0_become_94 : decode cX0_become 94 = .ok (.getfield 74, 3) := by decide +kernel
theorem dX0_become_97 : decode cX0_become 97 = .ok (.invokevirtual 78, 3) := by decide +kernel
theorem dX0_become_100 : decode cX0_become 100 = .ok (.iinc 2 1, 3) := by decide +kernel
theorem dX0_become_103 : decode cX0_become 103 = .ok (.goto (-39), 3) := by decide +kernel
theorem dX0_become_106 : decode cX0_become 106 = .ok (.aload_n 0, 1) := by decide +kernel
theorem dX0_become_107 : decode cX0_become 107 = .ok (.aload_n 1, 1) := by decide +kernel
theorem dX0_become_108 : decode cX0_become 108 = .ok (.getfield 29, 3) := by decide +kernel
theorem dX0_become_111 : decode cX0_become 111 = .ok (.putfield 29, 3) := by decide +kernel
theorem dX0_become_114 : decode cX0_become 114 = .ok (.aload_n 0, 1) := by decide +kernel
theorem dX0_become_115 : decode cX0_become 115 = .ok (.aload_n 1, 1) := by decide +kernel
theorem dX0_become_116 : decode cX0_become 116 = .ok (.getfield 33, 3) := by decide +kernel
theorem dX0_become_119 : decode cX0_become 119 = .ok (.putfield 33, 3) := by decide +kernel
theorem dX0_become_122 : decode cX0_become 122 = .ok (.aload_n 0, 1) := by decide +kernel
theorem dX0_become_123 : decode cX0_become 123 = .ok (.aload_n 1, 1) := by decide +kernel
theorem dX0_become_124 : decode cX0_become 124 = .ok (.getfield 36, 3) := by decide +kernel
theorem dX0_become_127 : decode cX0_become 127 = .ok (.putfield 36, 3) := by decide +kernel
theorem dX0_become_130 : decode cX0_become 130 = .ok (.aload_n 0, 1) := by decide +kernel
theorem dX0_become_131 : decode cX0_become 131 = .ok (.aload_n 1, 1) := by decide +kernel
theorem dX0_become_132 : decode cX0_become 132 = .ok (.getfield 48, 3) := by decide +kernel
theorem dX0_become_135 : decode cX0_become 135 = .ok (.putfield 48, 3) := by decide +kernel
theorem dX0_become_138 : decode cX0_become 138 = .ok (.aload_n 0, 1) := by decide +kernel
theorem dX0_become_139 : decode cX0_become 139 = .ok (.aload_n 1, 1) := by decide +kernel
theorem dX0_become_140 : decode cX0_become 140 = .ok (.getfield 39, 3) := by decide +kernel
theorem dX0_become_143 : decode cX0_become 143 = .ok (.aload_n 1, 1) := by decide +kernel
theorem dX0_become_144 : decode cX0_become 144 = .ok (.getfield 42, 3) := by decide +kernel
theorem dX0_become_147 : decode cX0_become 147 = .ok (.aload_n 1, 1) := by decide +kernel
theorem dX0_become_148 : decode cX0_become 148 = .ok (.getfield 45, 3) := by decide +kernel
theorem dX0_become_151 : decode cX0_become 151 = .ok (.invokevirtual 57, 3) := by decide +kernel
theorem dX0_become_154 : decode cX0_become 154 = .ok (.return_, 1) := by decide +kernel
theorem dX0_leastVoteYear_0 : decode cX0_leastVoteYear 0 = .ok (.aload_n 0, 1) := by decide +kernel
theorem dX0_leastVoteYear_1 : decode cX0_leastVoteYear 1 = .ok (.getfield 33, 3) := by decide +kernel
theorem dX0_leastVoteYear_4 : decode cX0_leastVoteYear 4 = .ok (.ifCond .le 20, 3) := by decide +kernel
theorem dX0_leastVoteYear_7 : decode cX0_leastVoteYear 7 = .ok (.aload_n 0, 1) := by decide +kernel
theorem dX0_leastVoteYear_8 : decode cX0_leastVoteYear 8 = .ok (.getfield 19, 3) := by decide +kernel
theorem dX0_leastVoteYear_11 : decode cX0_leastVoteYear 11 = .ok (.aload_n 0, 1) := by decide +kernel
theorem dX0_leastVoteYear_12 : decode cX0_leastVoteYear 12 = .ok (.getfield 33, 3) := by decide +kernel
theorem dX0_leastVoteYear_15 : decode cX0_leastVoteYear 15 = .ok (.iconst 1, 1) := by decide +kernel
theorem dX0_leastVoteYear_16 : decode cX0_leastVoteYear 16 = .ok (.isub, 1) := by decide +kernel
theorem dX0_leastVoteYear_17 : decode cX0_leastVoteYear 17 = .ok (.aaload, 1) := by decide +kernel
theorem dX0_leastVoteYear_18 : decode cX0_leastVoteYear 18 = .ok (.getfield 82, 3) := by decide +kernel
theorem dX0_leastVoteYear_21 : decode cX0_leastVoteYear 21 = .ok (.goto 4, 3) := by decide +kernel
theorem dX0_leastVoteYear_24 : decode cX0_leastVoteYear 24 = .ok (.iconst 0, 1) := by decide +kernel
theorem dX0_leastVoteYear_25 : decode cX0_leastVoteYear 25 = .ok (.ireturn, 1) := by decide +kernel
theorem dX0_addVote_0 : decode cX0_addVote 0 = .ok (.aload_n 0, 1) := by decide +kernel
theorem dX0_addVote_1 : decode cX0_addVote 1 = .ok (.getfield 19, 3) := by decide +kernel
theorem dX0_addVote_4 : decode cX0_addVote 4 = .ok (.aload_n 0, 1) := by decide +kernel
theorem dX0_addVote_5 : decode cX0_addVote 5 = .ok (.getfield 33, 3) := by decide +kernel
theorem dX0_addVote_8 : decode cX0_addVote 8 = .ok (.aaload, 1) := by decide +kernel
theorem dX0_addVote_9 : decode cX0_addVote 9 = .ok (.astore 6, 2) := by decide +kernel
theorem dX0_addVote_11 : decode cX0_addVote 11 = .ok (.aload 6, 2) := by decide +kernel
theorem dX0_addVote_13 : decode cX0_addVote 13 = .ok (.iload_n 1, 1) := by decide +kernel
theorem dX0_addVote_14 : decode cX0_addVote 14 = .ok (.putfield 82, 3) := by decide +kernel
theorem dX0_addVote_17 : decode cX0_addVote 17 = .ok (.aload 6, 2) := by decide +kernel
theorem dX0_addVote_19 : decode cX0_addVote 19 = .ok (.iload_n 2, 1) := by decide +kernel
theorem dX0_addVote_20 : decode cX0_addVote 20 = .ok (.putfield 85, 3) := by decide +kernel
theorem dX0_addVote_23 : decode cX0_addVote 23 = .ok (.aload 6, 2) := by decide +kernel
theorem dX0_addVote_25 : decode cX0_addVote 25 = .ok (.iload_n 3, 1) := by decide +kernel
theorem dX0_addVote_26 : decode cX0_addVote 26 = .ok (.putfield 88, 3) := by decide +kernel
theorem dX0_addVote_29 : decode cX0_addVote 29 = .ok (.aload 6, 2) := by decide +kernel
theorem dX0_addVote_31 : decode cX0_addVote 31 = .ok (.iload 4, 2) := by decide +kernel
theorem dX0_addVote_33 : decode cX0_addVote 33 = .ok (.putfield 91, 3) := by decide +kernel
theorem dX0_addVote_36 : decode cX0_addVote 36 = .ok (.aload 6, 2) := by decide +kernel
theorem dX0_addVote_38 : decode cX0_addVote 38 = .ok (.iload 5, 2) := by decide +kernel
theorem dX0_addVote_40 : decode cX0_addVote 40 = .ok (.putfield 94, 3) := by decide +kernel
theorem dX0_addVote_43 : decode cX0_addVote 43 = .ok (.aload_n 0, 1) := by decide +kernel
theorem dX0_addVote_44 : decode cX0_addVote 44 = .ok (.dup, 1) := by decide +kernel
theorem dX0_addVote_45 : decode cX0_addVote 45 = .ok (.getfield 33, 3) := by decide +kernel
theorem dX0_addVote_48 : decode cX0_addVote 48 = .ok (.iconst 1, 1) := by decide +kernel
theorem dX0_addVote_49 : decode cX0_addVote 49 = .ok (.iadd, 1) := by decide +kernel
theorem dX0_addVote_50 : decode cX0_addVote 50 = .ok (.putfield 33, 3) := by decide +kernel
theorem dX0_addVote_53 : decode cX0_addVote 53 = .ok (.return_, 1) := by decide +kernel
theorem dX0_holdVotes_0 : decode cX0_holdVotes 0 = .ok (.iconst 0, 1) := by decide +kernel
theorem dX0_holdVotes_1 : decode cX0_holdVotes 1 = .ok (.istore_n 2, 1) := by decide +kernel
theorem dX0_holdVotes_2 : decode cX0_holdVotes 2 = .ok (.iload_n 2, 1) := by decide +kernel
theorem dX0_holdVotes_3 : decode cX0_holdVotes 3 = .ok (.iload_n 1, 1) := by decide +kernel
theorem dX0_holdVotes_4 : decode cX0_holdVotes 4 = .ok (.if_icmp .ge 66, 3) := by decide +kernel
theorem dX0_holdVotes_7 : decode cX0_holdVotes 7 = .ok (.aload_n 0, 1) := by decide +kernel
theorem dX0_holdVotes_8 : decode cX0_holdVotes 8 = .ok (.getfield 19, 3) := by decide +kernel
theorem dX0_holdVotes_11 : decode cX0_holdVotes 11 = .ok (.iload_n 2, 1) := by decide +kernel
theorem dX0_holdVotes_12 : decode cX0_holdVotes 12 = .ok (.aaload, 1) := by decide +kernel
theorem dX0_holdVotes_13 : decode cX0_holdVotes 13 = .ok (.astore_n 3, 1) := by decide +kernel
theorem dX0_holdVotes_14 : decode cX0_holdVotes 14 = .ok (.aload_n 0, 1) := by decide +kernel
theorem dX0_holdVotes_15 : decode cX0_holdVotes 15 = .ok (.getfield 11, 3) := by decide +kernel
theorem dX0_holdVotes_18 : decode cX0_holdVotes 18 = .ok (.aload_n 3, 1) := by decide +kernel
theorem dX0_holdVotes_19 : decode cX0_holdVotes 19 = .ok (.getfield 85, 3) := by decide +kernel
theorem dX0_holdVotes_22 : decode cX0_holdVotes 22 = .ok (.aaload, 1) := by decide +kernel
theorem dX0_holdVotes_23 : decode cX0_holdVotes 23 = .ok (.astore 4, 2) := by decide +kernel
theorem dX0_holdVotes_25 : decode cX0_holdVotes 25 = .ok (.aload 4, 2) := by decide +kernel
theorem dX0_holdVotes_27 : decode cX0_holdVotes 27 = .ok (.aload_n 3, 1) := by decide +kernel
theorem dX0_holdVotes_28 : decode cX0_holdVotes 28 = .ok (.getfield 88, 3) := by decide +kernel
theorem dX0_holdVotes_31 : decode cX0_holdVotes 31 = .ok (.putfield 97, 3) := by decide +kernel
theorem dX0_holdVotes_34 : decode cX0_holdVotes 34 = .ok (.aload 4, 2) := by decide +kernel
theorem dX0_holdVotes_36 : decode cX0_holdVotes 36 = .ok (.aload_n 3, 1) := by decide +kernel
theorem dX0_holdVotes_37 : decode cX0_holdVotes 37 = .ok (.getfield 91, 3) := by decide +kernel
theorem dX0_holdVotes_40 : decode cX0_holdVotes 40 = .ok (.putfield 98, 3) := by decide +kernel
theorem dX0_holdVotes_43 : decode cX0_holdVotes 43 = .ok (.aload 4, 2) := by decide +kernel
theorem dX0_holdVotes_45 : decode cX0_holdVotes 45 = .ok (.aload_n 3, 1) := by decide +kernel
theorem dX0_holdVotes_46 : decode cX0_holdVotes 46 = .ok (.getfield 94, 3) := by decide +kernel
theorem dX0_holdVotes_49 : decode cX0_holdVotes 49 = .ok (.putfield 99, 3) := by decide +kernel
theorem dX0_holdVotes_52 : decode cX0_holdVotes 52 = .ok (.aload 4, 2) := by decide +kernel
theorem dX0_holdVotes_54 : decode cX0_holdVotes 54 = .ok (.iconst 0, 1) := by decide +kernel
theorem dX0_holdVotes_55 : decode cX0_holdVotes 55 = .ok (.putfield 100, 3) := by decide +kernel
theorem dX0_holdVotes_58 : decode cX0_holdVotes 58 = .ok (.aload 4, 2) := by decide +kernel
theorem dX0_holdVotes_60 : decode cX0_holdVotes 60 = .ok (.iconst 0, 1) := by decide +kernel
theorem dX0_holdVotes_61 : decode cX0_holdVotes 61 = .ok (.putfield 103, 3) := by decide +kernel
theorem dX0_holdVotes_64 : decode cX0_holdVotes 64 = .ok (.iinc 2 1, 3) := by decide +kernel
theorem dX0_holdVotes_67 : decode cX0_holdVotes 67 = .ok (.goto (-65), 3) := by decide +kernel
theorem dX0_holdVotes_70 : decode cX0_holdVotes 70 = .ok (.iload_n 1, 1) := by decide +kernel
theorem dX0_holdVotes_71 : decode cX0_holdVotes 71 = .ok (.istore_n 2, 1) := by decide +kernel
theorem dX0_holdVotes_72 : decode cX0_holdVotes 72 = .ok (.iload_n 2, 1) := by decide +kernel
theorem dX0_holdVotes_73 : decode cX0_holdVotes 73 = .ok (.aload_n 0, 1) := by decide +kernel
theorem dX0_holdVotes_74 : decode cX0_holdVotes 74 = .ok (.getfield 33, 3) := by decide +kernel
theorem dX0_holdVotes_77 : decode cX0_holdVotes 77 = .ok (.if_icmp .ge 26, 3) := by decide +kernel
theorem dX0_holdVotes_80 : decode cX0_holdVotes 80 = .ok (.aload_n 0, 1) := by decide +kernel
theorem dX0_holdVotes_81 : decode cX0_holdVotes 81 = .ok (.getfield 19, 3) := by decide +kernel
theorem dX0_holdVotes_84 : decode cX0_holdVotes 84 = .ok (.iload_n 2, 1) := by decide +kernel
theorem dX0_holdVotes_85 : decode cX0_holdVotes 85 = .ok (.iload_n 1, 1) := by decide +kernel
theorem dX0_holdVotes_86 : decode cX0_holdVotes 86 = .ok (.isub, 1) := by decide +kernel
theorem dX0_holdVotes_87 : decode cX0_holdVotes 87 = .ok (.aaload, 1) := by decide +kernel
theorem dX0_holdVotes_88 : decode cX0_holdVotes 88 = .ok (.aload_n 0, 1) := by decide +kernel
theorem dX0_holdVotes_89 : decode cX0_holdVotes 89 = .ok (.getfield 19, 3) := by decide +kernel
theorem dX0_holdVotes_92 : decode cX0_holdVotes 92 = .ok (.iload_n 2, 1) := by decide +kernel
theorem dX0_holdVotes_93 : decode cX0_holdVotes 93 = .ok (.aaload, 1) := by decide +kernel
theorem dX0_holdVotes_94 : decode cX0_holdVotes 94 = .ok (.invokevirtual 65, 3) := by decide +kernel
theorem dX0_holdVotes_97 : decode cX0_holdVotes 97 = .ok (.iinc 2 1, 3) := by decide +kernel
theorem dX0_holdVotes_100 : decode cX0_holdVotes 100 = .ok (.goto (-28), 3) := by decide +kernel
theorem dX0_holdVotes_103 : decode cX0_holdVotes 103 = .ok (.aload_n 0, 1) := by decide +kernel
theorem dX0_holdVotes_104 : decode cX0_holdVotes 104 = .ok (.dup, 1) := by decide +kernel
theorem dX0_holdVotes_105 : decode cX0_holdVotes 105 = .ok (.getfield 33, 3) := by decide +kernel
theorem dX0_holdVotes_108 : decode cX0_holdVotes 108 = .ok (.iload_n 1, 1) := by decide +kernel
theorem dX0_holdVotes_109 : decode cX0_holdVotes 109 = .ok (.isub, 1) := by decide +kernel
theorem dX0_holdVotes_110 : decode cX0_holdVotes 110 = .ok (.putfield 33, 3) := by decide +kernel
theorem dX0_holdVotes_113 : decode cX0_holdVotes 113 = .ok (.return_, 1) := by decide +kernel
theorem dX0_doorOf_0 : decode cX0_doorOf 0 = .ok (.aload_n 1, 1) := by decide +kernel
theorem dX0_doorOf_1 : decode cX0_doorOf 1 = .ok (.getfield 99, 3) := by decide +kernel
theorem dX0_doorOf_4 : decode cX0_doorOf 4 = .ok (.aload_n 0, 1) := by decide +kernel
theorem dX0_doorOf_5 : decode cX0_doorOf 5 = .ok (.getfield 39, 3) := by decide +kernel
theorem dX0_doorOf_8 : decode cX0_doorOf 8 = .ok (.if_icmp .ne 19, 3) := by decide +kernel
theorem dX0_doorOf_11 : decode cX0_doorOf 11 = .ok (.iload_n 2, 1) := by decide +kernel
theorem dX0_doorOf_12 : decode cX0_doorOf 12 = .ok (.aload_n 0, 1) := by decide +kernel
theorem dX0_doorOf_13 : decode cX0_doorOf 13 = .ok (.getfield 42, 3) := by decide +kernel
theorem dX0_doorOf_16 : decode cX0_doorOf 16 = .ok (.if_icmp .lt 11, 3) := by decide +kernel
theorem dX0_doorOf_19 : decode cX0_doorOf 19 = .ok (.iload_n 2, 1) := by decide +kernel
theorem dX0_doorOf_20 : decode cX0_doorOf 20 = .ok (.aload_n 0, 1) := by decide +kernel
theorem dX0_doorOf_21 : decode cX0_doorOf 21 = .ok (.getfield 45, 3) := by decide +kernel
theorem dX0_doorOf_24 : decode cX0_doorOf 24 = .ok (.if_icmp .le 8, 3) := by decide +kernel
theorem dX0_doorOf_27 : decode cX0_doorOf 27 = .ok (.aload_n 1, 1) := by decide +kernel
theorem dX0_doorOf_28 : decode cX0_doorOf 28 = .ok (.getfield 99, 3) := by decide +kernel
theorem dX0_doorOf_31 : decode cX0_doorOf 31 = .ok (.ireturn, 1) := by decide +kernel
theorem dX0_doorOf_32 : decode cX0_doorOf 32 = .ok (.aload_n 1, 1) := by decide +kernel
theorem dX0_doorOf_33 : decode cX0_doorOf 33 = .ok (.getfield 99, 3) := by decide +kernel
theorem dX0_doorOf_36 : decode cX0_doorOf 36 = .ok (.bipush 8, 2) := by decide +kernel
theorem dX0_doorOf_38 : decode cX0_doorOf 38 = .ok (.if_icmp .ge 12, 3) := by decide +kernel
theorem dX0_doorOf_41 : decode cX0_doorOf 41 = .ok (.aload_n 1, 1) := by decide +kernel
theorem dX0_doorOf_42 : decode cX0_doorOf 42 = .ok (.getfield 99, 3) := by decide +kernel
theorem dX0_doorOf_45 : decode cX0_doorOf 45 = .ok (.iconst 1, 1) := by decide +kernel
theorem dX0_doorOf_46 : decode cX0_doorOf 46 = .ok (.iadd, 1) := by decide +kernel
theorem dX0_doorOf_47 : decode cX0_doorOf 47 = .ok (.goto 4, 3) := by decide +kernel
theorem dX0_doorOf_50 : decode cX0_doorOf 50 = .ok (.iconst 0, 1) := by decide +kernel
theorem dX0_doorOf_51 : decode cX0_doorOf 51 = .ok (.ireturn, 1) := by decide +kernel
theorem dX0_doorsOn_0 : decode cX0_doorsOn 0 = .ok (.iconst 0, 1) := by decide +kernel
theorem dX0_doorsOn_1 : decode cX0_doorsOn 1 = .ok (.istore_n 3, 1) := by decide +kernel
theorem dX0_doorsOn_2 : decode cX0_doorsOn 2 = .ok (.lload_n 1, 1) := by decide +kernel
theorem dX0_doorsOn_3 : decode cX0_doorsOn 3 = .ok (.invokestatic 106, 3) := by decide +kernel
theorem dX0_doorsOn_6 : decode cX0_doorsOn 6 = .ok (.istore 4, 2) := by decide +kernel
theorem dX0_doorsOn_8 : decode cX0_doorsOn 8 = .ok (.iconst 0, 1) := by decide +kernel
theorem dX0_doorsOn_9 : decode cX0_doorsOn 9 = .ok (.istore 5, 2) := by decide +kernel
theorem dX0_doorsOn_11 : decode cX0_doorsOn 11 = .ok (.iload 5, 2) := by decide +kernel
theorem dX0_doorsOn_13 : decode cX0_doorsOn 13 = .ok (.aload_n 0, 1) := by decide +kernel
theorem dX0_doorsOn_14 : decode cX0_doorsOn 14 = .ok (.getfield 29, 3) := by decide +kernel
theorem dX0_doorsOn_17 : decode cX0_doorsOn 17 = .ok (.if_icmp .ge 58, 3) := by decide +kernel
theorem dX0_doorsOn_20 : decode cX0_doorsOn 20 = .ok (.aload_n 0, 1) := by decide +kernel
theorem dX0_doorsOn_21 : decode cX0_doorsOn 21 = .ok (.getfield 11, 3) := by decide +kernel
theorem dX0_doorsOn_24 : decode cX0_doorsOn 24 = .ok (.iload 5, 2) := by decide +kernel
theorem dX0_doorsOn_26 : decode cX0_doorsOn 26 = .ok (.aaload, 1) := by decide +kernel
theorem dX0_doorsOn_27 : decode cX0_doorsOn 27 = .ok (.lload_n 1, 1) := by decide +kernel
theorem dX0_doorsOn_28 : decode cX0_doorsOn 28 = .ok (.invokevirtual 110, 3) := by decide +kernel
theorem dX0_doorsOn_31 : decode cX0_doorsOn 31 = .ok (.ifCond .eq 38, 3) := by decide +kernel
theorem dX0_doorsOn_34 : decode cX0_doorsOn 34 = .ok (.iconst 1, 1) := by decide +kernel
theorem dX0_doorsOn_35 : decode cX0_doorsOn 35 = .ok (.aload_n 0, 1) := by decide +kernel
theorem dX0_doorsOn_36 : decode cX0_doorsOn 36 = .ok (.aload_n 0, 1) := by decide +kernel
theorem dX0_doorsOn_37 : decode cX0_doorsOn 37 = .ok (.getfield 11, 3) := by decide +kernel
theorem dX0_doorsOn_40 : decode cX0_doorsOn 40 = .ok (.iload 5, 2) := by decide +kernel
theorem dX0_doorsOn_42 : decode cX0_doorsOn 42 = .ok (.aaload, 1) := by decide +kernel
theorem dX0_doorsOn_43 : decode cX0_doorsOn 43 = .ok (.iload 4, 2) := by decide +kernel
theorem dX0_doorsOn_45 : decode cX0_doorsOn 45 = .ok (.invokevirtual 114, 3) := by decide +kernel
theorem dX0_doorsOn_48 : decode cX0_doorsOn 48 = .ok (.ishl, 1) := by decide +kernel
theorem dX0_doorsOn_49 : decode cX0_doorsOn 49 = .ok (.istore 6, 2) := by decide +kernel
theorem dX0_doorsOn_51 : decode cX0_doorsOn 51 = .ok (.iload_n 3, 1) := by decide +kernel
theorem dX0_doorsOn_52 : decode cX0_doorsOn 52 = .ok (.iload_n 3, 1) := by decide +kernel
theorem dX0_doorsOn_53 : decode cX0_doorsOn 53 = .ok (.iload 6, 2) := by decide +kernel
theorem dX0_doorsOn_55 : decode cX0_doorsOn 55 = .ok (.iand, 1) := by decide +kernel
theorem dX0_doorsOn_56 : decode cX0_doorsOn 56 = .ok (.ifCond .eq 9, 3) := by decide +kernel
theorem dX0_doorsOn_59 : decode cX0_doorsOn 59 = .ok (.sipush 512, 3) := by decide +kernel
theorem dX0_doorsOn_62 : decode cX0_doorsOn 62 = .ok (.goto 5, 3) := by decide +kernel
theorem dX0_doorsOn_65 : decode cX0_doorsOn 65 = .ok (.iload 6, 2) := by decide +kernel
theorem dX0_doorsOn_67 : decode cX0_doorsOn 67 = .ok (.ior, 1) := by decide +kernel
theorem dX0_doorsOn_68 : decode cX0_doorsOn 68 = .ok (.istore_n 3, 1) := by decide +kernel
theorem dX0_doorsOn_69 : decode cX0_doorsOn 69 = .ok (.iinc 5 1, 3) := by decide +kernel
theorem dX0_doorsOn_72 : decode cX0_doorsOn 72 = .ok (.goto (-61), 3) := by decide +kernel
theorem dX0_doorsOn_75 : decode cX0_doorsOn 75 = .ok (.iload_n 3, 1) := by decide +kernel
theorem dX0_doorsOn_76 : decode cX0_doorsOn 76 = .ok (.ireturn, 1) := by decide +kernel
theorem dX0_crashesOf_0 : decode cX0_crashesOf 0 = .ok (.iconst 0, 1) := by decide +kernel
theorem dX0_crashesOf_1 : decode cX0_crashesOf 1 = .ok (.istore_n 2, 1) := by decide +kernel
theorem dX0_crashesOf_2 : decode cX0_crashesOf 2 = .ok (.iconst 0, 1) := by decide +kernel
theorem dX0_crashesOf_3 : decode cX0_crashesOf 3 = .ok (.istore_n 3, 1) := by decide +kernel
theorem dX0_crashesOf_4 : decode cX0_crashesOf 4 = .ok (.iload_n 3, 1) := by decide +kernel
theorem dX0_crashesOf_5 : decode cX0_crashesOf 5 = .ok (.aload_n 0, 1) := by decide +kernel
theorem dX0_crashesOf_6 : decode cX0_crashesOf 6 = .ok (.getfield 29, 3) := by decide +kernel
theorem dX0_crashesOf_9 : decode cX0_crashesOf 9 = .ok (.if_icmp .ge 59, 3) := by decide +kernel
theorem dX0_crashesOf_12 : decode cX0_crashesOf 12 = .ok (.iload_n 3, 1) := by decide +kernel
theorem dX0_crashesOf_13 : decode cX0_crashesOf 13 = .ok (.iload_n 1, 1) := by decide +kernel
theorem dX0_crashesOf_14 : decode cX0_crashesOf 14 = .ok (.if_icmp .eq 48, 3) := by decide +kernel
theorem dX0_crashesOf_17 : decode cX0_crashesOf 17 = .ok (.aload_n 0, 1) := by decide +kernel
theorem dX0_crashesOf_18 : decode cX0_crashesOf 18 = .ok (.getfield 11, 3) := by decide +kernel
theorem dX0_crashesOf_21 : decode cX0_crashesOf 21 = .ok (.iload_n 3, 1) := by decide +kernel
theorem dX0_crashesOf_22 : decode cX0_crashesOf 22 = .ok (.aaload, 1) := by decide +kernel
theorem dX0_crashesOf_23 : decode cX0_crashesOf 23 = .ok (.getfield 99, 3) := by decide +kernel
theorem dX0_crashesOf_26 : decode cX0_crashesOf 26 = .ok (.aload_n 0, 1) := by decide +kernel
theorem dX0_crashesOf_27 : decode cX0_crashesOf 27 = .ok (.getfield 11, 3) := by decide +kernel
theorem dX0_crashesOf_30 : decode cX0_crashesOf 30 = .ok (.iload_n 1, 1) := by decide +kernel
theorem dX0_crashesOf_31 : decode cX0_crashesOf 31 = .ok (.aaload, 1) := by decide +kernel
theorem dX0_crashesOf_32 : decode cX0_crashesOf 32 = .ok (.getfield 99, 3) := by decide +kernel
theorem dX0_crashesOf_35 : decode cX0_crashesOf 35 = .ok (.if_icmp .ne 27, 3) := by decide +kernel
theorem dX0_crashesOf_38 : decode cX0_crashesOf 38 = .ok (.aload_n 0, 1) := by decide +kernel
theorem dX0_crashesOf_39 : decode cX0_crashesOf 39 = .ok (.getfield 11, 3) := by decide +kernel
theorem dX0_crashesOf_42 : decode cX0_crashesOf 42 = .ok (.iload_n 1, 1) := by decide +kernel
theorem dX0_crashesOf_43 : decode cX0_crashesOf 43 = .ok (.aaload, 1) := by decide +kernel
theorem dX0_crashesOf_44 : decode cX0_crashesOf 44 = .ok (.aload_n 0, 1) := by decide +kernel
theorem dX0_crashesOf_45 : decode cX0_crashesOf 45 = .ok (.getfield 11, 3) := by decide +kernel
theorem dX0_crashesOf_48 : decode cX0_crashesOf 48 = .ok (.iload_n 3, 1) := by decide +kernel
theorem dX0_crashesOf_49 : decode cX0_crashesOf 49 = .ok (.aaload, 1) := by decide +kernel
theorem dX0_crashesOf_50 : decode cX0_crashesOf 50 = .ok (.invokevirtual 118, 3) := by decide +kernel
theorem dX0_crashesOf_53 : decode cX0_crashesOf 53 = .ok (.ifCond .eq 9, 3) := by decide +kernel
theorem dX0_crashesOf_56 : decode cX0_crashesOf 56 = .ok (.iload_n 2, 1) := by decide +kernel
theorem dX0_crashesOf_57 : decode cX0_crashesOf 57 = .ok (.iconst 1, 1) := by decide +kernel
theorem dX0_crashesOf_58 : decode cX0_crashesOf 58 = .ok (.iload_n 3, 1) := by decide +kernel
theorem dX0_crashesOf_59 : decode cX0_crashesOf 59 = .ok (.ishl, 1) := by decide +kernel
theorem dX0_crashesOf_60 : decode cX0_crashesOf 60 = .ok (.ior, 1) := by decide +kernel
theorem dX0_crashesOf_61 : decode cX0_crashesOf 61 = .ok (.istore_n 2, 1) := by decide +kernel
theorem dX0_crashesOf_62 : decode cX0_crashesOf 62 = .ok (.iinc 3 1, 3) := by decide +kernel
theorem dX0_crashesOf_65 : decode cX0_crashesOf 65 = .ok (.goto (-61), 3) := by decide +kernel
theorem dX0_crashesOf_68 : decode cX0_crashesOf 68 = .ok (.iload_n 2, 1) := by decide +kernel
theorem dX0_crashesOf_69 : decode cX0_crashesOf 69 = .ok (.ireturn, 1) := by decide +kernel
theorem dX0_howManyCrash_0 : decode cX0_howManyCrash 0 = .ok (.iconst 0, 1) := by decide +kernel
theorem dX0_howManyCrash_1 : decode cX0_howManyCrash 1 = .ok (.istore_n 1, 1) := by decide +kernel
theorem dX0_howManyCrash_2 : decode cX0_howManyCrash 2 = .ok (.iconst 0, 1) := by decide +kernel
theorem dX0_howManyCrash_3 : decode cX0_howManyCrash 3 = .ok (.istore_n 2, 1) := by decide +kernel
theorem dX0_howManyCrash_4 : decode cX0_howManyCrash 4 = .ok (.iload_n 2, 1) := by decide +kernel
theorem dX0_howManyCrash_5 : decode cX0_howManyCrash 5 = .ok (.aload_n 0, 1) := by decide +kernel
theorem dX0_howManyCrash_6 : decode cX0_howManyCrash 6 = .ok (.getfield 29, 3) := by decide +kernel
theorem dX0_howManyCrash_9 : decode cX0_howManyCrash 9 = .ok (.if_icmp .ge 20, 3) := by decide +kernel
theorem dX0_howManyCrash_12 : decode cX0_howManyCrash 12 = .ok (.aload_n 0, 1) := by decide +kernel
theorem dX0_howManyCrash_13 : decode cX0_howManyCrash 13 = .ok (.iload_n 2, 1) := by decide +kernel
theorem dX0_howManyCrash_14 : decode cX0_howManyCrash 14 = .ok (.invokevirtual 122, 3) := by decide +kernel
theorem dX0_howManyCrash_17 : decode cX0_howManyCrash 17 = .ok (.ifCond .eq 6, 3) := by decide +kernel
theorem dX0_howManyCrash_20 : decode cX0_howManyCrash 20 = .ok (.iinc 1 1, 3) := by decide +kernel
theorem dX0_howManyCrash_23 : decode cX0_howManyCrash 23 = .ok (.iinc 2 1, 3) := by decide +kernel
theorem dX0_howManyCrash_26 : decode cX0_howManyCrash 26 = .ok (.goto (-22), 3) := by decide +kernel
theorem dX0_howManyCrash_29 : decode cX0_howManyCrash 29 = .ok (.iload_n 1, 1) := by decide +kernel
theorem dX0_howManyCrash_30 : decode cX0_howManyCrash 30 = .ok (.ireturn, 1) := by decide +kernel
theorem dX0_cutInto_0 : decode cX0_cutInto 0 = .ok (.aload_n 2, 1) := by decide +kernel
theorem dX0_cutInto_1 : decode cX0_cutInto 1 = .ok (.aload_n 0, 1) := by decide +kernel
theorem dX0_cutInto_2 : decode cX0_cutInto 2 = .ok (.getfield 11, 3) := by decide +kernel
theorem dX0_cutInto_5 : decode cX0_cutInto 5 = .ok (.iload_n 1, 1) := by decide +kernel
theorem dX0_cutInto_6 : decode cX0_cutInto 6 = .ok (.aaload, 1) := by decide +kernel
theorem dX0_cutInto_7 : decode cX0_cutInto 7 = .ok (.invokevirtual 61, 3) := by decide +kernel
theorem dX0_cutInto_10 : decode cX0_cutInto 10 = .ok (.aload_n 2, 1) := by decide +kernel
theorem dX0_cutInto_11 : decode cX0_cutInto 11 = .ok (.getfield 97, 3) := by decide +kernel
theorem dX0_cutInto_14 : decode cX0_cutInto 14 = .ok (.istore_n 3, 1) := by decide +kernel
theorem dX0_cutInto_15 : decode cX0_cutInto 15 = .ok (.iconst 0, 1) := by decide +kernel
theorem dX0_cutInto_16 : decode cX0_cutInto 16 = .ok (.istore 4, 2) := by decide +kernel
theorem dX0_cutInto_18 : decode cX0_cutInto 18 = .ok (.iload 4, 2) := by decide +kernel
theorem dX0_cutInto_20 : decode cX0_cutInto 20 = .ok (.bipush 58, 2) := by decide +kernel
theorem dX0_cutInto_22 : decode cX0_cutInto 22 = .ok (.if_icmp .gt 37, 3) := by decide +kernel
theorem dX0_cutInto_25 : decode cX0_cutInto 25 = .ok (.aload_n 0, 1) := by decide +kernel
theorem dX0_cutInto_26 : decode cX0_cutInto 26 = .ok (.iload_n 1, 1) := by decide +kernel
theorem dX0_cutInto_27 : decode cX0_cutInto 27 = .ok (.aload_n 2, 1) := by decide +kernel
theorem dX0_cutInto_28 : decode cX0_cutInto 28 = .ok (.iload_n 3, 1) := by decide +kernel
theorem dX0_cutInto_29 : decode cX0_cutInto 29 = .ok (.iload 4, 2) := by decide +kernel
theorem dX0_cutInto_31 : decode cX0_cutInto 31 = .ok (.isub, 1) := by decide +kernel
theorem dX0_cutInto_32 : decode cX0_cutInto 32 = .ok (.invokevirtual 126, 3) := by decide +kernel
theorem dX0_cutInto_35 : decode cX0_cutInto 35 = .ok (.ifCond .ne 16, 3) := by decide +kernel
theorem dX0_cutInto_38 : decode cX0_cutInto 38 = .ok (.aload_n 0, 1) := by decide +kernel
theorem dX0_cutInto_39 : decode cX0_cutInto 39 = .ok (.iload_n 1, 1) := by decide +kernel
theorem dX0_cutInto_40 : decode cX0_cutInto 40 = .ok (.aload_n 2, 1) := by decide +kernel
theorem dX0_cutInto_41 : decode cX0_cutInto 41 = .ok (.iload_n 3, 1) := by decide +kernel
theorem dX0_cutInto_42 : decode cX0_cutInto 42 = .ok (.iload 4, 2) := by decide +kernel
theorem dX0_cutInto_44 : decode cX0_cutInto 44 = .ok (.iadd, 1) := by decide +kernel
theorem dX0_cutInto_45 : decode cX0_cutInto 45 = .ok (.invokevirtual 126, 3) := by decide +kernel
theorem dX0_cutInto_48 : decode cX0_cutInto 48 = .ok (.ifCond .eq 5, 3) := by decide +kernel
theorem dX0_cutInto_51 : decode cX0_cutInto 51 = .ok (.iconst 1, 1) := by decide +kernel
theorem dX0_cutInto_52 : decode cX0_cutInto 52 = .ok (.ireturn, 1) := by decide +kernel
theorem dX0_cutInto_53 : decode cX0_cutInto 53 = .ok (.iinc 4 1, 3) := by decide +kernel
theorem dX0_cutInto_56 : decode cX0_cutInto 56 = .ok (.goto (-38), 3) := by decide +kernel
theorem dX0_cutInto_59 : decode cX0_cutInto 59 = .ok (.iconst 0, 1) := by decide +kernel
theorem dX0_cutInto_60 : decode cX0_cutInto 60 = .ok (.ireturn, 1) := by decide +kernel
theorem dX0_startFirst_0 : decode cX0_startFirst 0 = .ok (.iload_n 3, 1) := by decide +kernel
theorem dX0_startFirst_1 : decode cX0_startFirst 1 = .ok (.iconst 2, 1) := by decide +kernel
theorem dX0_startFirst_2 : decode cX0_startFirst 2 = .ok (.if_icmp .lt 17, 3) := by decide +kernel
theorem dX0_startFirst_5 : decode cX0_startFirst 5 = .ok (.iload_n 3, 1) := by decide +kernel
theorem dX0_startFirst_6 : decode cX0_startFirst 6 = .ok (.bipush 60, 2) := by decide +kernel
theorem dX0_startFirst_8 : decode cX0_startFirst 8 = .ok (.if_icmp .gt 11, 3) := by decide +kernel
theorem dX0_startFirst_11 : decode cX0_startFirst 11 = .ok (.aload_n 2, 1) := by decide +kernel
theorem dX0_startFirst_12 : decode cX0_startFirst 12 = .ok (.getfield 103, 3) := by decide +kernel
theorem dX0_startFirst_15 : decode cX0_startFirst 15 = .ok (.iload_n 3, 1) := by decide +kernel
theorem dX0_startFirst_16 : decode cX0_startFirst 16 = .ok (.if_icmp .lt 5, 3) := by decide +kernel
theorem dX0_startFirst_19 : decode cX0_startFirst 19 = .ok (.iconst 0, 1) := by decide +kernel
theorem dX0_startFirst_20 : decode cX0_startFirst 20 = .ok (.ireturn, 1) := by decide +kernel
theorem dX0_startFirst_21 : decode cX0_startFirst 21 = .ok (.aload_n 2, 1) := by decide +kernel
theorem dX0_startFirst_22 : decode cX0_startFirst 22 = .ok (.iload_n 3, 1) := by decide +kernel
theorem dX0_startFirst_23 : decode cX0_startFirst 23 = .ok (.putfield 97, 3) := by decide +kernel
theorem dX0_startFirst_26 : decode cX0_startFirst 26 = .ok (.aload_n 0, 1) := by decide +kernel
theorem dX0_startFirst_27 : decode cX0_startFirst 27 = .ok (.iload_n 1, 1) := by decide +kernel
theorem dX0_startFirst_28 : decode cX0_startFirst 28 = .ok (.aload_n 2, 1) := by decide +kernel
theorem dX0_startFirst_29 : decode cX0_startFirst 29 = .ok (.invokevirtual 130, 3) := by decide +kernel
theorem dX0_startFirst_32 : decode cX0_startFirst 32 = .ok (.lstore 4, 2) := by decide +kernel
theorem dX0_startFirst_34 : decode cX0_startFirst 34 = .ok (.aload_n 2, 1) := by decide +kernel
theorem dX0_startFirst_35 : decode cX0_startFirst 35 = .ok (.lload 4, 2) := by decide +kernel
theorem dX0_startFirst_37 : decode cX0_startFirst 37 = .ok (.invokestatic 134, 3) := by decide +kernel
theorem dX0_startFirst_40 : decode cX0_startFirst 40 = .ok (.putfield 98, 3) := by decide +kernel
theorem dX0_startFirst_43 : decode cX0_startFirst 43 = .ok (.lload 4, 2) := by decide +kernel
theorem dX0_startFirst_45 : decode cX0_startFirst 45 = .ok (.lconst 0, 1) := by decide +kernel
theorem dX0_startFirst_46 : decode cX0_startFirst 46 = .ok (.lcmp, 1) := by decide +kernel
theorem dX0_startFirst_47 : decode cX0_startFirst 47 = .ok (.ifCond .eq 7, 3) := by decide +kernel
theorem dX0_startFirst_50 : decode cX0_startFirst 50 = .ok (.iconst 1, 1) := by decide +kernel
theorem dX0_startFirst_51 : decode cX0_startFirst 51 = .ok (.goto 4, 3) := by decide +kernel
theorem dX0_startFirst_54 : decode cX0_startFirst 54 = .ok (.iconst 0, 1) := by decide +kernel
theorem dX0_startFirst_55 : decode cX0_startFirst 55 = .ok (.ireturn, 1) := by decide +kernel
theorem dX0_freeStarts_0 : decode cX0_freeStarts 0 = .ok (.lconst 1, 1) := by decide +kernel
theorem dX0_freeStarts_1 : decode cX0_freeStarts 1 = .ok (.aload_n 2, 1) := by decide +kernel
theorem dX0_freeStarts_2 : decode cX0_freeStarts 2 = .ok (.getfield 97, 3) := by decide +kernel
theorem dX0_freeStarts_5 : decode cX0_freeStarts 5 = .ok (.lshl, 1) := by decide +kernel
theorem dX0_freeStarts_6 : decode cX0_freeStarts 6 = .ok (.lconst 1, 1) := by decide +kernel
theorem dX0_freeStarts_7 : decode cX0_freeStarts 7 = .ok (.lsub, 1) := by decide +kernel
theorem dX0_freeStarts_8 : decode cX0_freeStarts 8 = .ok (.lstore_n 3, 1) := by decide +kernel
theorem dX0_freeStarts_9 : decode cX0_freeStarts 9 = .ok (.iconst 0, 1) := by decide +kernel
theorem dX0_freeStarts_10 : decode cX0_freeStarts 10 = .ok (.istore 5, 2) := by decide +kernel
theorem dX0_freeStarts_12 : decode cX0_freeStarts 12 = .ok (.iload 5, 2) := by decide +kernel
theorem dX0_freeStarts_14 : decode cX0_freeStarts 14 = .ok (.aload_n 0, 1) := by decide +kernel
theorem dX0_freeStarts_15 : decode cX0_freeStarts 15 = .ok (.getfield 29, 3) := by decide +kernel
theorem dX0_freeStarts_18 : decode cX0_freeStarts 18 = .ok (.if_icmp .ge 51, 3) := by decide +kernel
theorem dX0_freeStarts_21 : decode cX0_freeStarts 21 = .ok (.lload_n 3, 1) := by decide +kernel
theorem dX0_freeStarts_22 : decode cX0_freeStarts 22 = .ok (.lconst 0, 1) := by decide +kernel
theorem dX0_freeStarts_23 : decode cX0_freeStarts 23 = .ok (.lcmp, 1) := by decide +kernel
theorem dX0_freeStarts_24 : decode cX0_freeStarts 24 = .ok (.ifCond .eq 45, 3) := by decide +kernel
theorem dX0_freeStarts_27 : decode cX0_freeStarts 27 = .ok (.iload 5, 2) := by decide +kernel
theorem dX0_freeStarts_29 : decode cX0_freeStarts 29 = .ok (.iload_n 1, 1) := by decide +kernel
theorem dX0_freeStarts_30 : decode cX0_freeStarts 30 = .ok (.if_icmp .eq 33, 3) := by decide +kernel
theorem dX0_freeStarts_33 : decode cX0_freeStarts 33 = .ok (.aload_n 0, 1) := by decide +kernel
theorem dX0_freeStarts_34 : decode cX0_freeStarts 34 = .ok (.getfield 11, 3) := by decide +kernel
theorem dX0_freeStarts_37 : decode cX0_freeStarts 37 = .ok (.iload 5, 2) := by decide +kernel
theorem dX0_freeStarts_39 : decode cX0_freeStarts 39 = .ok (.aaload, 1) := by decide +kernel
theorem dX0_freeStarts_40 : decode cX0_freeStarts 40 = .ok (.getfield 99, 3) := by decide +kernel
theorem dX0_freeStarts_43 : decode cX0_freeStarts 43 = .ok (.aload_n 2, 1) := by decide +kernel
theorem dX0_freeStarts_44 : decode cX0_freeStarts 44 = .ok (.getfield 99, 3) := by decide +kernel
theorem dX0_freeStarts_47 : decode cX0_freeStarts 47 = .ok (.if_icmp .ne 16, 3) := by decide +kernel
theorem dX0_freeStarts_50 : decode cX0_freeStarts 50 = .ok (.aload_n 0, 1) := by decide +kernel
theorem dX0_freeStarts_51 : decode cX0_freeStarts 51 = .ok (.getfield 11, 3) := by decide +kernel
theorem dX0_freeStarts_54 : decode cX0_freeStarts 54 = .ok (.iload 5, 2) := by decide +kernel
theorem dX0_freeStarts_56 : decode cX0_freeStarts 56 = .ok (.aaload, 1) := by decide +kernel
theorem dX0_freeStarts_57 : decode cX0_freeStarts 57 = .ok (.aload_n 2, 1) := by decide +kernel
theorem dX0_freeStarts_58 : decode cX0_freeStarts 58 = .ok (.lload_n 3, 1) := by decide +kernel
theorem dX0_freeStarts_59 : decode cX0_freeStarts 59 = .ok (.invokestatic 137, 3) := by decide +kernel
theorem dX0_freeStarts_62 : decode cX0_freeStarts 62 = .ok (.lstore_n 3, 1) := by decide +kernel
theorem dX0_freeStarts_63 : decode cX0_freeStarts 63 = .ok (.iinc 5 1, 3) := by decide +kernel
theorem dX0_freeStarts_66 : decode cX0_freeStarts 66 = .ok (.goto (-54), 3) := by decide +kernel
theorem dX0_freeStarts_69 : decode cX0_freeStarts 69 = .ok (.lload_n 3, 1) := by decide +kernel
theorem dX0_freeStarts_70 : decode cX0_freeStarts 70 = .ok (.lreturn, 1) := by decide +kernel
theorem dX0_freeOf_0 : decode cX0_freeOf 0 = .ok (.aload_n 1, 1) := by decide +kernel
theorem dX0_freeOf_1 : decode cX0_freeOf 1 = .ok (.invokevirtual 141, 3) := by decide +kernel
theorem dX0_freeOf_4 : decode cX0_freeOf 4 = .ok (.i2l, 1) := by decide +kernel
theorem dX0_freeOf_5 : decode cX0_freeOf 5 = .ok (.aload_n 0, 1) := by decide +kernel
theorem dX0_freeOf_6 : decode cX0_freeOf 6 = .ok (.invokevirtual 141, 3) := by decide +kernel
theorem dX0_freeOf_9 : decode cX0_freeOf 9 = .ok (.i2l, 1) := by decide +kernel
theorem dX0_freeOf_10 : decode cX0_freeOf 10 = .ok (.invokestatic 145, 3) := by decide +kernel
theorem dX0_freeOf_13 : decode cX0_freeOf 13 = .ok (.l2i, 1) := by decide +kernel
theorem dX0_freeOf_14 : decode cX0_freeOf 14 = .ok (.istore 4, 2) := by decide +kernel
theorem dX0_freeOf_16 : decode cX0_freeOf 16 = .ok (.lload_n 2, 1) := by decide +kernel
theorem dX0_freeOf_17 : decode cX0_freeOf 17 = .ok (.lstore 5, 2) := by decide +kernel
theorem dX0_freeOf_19 : decode cX0_freeOf 19 = .ok (.iconst 0, 1) := by decide +kernel
theorem dX0_freeOf_20 : decode cX0_freeOf 20 = .ok (.istore 7, 2) := by decide +kernel
theorem dX0_freeOf_22 : decode cX0_freeOf 22 = .ok (.iload 7, 2) := by decide +kernel
theorem dX0_freeOf_24 : decode cX0_freeOf 24 = .ok (.aload_n 1, 1) := by decide +kernel
theorem dX0_freeOf_25 : decode cX0_freeOf 25 = .ok (.invokevirtual 149, 3) := by decide +kernel
theorem dX0_freeOf_28 : decode cX0_freeOf 28 = .ok (.if_icmp .ge 100, 3) := by decide +kernel
theorem dX0_freeOf_31 : decode cX0_freeOf 31 = .ok (.lload 5, 2) := by decide +kernel
theorem dX0_freeOf_33 : decode cX0_freeOf 33 = .ok (.lconst 0, 1) := by decide +kernel
theorem dX0_freeOf_34 : decode cX0_freeOf 34 = .ok (.lcmp, 1) := by decide +kernel
theorem dX0_freeOf_35 : decode cX0_freeOf 35 = .ok (.ifCond .eq 93, 3) := by decide +kernel
theorem dX0_freeOf_38 : decode cX0_freeOf 38 = .ok (.iconst 0, 1) := by decide +kernel
theorem dX0_freeOf_39 : decode cX0_freeOf 39 = .ok (.istore 8, 2) := by decide +kernel
theorem dX0_freeOf_41 : decode cX0_freeOf 41 = .ok (.iload 8, 2) := by decide +kernel
theorem dX0_freeOf_43 : decode cX0_freeOf 43 = .ok (.aload_n 0, 1) := by decide +kernel
theorem dX0_freeOf_44 : decode cX0_freeOf 44 = .ok (.invokevirtual 149, 3) := by decide +kernel
theorem dX0_freeOf_47 : decode cX0_freeOf 47 = .ok (.if_icmp .ge 75, 3) := by decide +kernel
theorem dX0_freeOf_50 : decode cX0_freeOf 50 = .ok (.lload 5, 2) := by decide +kernel
theorem dX0_freeOf_52 : decode cX0_freeOf 52 = .ok (.lconst 0, 1) := by decide +kernel
theorem dX0_freeOf_53 : decode cX0_freeOf 53 = .ok (.lcmp, 1) := by decide +kernel
theorem dX0_freeOf_54 : decode cX0_freeOf 54 = .ok (.ifCond .eq 68, 3) := by decide +kernel
theorem dX0_freeOf_57 : decode cX0_freeOf 57 = .ok (.aload_n 0, 1) := by decide +kernel
theorem dX0_freeOf_58 : decode cX0_freeOf 58 = .ok (.iload 8, 2) := by decide +kernel
theorem dX0_freeOf_60 : decode cX0_freeOf 60 = .ok (.invokevirtual 152, 3) := by decide +kernel
theorem dX0_freeOf_63 : decode cX0_freeOf 63 = .ok (.aload_n 1, 1) := by decide +kernel
theorem dX0_freeOf_64 : decode cX0_freeOf 64 = .ok (.iload 7, 2) := by decide +kernel
theorem dX0_freeOf_66 : decode cX0_freeOf 66 = .ok (.invokevirtual 155, 3) := by decide +kernel
theorem dX0_freeOf_69 : decode cX0_freeOf 69 = .ok (.isub, 1) := by decide +kernel
theorem dX0_freeOf_70 : decode cX0_freeOf 70 = .ok (.i2l, 1) := by decide +kernel
theorem dX0_freeOf_71 : decode cX0_freeOf 71 = .ok (.iload 4, 2) := by decide +kernel
theorem dX0_freeOf_73 : decode cX0_freeOf 73 = .ok (.i2l, 1) := by decide +kernel
theorem dX0_freeOf_74 : decode cX0_freeOf 74 = .ok (.invokestatic 158, 3) := by decide +kernel
theorem dX0_freeOf_77 : decode cX0_freeOf 77 = .ok (.l2i, 1) := by decide +kernel
theorem dX0_freeOf_78 : decode cX0_freeOf 78 = .ok (.istore 9, 2) := by decide +kernel
theorem dX0_freeOf_80 : decode cX0_freeOf 80 = .ok (.iload 9, 2) := by decide +kernel
theorem dX0_freeOf_82 : decode cX0_freeOf 82 = .ok (.istore 10, 2) := by decide +kernel
theorem dX0_freeOf_84 : decode cX0_freeOf 84 = .ok (.iload 10, 2) := by decide +kernel
theorem dX0_freeOf_86 : decode cX0_freeOf 86 = .ok (.aload_n 1, 1) := by decide +kernel
theorem dX0_freeOf_87 : decode cX0_freeOf 87 = .ok (.getfield 97, 3) := by decide +kernel
theorem dX0_freeOf_90 : decode cX0_freeOf 90 = .ok (.if_icmp .ge 26, 3) := by decide +kernel
theorem dX0_freeOf_93 : decode cX0_freeOf 93 = .ok (.lload 5, 2) := by decide +kernel
theorem dX0_freeOf_95 : decode cX0_freeOf 95 = .ok (.lconst 1, 1) := by decide +kernel
theorem dX0_freeOf_96 : decode cX0_freeOf 96 = .ok (.iload 10, 2) := by decide +kernel
theorem dX0_freeOf_98 : decode cX0_freeOf 98 = .ok (.lshl, 1) := by decide +kernel
theorem dX0_freeOf_99 : decode cX0_freeOf 99 = .ok (.ldc2_w 161, 3) := by decide +kernel
theorem dX0_freeOf_102 : decode cX0_freeOf 102 = .ok (.lxor, 1) := by decide +kernel
theorem dX0_freeOf_103 : decode cX0_freeOf 103 = .ok (.land, 1) := by decide +kernel
theorem dX0_freeOf_104 : decode cX0_freeOf 104 = .ok (.lstore 5, 2) := by decide +kernel
theorem dX0_freeOf_106 : decode cX0_freeOf 106 = .ok (.iload 10, 2) := by decide +kernel
theorem dX0_freeOf_108 : decode cX0_freeOf 108 = .ok (.iload 4, 2) := by decide +kernel
theorem dX0_freeOf_110 : decode cX0_freeOf 110 = .ok (.iadd, 1) := by decide +kernel
theorem dX0_freeOf_111 : decode cX0_freeOf 111 = .ok (.istore 10, 2) := by decide +kernel
theorem dX0_freeOf_113 : decode cX0_freeOf 113 = .ok (.goto (-29), 3) := by decide +kernel
theorem dX0_freeOf_116 : decode cX0_freeOf 116 = .ok (.iinc 8 1, 3) := by decide +kernel
theorem dX0_freeOf_119 : decode cX0_freeOf 119 = .ok (.goto (-78), 3) := by decide +kernel
theorem dX0_freeOf_122 : decode cX0_freeOf 122 = .ok (.iinc 7 1, 3) := by decide +kernel
theorem dX0_freeOf_125 : decode cX0_freeOf 125 = .ok (.goto (-103), 3) := by decide +kernel
theorem dX0_freeOf_128 : decode cX0_freeOf 128 = .ok (.lload 5, 2) := by decide +kernel
theorem dX0_freeOf_130 : decode cX0_freeOf 130 = .ok (.lreturn, 1) := by decide +kernel
theorem dX0_fits_0 : decode cX0_fits 0 = .ok (.iconst 0, 1) := by decide +kernel
theorem dX0_fits_1 : decode cX0_fits 1 = .ok (.istore_n 3, 1) := by decide +kernel
theorem dX0_fits_2 : decode cX0_fits 2 = .ok (.iload_n 3, 1) := by decide +kernel
theorem dX0_fits_3 : decode cX0_fits 3 = .ok (.aload_n 0, 1) := by decide +kernel
theorem dX0_fits_4 : decode cX0_fits 4 = .ok (.getfield 36, 3) := by decide +kernel
theorem dX0_fits_7 : decode cX0_fits 7 = .ok (.if_icmp .ge 46, 3) := by decide +kernel
theorem dX0_fits_10 : decode cX0_fits 10 = .ok (.aload_n 0, 1) := by decide +kernel
theorem dX0_fits_11 : decode cX0_fits 11 = .ok (.getfield 25, 3) := by decide +kernel
theorem dX0_fits_14 : decode cX0_fits 14 = .ok (.iload_n 3, 1) := by decide +kernel
theorem dX0_fits_15 : decode cX0_fits 15 = .ok (.aaload, 1) := by decide +kernel
theorem dX0_fits_16 : decode cX0_fits 16 = .ok (.astore 4, 2) := by decide +kernel
theorem dX0_fits_18 : decode cX0_fits 18 = .ok (.aload 4, 2) := by decide +kernel
theorem dX0_fits_20 : decode cX0_fits 20 = .ok (.getfield 68, 3) := by decide +kernel
theorem dX0_fits_23 : decode cX0_fits 23 = .ok (.iload_n 1, 1) := by decide +kernel
theorem dX0_fits_24 : decode cX0_fits 24 = .ok (.if_icmp .ne 23, 3) := by decide +kernel
theorem dX0_fits_27 : decode cX0_fits 27 = .ok (.aload_n 2, 1) := by decide +kernel
theorem dX0_fits_28 : decode cX0_fits 28 = .ok (.aload 4, 2) := by decide +kernel
theorem dX0_fits_30 : decode cX0_fits 30 = .ok (.getfield 71, 3) := by decide +kernel
theorem dX0_fits_33 : decode cX0_fits 33 = .ok (.i2l, 1) := by decide +kernel
theorem dX0_fits_34 : decode cX0_fits 34 = .ok (.invokevirtual 110, 3) := by decide +kernel
theorem dX0_fits_37 : decode cX0_fits 37 = .ok (.aload 4, 2) := by decide +kernel
theorem dX0_fits_39 : decode cX0_fits 39 = .ok (.getfield 74, 3) := by decide +kernel
theorem dX0_fits_42 : decode cX0_fits 42 = .ok (.if_icmp .eq 5, 3) := by decide +kernel
theorem dX0_fits_45 : decode cX0_fits 45 = .ok (.iconst 0, 1) := by decide +kernel
theorem dX0_fits_46 : decode cX0_fits 46 = .ok (.ireturn, 1) := by decide +kernel
theorem dX0_fits_47 : decode cX0_fits 47 = .ok (.iinc 3 1, 3) := by decide +kernel
theorem dX0_fits_50 : decode cX0_fits 50 = .ok (.goto (-48), 3) := by decide +kernel
theorem dX0_fits_53 : decode cX0_fits 53 = .ok (.iconst 1, 1) := by decide +kernel
theorem dX0_fits_54 : decode cX0_fits 54 = .ok (.ireturn, 1) := by decide +kernel
theorem dX0_fittingStarts_0 : decode cX0_fittingStarts 0 = .ok (.lconst 1, 1) := by decide +kernel
theorem dX0_fittingStarts_1 : decode cX0_fittingStarts 1 = .ok (.iload_n 2, 1) := by decide +kernel
theorem dX0_fittingStarts_2 : decode cX0_fittingStarts 2 = .ok (.lshl, 1) := by decide +kernel
theorem dX0_fittingStarts_3 : decode cX0_fittingStarts 3 = .ok (.lconst 1, 1) := by decide +kernel
theorem dX0_fittingStarts_4 : decode cX0_fittingStarts 4 = .ok (.lsub, 1) := by decide +kernel
theorem dX0_fittingStarts_5 : decode cX0_fittingStarts 5 = .ok (.lstore_n 3, 1) := by decide +kernel
theorem dX0_fittingStarts_6 : decode cX0_fittingStarts 6 = .ok (.iconst 0, 1) := by decide +kernel
theorem dX0_fittingStarts_7 : decode cX0_fittingStarts 7 = .ok (.istore 5, 2) := by decide +kernel
theorem dX0_fittingStarts_9 : decode cX0_fittingStarts 9 = .ok (.iload 5, 2) := by decide +kernel
theorem dX0_fittingStarts_11 : decode cX0_fittingStarts 11 = .ok (.aload_n 0, 1) := by decide +kernel
theorem dX0_fittingStarts_12 : decode cX0_fittingStarts 12 = .ok (.getfield 36, 3) := by decide +kernel
theorem dX0_fittingStarts_15 : decode cX0_fittingStarts 15 = .ok (.if_icmp .ge 65, 3) := by decide +kernel
theorem dX0_fittingStarts_18 : decode cX0_fittingStarts 18 = .ok (.aload_n 0, 1) := by decide +kernel
theorem dX0_fittingStarts_19 : decode cX0_fittingStarts 19 = .ok (.getfield 25, 3) := by decide +kernel
theorem dX0_fittingStarts_22 : decode cX0_fittingStarts 22 = .ok (.iload 5, 2) := by decide +kernel
theorem dX0_fittingStarts_24 : decode cX0_fittingStarts 24 = .ok (.aaload, 1) := by decide +kernel
theorem dX0_fittingStarts_25 : decode cX0_fittingStarts 25 = .ok (.astore 6, 2) := by decide +kernel
theorem dX0_fittingStarts_27 : decode cX0_fittingStarts 27 = .ok (.aload 6, 2) := by decide +kernel
theorem dX0_fittingStarts_29 : decode cX0_fittingStarts 29 = .ok (.getfield 68, 3) := by decide +kernel
theorem dX0_fittingStarts_32 : decode cX0_fittingStarts 32 = .ok (.iload_n 1, 1) := by decide +kernel
theorem dX0_fittingStarts_33 : decode cX0_fittingStarts 33 = .ok (.if_icmp .ne 41, 3) := by decide +kernel
theorem dX0_fittingStarts_36 : decode cX0_fittingStarts 36 = .ok (.lconst 1, 1) := by decide +kernel
theorem dX0_fittingStarts_37 : decode cX0_fittingStarts 37 = .ok (.aload 6, 2) := by decide +kernel
theorem dX0_fittingStarts_39 : decode cX0_fittingStarts 39 = .ok (.getfield 71, 3) := by decide +kernel
theorem dX0_fittingStarts_42 : decode cX0_fittingStarts 42 = .ok (.i2l, 1) := by decide +kernel
theorem dX0_fittingStarts_43 : decode cX0_fittingStarts 43 = .ok (.iload_n 2, 1) := by decide +kernel
theorem dX0_fittingStarts_44 : decode cX0_fittingStarts 44 = .ok (.i2l, 1) := by decide +kernel
theorem dX0_fittingStarts_45 : decode cX0_fittingStarts 45 = .ok (.invokestatic 158, 3) := by decide +kernel
theorem dX0_fittingStarts_48 : decode cX0_fittingStarts 48 = .ok (.l2i, 1) := by decide +kernel
theorem dX0_fittingStarts_49 : decode cX0_fittingStarts 49 = .ok (.lshl, 1) := by decide +kernel
theorem dX0_fittingStarts_50 : decode cX0_fittingStarts 50 = .ok (.lstore 7, 2) := by decide +kernel
theorem dX0_fittingStarts_52 : decode cX0_fittingStarts 52 = .ok (.lload_n 3, 1) := by decide +kernel
theorem dX0_fittingStarts_53 : decode cX0_fittingStarts 53 = .ok (.aload 6, 2) := by decide +kernel
theorem dX0_fittingStarts_55 : decode cX0_fittingStarts 55 = .ok (.getfield 74, 3) := by decide +kernel
theorem dX0_fittingStarts_58 : decode cX0_fittingStarts 58 = .ok (.ifCond .eq 8, 3) := by decide +kernel
theorem dX0_fittingStarts_61 : decode cX0_fittingStarts 61 = .ok (.lload 7, 2) := by decide +kernel
theorem dX0_fittingStarts_63 : decode cX0_fittingStarts 63 = .ok (.goto 9, 3) := by decide +kernel
theorem dX0_fittingStarts_66 : decode cX0_fittingStarts 66 = .ok (.lload 7, 2) := by decide +kernel
theorem dX0_fittingStarts_68 : decode cX0_fittingStarts 68 = .ok (.ldc2_w 161, 3) := by decide +kernel
theorem dX0_fittingStarts_71 : decode cX0_fittingStarts 71 = .ok (.lxor, 1) := by decide +kernel
theorem dX0_fittingStarts_72 : decode cX0_fittingStarts 72 = .ok (.land, 1) := by decide +kernel
theorem dX0_fittingStarts_73 : decode cX0_fittingStarts 73 = .ok (.lstore_n 3, 1) := by decide +kernel
theorem dX0_fittingStarts_74 : decode cX0_fittingStarts 74 = .ok (.iinc 5 1, 3) := by decide +kernel
theorem dX0_fittingStarts_77 : decode cX0_fittingStarts 77 = .ok (.goto (-68), 3) := by decide +kernel
theorem dX0_fittingStarts_80 : decode cX0_fittingStarts 80 = .ok (.lload_n 3, 1) := by decide +kernel
theorem dX0_fittingStarts_81 : decode cX0_fittingStarts 81 = .ok (.lreturn, 1) := by decide +kernel
theorem dX1_init_0 : decode cX1_init 0 = .ok (.aload_n 0, 1) := by decide +kernel
theorem dX1_init_1 : decode cX1_init 1 = .ok (.invokespecial 3, 3) := by decide +kernel
theorem dX1_init_4 : decode cX1_init 4 = .ok (.aload_n 0, 1) := by decide +kernel
theorem dX1_init_5 : decode cX1_init 5 = .ok (.iconst 2, 1) := by decide +kernel
theorem dX1_init_6 : decode cX1_init 6 = .ok (.putfield 9, 3) := by decide +kernel
theorem dX1_init_9 : decode cX1_init 9 = .ok (.aload_n 0, 1) := by decide +kernel
theorem dX1_init_10 : decode cX1_init 10 = .ok (.iconst 0, 1) := by decide +kernel
theorem dX1_init_11 : decode cX1_init 11 = .ok (.putfield 15, 3) := by decide +kernel
theorem dX1_init_14 : decode cX1_init 14 = .ok (.aload_n 0, 1) := by decide +kernel
theorem dX1_init_15 : decode cX1_init 15 = .ok (.iconst 0, 1) := by decide +kernel
theorem dX1_init_16 : decode cX1_init 16 = .ok (.putfield 18, 3) := by decide +kernel
theorem dX1_init_19 : decode cX1_init 19 = .ok (.aload_n 0, 1) := by decide +kernel
theorem dX1_init_20 : decode cX1_init 20 = .ok (.iconst 0, 1) := by decide +kernel
theorem dX1_init_21 : decode cX1_init 21 = .ok (.putfield 21, 3) := by decide +kernel
theorem dX1_init_24 : decode cX1_init 24 = .ok (.aload_n 0, 1) := by decide +kernel
theorem dX1_init_25 : decode cX1_init 25 = .ok (.iconst 0, 1) := by decide +kernel
theorem dX1_init_26 : decode cX1_init 26 = .ok (.putfield 24, 3) := by decide +kernel
theorem dX1_init_29 : decode cX1_init 29 = .ok (.return_, 1) := by decide +kernel
theorem dX1_become_0 : decode cX1_become 0 = .ok (.aload_n 0, 1) := by decide +kernel
theorem dX1_become_1 : decode cX1_become 1 = .ok (.aload_n 1, 1) := by decide +kernel
theorem dX1_become_2 : decode cX1_become 2 = .ok (.getfield 9, 3) := by decide +kernel
theorem dX1_become_5 : decode cX1_become 5 = .ok (.putfield 9, 3) := by decide +kernel
theorem dX1_become_8 : decode cX1_become 8 = .ok (.aload_n 0, 1) := by decide +kernel
theorem dX1_become_9 : decode cX1_become 9 = .ok (.aload_n 1, 1) := by decide +kernel
theorem dX1_become_10 : decode cX1_become 10 = .ok (.getfield 15, 3) := by decide +kernel
theorem dX1_become_13 : decode cX1_become 13 = .ok (.putfield 15, 3) := by decide +kernel
theorem dX1_become_16 : decode cX1_become 16 = .ok (.aload_n 0, 1) := by decide +kernel
theorem dX1_become_17 : decode cX1_become 17 = .ok (.aload_n 1, 1) := by decide +kernel
theorem dX1_become_18 : decode cX1_become 18 = .ok (.getfield 18, 3) := by decide +kernel
theorem dX1_become_21 : decode cX1_become 21 = .ok (.putfield 18, 3) := by decide +kernel
theorem dX1_become_24 : decode cX1_become 24 = .ok (.aload_n 0, 1) := by decide +kernel
theorem dX1_become_25 : decode cX1_become 25 = .ok (.aload_n 1, 1) := by decide +kernel
theorem dX1_become_26 : decode cX1_become 26 = .ok (.getfield 21, 3) := by decide +kernel
theorem dX1_become_29 : decode cX1_become 29 = .ok (.putfield 21, 3) := by decide +kernel
theorem dX1_become_32 : decode cX1_become 32 = .ok (.aload_n 0, 1) := by decide +kernel
theorem dX1_become_33 : decode cX1_become 33 = .ok (.aload_n 1, 1) := by decide +kernel
theorem dX1_become_34 : decode cX1_become 34 = .ok (.getfield 24, 3) := by decide +kernel
theorem dX1_become_37 : decode cX1_become 37 = .ok (.putfield 24, 3) := by decide +kernel
theorem dX1_become_40 : decode cX1_become 40 = .ok (.return_, 1) := by decide +kernel
theorem dX1_kind_0 : decode cX1_kind 0 = .ok (.aload_n 0, 1) := by decide +kernel
theorem dX1_kind_1 : decode cX1_kind 1 = .ok (.getfield 21, 3) := by decide +kernel
theorem dX1_kind_4 : decode cX1_kind 4 = .ok (.ifCond .le 7, 3) := by decide +kernel
theorem dX1_kind_7 : decode cX1_kind 7 = .ok (.iconst 1, 1) := by decide +kernel
theorem dX1_kind_8 : decode cX1_kind 8 = .ok (.goto 4, 3) := by decide +kernel
theorem dX1_kind_11 : decode cX1_kind 11 = .ok (.iconst 0, 1) := by decide +kernel
theorem dX1_kind_12 : decode cX1_kind 12 = .ok (.aload_n 0, 1) := by decide +kernel
theorem dX1_kind_13 : decode cX1_kind 13 = .ok (.getfield 24, 3) := by decide +kernel
theorem dX1_kind_16 : decode cX1_kind 16 = .ok (.ifCond .le 7, 3) := by decide +kernel
theorem dX1_kind_19 : decode cX1_kind 19 = .ok (.iconst 2, 1) := by decide +kernel
theorem dX1_kind_20 : decode cX1_kind 20 = .ok (.goto 4, 3) := by decide +kernel
theorem dX1_kind_23 : decode cX1_kind 23 = .ok (.iconst 0, 1) := by decide +kernel
theorem dX1_kind_24 : decode cX1_kind 24 = .ok (.iadd, 1) := by decide +kernel
theorem dX1_kind_25 : decode cX1_kind 25 = .ok (.ireturn, 1) := by decide +kernel
theorem dX1_round_0 : decode cX1_round 0 = .ok (.aload_n 0, 1) := by decide +kernel
theorem dX1_round_1 : decode cX1_round 1 = .ok (.getfield 21, 3) := by decide +kernel
theorem dX1_round_4 : decode cX1_round 4 = .ok (.ifCond .le 17, 3) := by decide +kernel
theorem dX1_round_7 : decode cX1_round 7 = .ok (.aload_n 0, 1) := by decide +kernel
theorem dX1_round_8 : decode cX1_round 8 = .ok (.getfield 21, 3) := by decide +kernel
theorem dX1_round_11 : decode cX1_round 11 = .ok (.aload_n 0, 1) := by decide +kernel
theorem dX1_round_12 : decode cX1_round 12 = .ok (.getfield 9, 3) := by decide +kernel
theorem dX1_round_15 : decode cX1_round 15 = .ok (.imul, 1) := by decide +kernel
theorem dX1_round_16 : decode cX1_round 16 = .ok (.iconst 1, 1) := by decide +kernel
theorem dX1_round_17 : decode cX1_round 17 = .ok (.iadd, 1) := by decide +kernel
theorem dX1_round_18 : decode cX1_round 18 = .ok (.goto 7, 3) := by decide +kernel
theorem dX1_round_21 : decode cX1_round 21 = .ok (.aload_n 0, 1) := by decide +kernel
theorem dX1_round_22 : decode cX1_round 22 = .ok (.getfield 9, 3) := by decide +kernel
theorem dX1_round_25 : decode cX1_round 25 = .ok (.ireturn, 1) := by decide +kernel
theorem dX1_times_0 : decode cX1_times 0 = .ok (.aload_n 0, 1) := by decide +kernel
theorem dX1_times_1 : decode cX1_times 1 = .ok (.getfield 21, 3) := by decide +kernel
theorem dX1_times_4 : decode cX1_times 4 = .ok (.iconst 1, 1) := by decide +kernel
theorem dX1_times_5 : decode cX1_times 5 = .ok (.invokestatic 27, 3) := by decide +kernel
theorem dX1_times_8 : decode cX1_times 8 = .ok (.aload_n 0, 1) := by decide +kernel
theorem dX1_times_9 : decode cX1_times 9 = .ok (.getfield 24, 3) := by decide +kernel
theorem dX1_times_12 : decode cX1_times 12 = .ok (.ifCond .le 7, 3) := by decide +kernel
theorem dX1_times_15 : decode cX1_times 15 = .ok (.iconst 2, 1) := by decide +kernel
theorem dX1_times_16 : decode cX1_times 16 = .ok (.goto 4, 3) := by decide +kernel
theorem dX1_times_19 : decode cX1_times 19 = .ok (.iconst 1, 1) := by decide +kernel
theorem dX1_times_20 : decode cX1_times 20 = .ok (.imul, 1) := by decide +kernel
theorem dX1_times_21 : decode cX1_times 21 = .ok (.ireturn, 1) := by decide +kernel
theorem dX1_offset_0 : decode cX1_offset 0 = .ok (.aload_n 0, 1) := by decide +kernel
theorem dX1_offset_1 : decode cX1_offset 1 = .ok (.getfield 24, 3) := by decide +kernel
theorem dX1_offset_4 : decode cX1_offset 4 = .ok (.ifCond .le 23, 3) := by decide +kernel
theorem dX1_offset_7 : decode cX1_offset 7 = .ok (.iload_n 1, 1) := by decide +kernel
theorem dX1_offset_8 : decode cX1_offset 8 = .ok (.iconst 2, 1) := by decide +kernel
theorem dX1_offset_9 : decode cX1_offset 9 = .ok (.idiv, 1) := by decide +kernel
theorem dX1_offset_10 : decode cX1_offset 10 = .ok (.aload_n 0, 1) := by decide +kernel
theorem dX1_offset_11 : decode cX1_offset 11 = .ok (.getfield 9, 3) := by decide +kernel
theorem dX1_offset_14 : decode cX1_offset 14 = .ok (.imul, 1) := by decide +kernel
theorem dX1_offset_15 : decode cX1_offset 15 = .ok (.iload_n 1, 1) := by decide +kernel
theorem dX1_offset_16 : decode cX1_offset 16 = .ok (.iconst 2, 1) := by decide +kernel
theorem dX1_offset_17 : decode cX1_offset 17 = .ok (.irem, 1) := by decide +kernel
theorem dX1_offset_18 : decode cX1_offset 18 = .ok (.aload_n 0, 1) := by decide +kernel
theorem dX1_offset_19 : decode cX1_offset 19 = .ok (.getfield 24, 3) := by decide +kernel
theorem dX1_offset_22 : decode cX1_offset 22 = .ok (.imul, 1) := by decide +kernel
theorem dX1_offset_23 : decode cX1_offset 23 = .ok (.iadd, 1) := by decide +kernel
theorem dX1_offset_24 : decode cX1_offset 24 = .ok (.goto 9, 3) := by decide +kernel
theorem dX1_offset_27 : decode cX1_offset 27 = .ok (.iload_n 1, 1) := by decide +kernel
theorem dX1_offset_28 : decode cX1_offset 28 = .ok (.aload_n 0, 1) := by decide +kernel
theorem dX1_offset_29 : decode cX1_offset 29 = .ok (.getfield 9, 3) := by decide +kernel
theorem dX1_offset_32 : decode cX1_offset 32 = .ok (.imul, 1) := by decide +kernel
theorem dX1_offset_33 : decode cX1_offset 33 = .ok (.ireturn, 1) := by decide +kernel
theorem dX1_timeOf_0 : decode cX1_timeOf 0 = .ok (.aload_n 0, 1) := by decide +kernel
theorem dX1_timeOf_1 : decode cX1_timeOf 1 = .ok (.getfield 15, 3) := by decide +kernel
theorem dX1_timeOf_4 : decode cX1_timeOf 4 = .ok (.aload_n 0, 1) := by decide +kernel
theorem dX1_timeOf_5 : decode cX1_timeOf 5 = .ok (.iload_n 1, 1) := by decide +kernel
theorem dX1_timeOf_6 : decode cX1_timeOf 6 = .ok (.invokevirtual 33, 3) := by decide +kernel
theorem dX1_timeOf_9 : decode cX1_timeOf 9 = .ok (.iadd, 1) := by decide +kernel
theorem dX1_timeOf_10 : decode cX1_timeOf 10 = .ok (.i2l, 1) := by decide +kernel
theorem dX1_timeOf_11 : decode cX1_timeOf 11 = .ok (.aload_n 0, 1) := by decide +kernel
theorem dX1_timeOf_12 : decode cX1_timeOf 12 = .ok (.invokevirtual 37, 3) := by decide +kernel
theorem dX1_timeOf_15 : decode cX1_timeOf 15 = .ok (.i2l, 1) := by decide +kernel
theorem dX1_timeOf_16 : decode cX1_timeOf 16 = .ok (.invokestatic 41, 3) := by decide +kernel
theorem dX1_timeOf_19 : decode cX1_timeOf 19 = .ok (.l2i, 1) := by decide +kernel
theorem dX1_timeOf_20 : decode cX1_timeOf 20 = .ok (.ireturn, 1) := by decide +kernel
theorem dX1_comesOut_0 : decode cX1_comesOut 0 = .ok (.lload_n 1, 1) := by decide +kernel
theorem dX1_comesOut_1 : decode cX1_comesOut 1 = .ok (.aload_n 0, 1) := by decide +kernel
theorem dX1_comesOut_2 : decode cX1_comesOut 2 = .ok (.getfield 15, 3) := by decide +kernel
theorem dX1_comesOut_5 : decode cX1_comesOut 5 = .ok (.i2l, 1) := by decide +kernel
theorem dX1_comesOut_6 : decode cX1_comesOut 6 = .ok (.lsub, 1) := by decide +kernel
theorem dX1_comesOut_7 : decode cX1_comesOut 7 = .ok (.aload_n 0, 1) := by decide +kernel
theorem dX1_comesOut_8 : decode cX1_comesOut 8 = .ok (.invokevirtual 37, 3) := by decide +kernel
theorem dX1_comesOut_11 : decode cX1_comesOut 11 = .ok (.i2l, 1) := by decide +kernel
theorem dX1_comesOut_12 : decode cX1_comesOut 12 = .ok (.invokestatic 41, 3) := by decide +kernel
theorem dX1_comesOut_15 : decode cX1_comesOut 15 = .ok (.lstore_n 3, 1) := by decide +kernel
theorem dX1_comesOut_16 : decode cX1_comesOut 16 = .ok (.lload_n 3, 1) := by decide +kernel
theorem dX1_comesOut_17 : decode cX1_comesOut 17 = .ok (.aload_n 0, 1) := by decide +kernel
theorem dX1_comesOut_18 : decode cX1_comesOut 18 = .ok (.getfield 21, 3) := by decide +kernel
theorem dX1_comesOut_21 : decode cX1_comesOut 21 = .ok (.iconst 1, 1) := by decide +kernel
theorem dX1_comesOut_22 : decode cX1_comesOut 22 = .ok (.invokestatic 27, 3) := by decide +kernel
theorem dX1_comesOut_25 : decode cX1_comesOut 25 = .ok (.i2l, 1) := by decide +kernel
theorem dX1_comesOut_26 : decode cX1_comesOut 26 = .ok (.aload_n 0, 1) := by decide +kernel
theorem dX1_comesOut_27 : decode cX1_comesOut 27 = .ok (.getfield 9, 3) := by decide +kernel
theorem dX1_comesOut_30 : decode cX1_comesOut 30 = .ok (.i2l, 1) := by decide +kernel
theorem dX1_comesOut_31 : decode cX1_comesOut 31 = .ok (.lmul, 1) := by decide +kernel
theorem dX1_comesOut_32 : decode cX1_comesOut 32 = .ok (.lcmp, 1) := by decide +kernel
theorem dX1_comesOut_33 : decode cX1_comesOut 33 = .ok (.ifCond .lt 5, 3) := by decide +kernel
theorem dX1_comesOut_36 : decode cX1_comesOut 36 = .ok (.iconst 0, 1) := by decide +kernel
theorem dX1_comesOut_37 : decode cX1_comesOut 37 = .ok (.ireturn, 1) := by decide +kernel
theorem dX1_comesOut_38 : decode cX1_comesOut 38 = .ok (.lload_n 3, 1) := by decide +kernel
theorem dX1_comesOut_39 : decode cX1_comesOut 39 = .ok (.aload_n 0, 1) := by decide +kernel
theorem dX1_comesOut_40 : decode cX1_comesOut 40 = .ok (.getfield 9, 3) := by decide +kernel
theorem dX1_comesOut_43 : decode cX1_comesOut 43 = .ok (.i2l, 1) := by decide +kernel
theorem dX1_comesOut_44 : decode cX1_comesOut 44 = .ok (.invokestatic 41, 3) := by decide +kernel
theorem dX1_comesOut_47 : decode cX1_comesOut 47 = .ok (.lstore 5, 2) := by decide +kernel
theorem dX1_comesOut_49 : decode cX1_comesOut 49 = .ok (.lload 5, 2) := by decide +kernel
theorem dX1_comesOut_51 : decode cX1_comesOut 51 = .ok (.lconst 0, 1) := by decide +kernel
theorem dX1_comesOut_52 : decode cX1_comesOut 52 = .ok (.lcmp, 1) := by decide +kernel
theorem dX1_comesOut_53 : decode cX1_comesOut 53 = .ok (.ifCond .eq 21, 3) := by decide +kernel
theorem dX1_comesOut_56 : decode cX1_comesOut 56 = .ok (.aload_n 0, 1) := by decide +kernel
theorem dX1_comesOut_57 : decode cX1_comesOut 57 = .ok (.getfield 24, 3) := by decide +kernel
theorem dX1_comesOut_60 : decode cX1_comesOut 60 = .ok (.ifCond .le 18, 3) := by decide +kernel
theorem dX1_comesOut_63 : decode cX1_comesOut 63 = .ok (.lload 5, 2) := by decide +kernel
theorem dX1_comesOut_65 : decode cX1_comesOut 65 = .ok (.aload_n 0, 1) := by decide +kernel
theorem dX1_comesOut_66 : decode cX1_comesOut 66 = .ok (.getfield 24, 3) := by decide +kernel
theorem dX1_comesOut_69 : decode cX1_comesOut 69 = .ok (.i2l, 1) := by decide +kernel
theorem dX1_comesOut_70 : decode cX1_comesOut 70 = .ok (.lcmp, 1) := by decide +kernel
theorem dX1_comesOut_71 : decode cX1_comesOut 71 = .ok (.ifCond .ne 7, 3) := by decide +kernel
theorem dX1_comesOut_74 : decode cX1_comesOut 74 = .ok (.iconst 1, 1) := by decide +kernel
theorem dX1_comesOut_75 : decode cX1_comesOut 75 = .ok (.goto 4, 3) := by decide +kernel
theorem dX1_comesOut_78 : decode cX1_comesOut 78 = .ok (.iconst 0, 1) := by decide +kernel
theorem dX1_comesOut_79 : decode cX1_comesOut 79 = .ok (.ireturn, 1) := by decide +kernel
theorem dX1_meets_0 : decode cX1_meets 0 = .ok (.aload_n 0, 1) := by decide +kernel
theorem dX1_meets_1 : decode cX1_meets 1 = .ok (.invokevirtual 37, 3) := by decide +kernel
theorem dX1_meets_4 : decode cX1_meets 4 = .ok (.i2l, 1) := by decide +kernel
theorem dX1_meets_5 : decode cX1_meets 5 = .ok (.aload_n 1, 1) := by decide +kernel
theorem dX1_meets_6 : decode cX1_meets 6 = .ok (.invokevirtual 37, 3) := by decide +kernel
theorem dX1_meets_9 : decode cX1_meets 9 = .ok (.i2l, 1) := by decide +kernel
theorem dX1_meets_10 : decode cX1_meets 10 = .ok (.invokestatic 45, 3) := by decide +kernel
theorem dX1_meets_13 : decode cX1_meets 13 = .ok (.lstore_n 2, 1) := by decide +kernel
theorem dX1_meets_14 : decode cX1_meets 14 = .ok (.iconst 0, 1) := by decide +kernel
theorem dX1_meets_15 : decode cX1_meets 15 = .ok (.istore 4, 2) := by decide +kernel
theorem dX1_meets_17 : decode cX1_meets 17 = .ok (.iload 4, 2) := by decide +kernel
theorem dX1_meets_19 : decode cX1_meets 19 = .ok (.aload_n 0, 1) := by decide +kernel
theorem dX1_meets_20 : decode cX1_meets 20 = .ok (.invokevirtual 48, 3) := by decide +kernel
theorem dX1_meets_23 : decode cX1_meets 23 = .ok (.if_icmp .ge 52, 3) := by decide +kernel
theorem dX1_meets_26 : decode cX1_meets 26 = .ok (.iconst 0, 1) := by decide +kernel
theorem dX1_meets_27 : decode cX1_meets 27 = .ok (.istore 5, 2) := by decide +kernel
theorem dX1_meets_29 : decode cX1_meets 29 = .ok (.iload 5, 2) := by decide +kernel
theorem dX1_meets_31 : decode cX1_meets 31 = .ok (.aload_n 1, 1) := by decide +kernel
theorem dX1_meets_32 : decode cX1_meets 32 = .ok (.invokevirtual 48, 3) := by decide +kernel
theorem dX1_meets_35 : decode cX1_meets 35 = .ok (.if_icmp .ge 34, 3) := by decide +kernel
theorem dX1_meets_38 : decode cX1_meets 38 = .ok (.aload_n 0, 1) := by decide +kernel
theorem dX1_meets_39 : decode cX1_meets 39 = .ok (.iload 4, 2) := by decide +kernel
theorem dX1_meets_41 : decode cX1_meets 41 = .ok (.invokevirtual 51, 3) := by decide +kernel
theorem dX1_meets_44 : decode cX1_meets 44 = .ok (.aload_n 1, 1) := by decide +kernel
theorem dX1_meets_45 : decode cX1_meets 45 = .ok (.iload 5, 2) := by decide +kernel
theorem dX1_meets_47 : decode cX1_meets 47 = .ok (.invokevirtual 51, 3) := by decide +kernel
theorem dX1_meets_50 : decode cX1_meets 50 = .ok (.isub, 1) := by decide +kernel
theorem dX1_meets_51 : decode cX1_meets 51 = .ok (.i2l, 1) := by decide +kernel
theorem dX1_meets_52 : decode cX1_meets 52 = .ok (.lload_n 2, 1) := by decide +kernel
theorem dX1_meets_53 : decode cX1_meets 53 = .ok (.invokestatic 41, 3) := by decide +kernel
theorem dX1_meets_56 : decode cX1_meets 56 = .ok (.lconst 0, 1) := by decide +kernel
theorem dX1_meets_57 : decode cX1_meets 57 = .ok (.lcmp, 1) := by decide +kernel
theorem dX1_meets_58 : decode cX1_meets 58 = .ok (.ifCond .ne 5, 3) := by decide +kernel
theorem dX1_meets_61 : decode cX1_meets 61 = .ok (.iconst 1, 1) := by decide +kernel
theorem dX1_meets_62 : decode cX1_meets 62 = .ok (.ireturn, 1) := by decide +kernel
theorem dX1_meets_63 : decode cX1_meets 63 = .ok (.iinc 5 1, 3) := by decide +kernel
theorem dX1_meets_66 : decode cX1_meets 66 = .ok (.goto (-37), 3) := by decide +kernel
theorem dX1_meets_69 : decode cX1_meets 69 = .ok (.iinc 4 1, 3) := by decide +kernel
theorem dX1_meets_72 : decode cX1_meets 72 = .ok (.goto (-55), 3) := by decide +kernel
theorem dX1_meets_75 : decode cX1_meets 75 = .ok (.iconst 0, 1) := by decide +kernel
theorem dX1_meets_76 : decode cX1_meets 76 = .ok (.ireturn, 1) := by decide +kernel
theorem dX2_init_0 : decode cX2_init 0 = .ok (.aload_n 0, 1) := by decide +kernel
theorem dX2_init_1 : decode cX2_init 1 = .ok (.invokespecial 3, 3) := by decide +kernel
theorem dX2_init_4 : decode cX2_init 4 = .ok (.aload_n 0, 1) := by decide +kernel
theorem dX2_init_5 : decode cX2_init 5 = .ok (.bipush 6, 2) := by decide +kernel
theorem dX2_init_7 : decode cX2_init 7 = .ok (.anewarray 9, 3) := by decide +kernel
theorem dX2_init_10 : decode cX2_init 10 = .ok (.putfield 11, 3) := by decide +kernel
theorem dX2_init_13 : decode cX2_init 13 = .ok (.aload_n 0, 1) := by decide +kernel
theorem dX2_init_14 : decode cX2_init 14 = .ok (.bipush 7, 2) := by decide +kernel
theorem dX2_init_16 : decode cX2_init 16 = .ok (.newarray .long, 2) := by decide +kernel
theorem dX2_init_18 : decode cX2_init 18 = .ok (.putfield 17, 3) := by decide +kernel
theorem dX2_init_21 : decode cX2_init 21 = .ok (.aload_n 0, 1) := by decide +kernel
theorem dX2_init_22 : decode cX2_init 22 = .ok (.bipush 6, 2) := by decide +kernel
theorem dX2_init_24 : decode cX2_init 24 = .ok (.newarray .long, 2) := by decide +kernel
theorem dX2_init_26 : decode cX2_init 26 = .ok (.putfield 21, 3) := by decide +kernel
theorem dX2_init_29 : decode cX2_init 29 = .ok (.aload_n 0, 1) := by decide +kernel
theorem dX2_init_30 : decode cX2_init 30 = .ok (.bipush 6, 2) := by decide +kernel
theorem dX2_init_32 : decode cX2_init 32 = .ok (.newarray .long, 2) := by decide +kernel
theorem dX2_init_34 : decode cX2_init 34 = .ok (.putfield 24, 3) := by decide +kernel
theorem dX2_init_37 : decode cX2_init 37 = .ok (.aload_n 0, 1) := by decide +kernel
theorem dX2_init_38 : decode cX2_init 38 = .ok (.iconst 0, 1) := by decide +kernel
theorem dX2_init_39 : decode cX2_init 39 = .ok (.putfield 27, 3) := by decide +kernel
theorem dX2_init_42 : decode cX2_init 42 = .ok (.aload_n 0, 1) := by decide +kernel
theorem dX2_init_43 : decode cX2_init 43 = .ok (.lconst 0, 1) := by decide +kernel
theorem dX2_init_44 : decode cX2_init 44 = .ok (.putfield 31, 3) := by decide +kernel
theorem dX2_init_47 : decode cX2_init 47 = .ok (.aload_n 0, 1) := by decide +kernel
theorem dX2_init_48 : decode cX2_init 48 = .ok (.lconst 0, 1) := by decide +kernel
theorem dX2_init_49 : decode cX2_init 49 = .ok (.putfield 35, 3) := by decide +kernel
theorem dX2_init_52 : decode cX2_init 52 = .ok (.iconst 0, 1) := by decide +kernel
theorem dX2_init_53 : decode cX2_init 53 = .ok (.istore_n 1, 1) := by decide +kernel
theorem dX2_init_54 : decode cX2_init 54 = .ok (.iload_n 1, 1) := by decide +kernel
theorem dX2_init_55 : decode cX2_init 55 = .ok (.aload_n 0, 1) := by decide +kernel
theorem dX2_init_56 : decode cX2_init 56 = .ok (.getfield 11, 3) := by decide +kernel
theorem dX2_init_59 : decode cX2_init 59 = .ok (.arraylength, 1) := by decide +kernel
theorem dX2_init_60 : decode cX2_init 60 = .ok (.if_icmp .ge 22, 3) := by decide +kernel
theorem dX2_init_63 : decode cX2_init 63 = .ok (.aload_n 0, 1) := by decide +kernel
theorem dX2_init_64 : decode cX2_init 64 = .ok (.getfield 11, 3) := by decide +kernel
theorem dX2_init_67 : decode cX2_init 67 = .ok (.iload_n 1, 1) := by decide +kernel
theorem dX2_init_68 : decode cX2_init 68 = .ok (.new 9, 3) := by decide +kernel
theorem dX2_init_71 : decode cX2_init 71 = .ok (.dup, 1) := by decide +kernel
theorem dX2_init_72 : decode cX2_init 72 = .ok (.invokespecial 38, 3) := by decide +kernel
theorem dX2_init_75 : decode cX2_init 75 = .ok (.aastore, 1) := by decide +kernel
theorem dX2_init_76 : decode cX2_init 76 = .ok (.iinc 1 1, 3) := by decide +kernel
theorem dX2_init_79 : decode cX2_init 79 = .ok (.goto (-25), 3) := by decide +kernel
theorem dX2_init_82 : decode cX2_init 82 = .ok (.return_, 1) := by decide +kernel
theorem dX2_commonRound_0 : decode cX2_commonRound 0 = .ok (.aload_n 0, 1) := by decide +kernel
theorem dX2_commonRound_1 : decode cX2_commonRound 1 = .ok (.aload_n 1, 1) := by decide +kernel
theorem dX2_commonRound_2 : decode cX2_commonRound 2 = .ok (.iload_n 2, 1) := by decide +kernel
theorem dX2_commonRound_3 : decode cX2_commonRound 3 = .ok (.invokevirtual 39, 3) := by decide +kernel
theorem dX2_commonRound_6 : decode cX2_commonRound 6 = .ok (.aload_n 0, 1) := by decide +kernel
theorem dX2_commonRound_7 : decode cX2_commonRound 7 = .ok (.getfield 17, 3) := by decide +kernel
theorem dX2_commonRound_10 : decode cX2_commonRound 10 = .ok (.aload_n 0, 1) := by decide +kernel
theorem dX2_commonRound_11 : decode cX2_commonRound 11 = .ok (.getfield 27, 3) := by decide +kernel
theorem dX2_commonRound_14 : decode cX2_commonRound 14 = .ok (.laload, 1) := by decide +kernel
theorem dX2_commonRound_15 : decode cX2_commonRound 15 = .ok (.lreturn, 1) := by decide +kernel
theorem dX2_earliest_0 : decode cX2_earliest 0 = .ok (.aload_n 0, 1) := by decide +kernel
theorem dX2_earliest_1 : decode cX2_earliest 1 = .ok (.aload_n 1, 1) := by decide +kernel
theorem dX2_earliest_2 : decode cX2_earliest 2 = .ok (.iload_n 2, 1) := by decide +kernel
theorem dX2_earliest_3 : decode cX2_earliest 3 = .ok (.invokevirtual 39, 3) := by decide +kernel
theorem dX2_earliest_6 : decode cX2_earliest 6 = .ok (.aload_n 0, 1) := by decide +kernel
theorem dX2_earliest_7 : decode cX2_earliest 7 = .ok (.lload_n 3, 1) := by decide +kernel
theorem dX2_earliest_8 : decode cX2_earliest 8 = .ok (.putfield 31, 3) := by decide +kernel
theorem dX2_earliest_11 : decode cX2_earliest 11 = .ok (.aload_n 0, 1) := by decide +kernel
theorem dX2_earliest_12 : decode cX2_earliest 12 = .ok (.ldc2_w 43, 3) := by decide +kernel
theorem dX2_earliest_15 : decode cX2_earliest 15 = .ok (.lload_n 3, 1) := by decide +kernel
theorem dX2_earliest_16 : decode cX2_earliest 16 = .ok (.lsub, 1) := by decide +kernel
theorem dX2_earliest_17 : decode cX2_earliest 17 = .ok (.lconst 1, 1) := by decide +kernel
theorem dX2_earliest_18 : decode cX2_earliest 18 = .ok (.ladd, 1) := by decide +kernel
theorem dX2_earliest_19 : decode cX2_earliest 19 = .ok (.putfield 35, 3) := by decide +kernel
theorem dX2_earliest_22 : decode cX2_earliest 22 = .ok (.aload_n 0, 1) := by decide +kernel
theorem dX2_earliest_23 : decode cX2_earliest 23 = .ok (.iconst 0, 1) := by decide +kernel
theorem dX2_earliest_24 : decode cX2_earliest 24 = .ok (.lconst 0, 1) := by decide +kernel
theorem dX2_earliest_25 : decode cX2_earliest 25 = .ok (.invokestatic 45, 3) := by decide +kernel
theorem dX2_earliest_28 : decode cX2_earliest 28 = .ok (.aload_n 0, 1) := by decide +kernel
theorem dX2_earliest_29 : decode cX2_earliest 29 = .ok (.getfield 35, 3) := by decide +kernel
theorem dX2_earliest_32 : decode cX2_earliest 32 = .ok (.ldc2_w 43, 3) := by decide +kernel
theorem dX2_earliest_35 : decode cX2_earliest 35 = .ok (.lload_n 3, 1) := by decide +kernel
theorem dX2_earliest_36 : decode cX2_earliest 36 = .ok (.lsub, 1) := by decide +kernel
theorem dX2_earliest_37 : decode cX2_earliest 37 = .ok (.lcmp, 1) := by decide +kernel
theorem dX2_earliest_38 : decode cX2_earliest 38 = .ok (.ifCond .gt 12, 3) := by decide +kernel
theorem dX2_earliest_41 : decode cX2_earliest 41 = .ok (.lload_n 3, 1) := by decide +kernel
theorem dX2_earliest_42 : decode cX2_earliest 42 = .ok (.aload_n 0, 1) := by decide +kernel
theorem dX2_earliest_43 : decode cX2_earliest 43 = .ok (.getfield 35, 3) := by decide +kernel
theorem dX2_earliest_46 : decode cX2_earliest 46 = .ok (.ladd, 1) := by decide +kernel
theorem dX2_earliest_47 : decode cX2_earliest 47 = .ok (.goto 6, 3) := by decide +kernel
theorem dX2_earliest_50 : decode cX2_earliest 50 = .ok (.ldc2_w 49, 3) := by decide +kernel
theorem dX2_earliest_53 : decode cX2_earliest 53 = .ok (.lreturn, 1) := by decide +kernel
theorem dX2_howOften_0 : decode cX2_howOften 0 = .ok (.aload_n 0, 1) := by decide +kernel
theorem dX2_howOften_1 : decode cX2_howOften 1 = .ok (.aload_n 1, 1) := by decide +kernel
theorem dX2_howOften_2 : decode cX2_howOften 2 = .ok (.iload_n 2, 1) := by decide +kernel
theorem dX2_howOften_3 : decode cX2_howOften 3 = .ok (.invokevirtual 39, 3) := by decide +kernel
theorem dX2_howOften_6 : decode cX2_howOften 6 = .ok (.aload_n 0, 1) := by decide +kernel
theorem dX2_howOften_7 : decode cX2_howOften 7 = .ok (.lload_n 3, 1) := by decide +kernel
theorem dX2_howOften_8 : decode cX2_howOften 8 = .ok (.putfield 31, 3) := by decide +kernel
theorem dX2_howOften_11 : decode cX2_howOften 11 = .ok (.aload_n 0, 1) := by decide +kernel
theorem dX2_howOften_12 : decode cX2_howOften 12 = .ok (.iconst 0, 1) := by decide +kernel
theorem dX2_howOften_13 : decode cX2_howOften 13 = .ok (.lconst 0, 1) := by decide +kernel
theorem dX2_howOften_14 : decode cX2_howOften 14 = .ok (.lload 5, 2) := by decide +kernel
theorem dX2_howOften_16 : decode cX2_howOften 16 = .ok (.lload_n 3, 1) := by decide +kernel
theorem dX2_howOften_17 : decode cX2_howOften 17 = .ok (.lsub, 1) := by decide +kernel
theorem dX2_howOften_18 : decode cX2_howOften 18 = .ok (.invokestatic 51, 3) := by decide +kernel
theorem dX2_howOften_21 : decode cX2_howOften 21 = .ok (.lreturn, 1) := by decide +kernel
theorem dX2_choose_0 : decode cX2_choose 0 = .ok (.aload_n 0, 1) := by decide +kernel
theorem dX2_choose_1 : decode cX2_choose 1 = .ok (.iconst 0, 1) := by decide +kernel
theorem dX2_choose_2 : decode cX2_choose 2 = .ok (.putfield 27, 3) := by decide +kernel
theorem dX2_choose_5 : decode cX2_choose 5 = .ok (.aload_n 0, 1) := by decide +kernel
theorem dX2_choose_6 : decode cX2_choose 6 = .ok (.getfield 17, 3) := by decide +kernel
theorem dX2_choose_9 : decode cX2_choose 9 = .ok (.iconst 0, 1) := by decide +kernel
theorem dX2_choose_10 : decode cX2_choose 10 = .ok (.lconst 1, 1) := by decide +kernel
theorem dX2_choose_11 : decode cX2_choose 11 = .ok (.lastore, 1) := by decide +kernel
theorem dX2_choose_12 : decode cX2_choose 12 = .ok (.iconst 0, 1) := by decide +kernel
theorem dX2_choose_13 : decode cX2_choose 13 = .ok (.istore_n 3, 1) := by decide +kernel
theorem dX2_choose_14 : decode cX2_choose 14 = .ok (.iload_n 3, 1) := by decide +kernel
theorem dX2_choose_15 : decode cX2_choose 15 = .ok (.bipush 6, 2) := by decide +kernel
theorem dX2_choose_17 : decode cX2_choose 17 = .ok (.if_icmp .ge 24, 3) := by decide +kernel
theorem dX2_choose_20 : decode cX2_choose 20 = .ok (.iload_n 2, 1) := by decide +kernel
theorem dX2_choose_21 : decode cX2_choose 21 = .ok (.iload_n 3, 1) := by decide +kernel
theorem dX2_choose_22 : decode cX2_choose 22 = .ok (.ishr, 1) := by decide +kernel
theorem dX2_choose_23 : decode cX2_choose 23 = .ok (.iconst 1, 1) := by decide +kernel
theorem dX2_choose_24 : decode cX2_choose 24 = .ok (.iand, 1) := by decide +kernel
theorem dX2_choose_25 : decode cX2_choose 25 = .ok (.ifCond .eq 10, 3) := by decide +kernel
theorem dX2_choose_28 : decode cX2_choose 28 = .ok (.aload_n 0, 1) := by decide +kernel
theorem dX2_choose_29 : decode cX2_choose 29 = .ok (.aload_n 1, 1) := by decide +kernel
theorem dX2_choose_30 : decode cX2_choose 30 = .ok (.iload_n 3, 1) := by decide +kernel
theorem dX2_choose_31 : decode cX2_choose 31 = .ok (.aaload, 1) := by decide +kernel
theorem dX2_choose_32 : decode cX2_choose 32 = .ok (.invokevirtual 55, 3) := by decide +kernel
theorem dX2_choose_35 : decode cX2_choose 35 = .ok (.iinc 3 1, 3) := by decide +kernel
theorem dX2_choose_38 : decode cX2_choose 38 = .ok (.goto (-24), 3) := by decide +kernel
theorem dX2_choose_41 : decode cX2_choose 41 = .ok (.return_, 1) := by decide +kernel
theorem dX2_addLevel_0 : decode cX2_addLevel 0 = .ok (.aload_n 0, 1) := by decide +kernel
theorem dX2_addLevel_1 : decode cX2_addLevel 1 = .ok (.getfield 17, 3) := by decide +kernel
theorem dX2_addLevel_4 : decode cX2_addLevel 4 = .ok (.aload_n 0, 1) := by decide +kernel
theorem dX2_addLevel_5 : decode cX2_addLevel 5 = .ok (.getfield 27, 3) := by decide +kernel
theorem dX2_addLevel_8 : decode cX2_addLevel 8 = .ok (.laload, 1) := by decide +kernel
theorem dX2_addLevel_9 : decode cX2_addLevel 9 = .ok (.aload_n 1, 1) := by decide +kernel
theorem dX2_addLevel_10 : decode cX2_addLevel 10 = .ok (.invokevirtual 59, 3) := by decide +kernel
theorem dX2_addLevel_13 : decode cX2_addLevel 13 = .ok (.i2l, 1) := by decide +kernel
theorem dX2_addLevel_14 : decode cX2_addLevel 14 = .ok (.invokestatic 63, 3) := by decide +kernel
theorem dX2_addLevel_17 : decode cX2_addLevel 17 = .ok (.lstore_n 2, 1) := by decide +kernel
theorem dX2_addLevel_18 : decode cX2_addLevel 18 = .ok (.aload_n 1, 1) := by decide +kernel
theorem dX2_addLevel_19 : decode cX2_addLevel 19 = .ok (.invokevirtual 59, 3) := by decide +kernel
theorem dX2_addLevel_22 : decode cX2_addLevel 22 = .ok (.i2l, 1) := by decide +kernel
theorem dX2_addLevel_23 : decode cX2_addLevel 23 = .ok (.lload_n 2, 1) := by decide +kernel
theorem dX2_addLevel_24 : decode cX2_addLevel 24 = .ok (.ldiv, 1) := by decide +kernel
theorem dX2_addLevel_25 : decode cX2_addLevel 25 = .ok (.lstore 4, 2) := by decide +kernel
theorem dX2_addLevel_27 : decode cX2_addLevel 27 = .ok (.aload_n 0, 1) := by decide +kernel
theorem dX2_addLevel_28 : decode cX2_addLevel 28 = .ok (.getfield 11, 3) := by decide +kernel
theorem dX2_addLevel_31 : decode cX2_addLevel 31 = .ok (.aload_n 0, 1) := by decide +kernel
theorem dX2_addLevel_32 : decode cX2_addLevel 32 = .ok (.getfield 27, 3) := by decide +kernel
theorem dX2_addLevel_35 : decode cX2_addLevel 35 = .ok (.aaload, 1) := by decide +kernel
theorem dX2_addLevel_36 : decode cX2_addLevel 36 = .ok (.aload_n 1, 1) := by decide +kernel
theorem dX2_addLevel_37 : decode cX2_addLevel 37 = .ok (.invokevirtual 67, 3) := by decide +kernel
theorem dX2_addLevel_40 : decode cX2_addLevel 40 = .ok (.aload_n 0, 1) := by decide +kernel
theorem dX2_addLevel_41 : decode cX2_addLevel 41 = .ok (.getfield 21, 3) := by decide +kernel
theorem dX2_addLevel_44 : decode cX2_addLevel 44 = .ok (.aload_n 0, 1) := by decide +kernel
theorem dX2_addLevel_45 : decode cX2_addLevel 45 = .ok (.getfield 27, 3) := by decide +kernel
theorem dX2_addLevel_48 : decode cX2_addLevel 48 = .ok (.lload_n 2, 1) := by decide +kernel
theorem dX2_addLevel_49 : decode cX2_addLevel 49 = .ok (.lastore, 1) := by decide +kernel
theorem dX2_addLevel_50 : decode cX2_addLevel 50 = .ok (.aload_n 0, 1) := by decide +kernel
theorem dX2_addLevel_51 : decode cX2_addLevel 51 = .ok (.getfield 24, 3) := by decide +kernel
theorem dX2_addLevel_54 : decode cX2_addLevel 54 = .ok (.aload_n 0, 1) := by decide +kernel
theorem dX2_addLevel_55 : decode cX2_addLevel 55 = .ok (.getfield 27, 3) := by decide +kernel
theorem dX2_addLevel_58 : decode cX2_addLevel 58 = .ok (.aload_n 0, 1) := by decide +kernel
theorem dX2_addLevel_59 : decode cX2_addLevel 59 = .ok (.getfield 17, 3) := by decide +kernel
theorem dX2_addLevel_62 : decode cX2_addLevel 62 = .ok (.aload_n 0, 1) := by decide +kernel
theorem dX2_addLevel_63 : decode cX2_addLevel 63 = .ok (.getfield 27, 3) := by decide +kernel
theorem dX2_addLevel_66 : decode cX2_addLevel 66 = .ok (.laload, 1) := by decide +kernel
theorem dX2_addLevel_67 : decode cX2_addLevel 67 = .ok (.lload_n 2, 1) := by decide +kernel
theorem dX2_addLevel_68 : decode cX2_addLevel 68 = .ok (.ldiv, 1) := by decide +kernel
theorem dX2_addLevel_69 : decode cX2_addLevel 69 = .ok (.lload 4, 2) := by decide +kernel
theorem dX2_addLevel_71 : decode cX2_addLevel 71 = .ok (.invokestatic 70, 3) := by decide +kernel
theorem dX2_addLevel_74 : decode cX2_addLevel 74 = .ok (.lastore, 1) := by decide +kernel
theorem dX2_addLevel_75 : decode cX2_addLevel 75 = .ok (.aload_n 0, 1) := by decide +kernel
theorem dX2_addLevel_76 : decode cX2_addLevel 76 = .ok (.getfield 17, 3) := by decide +kernel
theorem dX2_addLevel_79 : decode cX2_addLevel 79 = .ok (.aload_n 0, 1) := by decide +kernel
theorem dX2_addLevel_80 : decode cX2_addLevel 80 = .ok (.getfield 27, 3) := by decide +kernel
theorem dX2_addLevel_83 : decode cX2_addLevel 83 = .ok (.iconst 1, 1) := by decide +kernel
theorem dX2_addLevel_84 : decode cX2_addLevel 84 = .ok (.iadd, 1) := by decide +kernel
theorem dX2_addLevel_85 : decode cX2_addLevel 85 = .ok (.aload_n 0, 1) := by decide +kernel
theorem dX2_addLevel_86 : decode cX2_addLevel 86 = .ok (.getfield 17, 3) := by decide +kernel
theorem dX2_addLevel_89 : decode cX2_addLevel 89 = .ok (.aload_n 0, 1) := by decide +kernel
theorem dX2_addLevel_90 : decode cX2_addLevel 90 = .ok (.getfield 27, 3) := by decide +kernel
theorem dX2_addLevel_93 : decode cX2_addLevel 93 = .ok (.laload, 1) := by decide +kernel
theorem dX2_addLevel_94 : decode cX2_addLevel 94 = .ok (.lload 4, 2) := by decide +kernel
theorem dX2_addLevel_96 : decode cX2_addLevel 96 = .ok (.lmul, 1) := by decide +kernel
theorem dX2_addLevel_97 : decode cX2_addLevel 97 = .ok (.lastore, 1) := by decide +kernel
theorem dX2_addLevel_98 : decode cX2_addLevel 98 = .ok (.aload_n 0, 1) := by decide +kernel
theorem dX2_addLevel_99 : decode cX2_addLevel 99 = .ok (.dup, 1) := by decide +kernel
theorem dX2_addLevel_100 : decode cX2_addLevel 100 = .ok (.getfield 27, 3) := by decide +kernel
theorem dX2_addLevel_103 : decode cX2_addLevel 103 = .ok (.iconst 1, 1) := by decide +kernel
theorem dX2_addLevel_104 : decode cX2_addLevel 104 = .ok (.iadd, 1) := by decide +kernel
theorem dX2_addLevel_105 : decode cX2_addLevel 105 = .ok (.putfield 27, 3) := by decide +kernel
theorem dX2_addLevel_108 : decode cX2_addLevel 108 = .ok (.return_, 1) := by decide +kernel
theorem dX2_inverseOf_0 : decode cX2_inverseOf 0 = .ok (.lconst 1, 1) := by decide +kernel
theorem dX2_inverseOf_1 : decode cX2_inverseOf 1 = .ok (.lstore 4, 2) := by decide +kernel
theorem dX2_inverseOf_3 : decode cX2_inverseOf 3 = .ok (.lload 4, 2) := by decide +kernel
theorem dX2_inverseOf_5 : decode cX2_inverseOf 5 = .ok (.lload_n 2, 1) := by decide +kernel
theorem dX2_inverseOf_6 : decode cX2_inverseOf 6 = .ok (.lcmp, 1) := by decide +kernel
theorem dX2_inverseOf_7 : decode cX2_inverseOf 7 = .ok (.ifCond .ge 28, 3) := by decide +kernel
theorem dX2_inverseOf_10 : decode cX2_inverseOf 10 = .ok (.lload_n 0, 1) := by decide +kernel
theorem dX2_inverseOf_11 : decode cX2_inverseOf 11 = .ok (.lload 4, 2) := by decide +kernel
theorem dX2_inverseOf_13 : decode cX2_inverseOf 13 = .ok (.lmul, 1) := by decide +kernel
theorem dX2_inverseOf_14 : decode cX2_inverseOf 14 = .ok (.lload_n 2, 1) := by decide +kernel
theorem dX2_inverseOf_15 : decode cX2_inverseOf 15 = .ok (.invokestatic 73, 3) := by decide +kernel
theorem dX2_inverseOf_18 : decode cX2_inverseOf 18 = .ok (.lconst 1, 1) := by decide +kernel
theorem dX2_inverseOf_19 : decode cX2_inverseOf 19 = .ok (.lcmp, 1) := by decide +kernel
theorem dX2_inverseOf_20 : decode cX2_inverseOf 20 = .ok (.ifCond .ne 6, 3) := by decide +kernel
theorem dX2_inverseOf_23 : decode cX2_inverseOf 23 = .ok (.lload 4, 2) := by decide +kernel
theorem dX2_inverseOf_25 : decode cX2_inverseOf 25 = .ok (.lreturn, 1) := by decide +kernel
theorem dX2_inverseOf_26 : decode cX2_inverseOf 26 = .ok (.lload 4, 2) := by decide +kernel
theorem dX2_inverseOf_28 : decode cX2_inverseOf 28 = .ok (.lconst 1, 1) := by decide +kernel
theorem dX2_inverseOf_29 : decode cX2_inverseOf 29 = .ok (.ladd, 1) := by decide +kernel
theorem dX2_inverseOf_30 : decode cX2_inverseOf 30 = .ok (.lstore 4, 2) := by decide +kernel
theorem dX2_inverseOf_32 : decode cX2_inverseOf 32 = .ok (.goto (-29), 3) := by decide +kernel
theorem dX2_inverseOf_35 : decode cX2_inverseOf 35 = .ok (.lconst 0, 1) := by decide +kernel
theorem dX2_inverseOf_36 : decode cX2_inverseOf 36 = .ok (.lreturn, 1) := by decide +kernel
theorem dX2_meet_0 : decode cX2_meet 0 = .ok (.aload_n 0, 1) := by decide +kernel
theorem dX2_meet_1 : decode cX2_meet 1 = .ok (.getfield 11, 3) := by decide +kernel
theorem dX2_meet_4 : decode cX2_meet 4 = .ok (.iload_n 1, 1) := by decide +kernel
theorem dX2_meet_5 : decode cX2_meet 5 = .ok (.aaload, 1) := by decide +kernel
theorem dX2_meet_6 : decode cX2_meet 6 = .ok (.astore 5, 2) := by decide +kernel
theorem dX2_meet_8 : decode cX2_meet 8 = .ok (.aload 5, 2) := by decide +kernel
theorem dX2_meet_10 : decode cX2_meet 10 = .ok (.iload 4, 2) := by decide +kernel
theorem dX2_meet_12 : decode cX2_meet 12 = .ok (.invokevirtual 76, 3) := by decide +kernel
theorem dX2_meet_15 : decode cX2_meet 15 = .ok (.i2l, 1) := by decide +kernel
theorem dX2_meet_16 : decode cX2_meet 16 = .ok (.aload_n 0, 1) := by decide +kernel
theorem dX2_meet_17 : decode cX2_meet 17 = .ok (.getfield 31, 3) := by decide +kernel
theorem dX2_meet_20 : decode cX2_meet 20 = .ok (.lsub, 1) := by decide +kernel
theorem dX2_meet_21 : decode cX2_meet 21 = .ok (.lload_n 2, 1) := by decide +kernel
theorem dX2_meet_22 : decode cX2_meet 22 = .ok (.lsub, 1) := by decide +kernel
theorem dX2_meet_23 : decode cX2_meet 23 = .ok (.aload 5, 2) := by decide +kernel
theorem dX2_meet_25 : decode cX2_meet 25 = .ok (.invokevirtual 59, 3) := by decide +kernel
theorem dX2_meet_28 : decode cX2_meet 28 = .ok (.i2l, 1) := by decide +kernel
theorem dX2_meet_29 : decode cX2_meet 29 = .ok (.invokestatic 73, 3) := by decide +kernel
theorem dX2_meet_32 : decode cX2_meet 32 = .ok (.lstore 6, 2) := by decide +kernel
theorem dX2_meet_34 : decode cX2_meet 34 = .ok (.aload_n 0, 1) := by decide +kernel
theorem dX2_meet_35 : decode cX2_meet 35 = .ok (.getfield 21, 3) := by decide +kernel
theorem dX2_meet_38 : decode cX2_meet 38 = .ok (.iload_n 1, 1) := by decide +kernel
theorem dX2_meet_39 : decode cX2_meet 39 = .ok (.laload, 1) := by decide +kernel
theorem dX2_meet_40 : decode cX2_meet 40 = .ok (.lstore 8, 2) := by decide +kernel
theorem dX2_meet_42 : decode cX2_meet 42 = .ok (.lload 8, 2) := by decide +kernel
theorem dX2_meet_44 : decode cX2_meet 44 = .ok (.lconst 1, 1) := by decide +kernel
theorem dX2_meet_45 : decode cX2_meet 45 = .ok (.lcmp, 1) := by decide +kernel
theorem dX2_meet_46 : decode cX2_meet 46 = .ok (.ifCond .lt 13, 3) := by decide +kernel
theorem dX2_meet_49 : decode cX2_meet 49 = .ok (.lload 6, 2) := by decide +kernel
theorem dX2_meet_51 : decode cX2_meet 51 = .ok (.lload 8, 2) := by decide +kernel
theorem dX2_meet_53 : decode cX2_meet 53 = .ok (.lrem, 1) := by decide +kernel
theorem dX2_meet_54 : decode cX2_meet 54 = .ok (.lconst 0, 1) := by decide +kernel
theorem dX2_meet_55 : decode cX2_meet 55 = .ok (.lcmp, 1) := by decide +kernel
theorem dX2_meet_56 : decode cX2_meet 56 = .ok (.ifCond .eq 7, 3) := by decide +kernel
theorem dX2_meet_59 : decode cX2_meet 59 = .ok (.ldc2_w 49, 3) := by decide +kernel
theorem dX2_meet_62 : decode cX2_meet 62 = .ok (.lreturn, 1) := by decide +kernel
theorem dX2_meet_63 : decode cX2_meet 63 = .ok (.lload 6, 2) := by decide +kernel
theorem dX2_meet_65 : decode cX2_meet 65 = .ok (.lload 8, 2) := by decide +kernel
theorem dX2_meet_67 : decode cX2_meet 67 = .ok (.ldiv, 1) := by decide +kernel
theorem dX2_meet_68 : decode cX2_meet 68 = .ok (.aload_n 0, 1) := by decide +kernel
theorem dX2_meet_69 : decode cX2_meet 69 = .ok (.getfield 24, 3) := by decide +kernel
theorem dX2_meet_72 : decode cX2_meet 72 = .ok (.iload_n 1, 1) := by decide +kernel
theorem dX2_meet_73 : decode cX2_meet 73 = .ok (.laload, 1) := by decide +kernel
theorem dX2_meet_74 : decode cX2_meet 74 = .ok (.lmul, 1) := by decide +kernel
theorem dX2_meet_75 : decode cX2_meet 75 = .ok (.aload 5, 2) := by decide +kernel
theorem dX2_meet_77 : decode cX2_meet 77 = .ok (.invokevirtual 59, 3) := by decide +kernel
theorem dX2_meet_80 : decode cX2_meet 80 = .ok (.i2l, 1) := by decide +kernel
theorem dX2_meet_81 : decode cX2_meet 81 = .ok (.lload 8, 2) := by decide +kernel
theorem dX2_meet_83 : decode cX2_meet 83 = .ok (.ldiv, 1) := by decide +kernel
theorem dX2_meet_84 : decode cX2_meet 84 = .ok (.invokestatic 73, 3) := by decide +kernel
theorem dX2_meet_87 : decode cX2_meet 87 = .ok (.lstore 10, 2) := by decide +kernel
theorem dX2_meet_89 : decode cX2_meet 89 = .ok (.lload_n 2, 1) := by decide +kernel
theorem dX2_meet_90 : decode cX2_meet 90 = .ok (.lload 10, 2) := by decide +kernel
theorem dX2_meet_92 : decode cX2_meet 92 = .ok (.aload_n 0, 1) := by decide +kernel
theorem dX2_meet_93 : decode cX2_meet 93 = .ok (.getfield 17, 3) := by decide +kernel
theorem dX2_meet_96 : decode cX2_meet 96 = .ok (.iload_n 1, 1) := by decide +kernel
theorem dX2_meet_97 : decode cX2_meet 97 = .ok (.laload, 1) := by decide +kernel
theorem dX2_meet_98 : decode cX2_meet 98 = .ok (.lmul, 1) := by decide +kernel
theorem dX2_meet_99 : decode cX2_meet 99 = .ok (.ladd, 1) := by decide +kernel
theorem dX2_meet_100 : decode cX2_meet 100 = .ok (.lreturn, 1) := by decide +kernel
theorem dX2_search_0 : decode cX2_search 0 = .ok (.iload_n 1, 1) := by decide +kernel
theorem dX2_search_1 : decode cX2_search 1 = .ok (.aload_n 0, 1) := by decide +kernel
theorem dX2_search_2 : decode cX2_search 2 = .ok (.getfield 27, 3) := by decide +kernel
theorem dX2_search_5 : decode cX2_search 5 = .ok (.if_icmp .lt 9, 3) := by decide +kernel
theorem dX2_search_8 : decode cX2_search 8 = .ok (.aload_n 0, 1) := by decide +kernel
theorem dX2_search_9 : decode cX2_search 9 = .ok (.lload_n 2, 1) := by decide +kernel
theorem dX2_search_10 : decode cX2_search 10 = .ok (.putfield 35, 3) := by decide +kernel
theorem dX2_search_13 : decode cX2_search 13 = .ok (.return_, 1) := by decide +kernel
theorem dX2_search_14 : decode cX2_search 14 = .ok (.iconst 0, 1) := by decide +kernel
theorem dX2_search_15 : decode cX2_search 15 = .ok (.istore 4, 2) := by decide +kernel
theorem dX2_search_17 : decode cX2_search 17 = .ok (.iload 4, 2) := by decide +kernel
theorem dX2_search_19 : decode cX2_search 19 = .ok (.aload_n 0, 1) := by decide +kernel
theorem dX2_search_20 : decode cX2_search 20 = .ok (.getfield 11, 3) := by decide +kernel
theorem dX2_search_23 : decode cX2_search 23 = .ok (.iload_n 1, 1) := by decide +kernel
theorem dX2_search_24 : decode cX2_search 24 = .ok (.aaload, 1) := by decide +kernel
theorem dX2_search_25 : decode cX2_search 25 = .ok (.invokevirtual 80, 3) := by decide +kernel
theorem dX2_search_28 : decode cX2_search 28 = .ok (.if_icmp .ge 45, 3) := by decide +kernel
theorem dX2_search_31 : decode cX2_search 31 = .ok (.aload_n 0, 1) := by decide +kernel
theorem dX2_search_32 : decode cX2_search 32 = .ok (.iload_n 1, 1) := by decide +kernel
theorem dX2_search_33 : decode cX2_search 33 = .ok (.lload_n 2, 1) := by decide +kernel
theorem dX2_search_34 : decode cX2_search 34 = .ok (.iload 4, 2) := by decide +kernel
theorem dX2_search_36 : decode cX2_search 36 = .ok (.invokevirtual 83, 3) := by decide +kernel
theorem dX2_search_39 : decode cX2_search 39 = .ok (.lstore 5, 2) := by decide +kernel
theorem dX2_search_41 : decode cX2_search 41 = .ok (.lload 5, 2) := by decide +kernel
theorem dX2_search_43 : decode cX2_search 43 = .ok (.lconst 0, 1) := by decide +kernel
theorem dX2_search_44 : decode cX2_search 44 = .ok (.lcmp, 1) := by decide +kernel
theorem dX2_search_45 : decode cX2_search 45 = .ok (.ifCond .lt 22, 3) := by decide +kernel
theorem dX2_search_48 : decode cX2_search 48 = .ok (.lload 5, 2) := by decide +kernel
theorem dX2_search_50 : decode cX2_search 50 = .ok (.aload_n 0, 1) := by decide +kernel
theorem dX2_search_51 : decode cX2_search 51 = .ok (.getfield 35, 3) := by decide +kernel
theorem dX2_search_54 : decode cX2_search 54 = .ok (.lcmp, 1) := by decide +kernel
theorem dX2_search_55 : decode cX2_search 55 = .ok (.ifCond .ge 12, 3) := by decide +kernel
theorem dX2_search_58 : decode cX2_search 58 = .ok (.aload_n 0, 1) := by decide +kernel
theorem dX2_search_59 : decode cX2_search 59 = .ok (.iload_n 1, 1) := by decide +kernel
theorem dX2_search_60 : decode cX2_search 60 = .ok (.iconst 1, 1) := by decide +kernel
theorem dX2_search_61 : decode cX2_search 61 = .ok (.iadd, 1) := by decide +kernel
theorem dX2_search_62 : decode cX2_search 62 = .ok (.lload 5, 2) := by decide +kernel
theorem dX2_search_64 : decode cX2_search 64 = .ok (.invokestatic 45, 3) := by decide +kernel
theorem dX2_search_67 : decode cX2_search 67 = .ok (.iinc 4 1, 3) := by decide +kernel
theorem dX2_search_70 : decode cX2_search 70 = .ok (.goto (-53), 3) := by decide +kernel
theorem dX2_search_73 : decode cX2_search 73 = .ok (.return_, 1) := by decide +kernel
theorem dX2_countOf_0 : decode cX2_countOf 0 = .ok (.iload_n 1, 1) := by decide +kernel
theorem dX2_countOf_1 : decode cX2_countOf 1 = .ok (.aload_n 0, 1) := by decide +kernel
theorem dX2_countOf_2 : decode cX2_countOf 2 = .ok (.getfield 27, 3) := by decide +kernel
theorem dX2_countOf_5 : decode cX2_countOf 5 = .ok (.if_icmp .lt 21, 3) := by decide +kernel
theorem dX2_countOf_8 : decode cX2_countOf 8 = .ok (.lload 4, 2) := by decide +kernel
theorem dX2_countOf_10 : decode cX2_countOf 10 = .ok (.lload_n 2, 1) := by decide +kernel
theorem dX2_countOf_11 : decode cX2_countOf 11 = .ok (.lsub, 1) := by decide +kernel
theorem dX2_countOf_12 : decode cX2_countOf 12 = .ok (.aload_n 0, 1) := by decide +kernel
theorem dX2_countOf_13 : decode cX2_countOf 13 = .ok (.getfield 17, 3) := by decide +kernel
theorem dX2_countOf_16 : decode cX2_countOf 16 = .ok (.iload_n 1, 1) := by decide +kernel
theorem dX2_countOf_17 : decode cX2_countOf 17 = .ok (.laload, 1) := by decide +kernel
theorem dX2_countOf_18 : decode cX2_countOf 18 = .ok (.lconst 1, 1) := by decide +kernel
theorem dX2_countOf_19 : decode cX2_countOf 19 = .ok (.invokestatic 87, 3) := by decide +kernel
theorem dX2_countOf_22 : decode cX2_countOf 22 = .ok (.ldiv, 1) := by decide +kernel
theorem dX2_countOf_23 : decode cX2_countOf 23 = .ok (.lconst 1, 1) := by decide +kernel
theorem dX2_countOf_24 : decode cX2_countOf 24 = .ok (.ladd, 1) := by decide +kernel
theorem dX2_countOf_25 : decode cX2_countOf 25 = .ok (.lreturn, 1) := by decide +kernel
theorem dX2_countOf_26 : decode cX2_countOf 26 = .ok (.lconst 0, 1) := by decide +kernel
theorem dX2_countOf_27 : decode cX2_countOf 27 = .ok (.lstore 6, 2) := by decide +kernel
theorem dX2_countOf_29 : decode cX2_countOf 29 = .ok (.iconst 0, 1) := by decide +kernel
theorem dX2_countOf_30 : decode cX2_countOf 30 = .ok (.istore 8, 2) := by decide +kernel
theorem dX2_countOf_32 : decode cX2_countOf 32 = .ok (.iload 8, 2) := by decide +kernel
theorem dX2_countOf_34 : decode cX2_countOf 34 = .ok (.aload_n 0, 1) := by decide +kernel
theorem dX2_countOf_35 : decode cX2_countOf 35 = .ok (.getfield 11, 3) := by decide +kernel
theorem dX2_countOf_38 : decode cX2_countOf 38 = .ok (.iload_n 1, 1) := by decide +kernel
theorem dX2_countOf_39 : decode cX2_countOf 39 = .ok (.aaload, 1) := by decide +kernel
theorem dX2_countOf_40 : decode cX2_countOf 40 = .ok (.invokevirtual 80, 3) := by decide +kernel
theorem dX2_countOf_43 : decode cX2_countOf 43 = .ok (.if_icmp .ge 50, 3) := by decide +kernel
theorem dX2_countOf_46 : decode cX2_countOf 46 = .ok (.aload_n 0, 1) := by decide +kernel
theorem dX2_countOf_47 : decode cX2_countOf 47 = .ok (.iload_n 1, 1) := by decide +kernel
theorem dX2_countOf_48 : decode cX2_countOf 48 = .ok (.lload_n 2, 1) := by decide +kernel
theorem dX2_countOf_49 : decode cX2_countOf 49 = .ok (.iload 8, 2) := by decide +kernel
theorem dX2_countOf_51 : decode cX2_countOf 51 = .ok (.invokevirtual 83, 3) := by decide +kernel
theorem dX2_countOf_54 : decode cX2_countOf 54 = .ok (.lstore 9, 2) := by decide +kernel
theorem dX2_countOf_56 : decode cX2_countOf 56 = .ok (.lload 9, 2) := by decide +kernel
theorem dX2_countOf_58 : decode cX2_countOf 58 = .ok (.lconst 0, 1) := by decide +kernel
theorem dX2_countOf_59 : decode cX2_countOf 59 = .ok (.lcmp, 1) := by decide +kernel
theorem dX2_countOf_60 : decode cX2_countOf 60 = .ok (.ifCond .lt 27, 3) := by decide +kernel
theorem dX2_countOf_63 : decode cX2_countOf 63 = .ok (.lload 9, 2) := by decide +kernel
theorem dX2_countOf_65 : decode cX2_countOf 65 = .ok (.lload 4, 2) := by decide +kernel
theorem dX2_countOf_67 : decode cX2_countOf 67 = .ok (.lcmp, 1) := by decide +kernel
theorem dX2_countOf_68 : decode cX2_countOf 68 = .ok (.ifCond .gt 19, 3) := by decide +kernel
theorem dX2_countOf_71 : decode cX2_countOf 71 = .ok (.lload 6, 2) := by decide +kernel
theorem dX2_countOf_73 : decode cX2_countOf 73 = .ok (.aload_n 0, 1) := by decide +kernel
theorem dX2_countOf_74 : decode cX2_countOf 74 = .ok (.iload_n 1, 1) := by decide +kernel
theorem dX2_countOf_75 : decode cX2_countOf 75 = .ok (.iconst 1, 1) := by decide +kernel
theorem dX2_countOf_76 : decode cX2_countOf 76 = .ok (.iadd, 1) := by decide +kernel
theorem dX2_countOf_77 : decode cX2_countOf 77 = .ok (.lload 9, 2) := by decide +kernel
theorem dX2_countOf_79 : decode cX2_countOf 79 = .ok (.lload 4, 2) := by decide +kernel
theorem dX2_countOf_81 : decode cX2_countOf 81 = .ok (.invokestatic 51, 3) := by decide +kernel
theorem dX2_countOf_84 : decode cX2_countOf 84 = .ok (.ladd, 1) := by decide +kernel
theorem dX2_countOf_85 : decode cX2_countOf 85 = .ok (.lstore 6, 2) := by decide +kernel
theorem dX2_countOf_87 : decode cX2_countOf 87 = .ok (.iinc 8 1, 3) := by decide +kernel
theorem dX2_countOf_90 : decode cX2_countOf 90 = .ok (.goto (-58), 3) := by decide +kernel
theorem dX2_countOf_93 : decode cX2_countOf 93 = .ok (.lload 6, 2) := by decide +kernel
theorem dX2_countOf_95 : decode cX2_countOf 95 = .ok (.lreturn, 1) := by decide +kernel
theorem dX3_init_0 : decode cX3_init 0 = .ok (.aload_n 0, 1) := by decide +kernel
theorem dX3_init_1 : decode cX3_init 1 = .ok (.invokespecial 3, 3) := by decide +kernel
theorem dX3_init_4 : decode cX3_init 4 = .ok (.aload_n 0, 1) := by decide +kernel
theorem dX3_init_5 : decode cX3_init 5 = .ok (.iconst 0, 1) := by decide +kernel
theorem dX3_init_6 : decode cX3_init 6 = .ok (.putfield 11, 3) := by decide +kernel
theorem dX3_init_9 : decode cX3_init 9 = .ok (.aload_n 0, 1) := by decide +kernel
theorem dX3_init_10 : decode cX3_init 10 = .ok (.iconst 0, 1) := by decide +kernel
theorem dX3_init_11 : decode cX3_init 11 = .ok (.putfield 15, 3) := by decide +kernel
theorem dX3_init_14 : decode cX3_init 14 = .ok (.aload_n 0, 1) := by decide +kernel
theorem dX3_init_15 : decode cX3_init 15 = .ok (.iconst 0, 1) := by decide +kernel
theorem dX3_init_16 : decode cX3_init 16 = .ok (.putfield 18, 3) := by decide +kernel
theorem dX3_init_19 : decode cX3_init 19 = .ok (.aload_n 0, 1) := by decide +kernel
theorem dX3_init_20 : decode cX3_init 20 = .ok (.iconst 0, 1) := by decide +kernel
theorem dX3_init_21 : decode cX3_init 21 = .ok (.putfield 21, 3) := by decide +kernel
theorem dX3_init_24 : decode cX3_init 24 = .ok (.aload_n 0, 1) := by decide +kernel
theorem dX3_init_25 : decode cX3_init 25 = .ok (.iconst 0, 1) := by decide +kernel
theorem dX3_init_26 : decode cX3_init 26 = .ok (.putfield 25, 3) := by decide +kernel
theorem dX3_init_29 : decode cX3_init 29 = .ok (.aload_n 0, 1) := by decide +kernel
theorem dX3_init_30 : decode cX3_init 30 = .ok (.iconst 0, 1) := by decide +kernel
theorem dX3_init_31 : decode cX3_init 31 = .ok (.putfield 28, 3) := by decide +kernel
theorem dX3_init_34 : decode cX3_init 34 = .ok (.aload_n 0, 1) := by decide +kernel
theorem dX3_init_35 : decode cX3_init 35 = .ok (.iconst 0, 1) := by decide +kernel
theorem dX3_init_36 : decode cX3_init 36 = .ok (.putfield 31, 3) := by decide +kernel
theorem dX3_init_39 : decode cX3_init 39 = .ok (.aload_n 0, 1) := by decide +kernel
theorem dX3_init_40 : decode cX3_init 40 = .ok (.aload_n 1, 1) := by decide +kernel
theorem dX3_init_41 : decode cX3_init 41 = .ok (.putfield 34, 3) := by decide +kernel
theorem dX3_init_44 : decode cX3_init 44 = .ok (.aload_n 0, 1) := by decide +kernel
theorem dX3_init_45 : decode cX3_init 45 = .ok (.aload_n 2, 1) := by decide +kernel
theorem dX3_init_46 : decode cX3_init 46 = .ok (.putfield 38, 3) := by decide +kernel
theorem dX3_init_49 : decode cX3_init 49 = .ok (.return_, 1) := by decide +kernel
theorem dX3_readLines_0 : decode cX3_readLines 0 = .ok (.aload_n 0, 1) := by decide +kernel
theorem dX3_readLines_1 : decode cX3_readLines 1 = .ok (.getfield 38, 3) := by decide +kernel
theorem dX3_readLines_4 : decode cX3_readLines 4 = .ok (.invokevirtual 42, 3) := by decide +kernel
theorem dX3_readLines_7 : decode cX3_readLines 7 = .ok (.iconst 0, 1) := by decide +kernel
theorem dX3_readLines_8 : decode cX3_readLines 8 = .ok (.istore_n 1, 1) := by decide +kernel
theorem dX3_readLines_9 : decode cX3_readLines 9 = .ok (.aload_n 0, 1) := by decide +kernel
theorem dX3_readLines_10 : decode cX3_readLines 10 = .ok (.invokevirtual 47, 3) := by decide +kernel
theorem dX3_readLines_13 : decode cX3_readLines 13 = .ok (.aload_n 0, 1) := by decide +kernel
theorem dX3_readLines_14 : decode cX3_readLines 14 = .ok (.getfield 28, 3) := by decide +kernel
theorem dX3_readLines_17 : decode cX3_readLines 17 = .ok (.ifCond .ne 31, 3) := by decide +kernel
theorem dX3_readLines_20 : decode cX3_readLines 20 = .ok (.aload_n 0, 1) := by decide +kernel
theorem dX3_readLines_21 : decode cX3_readLines 21 = .ok (.getfield 11, 3) := by decide +kernel
theorem dX3_readLines_24 : decode cX3_readLines 24 = .ok (.ifCond .eq 24, 3) := by decide +kernel
theorem dX3_readLines_27 : decode cX3_readLines 27 = .ok (.iload_n 1, 1) := by decide +kernel
theorem dX3_readLines_28 : decode cX3_readLines 28 = .ok (.sipush 400, 3) := by decide +kernel
theorem dX3_readLines_31 : decode cX3_readLines 31 = .ok (.if_icmp .ge 17, 3) := by decide +kernel
theorem dX3_readLines_34 : decode cX3_readLines 34 = .ok (.aload_n 0, 1) := by decide +kernel
theorem dX3_readLines_35 : decode cX3_readLines 35 = .ok (.invokevirtual 50, 3) := by decide +kernel
theorem dX3_readLines_38 : decode cX3_readLines 38 = .ok (.aload_n 0, 1) := by decide +kernel
theorem dX3_readLines_39 : decode cX3_readLines 39 = .ok (.invokevirtual 47, 3) := by decide +kernel
theorem dX3_readLines_42 : decode cX3_readLines 42 = .ok (.iinc 1 1, 3) := by decide +kernel
theorem dX3_readLines_45 : decode cX3_readLines 45 = .ok (.goto (-32), 3) := by decide +kernel
theorem dX3_readLines_48 : decode cX3_readLines 48 = .ok (.iconst 0, 1) := by decide +kernel
theorem dX3_readLines_49 : decode cX3_readLines 49 = .ok (.istore_n 2, 1) := by decide +kernel
theorem dX3_readLines_50 : decode cX3_readLines 50 = .ok (.iload_n 2, 1) := by decide +kernel
theorem dX3_readLines_51 : decode cX3_readLines 51 = .ok (.aload_n 0, 1) := by decide +kernel
theorem dX3_readLines_52 : decode cX3_readLines 52 = .ok (.getfield 38, 3) := by decide +kernel
theorem dX3_readLines_55 : decode cX3_readLines 55 = .ok (.getfield 53, 3) := by decide +kernel
theorem dX3_readLines_58 : decode cX3_readLines 58 = .ok (.if_icmp .ge 44, 3) := by decide +kernel
theorem dX3_readLines_61 : decode cX3_readLines 61 = .ok (.aload_n 0, 1) := by decide +kernel
theorem dX3_readLines_62 : decode cX3_readLines 62 = .ok (.getfield 38, 3) := by decide +kernel
theorem dX3_readLines_65 : decode cX3_readLines 65 = .ok (.getfield 56, 3) := by decide +kernel
theorem dX3_readLines_68 : decode cX3_readLines 68 = .ok (.iload_n 2, 1) := by decide +kernel
theorem dX3_readLines_69 : decode cX3_readLines 69 = .ok (.aaload, 1) := by decide +kernel
theorem dX3_readLines_70 : decode cX3_readLines 70 = .ok (.getfield 60, 3) := by decide +kernel
theorem dX3_readLines_73 : decode cX3_readLines 73 = .ok (.aload_n 0, 1) := by decide +kernel
theorem dX3_readLines_74 : decode cX3_readLines 74 = .ok (.getfield 38, 3) := by decide +kernel
theorem dX3_readLines_77 : decode cX3_readLines 77 = .ok (.getfield 65, 3) := by decide +kernel
theorem dX3_readLines_80 : decode cX3_readLines 80 = .ok (.if_icmp .lt 16, 3) := by decide +kernel
theorem dX3_readLines_83 : decode cX3_readLines 83 = .ok (.aload_n 0, 1) := by decide +kernel
theorem dX3_readLines_84 : decode cX3_readLines 84 = .ok (.bipush 6, 2) := by decide +kernel
theorem dX3_readLines_86 : decode cX3_readLines 86 = .ok (.aload_n 0, 1) := by decide +kernel
theorem dX3_readLines_87 : decode cX3_readLines 87 = .ok (.getfield 34, 3) := by decide +kernel
theorem dX3_readLines_90 : decode cX3_readLines 90 = .ok (.getfield 68, 3) := by decide +kernel
theorem dX3_readLines_93 : decode cX3_readLines 93 = .ok (.invokevirtual 73, 3) := by decide +kernel
theorem dX3_readLines_96 : decode cX3_readLines 96 = .ok (.iinc 2 1, 3) := by decide +kernel
theorem dX3_readLines_99 : decode cX3_readLines 99 = .ok (.goto (-49), 3) := by decide +kernel
theorem dX3_readLines_102 : decode cX3_readLines 102 = .ok (.iload_n 1, 1) := by decide +kernel
theorem dX3_readLines_103 : decode cX3_readLines 103 = .ok (.ireturn, 1) := by decide +kernel
theorem dX3_readLine_0 : decode cX3_readLine 0 = .ok (.aload_n 0, 1) := by decide +kernel
theorem dX3_readLine_1 : decode cX3_readLine 1 = .ok (.ldc 77, 2) := by decide +kernel
theorem dX3_readLine_3 : decode cX3_readLine 3 = .ok (.invokevirtual 79, 3) := by decide +kernel
theorem dX3_readLine_6 : decode cX3_readLine 6 = .ok (.ifCond .eq 10, 3) := by decide +kernel
theorem dX3_readLine_9 : decode cX3_readLine 9 = .ok (.aload_n 0, 1) := by decide +kernel
theorem dX3_readLine_10 : decode cX3_readLine 10 = .ok (.invokevirtual 83, 3) := by decide +kernel
theorem dX3_readLine_13 : decode cX3_readLine 13 = .ok (.goto 60, 3) := by decide +kernel
theorem dX3_readLine_16 : decode cX3_readLine 16 = .ok (.aload_n 0, 1) := by decide +kernel
theorem dX3_readLine_17 : decode cX3_readLine 17 = .ok (.ldc 86, 2) := by decide +kernel
theorem dX3_readLine_19 : decode cX3_readLine 19 = .ok (.invokevirtual 79, 3) := by decide +kernel
theorem dX3_readLine_22 : decode cX3_readLine 22 = .ok (.ifCond .eq 10, 3) := by decide +kernel
theorem dX3_readLine_25 : decode cX3_readLine 25 = .ok (.aload_n 0, 1) := by decide +kernel
theorem dX3_readLine_26 : decode cX3_readLine 26 = .ok (.invokevirtual 88, 3) := by decide +kernel
theorem dX3_readLine_29 : decode cX3_readLine 29 = .ok (.goto 44, 3) := by decide +kernel
theorem dX3_readLine_32 : decode cX3_readLine 32 = .ok (.aload_n 0, 1) := by decide +kernel
theorem dX3_readLine_33 : decode cX3_readLine 33 = .ok (.ldc 91, 2) := by decide +kernel
theorem dX3_readLine_35 : decode cX3_readLine 35 = .ok (.invokevirtual 79, 3) := by decide +kernel
theorem dX3_readLine_38 : decode cX3_readLine 38 = .ok (.ifCond .eq 10, 3) := by decide +kernel
theorem dX3_readLine_41 : decode cX3_readLine 41 = .ok (.aload_n 0, 1) := by decide +kernel
theorem dX3_readLine_42 : decode cX3_readLine 42 = .ok (.invokevirtual 93, 3) := by decide +kernel
theorem dX3_readLine_45 : decode cX3_readLine 45 = .ok (.goto 28, 3) := by decide +kernel
theorem dX3_readLine_48 : decode cX3_readLine 48 = .ok (.aload_n 0, 1) := by decide +kernel
theorem dX3_readLine_49 : decode cX3_readLine 49 = .ok (.ldc 96, 2) := by decide +kernel
theorem dX3_readLine_51 : decode cX3_readLine 51 = .ok (.invokevirtual 79, 3) := by decide +kernel
theorem dX3_readLine_54 : decode cX3_readLine 54 = .ok (.ifCond .eq 10, 3) := by decide +kernel
theorem dX3_readLine_57 : decode cX3_readLine 57 = .ok (.aload_n 0, 1) := by decide +kernel
theorem dX3_readLine_58 : decode cX3_readLine 58 = .ok (.invokevirtual 98, 3) := by decide +kernel
theorem dX3_readLine_61 : decode cX3_readLine 61 = .ok (.goto 12, 3) := by decide +kernel
theorem dX3_readLine_64 : decode cX3_readLine 64 = .ok (.aload_n 0, 1) := by decide +kernel
theorem dX3_readLine_65 : decode cX3_readLine 65 = .ok (.iconst 2, 1) := by decide +kernel
theorem dX3_readLine_66 : decode cX3_readLine 66 = .ok (.aload_n 0, 1) := by decide +kernel
theorem dX3_readLine_67 : decode cX3_readLine 67 = .ok (.getfield 15, 3) := by decide +kernel
theorem dX3_readLine_70 : decode cX3_readLine 70 = .ok (.invokevirtual 73, 3) := by decide +kernel
theorem dX3_readLine_73 : decode cX3_readLine 73 = .ok (.return_, 1) := by decide +kernel
theorem dX3_readFigure_0 : decode cX3_readFigure 0 = .ok (.aload_n 0, 1) := by decide +kernel
theorem dX3_readFigure_1 : decode cX3_readFigure 1 = .ok (.aload_n 0, 1) := by decide +kernel
theorem dX3_readFigure_2 : decode cX3_readFigure 2 = .ok (.getfield 38, 3) := by decide +kernel
theorem dX3_readFigure_5 : decode cX3_readFigure 5 = .ok (.getfield 65, 3) := by decide +kernel
theorem dX3_readFigure_8 : decode cX3_readFigure 8 = .ok (.bipush 6, 2) := by decide +kernel
theorem dX3_readFigure_10 : decode cX3_readFigure 10 = .ok (.if_icmp .ge 7, 3) := by decide +kernel
theorem dX3_readFigure_13 : decode cX3_readFigure 13 = .ok (.iconst 1, 1) := by decide +kernel
theorem dX3_readFigure_14 : decode cX3_readFigure 14 = .ok (.goto 4, 3) := by decide +kernel
theorem dX3_readFigure_17 : decode cX3_readFigure 17 = .ok (.iconst 0, 1) := by decide +kernel
theorem dX3_readFigure_18 : decode cX3_readFigure 18 = .ok (.iconst 5, 1) := by decide +kernel
theorem dX3_readFigure_19 : decode cX3_readFigure 19 = .ok (.invokevirtual 101, 3) := by decide +kernel
theorem dX3_readFigure_22 : decode cX3_readFigure 22 = .ok (.aload_n 0, 1) := by decide +kernel
theorem dX3_readFigure_23 : decode cX3_readFigure 23 = .ok (.invokevirtual 47, 3) := by decide +kernel
theorem dX3_readFigure_26 : decode cX3_readFigure 26 = .ok (.aload_n 0, 1) := by decide +kernel
theorem dX3_readFigure_27 : decode cX3_readFigure 27 = .ok (.ldc 105, 2) := by decide +kernel
theorem dX3_readFigure_29 : decode cX3_readFigure 29 = .ok (.invokevirtual 79, 3) := by decide +kernel
theorem dX3_readFigure_32 : decode cX3_readFigure 32 = .ok (.istore_n 1, 1) := by decide +kernel
theorem dX3_readFigure_33 : decode cX3_readFigure 33 = .ok (.iload_n 1, 1) := by decide +kernel
theorem dX3_readFigure_34 : decode cX3_readFigure 34 = .ok (.ifCond .ne 12, 3) := by decide +kernel
theorem dX3_readFigure_37 : decode cX3_readFigure 37 = .ok (.aload_n 0, 1) := by decide +kernel
theorem dX3_readFigure_38 : decode cX3_readFigure 38 = .ok (.ldc 107, 2) := by decide +kernel
theorem dX3_readFigure_40 : decode cX3_readFigure 40 = .ok (.invokevirtual 79, 3) := by decide +kernel
theorem dX3_readFigure_43 : decode cX3_readFigure 43 = .ok (.ifCond .eq 7, 3) := by decide +kernel
theorem dX3_readFigure_46 : decode cX3_readFigure 46 = .ok (.iconst 1, 1) := by decide +kernel
theorem dX3_readFigure_47 : decode cX3_readFigure 47 = .ok (.goto 4, 3) := by decide +kernel
theorem dX3_readFigure_50 : decode cX3_readFigure 50 = .ok (.iconst 0, 1) := by decide +kernel
theorem dX3_readFigure_51 : decode cX3_readFigure 51 = .ok (.istore_n 2, 1) := by decide +kernel
theorem dX3_readFigure_52 : decode cX3_readFigure 52 = .ok (.iload_n 1, 1) := by decide +kernel
theorem dX3_readFigure_53 : decode cX3_readFigure 53 = .ok (.ifCond .ne 12, 3) := by decide +kernel
theorem dX3_readFigure_56 : decode cX3_readFigure 56 = .ok (.aload_n 0, 1) := by decide +kernel
theorem dX3_readFigure_57 : decode cX3_readFigure 57 = .ok (.ldc 109, 2) := by decide +kernel
theorem dX3_readFigure_59 : decode cX3_readFigure 59 = .ok (.invokevirtual 79, 3) := by decide +kernel
theorem dX3_readFigure_62 : decode cX3_readFigure 62 = .ok (.ifCond .eq 7, 3) := by decide +kernel
theorem dX3_readFigure_65 : decode cX3_readFigure 65 = .ok (.iconst 1, 1) := by decide +kernel
theorem dX3_readFigure_66 : decode cX3_readFigure 66 = .ok (.goto 4, 3) := by decide +kernel
theorem dX3_readFigure_69 : decode cX3_readFigure 69 = .ok (.iconst 0, 1) := by decide +kernel
theorem dX3_readFigure_70 : decode cX3_readFigure 70 = .ok (.istore_n 3, 1) := by decide +kernel
theorem dX3_readFigure_71 : decode cX3_readFigure 71 = .ok (.aload_n 0, 1) := by decide +kernel
theorem dX3_readFigure_72 : decode cX3_readFigure 72 = .ok (.iload_n 2, 1) := by decide +kernel
theorem dX3_readFigure_73 : decode cX3_readFigure 73 = .ok (.ifCond .ne 16, 3) := by decide +kernel
theorem dX3_readFigure_76 : decode cX3_readFigure 76 = .ok (.iload_n 3, 1) := by decide +kernel
theorem dX3_readFigure_77 : decode cX3_readFigure 77 = .ok (.ifCond .ne 12, 3) := by decide +kernel
theorem dX3_readFigure_80 : decode cX3_readFigure 80 = .ok (.aload_n 0, 1) := by decide +kernel
theorem dX3_readFigure_81 : decode cX3_readFigure 81 = .ok (.ldc 111, 2) := by decide +kernel
theorem dX3_readFigure_83 : decode cX3_readFigure 83 = .ok (.invokevirtual 79, 3) := by decide +kernel
theorem dX3_readFigure_86 : decode cX3_readFigure 86 = .ok (.ifCond .eq 7, 3) := by decide +kernel
theorem dX3_readFigure_89 : decode cX3_readFigure 89 = .ok (.iconst 1, 1) := by decide +kernel
theorem dX3_readFigure_90 : decode cX3_readFigure 90 = .ok (.goto 4, 3) := by decide +kernel
theorem dX3_readFigure_93 : decode cX3_readFigure 93 = .ok (.iconst 0, 1) := by decide +kernel
theorem dX3_readFigure_94 : decode cX3_readFigure 94 = .ok (.iconst 2, 1) := by decide +kernel
theorem dX3_readFigure_95 : decode cX3_readFigure 95 = .ok (.invokevirtual 101, 3) := by decide +kernel
theorem dX3_readFigure_98 : decode cX3_readFigure 98 = .ok (.iload_n 2, 1) := by decide +kernel
theorem dX3_readFigure_99 : decode cX3_readFigure 99 = .ok (.ifCond .eq 12, 3) := by decide +kernel
theorem dX3_readFigure_102 : decode cX3_readFigure 102 = .ok (.aload_n 0, 1) := by decide +kernel
theorem dX3_readFigure_103 : decode cX3_readFigure 103 = .ok (.iconst 1, 1) := by decide +kernel
theorem dX3_readFigure_104 : decode cX3_readFigure 104 = .ok (.iconst 3, 1) := by decide +kernel
theorem dX3_readFigure_105 : decode cX3_readFigure 105 = .ok (.invokevirtual 113, 3) := by decide +kernel
theorem dX3_readFigure_108 : decode cX3_readFigure 108 = .ok (.goto 4, 3) := by decide +kernel
theorem dX3_readFigure_111 : decode cX3_readFigure 111 = .ok (.iconst 0, 1) := by decide +kernel
theorem dX3_readFigure_112 : decode cX3_readFigure 112 = .ok (.istore 4, 2) := by decide +kernel
theorem dX3_readFigure_114 : decode cX3_readFigure 114 = .ok (.iload_n 3, 1) := by decide +kernel
theorem dX3_readFigure_115 : decode cX3_readFigure 115 = .ok (.ifCond .eq 13, 3) := by decide +kernel
theorem dX3_readFigure_118 : decode cX3_readFigure 118 = .ok (.aload_n 0, 1) := by decide +kernel
theorem dX3_readFigure_119 : decode cX3_readFigure 119 = .ok (.iconst 1, 1) := by decide +kernel
theorem dX3_readFigure_120 : decode cX3_readFigure 120 = .ok (.bipush 59, 2) := by decide +kernel
theorem dX3_readFigure_122 : decode cX3_readFigure 122 = .ok (.invokevirtual 113, 3) := by decide +kernel
theorem dX3_readFigure_125 : decode cX3_readFigure 125 = .ok (.goto 4, 3) := by decide +kernel
theorem dX3_readFigure_128 : decode cX3_readFigure 128 = .ok (.iconst 0, 1) := by decide +kernel
theorem dX3_readFigure_129 : decode cX3_readFigure 129 = .ok (.istore 5, 2) := by decide +kernel
theorem dX3_readFigure_131 : decode cX3_readFigure 131 = .ok (.aload_n 0, 1) := by decide +kernel
theorem dX3_readFigure_132 : decode cX3_readFigure 132 = .ok (.iconst 2, 1) := by decide +kernel
theorem dX3_readFigure_133 : decode cX3_readFigure 133 = .ok (.bipush 60, 2) := by decide +kernel
theorem dX3_readFigure_135 : decode cX3_readFigure 135 = .ok (.invokevirtual 113, 3) := by decide +kernel
theorem dX3_readFigure_138 : decode cX3_readFigure 138 = .ok (.istore 6, 2) := by decide +kernel
theorem dX3_readFigure_140 : decode cX3_readFigure 140 = .ok (.aload_n 0, 1) := by decide +kernel
theorem dX3_readFigure_141 : decode cX3_readFigure 141 = .ok (.iload 6, 2) := by decide +kernel
theorem dX3_readFigure_143 : decode cX3_readFigure 143 = .ok (.iload 5, 2) := by decide +kernel
theorem dX3_readFigure_145 : decode cX3_readFigure 145 = .ok (.if_icmp .le 7, 3) := by decide +kernel
theorem dX3_readFigure_148 : decode cX3_readFigure 148 = .ok (.iconst 1, 1) := by decide +kernel
theorem dX3_readFigure_149 : decode cX3_readFigure 149 = .ok (.goto 4, 3) := by decide +kernel
theorem dX3_readFigure_152 : decode cX3_readFigure 152 = .ok (.iconst 0, 1) := by decide +kernel
theorem dX3_readFigure_153 : decode cX3_readFigure 153 = .ok (.iconst 4, 1) := by decide +kernel
theorem dX3_readFigure_154 : decode cX3_readFigure 154 = .ok (.invokevirtual 101, 3) := by decide +kernel
theorem dX3_readFigure_157 : decode cX3_readFigure 157 = .ok (.aload_n 0, 1) := by decide +kernel
theorem dX3_readFigure_158 : decode cX3_readFigure 158 = .ok (.iconst 0, 1) := by decide +kernel
theorem dX3_readFigure_159 : decode cX3_readFigure 159 = .ok (.bipush 59, 2) := by decide +kernel
theorem dX3_readFigure_161 : decode cX3_readFigure 161 = .ok (.invokevirtual 113, 3) := by decide +kernel
theorem dX3_readFigure_164 : decode cX3_readFigure 164 = .ok (.istore 7, 2) := by decide +kernel
theorem dX3_readFigure_166 : decode cX3_readFigure 166 = .ok (.aload_n 0, 1) := by decide +kernel
theorem dX3_readFigure_167 : decode cX3_readFigure 167 = .ok (.iload 7, 2) := by decide +kernel
theorem dX3_readFigure_169 : decode cX3_readFigure 169 = .ok (.iload 6, 2) := by decide +kernel
theorem dX3_readFigure_171 : decode cX3_readFigure 171 = .ok (.if_icmp .ge 7, 3) := by decide +kernel
theorem dX3_readFigure_174 : decode cX3_readFigure 174 = .ok (.iconst 1, 1) := by decide +kernel
theorem dX3_readFigure_175 : decode cX3_readFigure 175 = .ok (.goto 4, 3) := by decide +kernel
theorem dX3_readFigure_178 : decode cX3_readFigure 178 = .ok (.iconst 0, 1) := by decide +kernel
theorem dX3_readFigure_179 : decode cX3_readFigure 179 = .ok (.iconst 4, 1) := by decide +kernel
theorem dX3_readFigure_180 : decode cX3_readFigure 180 = .ok (.invokevirtual 101, 3) := by decide +kernel
theorem dX3_readFigure_183 : decode cX3_readFigure 183 = .ok (.aload_n 0, 1) := by decide +kernel
theorem dX3_readFigure_184 : decode cX3_readFigure 184 = .ok (.iconst 0, 1) := by decide +kernel
theorem dX3_readFigure_185 : decode cX3_readFigure 185 = .ok (.bipush 8, 2) := by decide +kernel
theorem dX3_readFigure_187 : decode cX3_readFigure 187 = .ok (.invokevirtual 113, 3) := by decide +kernel
theorem dX3_readFigure_190 : decode cX3_readFigure 190 = .ok (.istore 8, 2) := by decide +kernel
theorem dX3_readFigure_192 : decode cX3_readFigure 192 = .ok (.aload_n 0, 1) := by decide +kernel
theorem dX3_readFigure_193 : decode cX3_readFigure 193 = .ok (.invokevirtual 117, 3) := by decide +kernel
theorem dX3_readFigure_196 : decode cX3_readFigure 196 = .ok (.aload_n 0, 1) := by decide +kernel
theorem dX3_readFigure_197 : decode cX3_readFigure 197 = .ok (.getfield 28, 3) := by decide +kernel
theorem dX3_readFigure_200 : decode cX3_readFigure 200 = .ok (.ifCond .ne 68, 3) := by decide +kernel
theorem dX3_readFigure_203 : decode cX3_readFigure 203 = .ok (.aload_n 0, 1) := by decide +kernel
theorem dX3_readFigure_204 : decode cX3_readFigure 204 = .ok (.getfield 38, 3) := by decide +kernel
theorem dX3_readFigure_207 : decode cX3_readFigure 207 = .ok (.getfield 120, 3) := by decide +kernel
theorem dX3_readFigure_210 : decode cX3_readFigure 210 = .ok (.aload_n 0, 1) := by decide +kernel
theorem dX3_readFigure_211 : decode cX3_readFigure 211 = .ok (.getfield 38, 3) := by decide +kernel
theorem dX3_readFigure_214 : decode cX3_readFigure 214 = .ok (.getfield 65, 3) := by decide +kernel
theorem dX3_readFigure_217 : decode cX3_readFigure 217 = .ok (.aaload, 1) := by decide +kernel
theorem dX3_readFigure_218 : decode cX3_readFigure 218 = .ok (.astore 9, 2) := by decide +kernel
theorem dX3_readFigure_220 : decode cX3_readFigure 220 = .ok (.aload 9, 2) := by decide +kernel
theorem dX3_readFigure_222 : decode cX3_readFigure 222 = .ok (.iload 4, 2) := by decide +kernel
theorem dX3_readFigure_224 : decode cX3_readFigure 224 = .ok (.putfield 124, 3) := by decide +kernel
theorem dX3_readFigure_227 : decode cX3_readFigure 227 = .ok (.aload 9, 2) := by decide +kernel
theorem dX3_readFigure_229 : decode cX3_readFigure 229 = .ok (.iload 5, 2) := by decide +kernel
theorem dX3_readFigure_231 : decode cX3_readFigure 231 = .ok (.putfield 129, 3) := by decide +kernel
theorem dX3_readFigure_234 : decode cX3_readFigure 234 = .ok (.aload 9, 2) := by decide +kernel
theorem dX3_readFigure_236 : decode cX3_readFigure 236 = .ok (.iload 6, 2) := by decide +kernel
theorem dX3_readFigure_238 : decode cX3_readFigure 238 = .ok (.putfield 132, 3) := by decide +kernel
theorem dX3_readFigure_241 : decode cX3_readFigure 241 = .ok (.aload 9, 2) := by decide +kernel
theorem dX3_readFigure_243 : decode cX3_readFigure 243 = .ok (.iload 7, 2) := by decide +kernel
theorem dX3_readFigure_245 : decode cX3_readFigure 245 = .ok (.putfield 135, 3) := by decide +kernel
theorem dX3_readFigure_248 : decode cX3_readFigure 248 = .ok (.aload 9, 2) := by decide +kernel
theorem dX3_readFigure_250 : decode cX3_readFigure 250 = .ok (.iload 8, 2) := by decide +kernel
theorem dX3_readFigure_252 : decode cX3_readFigure 252 = .ok (.putfield 138, 3) := by decide +kernel
theorem dX3_readFigure_255 : decode cX3_readFigure 255 = .ok (.aload_n 0, 1) := by decide +kernel
theorem dX3_readFigure_256 : decode cX3_readFigure 256 = .ok (.getfield 38, 3) := by decide +kernel
theorem dX3_readFigure_259 : decode cX3_readFigure 259 = .ok (.dup, 1) := by decide +kernel
theorem dX3_readFigure_260 : decode cX3_readFigure 260 = .ok (.getfield 65, 3) := by decide +kernel
theorem dX3_readFigure_263 : decode cX3_readFigure 263 = .ok (.iconst 1, 1) := by decide +kernel
theorem dX3_readFigure_264 : decode cX3_readFigure 264 = .ok (.iadd, 1) := by decide +kernel
theorem dX3_readFigure_265 : decode cX3_readFigure 265 = .ok (.putfield 65, 3) := by decide +kernel
theorem dX3_readFigure_268 : decode cX3_readFigure 268 = .ok (.return_, 1) := by decide +kernel
theorem dX3_readStick_0 : decode cX3_readStick 0 = .ok (.aload_n 0, 1) := by decide +kernel
theorem dX3_readStick_1 : decode cX3_readStick 1 = .ok (.aload_n 0, 1) := by decide +kernel
theorem dX3_readStick_2 : decode cX3_readStick 2 = .ok (.getfield 21, 3) := by decide +kernel
theorem dX3_readStick_5 : decode cX3_readStick 5 = .ok (.ifCond .ne 7, 3) := by decide +kernel
theorem dX3_readStick_8 : decode cX3_readStick 8 = .ok (.iconst 1, 1) := by decide +kernel
theorem dX3_readStick_9 : decode cX3_readStick 9 = .ok (.goto 4, 3) := by decide +kernel
theorem dX3_readStick_12 : decode cX3_readStick 12 = .ok (.iconst 0, 1) := by decide +kernel
theorem dX3_readStick_13 : decode cX3_readStick 13 = .ok (.iconst 4, 1) := by decide +kernel
theorem dX3_readStick_14 : decode cX3_readStick 14 = .ok (.invokevirtual 101, 3) := by decide +kernel
theorem dX3_readStick_17 : decode cX3_readStick 17 = .ok (.aload_n 0, 1) := by decide +kernel
theorem dX3_readStick_18 : decode cX3_readStick 18 = .ok (.iconst 1, 1) := by decide +kernel
theorem dX3_readStick_19 : decode cX3_readStick 19 = .ok (.putfield 21, 3) := by decide +kernel
theorem dX3_readStick_22 : decode cX3_readStick 22 = .ok (.aload_n 0, 1) := by decide +kernel
theorem dX3_readStick_23 : decode cX3_readStick 23 = .ok (.iconst 0, 1) := by decide +kernel
theorem dX3_readStick_24 : decode cX3_readStick 24 = .ok (.bipush 8, 2) := by decide +kernel
theorem dX3_readStick_26 : decode cX3_readStick 26 = .ok (.invokevirtual 113, 3) := by decide +kernel
theorem dX3_readStick_29 : decode cX3_readStick 29 = .ok (.istore_n 1, 1) := by decide +kernel
theorem dX3_readStick_30 : decode cX3_readStick 30 = .ok (.aload_n 0, 1) := by decide +kernel
theorem dX3_readStick_31 : decode cX3_readStick 31 = .ok (.iconst 0, 1) := by decide +kernel
theorem dX3_readStick_32 : decode cX3_readStick 32 = .ok (.sipush 365, 3) := by decide +kernel
theorem dX3_readStick_35 : decode cX3_readStick 35 = .ok (.invokevirtual 113, 3) := by decide +kernel
theorem dX3_readStick_38 : decode cX3_readStick 38 = .ok (.istore_n 2, 1) := by decide +kernel
theorem dX3_readStick_39 : decode cX3_readStick 39 = .ok (.aload_n 0, 1) := by decide +kernel
theorem dX3_readStick_40 : decode cX3_readStick 40 = .ok (.iload_n 2, 1) := by decide +kernel
theorem dX3_readStick_41 : decode cX3_readStick 41 = .ok (.sipush 365, 3) := by decide +kernel
theorem dX3_readStick_44 : decode cX3_readStick 44 = .ok (.invokevirtual 113, 3) := by decide +kernel
theorem dX3_readStick_47 : decode cX3_readStick 47 = .ok (.istore_n 3, 1) := by decide +kernel
theorem dX3_readStick_48 : decode cX3_readStick 48 = .ok (.aload_n 0, 1) := by decide +kernel
theorem dX3_readStick_49 : decode cX3_readStick 49 = .ok (.invokevirtual 117, 3) := by decide +kernel
theorem dX3_readStick_52 : decode cX3_readStick 52 = .ok (.aload_n 0, 1) := by decide +kernel
theorem dX3_readStick_53 : decode cX3_readStick 53 = .ok (.getfield 38, 3) := by decide +kernel
theorem dX3_readStick_56 : decode cX3_readStick 56 = .ok (.iload_n 1, 1) := by decide +kernel
theorem dX3_readStick_57 : decode cX3_readStick 57 = .ok (.iload_n 2, 1) := by decide +kernel
theorem dX3_readStick_58 : decode cX3_readStick 58 = .ok (.iload_n 3, 1) := by decide +kernel
theorem dX3_readStick_59 : decode cX3_readStick 59 = .ok (.invokevirtual 141, 3) := by decide +kernel
theorem dX3_readStick_62 : decode cX3_readStick 62 = .ok (.return_, 1) := by decide +kernel
theorem dX3_readReach_0 : decode cX3_readReach 0 = .ok (.aload_n 0, 1) := by decide +kernel
theorem dX3_readReach_1 : decode cX3_readReach 1 = .ok (.aload_n 0, 1) := by decide +kernel
theorem dX3_readReach_2 : decode cX3_readReach 2 = .ok (.getfield 25, 3) := by decide +kernel
theorem dX3_readReach_5 : decode cX3_readReach 5 = .ok (.ifCond .ne 7, 3) := by decide +kernel
theorem dX3_readReach_8 : decode cX3_readReach 8 = .ok (.iconst 1, 1) := by decide +kernel
theorem dX3_readReach_9 : decode cX3_readReach 9 = .ok (.goto 4, 3) := by decide +kernel
theorem dX3_readReach_12 : decode cX3_readReach 12 = .ok (.iconst 0, 1) := by decide +kernel
theorem dX3_readReach_13 : decode cX3_readReach 13 = .ok (.iconst 4, 1) := by decide +kernel
theorem dX3_readReach_14 : decode cX3_readReach 14 = .ok (.invokevirtual 101, 3) := by decide +kernel
theorem dX3_readReach_17 : decode cX3_readReach 17 = .ok (.aload_n 0, 1) := by decide +kernel
theorem dX3_readReach_18 : decode cX3_readReach 18 = .ok (.iconst 1, 1) := by decide +kernel
theorem dX3_readReach_19 : decode cX3_readReach 19 = .ok (.putfield 25, 3) := by decide +kernel
theorem dX3_readReach_22 : decode cX3_readReach 22 = .ok (.aload_n 0, 1) := by decide +kernel
theorem dX3_readReach_23 : decode cX3_readReach 23 = .ok (.getfield 38, 3) := by decide +kernel
theorem dX3_readReach_26 : decode cX3_readReach 26 = .ok (.aload_n 0, 1) := by decide +kernel
theorem dX3_readReach_27 : decode cX3_readReach 27 = .ok (.iconst 0, 1) := by decide +kernel
theorem dX3_readReach_28 : decode cX3_readReach 28 = .ok (.iconst 3, 1) := by decide +kernel
theorem dX3_readReach_29 : decode cX3_readReach 29 = .ok (.invokevirtual 113, 3) := by decide +kernel
theorem dX3_readReach_32 : decode cX3_readReach 32 = .ok (.putfield 145, 3) := by decide +kernel
theorem dX3_readReach_35 : decode cX3_readReach 35 = .ok (.aload_n 0, 1) := by decide +kernel
theorem dX3_readReach_36 : decode cX3_readReach 36 = .ok (.invokevirtual 117, 3) := by decide +kernel
theorem dX3_readReach_39 : decode cX3_readReach 39 = .ok (.return_, 1) := by decide +kernel
theorem dX3_readVote_0 : decode cX3_readVote 0 = .ok (.aload_n 0, 1) := by decide +kernel
theorem dX3_readVote_1 : decode cX3_readVote 1 = .ok (.aload_n 0, 1) := by decide +kernel
theorem dX3_readVote_2 : decode cX3_readVote 2 = .ok (.getfield 38, 3) := by decide +kernel
theorem dX3_readVote_5 : decode cX3_readVote 5 = .ok (.getfield 53, 3) := by decide +kernel
theorem dX3_readVote_8 : decode cX3_readVote 8 = .ok (.bipush 6, 2) := by decide +kernel
theorem dX3_readVote_10 : decode cX3_readVote 10 = .ok (.if_icmp .ge 7, 3) := by decide +kernel
theorem dX3_readVote_13 : decode cX3_readVote 13 = .ok (.iconst 1, 1) := by decide +kernel
theorem dX3_readVote_14 : decode cX3_readVote 14 = .ok (.goto 4, 3) := by decide +kernel
theorem dX3_readVote_17 : decode cX3_readVote 17 = .ok (.iconst 0, 1) := by decide +kernel
theorem dX3_readVote_18 : decode cX3_readVote 18 = .ok (.iconst 5, 1) := by decide +kernel
theorem dX3_readVote_19 : decode cX3_readVote 19 = .ok (.invokevirtual 101, 3) := by decide +kernel
theorem dX3_readVote_22 : decode cX3_readVote 22 = .ok (.aload_n 0, 1) := by decide +kernel
theorem dX3_readVote_23 : decode cX3_readVote 23 = .ok (.aload_n 0, 1) := by decide +kernel
theorem dX3_readVote_24 : decode cX3_readVote 24 = .ok (.getfield 38, 3) := by decide +kernel
theorem dX3_readVote_27 : decode cX3_readVote 27 = .ok (.invokevirtual 147, 3) := by decide +kernel
theorem dX3_readVote_30 : decode cX3_readVote 30 = .ok (.bipush 99, 2) := by decide +kernel
theorem dX3_readVote_32 : decode cX3_readVote 32 = .ok (.invokevirtual 113, 3) := by decide +kernel
theorem dX3_readVote_35 : decode cX3_readVote 35 = .ok (.istore_n 1, 1) := by decide +kernel
theorem dX3_readVote_36 : decode cX3_readVote 36 = .ok (.aload_n 0, 1) := by decide +kernel
theorem dX3_readVote_37 : decode cX3_readVote 37 = .ok (.iconst 0, 1) := by decide +kernel
theorem dX3_readVote_38 : decode cX3_readVote 38 = .ok (.iconst 5, 1) := by decide +kernel
theorem dX3_readVote_39 : decode cX3_readVote 39 = .ok (.invokevirtual 113, 3) := by decide +kernel
theorem dX3_readVote_42 : decode cX3_readVote 42 = .ok (.istore_n 2, 1) := by decide +kernel
theorem dX3_readVote_43 : decode cX3_readVote 43 = .ok (.aload_n 0, 1) := by decide +kernel
theorem dX3_readVote_44 : decode cX3_readVote 44 = .ok (.iconst 2, 1) := by decide +kernel
theorem dX3_readVote_45 : decode cX3_readVote 45 = .ok (.bipush 60, 2) := by decide +kernel
theorem dX3_readVote_47 : decode cX3_readVote 47 = .ok (.invokevirtual 113, 3) := by decide +kernel
theorem dX3_readVote_50 : decode cX3_readVote 50 = .ok (.istore_n 3, 1) := by decide +kernel
theorem dX3_readVote_51 : decode cX3_readVote 51 = .ok (.aload_n 0, 1) := by decide +kernel
theorem dX3_readVote_52 : decode cX3_readVote 52 = .ok (.iconst 0, 1) := by decide +kernel
theorem dX3_readVote_53 : decode cX3_readVote 53 = .ok (.iload_n 3, 1) := by decide +kernel
theorem dX3_readVote_54 : decode cX3_readVote 54 = .ok (.iconst 1, 1) := by decide +kernel
theorem dX3_readVote_55 : decode cX3_readVote 55 = .ok (.isub, 1) := by decide +kernel
theorem dX3_readVote_56 : decode cX3_readVote 56 = .ok (.invokevirtual 113, 3) := by decide +kernel
theorem dX3_readVote_59 : decode cX3_readVote 59 = .ok (.istore 4, 2) := by decide +kernel
