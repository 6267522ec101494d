theorem dX3_readVote_61 : decode cX3_readVote 61 = .ok (.aload_n 0, 1) := by decide +kernel
theorem dX3_readVote_62 : decode cX3_readVote 62 = .ok (.iconst 0, 1) := by decide +kernel
theorem dX3_readVote_63 : decode cX3_readVote 63 = .ok (.bipush 8, 2) := by decide +kernel
theorem dX3_readVote_65 : decode cX3_readVote 65 = .ok (.invokevirtual 113, 3) := by decide +kernel
theorem dX3_readVote_68 : decode cX3_readVote 68 = .ok (.istore 5, 2) := by decide +kernel
theorem dX3_readVote_70 : decode cX3_readVote 70 = .ok (.aload_n 0, 1) := by decide +kernel
theorem dX3_readVote_71 : decode cX3_readVote 71 = .ok (.invokevirtual 117, 3) := by decide +kernel
theorem dX3_readVote_74 : decode cX3_readVote 74 = .ok (.aload_n 0, 1) := by decide +kernel
theorem dX3_readVote_75 : decode cX3_readVote 75 = .ok (.getfield 28, 3) := by decide +kernel
theorem dX3_readVote_78 : decode cX3_readVote 78 = .ok (.ifCond .ne 17, 3) := by decide +kernel
theorem dX3_readVote_81 : decode cX3_readVote 81 = .ok (.aload_n 0, 1) := by decide +kernel
theorem dX3_readVote_82 : decode cX3_readVote 82 = .ok (.getfield 38, 3) := by decide +kernel
theorem dX3_readVote_85 : decode cX3_readVote 85 = .ok (.iload_n 1, 1) := by decide +kernel
theorem dX3_readVote_86 : decode cX3_readVote 86 = .ok (.iload_n 2, 1) := by decide +kernel
theorem dX3_readVote_87 : decode cX3_readVote 87 = .ok (.iload_n 3, 1) := by decide +kernel
theorem dX3_readVote_88 : decode cX3_readVote 88 = .ok (.iload 4, 2) := by decide +kernel
theorem dX3_readVote_90 : decode cX3_readVote 90 = .ok (.iload 5, 2) := by decide +kernel
theorem dX3_readVote_92 : decode cX3_readVote 92 = .ok (.invokevirtual 151, 3) := by decide +kernel
theorem dX3_readVote_95 : decode cX3_readVote 95 = .ok (.return_, 1) := by decide +kernel
theorem dX3_endLine_0 : decode cX3_endLine 0 = .ok (.aload_n 0, 1) := by decide +kernel
theorem dX3_endLine_1 : decode cX3_endLine 1 = .ok (.invokevirtual 47, 3) := by decide +kernel
theorem dX3_endLine_4 : decode cX3_endLine 4 = .ok (.aload_n 0, 1) := by decide +kernel
theorem dX3_endLine_5 : decode cX3_endLine 5 = .ok (.aload_n 0, 1) := by decide +kernel
theorem dX3_endLine_6 : decode cX3_endLine 6 = .ok (.getfield 11, 3) := by decide +kernel
theorem dX3_endLine_9 : decode cX3_endLine 9 = .ok (.iconst 3, 1) := by decide +kernel
theorem dX3_endLine_10 : decode cX3_endLine 10 = .ok (.if_icmp .ne 7, 3) := by decide +kernel
theorem dX3_endLine_13 : decode cX3_endLine 13 = .ok (.iconst 1, 1) := by decide +kernel
theorem dX3_endLine_14 : decode cX3_endLine 14 = .ok (.goto 4, 3) := by decide +kernel
theorem dX3_endLine_17 : decode cX3_endLine 17 = .ok (.iconst 0, 1) := by decide +kernel
theorem dX3_endLine_18 : decode cX3_endLine 18 = .ok (.iconst 2, 1) := by decide +kernel
theorem dX3_endLine_19 : decode cX3_endLine 19 = .ok (.invokevirtual 101, 3) := by decide +kernel
theorem dX3_endLine_22 : decode cX3_endLine 22 = .ok (.return_, 1) := by decide +kernel
theorem dX3_number_0 : decode cX3_number 0 = .ok (.aload_n 0, 1) := by decide +kernel
theorem dX3_number_1 : decode cX3_number 1 = .ok (.invokevirtual 47, 3) := by decide +kernel
theorem dX3_number_4 : decode cX3_number 4 = .ok (.aload_n 0, 1) := by decide +kernel
theorem dX3_number_5 : decode cX3_number 5 = .ok (.aload_n 0, 1) := by decide +kernel
theorem dX3_number_6 : decode cX3_number 6 = .ok (.getfield 11, 3) := by decide +kernel
theorem dX3_number_9 : decode cX3_number 9 = .ok (.iconst 2, 1) := by decide +kernel
theorem dX3_number_10 : decode cX3_number 10 = .ok (.if_icmp .ne 7, 3) := by decide +kernel
theorem dX3_number_13 : decode cX3_number 13 = .ok (.iconst 1, 1) := by decide +kernel
theorem dX3_number_14 : decode cX3_number 14 = .ok (.goto 4, 3) := by decide +kernel
theorem dX3_number_17 : decode cX3_number 17 = .ok (.iconst 0, 1) := by decide +kernel
theorem dX3_number_18 : decode cX3_number 18 = .ok (.iconst 2, 1) := by decide +kernel
theorem dX3_number_19 : decode cX3_number 19 = .ok (.invokevirtual 101, 3) := by decide +kernel
theorem dX3_number_22 : decode cX3_number 22 = .ok (.aload_n 0, 1) := by decide +kernel
theorem dX3_number_23 : decode cX3_number 23 = .ok (.getfield 28, 3) := by decide +kernel
theorem dX3_number_26 : decode cX3_number 26 = .ok (.ifCond .eq 5, 3) := by decide +kernel
theorem dX3_number_29 : decode cX3_number 29 = .ok (.iconst 0, 1) := by decide +kernel
theorem dX3_number_30 : decode cX3_number 30 = .ok (.ireturn, 1) := by decide +kernel
theorem dX3_number_31 : decode cX3_number 31 = .ok (.iconst 0, 1) := by decide +kernel
theorem dX3_number_32 : decode cX3_number 32 = .ok (.istore_n 3, 1) := by decide +kernel
theorem dX3_number_33 : decode cX3_number 33 = .ok (.aload_n 0, 1) := by decide +kernel
theorem dX3_number_34 : decode cX3_number 34 = .ok (.getfield 15, 3) := by decide +kernel
theorem dX3_number_37 : decode cX3_number 37 = .ok (.istore 4, 2) := by decide +kernel
theorem dX3_number_39 : decode cX3_number 39 = .ok (.iload 4, 2) := by decide +kernel
theorem dX3_number_41 : decode cX3_number 41 = .ok (.aload_n 0, 1) := by decide +kernel
theorem dX3_number_42 : decode cX3_number 42 = .ok (.getfield 18, 3) := by decide +kernel
theorem dX3_number_45 : decode cX3_number 45 = .ok (.if_icmp .ge 28, 3) := by decide +kernel
theorem dX3_number_48 : decode cX3_number 48 = .ok (.bipush 10, 2) := by decide +kernel
theorem dX3_number_50 : decode cX3_number 50 = .ok (.iload_n 3, 1) := by decide +kernel
theorem dX3_number_51 : decode cX3_number 51 = .ok (.imul, 1) := by decide +kernel
theorem dX3_number_52 : decode cX3_number 52 = .ok (.aload_n 0, 1) := by decide +kernel
theorem dX3_number_53 : decode cX3_number 53 = .ok (.getfield 34, 3) := by decide +kernel
theorem dX3_number_56 : decode cX3_number 56 = .ok (.getfield 155, 3) := by decide +kernel
theorem dX3_number_59 : decode cX3_number 59 = .ok (.iload 4, 2) := by decide +kernel
theorem dX3_number_61 : decode cX3_number 61 = .ok (.iaload, 1) := by decide +kernel
theorem dX3_number_62 : decode cX3_number 62 = .ok (.iadd, 1) := by decide +kernel
theorem dX3_number_63 : decode cX3_number 63 = .ok (.bipush 48, 2) := by decide +kernel
theorem dX3_number_65 : decode cX3_number 65 = .ok (.isub, 1) := by decide +kernel
theorem dX3_number_66 : decode cX3_number 66 = .ok (.istore_n 3, 1) := by decide +kernel
theorem dX3_number_67 : decode cX3_number 67 = .ok (.iinc 4 1, 3) := by decide +kernel
theorem dX3_number_70 : decode cX3_number 70 = .ok (.goto (-31), 3) := by decide +kernel
theorem dX3_number_73 : decode cX3_number 73 = .ok (.aload_n 0, 1) := by decide +kernel
theorem dX3_number_74 : decode cX3_number 74 = .ok (.iload_n 3, 1) := by decide +kernel
theorem dX3_number_75 : decode cX3_number 75 = .ok (.iload_n 1, 1) := by decide +kernel
theorem dX3_number_76 : decode cX3_number 76 = .ok (.if_icmp .lt 12, 3) := by decide +kernel
theorem dX3_number_79 : decode cX3_number 79 = .ok (.iload_n 3, 1) := by decide +kernel
theorem dX3_number_80 : decode cX3_number 80 = .ok (.iload_n 2, 1) := by decide +kernel
theorem dX3_number_81 : decode cX3_number 81 = .ok (.if_icmp .gt 7, 3) := by decide +kernel
theorem dX3_number_84 : decode cX3_number 84 = .ok (.iconst 1, 1) := by decide +kernel
theorem dX3_number_85 : decode cX3_number 85 = .ok (.goto 4, 3) := by decide +kernel
theorem dX3_number_88 : decode cX3_number 88 = .ok (.iconst 0, 1) := by decide +kernel
theorem dX3_number_89 : decode cX3_number 89 = .ok (.iconst 3, 1) := by decide +kernel
theorem dX3_number_90 : decode cX3_number 90 = .ok (.invokevirtual 101, 3) := by decide +kernel
theorem dX3_number_93 : decode cX3_number 93 = .ok (.iload_n 3, 1) := by decide +kernel
theorem dX3_number_94 : decode cX3_number 94 = .ok (.ireturn, 1) := by decide +kernel
theorem dX3_isName_0 : decode cX3_isName 0 = .ok (.aload_n 0, 1) := by decide +kernel
theorem dX3_isName_1 : decode cX3_isName 1 = .ok (.getfield 11, 3) := by decide +kernel
theorem dX3_isName_4 : decode cX3_isName 4 = .ok (.iconst 1, 1) := by decide +kernel
theorem dX3_isName_5 : decode cX3_isName 5 = .ok (.if_icmp .ne 19, 3) := by decide +kernel
theorem dX3_isName_8 : decode cX3_isName 8 = .ok (.aload_n 0, 1) := by decide +kernel
theorem dX3_isName_9 : decode cX3_isName 9 = .ok (.getfield 18, 3) := by decide +kernel
theorem dX3_isName_12 : decode cX3_isName 12 = .ok (.aload_n 0, 1) := by decide +kernel
theorem dX3_isName_13 : decode cX3_isName 13 = .ok (.getfield 15, 3) := by decide +kernel
theorem dX3_isName_16 : decode cX3_isName 16 = .ok (.isub, 1) := by decide +kernel
theorem dX3_isName_17 : decode cX3_isName 17 = .ok (.aload_n 1, 1) := by decide +kernel
theorem dX3_isName_18 : decode cX3_isName 18 = .ok (.invokevirtual 159, 3) := by decide +kernel
theorem dX3_isName_21 : decode cX3_isName 21 = .ok (.if_icmp .eq 5, 3) := by decide +kernel
theorem dX3_isName_24 : decode cX3_isName 24 = .ok (.iconst 0, 1) := by decide +kernel
theorem dX3_isName_25 : decode cX3_isName 25 = .ok (.ireturn, 1) := by decide +kernel
theorem dX3_isName_26 : decode cX3_isName 26 = .ok (.iconst 0, 1) := by decide +kernel
theorem dX3_isName_27 : decode cX3_isName 27 = .ok (.istore_n 2, 1) := by decide +kernel
theorem dX3_isName_28 : decode cX3_isName 28 = .ok (.iload_n 2, 1) := by decide +kernel
theorem dX3_isName_29 : decode cX3_isName 29 = .ok (.aload_n 1, 1) := by decide +kernel
theorem dX3_isName_30 : decode cX3_isName 30 = .ok (.invokevirtual 159, 3) := by decide +kernel
theorem dX3_isName_33 : decode cX3_isName 33 = .ok (.if_icmp .ge 33, 3) := by decide +kernel
theorem dX3_isName_36 : decode cX3_isName 36 = .ok (.aload_n 0, 1) := by decide +kernel
theorem dX3_isName_37 : decode cX3_isName 37 = .ok (.getfield 34, 3) := by decide +kernel
theorem dX3_isName_40 : decode cX3_isName 40 = .ok (.getfield 155, 3) := by decide +kernel
theorem dX3_isName_43 : decode cX3_isName 43 = .ok (.aload_n 0, 1) := by decide +kernel
theorem dX3_isName_44 : decode cX3_isName 44 = .ok (.getfield 15, 3) := by decide +kernel
theorem dX3_isName_47 : decode cX3_isName 47 = .ok (.iload_n 2, 1) := by decide +kernel
theorem dX3_isName_48 : decode cX3_isName 48 = .ok (.iadd, 1) := by decide +kernel
theorem dX3_isName_49 : decode cX3_isName 49 = .ok (.iaload, 1) := by decide +kernel
theorem dX3_isName_50 : decode cX3_isName 50 = .ok (.aload_n 1, 1) := by decide +kernel
theorem dX3_isName_51 : decode cX3_isName 51 = .ok (.iload_n 2, 1) := by decide +kernel
theorem dX3_isName_52 : decode cX3_isName 52 = .ok (.invokevirtual 163, 3) := by decide +kernel
theorem dX3_isName_55 : decode cX3_isName 55 = .ok (.if_icmp .eq 5, 3) := by decide +kernel
theorem dX3_isName_58 : decode cX3_isName 58 = .ok (.iconst 0, 1) := by decide +kernel
theorem dX3_isName_59 : decode cX3_isName 59 = .ok (.ireturn, 1) := by decide +kernel
theorem dX3_isName_60 : decode cX3_isName 60 = .ok (.iinc 2 1, 3) := by decide +kernel
theorem dX3_isName_63 : decode cX3_isName 63 = .ok (.goto (-35), 3) := by decide +kernel
theorem dX3_isName_66 : decode cX3_isName 66 = .ok (.iconst 1, 1) := by decide +kernel
theorem dX3_isName_67 : decode cX3_isName 67 = .ok (.ireturn, 1) := by decide +kernel
theorem dX3_demand_0 : decode cX3_demand 0 = .ok (.iload_n 1, 1) := by decide +kernel
theorem dX3_demand_1 : decode cX3_demand 1 = .ok (.ifCond .ne 12, 3) := by decide +kernel
theorem dX3_demand_4 : decode cX3_demand 4 = .ok (.aload_n 0, 1) := by decide +kernel
theorem dX3_demand_5 : decode cX3_demand 5 = .ok (.iload_n 2, 1) := by decide +kernel
theorem dX3_demand_6 : decode cX3_demand 6 = .ok (.aload_n 0, 1) := by decide +kernel
theorem dX3_demand_7 : decode cX3_demand 7 = .ok (.getfield 15, 3) := by decide +kernel
theorem dX3_demand_10 : decode cX3_demand 10 = .ok (.invokevirtual 73, 3) := by decide +kernel
theorem dX3_demand_13 : decode cX3_demand 13 = .ok (.return_, 1) := by decide +kernel
theorem dX3_refuse_0 : decode cX3_refuse 0 = .ok (.aload_n 0, 1) := by decide +kernel
theorem dX3_refuse_1 : decode cX3_refuse 1 = .ok (.getfield 28, 3) := by decide +kernel
theorem dX3_refuse_4 : decode cX3_refuse 4 = .ok (.ifCond .ne 13, 3) := by decide +kernel
theorem dX3_refuse_7 : decode cX3_refuse 7 = .ok (.aload_n 0, 1) := by decide +kernel
theorem dX3_refuse_8 : decode cX3_refuse 8 = .ok (.iload_n 1, 1) := by decide +kernel
theorem dX3_refuse_9 : decode cX3_refuse 9 = .ok (.putfield 28, 3) := by decide +kernel
theorem dX3_refuse_12 : decode cX3_refuse 12 = .ok (.aload_n 0, 1) := by decide +kernel
theorem dX3_refuse_13 : decode cX3_refuse 13 = .ok (.iload_n 2, 1) := by decide +kernel
theorem dX3_refuse_14 : decode cX3_refuse 14 = .ok (.putfield 31, 3) := by decide +kernel
theorem dX3_refuse_17 : decode cX3_refuse 17 = .ok (.return_, 1) := by decide +kernel
theorem dX3_advance_0 : decode cX3_advance 0 = .ok (.aload_n 0, 1) := by decide +kernel
theorem dX3_advance_1 : decode cX3_advance 1 = .ok (.getfield 28, 3) := by decide +kernel
theorem dX3_advance_4 : decode cX3_advance 4 = .ok (.ifCond .eq 4, 3) := by decide +kernel
theorem dX3_advance_7 : decode cX3_advance 7 = .ok (.return_, 1) := by decide +kernel
theorem dX3_advance_8 : decode cX3_advance 8 = .ok (.aload_n 0, 1) := by decide +kernel
theorem dX3_advance_9 : decode cX3_advance 9 = .ok (.getfield 18, 3) := by decide +kernel
theorem dX3_advance_12 : decode cX3_advance 12 = .ok (.istore_n 1, 1) := by decide +kernel
theorem dX3_advance_13 : decode cX3_advance 13 = .ok (.iload_n 1, 1) := by decide +kernel
theorem dX3_advance_14 : decode cX3_advance 14 = .ok (.aload_n 0, 1) := by decide +kernel
theorem dX3_advance_15 : decode cX3_advance 15 = .ok (.getfield 34, 3) := by decide +kernel
theorem dX3_advance_18 : decode cX3_advance 18 = .ok (.getfield 68, 3) := by decide +kernel
theorem dX3_advance_21 : decode cX3_advance 21 = .ok (.if_icmp .ge 22, 3) := by decide +kernel
theorem dX3_advance_24 : decode cX3_advance 24 = .ok (.aload_n 0, 1) := by decide +kernel
theorem dX3_advance_25 : decode cX3_advance 25 = .ok (.getfield 34, 3) := by decide +kernel
theorem dX3_advance_28 : decode cX3_advance 28 = .ok (.iload_n 1, 1) := by decide +kernel
theorem dX3_advance_29 : decode cX3_advance 29 = .ok (.bipush 32, 2) := by decide +kernel
theorem dX3_advance_31 : decode cX3_advance 31 = .ok (.invokevirtual 167, 3) := by decide +kernel
theorem dX3_advance_34 : decode cX3_advance 34 = .ok (.ifCond .eq 9, 3) := by decide +kernel
theorem dX3_advance_37 : decode cX3_advance 37 = .ok (.iinc 1 1, 3) := by decide +kernel
theorem dX3_advance_40 : decode cX3_advance 40 = .ok (.goto (-27), 3) := by decide +kernel
theorem dX3_advance_43 : decode cX3_advance 43 = .ok (.aload_n 0, 1) := by decide +kernel
theorem dX3_advance_44 : decode cX3_advance 44 = .ok (.iload_n 1, 1) := by decide +kernel
theorem dX3_advance_45 : decode cX3_advance 45 = .ok (.putfield 15, 3) := by decide +kernel
theorem dX3_advance_48 : decode cX3_advance 48 = .ok (.iload_n 1, 1) := by decide +kernel
theorem dX3_advance_49 : decode cX3_advance 49 = .ok (.aload_n 0, 1) := by decide +kernel
theorem dX3_advance_50 : decode cX3_advance 50 = .ok (.getfield 34, 3) := by decide +kernel
theorem dX3_advance_53 : decode cX3_advance 53 = .ok (.getfield 68, 3) := by decide +kernel
theorem dX3_advance_56 : decode cX3_advance 56 = .ok (.if_icmp .lt 11, 3) := by decide +kernel
theorem dX3_advance_59 : decode cX3_advance 59 = .ok (.aload_n 0, 1) := by decide +kernel
theorem dX3_advance_60 : decode cX3_advance 60 = .ok (.iconst 0, 1) := by decide +kernel
theorem dX3_advance_61 : decode cX3_advance 61 = .ok (.putfield 11, 3) := by decide +kernel
theorem dX3_advance_64 : decode cX3_advance 64 = .ok (.goto 137, 3) := by decide +kernel
theorem dX3_advance_67 : decode cX3_advance 67 = .ok (.aload_n 0, 1) := by decide +kernel
theorem dX3_advance_68 : decode cX3_advance 68 = .ok (.getfield 34, 3) := by decide +kernel
theorem dX3_advance_71 : decode cX3_advance 71 = .ok (.iload_n 1, 1) := by decide +kernel
theorem dX3_advance_72 : decode cX3_advance 72 = .ok (.invokevirtual 171, 3) := by decide +kernel
theorem dX3_advance_75 : decode cX3_advance 75 = .ok (.ifCond .eq 36, 3) := by decide +kernel
theorem dX3_advance_78 : decode cX3_advance 78 = .ok (.aload_n 0, 1) := by decide +kernel
theorem dX3_advance_79 : decode cX3_advance 79 = .ok (.iconst 1, 1) := by decide +kernel
theorem dX3_advance_80 : decode cX3_advance 80 = .ok (.putfield 11, 3) := by decide +kernel
theorem dX3_advance_83 : decode cX3_advance 83 = .ok (.iload_n 1, 1) := by decide +kernel
theorem dX3_advance_84 : decode cX3_advance 84 = .ok (.aload_n 0, 1) := by decide +kernel
theorem dX3_advance_85 : decode cX3_advance 85 = .ok (.getfield 34, 3) := by decide +kernel
theorem dX3_advance_88 : decode cX3_advance 88 = .ok (.getfield 68, 3) := by decide +kernel
theorem dX3_advance_91 : decode cX3_advance 91 = .ok (.if_icmp .ge 110, 3) := by decide +kernel
theorem dX3_advance_94 : decode cX3_advance 94 = .ok (.aload_n 0, 1) := by decide +kernel
theorem dX3_advance_95 : decode cX3_advance 95 = .ok (.getfield 34, 3) := by decide +kernel
theorem dX3_advance_98 : decode cX3_advance 98 = .ok (.iload_n 1, 1) := by decide +kernel
theorem dX3_advance_99 : decode cX3_advance 99 = .ok (.invokevirtual 171, 3) := by decide +kernel
theorem dX3_advance_102 : decode cX3_advance 102 = .ok (.ifCond .eq 99, 3) := by decide +kernel
theorem dX3_advance_105 : decode cX3_advance 105 = .ok (.iinc 1 1, 3) := by decide +kernel
theorem dX3_advance_108 : decode cX3_advance 108 = .ok (.goto (-25), 3) := by decide +kernel
theorem dX3_advance_111 : decode cX3_advance 111 = .ok (.aload_n 0, 1) := by decide +kernel
theorem dX3_advance_112 : decode cX3_advance 112 = .ok (.getfield 34, 3) := by decide +kernel
theorem dX3_advance_115 : decode cX3_advance 115 = .ok (.iload_n 1, 1) := by decide +kernel
theorem dX3_advance_116 : decode cX3_advance 116 = .ok (.invokevirtual 175, 3) := by decide +kernel
theorem dX3_advance_119 : decode cX3_advance 119 = .ok (.ifCond .eq 59, 3) := by decide +kernel
theorem dX3_advance_122 : decode cX3_advance 122 = .ok (.aload_n 0, 1) := by decide +kernel
theorem dX3_advance_123 : decode cX3_advance 123 = .ok (.iconst 2, 1) := by decide +kernel
theorem dX3_advance_124 : decode cX3_advance 124 = .ok (.putfield 11, 3) := by decide +kernel
theorem dX3_advance_127 : decode cX3_advance 127 = .ok (.iload_n 1, 1) := by decide +kernel
theorem dX3_advance_128 : decode cX3_advance 128 = .ok (.aload_n 0, 1) := by decide +kernel
theorem dX3_advance_129 : decode cX3_advance 129 = .ok (.getfield 34, 3) := by decide +kernel
theorem dX3_advance_132 : decode cX3_advance 132 = .ok (.getfield 68, 3) := by decide +kernel
theorem dX3_advance_135 : decode cX3_advance 135 = .ok (.if_icmp .ge 20, 3) := by decide +kernel
theorem dX3_advance_138 : decode cX3_advance 138 = .ok (.aload_n 0, 1) := by decide +kernel
theorem dX3_advance_139 : decode cX3_advance 139 = .ok (.getfield 34, 3) := by decide +kernel
theorem dX3_advance_142 : decode cX3_advance 142 = .ok (.iload_n 1, 1) := by decide +kernel
theorem dX3_advance_143 : decode cX3_advance 143 = .ok (.invokevirtual 175, 3) := by decide +kernel
theorem dX3_advance_146 : decode cX3_advance 146 = .ok (.ifCond .eq 9, 3) := by decide +kernel
theorem dX3_advance_149 : decode cX3_advance 149 = .ok (.iinc 1 1, 3) := by decide +kernel
theorem dX3_advance_152 : decode cX3_advance 152 = .ok (.goto (-25), 3) := by decide +kernel
theorem dX3_advance_155 : decode cX3_advance 155 = .ok (.aload_n 0, 1) := by decide +kernel
theorem dX3_advance_156 : decode cX3_advance 156 = .ok (.iload_n 1, 1) := by decide +kernel
theorem dX3_advance_157 : decode cX3_advance 157 = .ok (.aload_n 0, 1) := by decide +kernel
theorem dX3_advance_158 : decode cX3_advance 158 = .ok (.getfield 15, 3) := by decide +kernel
theorem dX3_advance_161 : decode cX3_advance 161 = .ok (.isub, 1) := by decide +kernel
theorem dX3_advance_162 : decode cX3_advance 162 = .ok (.iconst 3, 1) := by decide +kernel
theorem dX3_advance_163 : decode cX3_advance 163 = .ok (.if_icmp .gt 7, 3) := by decide +kernel
theorem dX3_advance_166 : decode cX3_advance 166 = .ok (.iconst 1, 1) := by decide +kernel
theorem dX3_advance_167 : decode cX3_advance 167 = .ok (.goto 4, 3) := by decide +kernel
theorem dX3_advance_170 : decode cX3_advance 170 = .ok (.iconst 0, 1) := by decide +kernel
theorem dX3_advance_171 : decode cX3_advance 171 = .ok (.iconst 1, 1) := by decide +kernel
theorem dX3_advance_172 : decode cX3_advance 172 = .ok (.invokevirtual 101, 3) := by decide +kernel
theorem dX3_advance_175 : decode cX3_advance 175 = .ok (.goto 26, 3) := by decide +kernel
theorem dX3_advance_178 : decode cX3_advance 178 = .ok (.aload_n 0, 1) := by decide +kernel
theorem dX3_advance_179 : decode cX3_advance 179 = .ok (.iconst 3, 1) := by decide +kernel
theorem dX3_advance_180 : decode cX3_advance 180 = .ok (.putfield 11, 3) := by decide +kernel
theorem dX3_advance_183 : decode cX3_advance 183 = .ok (.aload_n 0, 1) := by decide +kernel
theorem dX3_advance_184 : decode cX3_advance 184 = .ok (.aload_n 0, 1) := by decide +kernel
theorem dX3_advance_185 : decode cX3_advance 185 = .ok (.getfield 34, 3) := by decide +kernel
theorem dX3_advance_188 : decode cX3_advance 188 = .ok (.iload_n 1, 1) := by decide +kernel
theorem dX3_advance_189 : decode cX3_advance 189 = .ok (.bipush 59, 2) := by decide +kernel
theorem dX3_advance_191 : decode cX3_advance 191 = .ok (.invokevirtual 167, 3) := by decide +kernel
theorem dX3_advance_194 : decode cX3_advance 194 = .ok (.iconst 1, 1) := by decide +kernel
theorem dX3_advance_195 : decode cX3_advance 195 = .ok (.invokevirtual 101, 3) := by decide +kernel
theorem dX3_advance_198 : decode cX3_advance 198 = .ok (.iinc 1 1, 3) := by decide +kernel
theorem dX3_advance_201 : decode cX3_advance 201 = .ok (.aload_n 0, 1) := by decide +kernel
theorem dX3_advance_202 : decode cX3_advance 202 = .ok (.iload_n 1, 1) := by decide +kernel
theorem dX3_advance_203 : decode cX3_advance 203 = .ok (.putfield 18, 3) := by decide +kernel
theorem dX3_advance_206 : decode cX3_advance 206 = .ok (.return_, 1) := by decide +kernel
theorem dX4_init_0 : decode cX4_init 0 = .ok (.aload_n 0, 1) := by decide +kernel
theorem dX4_init_1 : decode cX4_init 1 = .ok (.invokespecial 3, 3) := by decide +kernel
theorem dX4_init_4 : decode cX4_init 4 = .ok (.aload_n 0, 1) := by decide +kernel
theorem dX4_init_5 : decode cX4_init 5 = .ok (.bipush 40, 2) := by decide +kernel
theorem dX4_init_7 : decode cX4_init 7 = .ok (.newarray .int, 2) := by decide +kernel
theorem dX4_init_9 : decode cX4_init 9 = .ok (.putfield 9, 3) := by decide +kernel
theorem dX4_init_12 : decode cX4_init 12 = .ok (.aload_n 0, 1) := by decide +kernel
theorem dX4_init_13 : decode cX4_init 13 = .ok (.iconst 0, 1) := by decide +kernel
theorem dX4_init_14 : decode cX4_init 14 = .ok (.putfield 15, 3) := by decide +kernel
theorem dX4_init_17 : decode cX4_init 17 = .ok (.aload_n 0, 1) := by decide +kernel
theorem dX4_init_18 : decode cX4_init 18 = .ok (.iconst (-1), 1) := by decide +kernel
theorem dX4_init_19 : decode cX4_init 19 = .ok (.putfield 19, 3) := by decide +kernel
theorem dX4_init_22 : decode cX4_init 22 = .ok (.return_, 1) := by decide +kernel
theorem dX4_renew_0 : decode cX4_renew 0 = .ok (.aload_n 0, 1) := by decide +kernel
theorem dX4_renew_1 : decode cX4_renew 1 = .ok (.iload_n 1, 1) := by decide +kernel
theorem dX4_renew_2 : decode cX4_renew 2 = .ok (.putfield 15, 3) := by decide +kernel
theorem dX4_renew_5 : decode cX4_renew 5 = .ok (.aload_n 0, 1) := by decide +kernel
theorem dX4_renew_6 : decode cX4_renew 6 = .ok (.iload_n 2, 1) := by decide +kernel
theorem dX4_renew_7 : decode cX4_renew 7 = .ok (.putfield 19, 3) := by decide +kernel
theorem dX4_renew_10 : decode cX4_renew 10 = .ok (.iconst 0, 1) := by decide +kernel
theorem dX4_renew_11 : decode cX4_renew 11 = .ok (.istore_n 3, 1) := by decide +kernel
theorem dX4_renew_12 : decode cX4_renew 12 = .ok (.iload_n 3, 1) := by decide +kernel
theorem dX4_renew_13 : decode cX4_renew 13 = .ok (.aload_n 0, 1) := by decide +kernel
theorem dX4_renew_14 : decode cX4_renew 14 = .ok (.getfield 9, 3) := by decide +kernel
theorem dX4_renew_17 : decode cX4_renew 17 = .ok (.arraylength, 1) := by decide +kernel
theorem dX4_renew_18 : decode cX4_renew 18 = .ok (.if_icmp .ge 16, 3) := by decide +kernel
theorem dX4_renew_21 : decode cX4_renew 21 = .ok (.aload_n 0, 1) := by decide +kernel
theorem dX4_renew_22 : decode cX4_renew 22 = .ok (.getfield 9, 3) := by decide +kernel
theorem dX4_renew_25 : decode cX4_renew 25 = .ok (.iload_n 3, 1) := by decide +kernel
theorem dX4_renew_26 : decode cX4_renew 26 = .ok (.iconst 0, 1) := by decide +kernel
theorem dX4_renew_27 : decode cX4_renew 27 = .ok (.iastore, 1) := by decide +kernel
theorem dX4_renew_28 : decode cX4_renew 28 = .ok (.iinc 3 1, 3) := by decide +kernel
theorem dX4_renew_31 : decode cX4_renew 31 = .ok (.goto (-19), 3) := by decide +kernel
theorem dX4_renew_34 : decode cX4_renew 34 = .ok (.return_, 1) := by decide +kernel
theorem dX4_faultOf_0 : decode cX4_faultOf 0 = .ok (.aload_n 0, 1) := by decide +kernel
theorem dX4_faultOf_1 : decode cX4_faultOf 1 = .ok (.getfield 19, 3) := by decide +kernel
theorem dX4_faultOf_4 : decode cX4_faultOf 4 = .ok (.ifCond .ge 5, 3) := by decide +kernel
theorem dX4_faultOf_7 : decode cX4_faultOf 7 = .ok (.iconst 1, 1) := by decide +kernel
theorem dX4_faultOf_8 : decode cX4_faultOf 8 = .ok (.ireturn, 1) := by decide +kernel
theorem dX4_faultOf_9 : decode cX4_faultOf 9 = .ok (.iload_n 1, 1) := by decide +kernel
theorem dX4_faultOf_10 : decode cX4_faultOf 10 = .ok (.aload_n 0, 1) := by decide +kernel
theorem dX4_faultOf_11 : decode cX4_faultOf 11 = .ok (.getfield 15, 3) := by decide +kernel
theorem dX4_faultOf_14 : decode cX4_faultOf 14 = .ok (.if_icmp .eq 5, 3) := by decide +kernel
theorem dX4_faultOf_17 : decode cX4_faultOf 17 = .ok (.iconst 3, 1) := by decide +kernel
theorem dX4_faultOf_18 : decode cX4_faultOf 18 = .ok (.ireturn, 1) := by decide +kernel
theorem dX4_faultOf_19 : decode cX4_faultOf 19 = .ok (.lload_n 2, 1) := by decide +kernel
theorem dX4_faultOf_20 : decode cX4_faultOf 20 = .ok (.lconst 0, 1) := by decide +kernel
theorem dX4_faultOf_21 : decode cX4_faultOf 21 = .ok (.lcmp, 1) := by decide +kernel
theorem dX4_faultOf_22 : decode cX4_faultOf 22 = .ok (.ifCond .lt 17, 3) := by decide +kernel
theorem dX4_faultOf_25 : decode cX4_faultOf 25 = .ok (.lload_n 2, 1) := by decide +kernel
theorem dX4_faultOf_26 : decode cX4_faultOf 26 = .ok (.iload 4, 2) := by decide +kernel
theorem dX4_faultOf_28 : decode cX4_faultOf 28 = .ok (.i2l, 1) := by decide +kernel
theorem dX4_faultOf_29 : decode cX4_faultOf 29 = .ok (.ladd, 1) := by decide +kernel
theorem dX4_faultOf_30 : decode cX4_faultOf 30 = .ok (.aload_n 0, 1) := by decide +kernel
theorem dX4_faultOf_31 : decode cX4_faultOf 31 = .ok (.getfield 19, 3) := by decide +kernel
theorem dX4_faultOf_34 : decode cX4_faultOf 34 = .ok (.i2l, 1) := by decide +kernel
theorem dX4_faultOf_35 : decode cX4_faultOf 35 = .ok (.lcmp, 1) := by decide +kernel
theorem dX4_faultOf_36 : decode cX4_faultOf 36 = .ok (.ifCond .le 7, 3) := by decide +kernel
theorem dX4_faultOf_39 : decode cX4_faultOf 39 = .ok (.iconst 2, 1) := by decide +kernel
theorem dX4_faultOf_40 : decode cX4_faultOf 40 = .ok (.goto 4, 3) := by decide +kernel
theorem dX4_faultOf_43 : decode cX4_faultOf 43 = .ok (.iconst 0, 1) := by decide +kernel
theorem dX4_faultOf_44 : decode cX4_faultOf 44 = .ok (.ireturn, 1) := by decide +kernel
theorem dX4_put_0 : decode cX4_put 0 = .ok (.aload_n 0, 1) := by decide +kernel
theorem dX4_put_1 : decode cX4_put 1 = .ok (.getfield 15, 3) := by decide +kernel
theorem dX4_put_4 : decode cX4_put 4 = .ok (.lookupswitch 50 #[(0, 28), (1, 39)], 28) := by decide +kernel
theorem dX4_put_32 : decode cX4_put 32 = .ok (.aload_n 0, 1) := by decide +kernel
theorem dX4_put_33 : decode cX4_put 33 = .ok (.getfield 9, 3) := by decide +kernel
theorem dX4_put_36 : decode cX4_put 36 = .ok (.iload_n 1, 1) := by decide +kernel
theorem dX4_put_37 : decode cX4_put 37 = .ok (.iload_n 2, 1) := by decide +kernel
theorem dX4_put_38 : decode cX4_put 38 = .ok (.i2b, 1) := by decide +kernel
theorem dX4_put_39 : decode cX4_put 39 = .ok (.iastore, 1) := by decide +kernel
theorem dX4_put_40 : decode cX4_put 40 = .ok (.goto 21, 3) := by decide +kernel
theorem dX4_put_43 : decode cX4_put 43 = .ok (.aload_n 0, 1) := by decide +kernel
theorem dX4_put_44 : decode cX4_put 44 = .ok (.getfield 9, 3) := by decide +kernel
theorem dX4_put_47 : decode cX4_put 47 = .ok (.iload_n 1, 1) := by decide +kernel
theorem dX4_put_48 : decode cX4_put 48 = .ok (.iload_n 2, 1) := by decide +kernel
theorem dX4_put_49 : decode cX4_put 49 = .ok (.i2s, 1) := by decide +kernel
theorem dX4_put_50 : decode cX4_put 50 = .ok (.iastore, 1) := by decide +kernel
theorem dX4_put_51 : decode cX4_put 51 = .ok (.goto 10, 3) := by decide +kernel
theorem dX4_put_54 : decode cX4_put 54 = .ok (.aload_n 0, 1) := by decide +kernel
theorem dX4_put_55 : decode cX4_put 55 = .ok (.getfield 9, 3) := by decide +kernel
theorem dX4_put_58 : decode cX4_put 58 = .ok (.iload_n 1, 1) := by decide +kernel
theorem dX4_put_59 : decode cX4_put 59 = .ok (.iload_n 2, 1) := by decide +kernel
theorem dX4_put_60 : decode cX4_put 60 = .ok (.iastore, 1) := by decide +kernel
theorem dX4_put_61 : decode cX4_put 61 = .ok (.return_, 1) := by decide +kernel
theorem dX5_init_0 : decode cX5_init 0 = .ok (.aload_n 0, 1) := by decide +kernel
theorem dX5_init_1 : decode cX5_init 1 = .ok (.invokespecial 1, 3) := by decide +kernel
theorem dX5_init_4 : decode cX5_init 4 = .ok (.aload_n 0, 1) := by decide +kernel
theorem dX5_init_5 : decode cX5_init 5 = .ok (.iconst 0, 1) := by decide +kernel
theorem dX5_init_6 : decode cX5_init 6 = .ok (.putfield 7, 3) := by decide +kernel
theorem dX5_init_9 : decode cX5_init 9 = .ok (.aload_n 0, 1) := by decide +kernel
theorem dX5_init_10 : decode cX5_init 10 = .ok (.iconst 0, 1) := by decide +kernel
theorem dX5_init_11 : decode cX5_init 11 = .ok (.putfield 13, 3) := by decide +kernel
theorem dX5_init_14 : decode cX5_init 14 = .ok (.aload_n 0, 1) := by decide +kernel
theorem dX5_init_15 : decode cX5_init 15 = .ok (.iconst 0, 1) := by decide +kernel
theorem dX5_init_16 : decode cX5_init 16 = .ok (.putfield 16, 3) := by decide +kernel
theorem dX5_init_19 : decode cX5_init 19 = .ok (.return_, 1) := by decide +kernel
theorem dX5_tell_0 : decode cX5_tell 0 = .ok (.aload_n 0, 1) := by decide +kernel
theorem dX5_tell_1 : decode cX5_tell 1 = .ok (.iload_n 1, 1) := by decide +kernel
theorem dX5_tell_2 : decode cX5_tell 2 = .ok (.putfield 7, 3) := by decide +kernel
theorem dX5_tell_5 : decode cX5_tell 5 = .ok (.aload_n 0, 1) := by decide +kernel
theorem dX5_tell_6 : decode cX5_tell 6 = .ok (.iload_n 2, 1) := by decide +kernel
theorem dX5_tell_7 : decode cX5_tell 7 = .ok (.putfield 13, 3) := by decide +kernel
theorem dX5_tell_10 : decode cX5_tell 10 = .ok (.aload_n 0, 1) := by decide +kernel
theorem dX5_tell_11 : decode cX5_tell 11 = .ok (.iload_n 3, 1) := by decide +kernel
theorem dX5_tell_12 : decode cX5_tell 12 = .ok (.putfield 16, 3) := by decide +kernel
theorem dX5_tell_15 : decode cX5_tell 15 = .ok (.return_, 1) := by decide +kernel
theorem dX6_init_0 : decode cX6_init 0 = .ok (.aload_n 0, 1) := by decide +kernel
theorem dX6_init_1 : decode cX6_init 1 = .ok (.invokespecial 3, 3) := by decide +kernel
theorem dX6_init_4 : decode cX6_init 4 = .ok (.aload_n 0, 1) := by decide +kernel
theorem dX6_init_5 : decode cX6_init 5 = .ok (.sipush 400, 3) := by decide +kernel
theorem dX6_init_8 : decode cX6_init 8 = .ok (.newarray .int, 2) := by decide +kernel
theorem dX6_init_10 : decode cX6_init 10 = .ok (.putfield 9, 3) := by decide +kernel
theorem dX6_init_13 : decode cX6_init 13 = .ok (.aload_n 0, 1) := by decide +kernel
theorem dX6_init_14 : decode cX6_init 14 = .ok (.iconst 0, 1) := by decide +kernel
theorem dX6_init_15 : decode cX6_init 15 = .ok (.putfield 15, 3) := by decide +kernel
theorem dX6_init_18 : decode cX6_init 18 = .ok (.return_, 1) := by decide +kernel
theorem dX6_take_0 : decode cX6_take 0 = .ok (.aload_n 0, 1) := by decide +kernel
theorem dX6_take_1 : decode cX6_take 1 = .ok (.getfield 15, 3) := by decide +kernel
theorem dX6_take_4 : decode cX6_take 4 = .ok (.bipush 8, 2) := by decide +kernel
theorem dX6_take_6 : decode cX6_take 6 = .ok (.iadd, 1) := by decide +kernel
theorem dX6_take_7 : decode cX6_take 7 = .ok (.sipush 400, 3) := by decide +kernel
theorem dX6_take_10 : decode cX6_take 10 = .ok (.if_icmp .le 5, 3) := by decide +kernel
theorem dX6_take_13 : decode cX6_take 13 = .ok (.iconst 0, 1) := by decide +kernel
theorem dX6_take_14 : decode cX6_take 14 = .ok (.ireturn, 1) := by decide +kernel
theorem dX6_take_15 : decode cX6_take 15 = .ok (.iconst 0, 1) := by decide +kernel
theorem dX6_take_16 : decode cX6_take 16 = .ok (.istore_n 3, 1) := by decide +kernel
theorem dX6_take_17 : decode cX6_take 17 = .ok (.iload_n 3, 1) := by decide +kernel
theorem dX6_take_18 : decode cX6_take 18 = .ok (.bipush 8, 2) := by decide +kernel
theorem dX6_take_20 : decode cX6_take 20 = .ok (.if_icmp .ge 34, 3) := by decide +kernel
theorem dX6_take_23 : decode cX6_take 23 = .ok (.aload_n 0, 1) := by decide +kernel
theorem dX6_take_24 : decode cX6_take 24 = .ok (.getfield 9, 3) := by decide +kernel
theorem dX6_take_27 : decode cX6_take 27 = .ok (.aload_n 0, 1) := by decide +kernel
theorem dX6_take_28 : decode cX6_take 28 = .ok (.getfield 15, 3) := by decide +kernel
theorem dX6_take_31 : decode cX6_take 31 = .ok (.iload_n 3, 1) := by decide +kernel
theorem dX6_take_32 : decode cX6_take 32 = .ok (.iadd, 1) := by decide +kernel
theorem dX6_take_33 : decode cX6_take 33 = .ok (.lload_n 1, 1) := by decide +kernel
theorem dX6_take_34 : decode cX6_take 34 = .ok (.bipush 56, 2) := by decide +kernel
theorem dX6_take_36 : decode cX6_take 36 = .ok (.bipush 8, 2) := by decide +kernel
theorem dX6_take_38 : decode cX6_take 38 = .ok (.iload_n 3, 1) := by decide +kernel
theorem dX6_take_39 : decode cX6_take 39 = .ok (.imul, 1) := by decide +kernel
theorem dX6_take_40 : decode cX6_take 40 = .ok (.isub, 1) := by decide +kernel
theorem dX6_take_41 : decode cX6_take 41 = .ok (.lushr, 1) := by decide +kernel
theorem dX6_take_42 : decode cX6_take 42 = .ok (.ldc2_w 19, 3) := by decide +kernel
theorem dX6_take_45 : decode cX6_take 45 = .ok (.land, 1) := by decide +kernel
theorem dX6_take_46 : decode cX6_take 46 = .ok (.l2i, 1) := by decide +kernel
theorem dX6_take_47 : decode cX6_take 47 = .ok (.iastore, 1) := by decide +kernel
theorem dX6_take_48 : decode cX6_take 48 = .ok (.iinc 3 1, 3) := by decide +kernel
theorem dX6_take_51 : decode cX6_take 51 = .ok (.goto (-34), 3) := by decide +kernel
theorem dX6_take_54 : decode cX6_take 54 = .ok (.aload_n 0, 1) := by decide +kernel
theorem dX6_take_55 : decode cX6_take 55 = .ok (.dup, 1) := by decide +kernel
theorem dX6_take_56 : decode cX6_take 56 = .ok (.getfield 15, 3) := by decide +kernel
theorem dX6_take_59 : decode cX6_take 59 = .ok (.bipush 8, 2) := by decide +kernel
theorem dX6_take_61 : decode cX6_take 61 = .ok (.iadd, 1) := by decide +kernel
theorem dX6_take_62 : decode cX6_take 62 = .ok (.putfield 15, 3) := by decide +kernel
theorem dX6_take_65 : decode cX6_take 65 = .ok (.iconst 1, 1) := by decide +kernel
theorem dX6_take_66 : decode cX6_take 66 = .ok (.ireturn, 1) := by decide +kernel
theorem dX6_isLetter_0 : decode cX6_isLetter 0 = .ok (.iload_n 1, 1) := by decide +kernel
theorem dX6_isLetter_1 : decode cX6_isLetter 1 = .ok (.aload_n 0, 1) := by decide +kernel
theorem dX6_isLetter_2 : decode cX6_isLetter 2 = .ok (.getfield 15, 3) := by decide +kernel
theorem dX6_isLetter_5 : decode cX6_isLetter 5 = .ok (.if_icmp .ge 29, 3) := by decide +kernel
theorem dX6_isLetter_8 : decode cX6_isLetter 8 = .ok (.aload_n 0, 1) := by decide +kernel
theorem dX6_isLetter_9 : decode cX6_isLetter 9 = .ok (.getfield 9, 3) := by decide +kernel
theorem dX6_isLetter_12 : decode cX6_isLetter 12 = .ok (.iload_n 1, 1) := by decide +kernel
theorem dX6_isLetter_13 : decode cX6_isLetter 13 = .ok (.iaload, 1) := by decide +kernel
theorem dX6_isLetter_14 : decode cX6_isLetter 14 = .ok (.bipush 97, 2) := by decide +kernel
theorem dX6_isLetter_16 : decode cX6_isLetter 16 = .ok (.if_icmp .lt 18, 3) := by decide +kernel
theorem dX6_isLetter_19 : decode cX6_isLetter 19 = .ok (.aload_n 0, 1) := by decide +kernel
theorem dX6_isLetter_20 : decode cX6_isLetter 20 = .ok (.getfield 9, 3) := by decide +kernel
theorem dX6_isLetter_23 : decode cX6_isLetter 23 = .ok (.iload_n 1, 1) := by decide +kernel
theorem dX6_isLetter_24 : decode cX6_isLetter 24 = .ok (.iaload, 1) := by decide +kernel
theorem dX6_isLetter_25 : decode cX6_isLetter 25 = .ok (.bipush 122, 2) := by decide +kernel
theorem dX6_isLetter_27 : decode cX6_isLetter 27 = .ok (.if_icmp .gt 7, 3) := by decide +kernel
theorem dX6_isLetter_30 : decode cX6_isLetter 30 = .ok (.iconst 1, 1) := by decide +kernel
theorem dX6_isLetter_31 : decode cX6_isLetter 31 = .ok (.goto 4, 3) := by decide +kernel
theorem dX6_isLetter_34 : decode cX6_isLetter 34 = .ok (.iconst 0, 1) := by decide +kernel
theorem dX6_isLetter_35 : decode cX6_isLetter 35 = .ok (.ireturn, 1) := by decide +kernel
theorem dX6_isDigit_0 : decode cX6_isDigit 0 = .ok (.iload_n 1, 1) := by decide +kernel
theorem dX6_isDigit_1 : decode cX6_isDigit 1 = .ok (.aload_n 0, 1) := by decide +kernel
theorem dX6_isDigit_2 : decode cX6_isDigit 2 = .ok (.getfield 15, 3) := by decide +kernel
theorem dX6_isDigit_5 : decode cX6_isDigit 5 = .ok (.if_icmp .ge 29, 3) := by decide +kernel
theorem dX6_isDigit_8 : decode cX6_isDigit 8 = .ok (.aload_n 0, 1) := by decide +kernel
theorem dX6_isDigit_9 : decode cX6_isDigit 9 = .ok (.getfield 9, 3) := by decide +kernel
theorem dX6_isDigit_12 : decode cX6_isDigit 12 = .ok (.iload_n 1, 1) := by decide +kernel
theorem dX6_isDigit_13 : decode cX6_isDigit 13 = .ok (.iaload, 1) := by decide +kernel
theorem dX6_isDigit_14 : decode cX6_isDigit 14 = .ok (.bipush 48, 2) := by decide +kernel
theorem dX6_isDigit_16 : decode cX6_isDigit 16 = .ok (.if_icmp .lt 18, 3) := by decide +kernel
theorem dX6_isDigit_19 : decode cX6_isDigit 19 = .ok (.aload_n 0, 1) := by decide +kernel
theorem dX6_isDigit_20 : decode cX6_isDigit 20 = .ok (.getfield 9, 3) := by decide +kernel
theorem dX6_isDigit_23 : decode cX6_isDigit 23 = .ok (.iload_n 1, 1) := by decide +kernel
theorem dX6_isDigit_24 : decode cX6_isDigit 24 = .ok (.iaload, 1) := by decide +kernel
theorem dX6_isDigit_25 : decode cX6_isDigit 25 = .ok (.bipush 57, 2) := by decide +kernel
theorem dX6_isDigit_27 : decode cX6_isDigit 27 = .ok (.if_icmp .gt 7, 3) := by decide +kernel
theorem dX6_isDigit_30 : decode cX6_isDigit 30 = .ok (.iconst 1, 1) := by decide +kernel
theorem dX6_isDigit_31 : decode cX6_isDigit 31 = .ok (.goto 4, 3) := by decide +kernel
theorem dX6_isDigit_34 : decode cX6_isDigit 34 = .ok (.iconst 0, 1) := by decide +kernel
theorem dX6_isDigit_35 : decode cX6_isDigit 35 = .ok (.ireturn, 1) := by decide +kernel
theorem dX6_isSign_0 : decode cX6_isSign 0 = .ok (.iload_n 1, 1) := by decide +kernel
theorem dX6_isSign_1 : decode cX6_isSign 1 = .ok (.aload_n 0, 1) := by decide +kernel
theorem dX6_isSign_2 : decode cX6_isSign 2 = .ok (.getfield 15, 3) := by decide +kernel
theorem dX6_isSign_5 : decode cX6_isSign 5 = .ok (.if_icmp .ge 17, 3) := by decide +kernel
theorem dX6_isSign_8 : decode cX6_isSign 8 = .ok (.aload_n 0, 1) := by decide +kernel
theorem dX6_isSign_9 : decode cX6_isSign 9 = .ok (.getfield 9, 3) := by decide +kernel
theorem dX6_isSign_12 : decode cX6_isSign 12 = .ok (.iload_n 1, 1) := by decide +kernel
theorem dX6_isSign_13 : decode cX6_isSign 13 = .ok (.iaload, 1) := by decide +kernel
theorem dX6_isSign_14 : decode cX6_isSign 14 = .ok (.iload_n 2, 1) := by decide +kernel
theorem dX6_isSign_15 : decode cX6_isSign 15 = .ok (.if_icmp .ne 7, 3) := by decide +kernel
theorem dX6_isSign_18 : decode cX6_isSign 18 = .ok (.iconst 1, 1) := by decide +kernel
theorem dX6_isSign_19 : decode cX6_isSign 19 = .ok (.goto 4, 3) := by decide +kernel
theorem dX6_isSign_22 : decode cX6_isSign 22 = .ok (.iconst 0, 1) := by decide +kernel
theorem dX6_isSign_23 : decode cX6_isSign 23 = .ok (.ireturn, 1) := by decide +kernel
theorem dX7_init_0 : decode cX7_init 0 = .ok (.aload_n 0, 1) := by decide +kernel
theorem dX7_init_1 : decode cX7_init 1 = .ok (.invokespecial 3, 3) := by decide +kernel
theorem dX7_init_4 : decode cX7_init 4 = .ok (.aload_n 0, 1) := by decide +kernel
theorem dX7_init_5 : decode cX7_init 5 = .ok (.iconst 0, 1) := by decide +kernel
theorem dX7_init_6 : decode cX7_init 6 = .ok (.putfield 9, 3) := by decide +kernel
theorem dX7_init_9 : decode cX7_init 9 = .ok (.aload_n 0, 1) := by decide +kernel
theorem dX7_init_10 : decode cX7_init 10 = .ok (.iconst 0, 1) := by decide +kernel
theorem dX7_init_11 : decode cX7_init 11 = .ok (.putfield 15, 3) := by decide +kernel
theorem dX7_init_14 : decode cX7_init 14 = .ok (.aload_n 0, 1) := by decide +kernel
theorem dX7_init_15 : decode cX7_init 15 = .ok (.iconst 2, 1) := by decide +kernel
theorem dX7_init_16 : decode cX7_init 16 = .ok (.putfield 18, 3) := by decide +kernel
theorem dX7_init_19 : decode cX7_init 19 = .ok (.aload_n 0, 1) := by decide +kernel
theorem dX7_init_20 : decode cX7_init 20 = .ok (.iconst 0, 1) := by decide +kernel
theorem dX7_init_21 : decode cX7_init 21 = .ok (.putfield 21, 3) := by decide +kernel
theorem dX7_init_24 : decode cX7_init 24 = .ok (.aload_n 0, 1) := by decide +kernel
theorem dX7_init_25 : decode cX7_init 25 = .ok (.iconst 0, 1) := by decide +kernel
theorem dX7_init_26 : decode cX7_init 26 = .ok (.putfield 24, 3) := by decide +kernel
theorem dX7_init_29 : decode cX7_init 29 = .ok (.return_, 1) := by decide +kernel
theorem dX7_become_0 : decode cX7_become 0 = .ok (.aload_n 0, 1) := by decide +kernel
theorem dX7_become_1 : decode cX7_become 1 = .ok (.aload_n 1, 1) := by decide +kernel
theorem dX7_become_2 : decode cX7_become 2 = .ok (.getfield 9, 3) := by decide +kernel
theorem dX7_become_5 : decode cX7_become 5 = .ok (.putfield 9, 3) := by decide +kernel
theorem dX7_become_8 : decode cX7_become 8 = .ok (.aload_n 0, 1) := by decide +kernel
theorem dX7_become_9 : decode cX7_become 9 = .ok (.aload_n 1, 1) := by decide +kernel
theorem dX7_become_10 : decode cX7_become 10 = .ok (.getfield 15, 3) := by decide +kernel
theorem dX7_become_13 : decode cX7_become 13 = .ok (.putfield 15, 3) := by decide +kernel
theorem dX7_become_16 : decode cX7_become 16 = .ok (.aload_n 0, 1) := by decide +kernel
theorem dX7_become_17 : decode cX7_become 17 = .ok (.aload_n 1, 1) := by decide +kernel
theorem dX7_become_18 : decode cX7_become 18 = .ok (.getfield 18, 3) := by decide +kernel
theorem dX7_become_21 : decode cX7_become 21 = .ok (.putfield 18, 3) := by decide +kernel
theorem dX7_become_24 : decode cX7_become 24 = .ok (.aload_n 0, 1) := by decide +kernel
theorem dX7_become_25 : decode cX7_become 25 = .ok (.aload_n 1, 1) := by decide +kernel
theorem dX7_become_26 : decode cX7_become 26 = .ok (.getfield 21, 3) := by decide +kernel
theorem dX7_become_29 : decode cX7_become 29 = .ok (.putfield 21, 3) := by decide +kernel
theorem dX7_become_32 : decode cX7_become 32 = .ok (.aload_n 0, 1) := by decide +kernel
theorem dX7_become_33 : decode cX7_become 33 = .ok (.aload_n 1, 1) := by decide +kernel
theorem dX7_become_34 : decode cX7_become 34 = .ok (.getfield 24, 3) := by decide +kernel
theorem dX7_become_37 : decode cX7_become 37 = .ok (.putfield 24, 3) := by decide +kernel
theorem dX7_become_40 : decode cX7_become 40 = .ok (.return_, 1) := by decide +kernel
theorem dX8_init_0 : decode cX8_init 0 = .ok (.aload_n 0, 1) := by decide +kernel
theorem dX8_init_1 : decode cX8_init 1 = .ok (.invokespecial 3, 3) := by decide +kernel
theorem dX8_init_4 : decode cX8_init 4 = .ok (.aload_n 0, 1) := by decide +kernel
theorem dX8_init_5 : decode cX8_init 5 = .ok (.new 9, 3) := by decide +kernel
theorem dX8_init_8 : decode cX8_init 8 = .ok (.dup, 1) := by decide +kernel
theorem dX8_init_9 : decode cX8_init 9 = .ok (.invokespecial 11, 3) := by decide +kernel
theorem dX8_init_12 : decode cX8_init 12 = .ok (.putfield 12, 3) := by decide +kernel
theorem dX8_init_15 : decode cX8_init 15 = .ok (.aload_n 0, 1) := by decide +kernel
theorem dX8_init_16 : decode cX8_init 16 = .ok (.new 16, 3) := by decide +kernel
theorem dX8_init_19 : decode cX8_init 19 = .ok (.dup, 1) := by decide +kernel
theorem dX8_init_20 : decode cX8_init 20 = .ok (.invokespecial 18, 3) := by decide +kernel
theorem dX8_init_23 : decode cX8_init 23 = .ok (.putfield 19, 3) := by decide +kernel
theorem dX8_init_26 : decode cX8_init 26 = .ok (.aload_n 0, 1) := by decide +kernel
theorem dX8_init_27 : decode cX8_init 27 = .ok (.new 16, 3) := by decide +kernel
theorem dX8_init_30 : decode cX8_init 30 = .ok (.dup, 1) := by decide +kernel
theorem dX8_init_31 : decode cX8_init 31 = .ok (.invokespecial 18, 3) := by decide +kernel
theorem dX8_init_34 : decode cX8_init 34 = .ok (.putfield 23, 3) := by decide +kernel
theorem dX8_init_37 : decode cX8_init 37 = .ok (.aload_n 0, 1) := by decide +kernel
theorem dX8_init_38 : decode cX8_init 38 = .ok (.iconst 2, 1) := by decide +kernel
theorem dX8_init_39 : decode cX8_init 39 = .ok (.anewarray 16, 3) := by decide +kernel
theorem dX8_init_42 : decode cX8_init 42 = .ok (.putfield 26, 3) := by decide +kernel
theorem dX8_init_45 : decode cX8_init 45 = .ok (.aload_n 0, 1) := by decide +kernel
theorem dX8_init_46 : decode cX8_init 46 = .ok (.iconst 2, 1) := by decide +kernel
theorem dX8_init_47 : decode cX8_init 47 = .ok (.newarray .boolean, 2) := by decide +kernel
theorem dX8_init_49 : decode cX8_init 49 = .ok (.putfield 30, 3) := by decide +kernel
theorem dX8_init_52 : decode cX8_init 52 = .ok (.aload_n 0, 1) := by decide +kernel
theorem dX8_init_53 : decode cX8_init 53 = .ok (.iconst 4, 1) := by decide +kernel
theorem dX8_init_54 : decode cX8_init 54 = .ok (.anewarray 34, 3) := by decide +kernel
theorem dX8_init_57 : decode cX8_init 57 = .ok (.putfield 36, 3) := by decide +kernel
theorem dX8_init_60 : decode cX8_init 60 = .ok (.aload_n 0, 1) := by decide +kernel
theorem dX8_init_61 : decode cX8_init 61 = .ok (.new 40, 3) := by decide +kernel
theorem dX8_init_64 : decode cX8_init 64 = .ok (.dup, 1) := by decide +kernel
theorem dX8_init_65 : decode cX8_init 65 = .ok (.invokespecial 42, 3) := by decide +kernel
theorem dX8_init_68 : decode cX8_init 68 = .ok (.putfield 43, 3) := by decide +kernel
theorem dX8_init_71 : decode cX8_init 71 = .ok (.aload_n 0, 1) := by decide +kernel
theorem dX8_init_72 : decode cX8_init 72 = .ok (.new 47, 3) := by decide +kernel
theorem dX8_init_75 : decode cX8_init 75 = .ok (.dup, 1) := by decide +kernel
theorem dX8_init_76 : decode cX8_init 76 = .ok (.invokespecial 49, 3) := by decide +kernel
theorem dX8_init_79 : decode cX8_init 79 = .ok (.putfield 50, 3) := by decide +kernel
theorem dX8_init_82 : decode cX8_init 82 = .ok (.aload_n 0, 1) := by decide +kernel
theorem dX8_init_83 : decode cX8_init 83 = .ok (.bipush 6, 2) := by decide +kernel
theorem dX8_init_85 : decode cX8_init 85 = .ok (.newarray .int, 2) := by decide +kernel
theorem dX8_init_87 : decode cX8_init 87 = .ok (.putfield 54, 3) := by decide +kernel
theorem dX8_init_90 : decode cX8_init 90 = .ok (.aload_n 0, 1) := by decide +kernel
theorem dX8_init_91 : decode cX8_init 91 = .ok (.bipush 6, 2) := by decide +kernel
theorem dX8_init_93 : decode cX8_init 93 = .ok (.newarray .int, 2) := by decide +kernel
theorem dX8_init_95 : decode cX8_init 95 = .ok (.putfield 58, 3) := by decide +kernel
theorem dX8_init_98 : decode cX8_init 98 = .ok (.aload_n 0, 1) := by decide +kernel
theorem dX8_init_99 : decode cX8_init 99 = .ok (.bipush 9, 2) := by decide +kernel
theorem dX8_init_101 : decode cX8_init 101 = .ok (.newarray .int, 2) := by decide +kernel
theorem dX8_init_103 : decode cX8_init 103 = .ok (.putfield 61, 3) := by decide +kernel
theorem dX8_init_106 : decode cX8_init 106 = .ok (.aload_n 0, 1) := by decide +kernel
theorem dX8_init_107 : decode cX8_init 107 = .ok (.iconst 0, 1) := by decide +kernel
theorem dX8_init_108 : decode cX8_init 108 = .ok (.putfield 64, 3) := by decide +kernel
theorem dX8_init_111 : decode cX8_init 111 = .ok (.aload_n 0, 1) := by decide +kernel
theorem dX8_init_112 : decode cX8_init 112 = .ok (.iconst 0, 1) := by decide +kernel
theorem dX8_init_113 : decode cX8_init 113 = .ok (.putfield 68, 3) := by decide +kernel
theorem dX8_init_116 : decode cX8_init 116 = .ok (.iconst 0, 1) := by decide +kernel
theorem dX8_init_117 : decode cX8_init 117 = .ok (.istore_n 1, 1) := by decide +kernel
theorem dX8_init_118 : decode cX8_init 118 = .ok (.iload_n 1, 1) := by decide +kernel
theorem dX8_init_119 : decode cX8_init 119 = .ok (.aload_n 0, 1) := by decide +kernel
theorem dX8_init_120 : decode cX8_init 120 = .ok (.getfield 26, 3) := by decide +kernel
theorem dX8_init_123 : decode cX8_init 123 = .ok (.arraylength, 1) := by decide +kernel
theorem dX8_init_124 : decode cX8_init 124 = .ok (.if_icmp .ge 22, 3) := by decide +kernel
theorem dX8_init_127 : decode cX8_init 127 = .ok (.aload_n 0, 1) := by decide +kernel
theorem dX8_init_128 : decode cX8_init 128 = .ok (.getfield 26, 3) := by decide +kernel
theorem dX8_init_131 : decode cX8_init 131 = .ok (.iload_n 1, 1) := by decide +kernel
theorem dX8_init_132 : decode cX8_init 132 = .ok (.new 16, 3) := by decide +kernel
theorem dX8_init_135 : decode cX8_init 135 = .ok (.dup, 1) := by decide +kernel
theorem dX8_init_136 : decode cX8_init 136 = .ok (.invokespecial 18, 3) := by decide +kernel
theorem dX8_init_139 : decode cX8_init 139 = .ok (.aastore, 1) := by decide +kernel
theorem dX8_init_140 : decode cX8_init 140 = .ok (.iinc 1 1, 3) := by decide +kernel
theorem dX8_init_143 : decode cX8_init 143 = .ok (.goto (-25), 3) := by decide +kernel
theorem dX8_init_146 : decode cX8_init 146 = .ok (.iconst 0, 1) := by decide +kernel
theorem dX8_init_147 : decode cX8_init 147 = .ok (.istore_n 1, 1) := by decide +kernel
theorem dX8_init_148 : decode cX8_init 148 = .ok (.iload_n 1, 1) := by decide +kernel
theorem dX8_init_149 : decode cX8_init 149 = .ok (.aload_n 0, 1) := by decide +kernel
theorem dX8_init_150 : decode cX8_init 150 = .ok (.getfield 36, 3) := by decide +kernel
theorem dX8_init_153 : decode cX8_init 153 = .ok (.arraylength, 1) := by decide +kernel
theorem dX8_init_154 : decode cX8_init 154 = .ok (.if_icmp .ge 22, 3) := by decide +kernel
theorem dX8_init_157 : decode cX8_init 157 = .ok (.aload_n 0, 1) := by decide +kernel
theorem dX8_init_158 : decode cX8_init 158 = .ok (.getfield 36, 3) := by decide +kernel
theorem dX8_init_161 : decode cX8_init 161 = .ok (.iload_n 1, 1) := by decide +kernel
theorem dX8_init_162 : decode cX8_init 162 = .ok (.new 34, 3) := by decide +kernel
theorem dX8_init_165 : decode cX8_init 165 = .ok (.dup, 1) := by decide +kernel
theorem dX8_init_166 : decode cX8_init 166 = .ok (.invokespecial 71, 3) := by decide +kernel
theorem dX8_init_169 : decode cX8_init 169 = .ok (.aastore, 1) := by decide +kernel
theorem dX8_init_170 : decode cX8_init 170 = .ok (.iinc 1 1, 3) := by decide +kernel
theorem dX8_init_173 : decode cX8_init 173 = .ok (.goto (-25), 3) := by decide +kernel
theorem dX8_init_176 : decode cX8_init 176 = .ok (.return_, 1) := by decide +kernel
theorem dX8_feed_0 : decode cX8_feed 0 = .ok (.aload_n 0, 1) := by decide +kernel
theorem dX8_feed_1 : decode cX8_feed 1 = .ok (.getfield 12, 3) := by decide +kernel
theorem dX8_feed_4 : decode cX8_feed 4 = .ok (.lload_n 1, 1) := by decide +kernel
theorem dX8_feed_5 : decode cX8_feed 5 = .ok (.invokevirtual 72, 3) := by decide +kernel
theorem dX8_feed_8 : decode cX8_feed 8 = .ok (.ifCond .eq 13, 3) := by decide +kernel
theorem dX8_feed_11 : decode cX8_feed 11 = .ok (.aload_n 0, 1) := by decide +kernel
theorem dX8_feed_12 : decode cX8_feed 12 = .ok (.getfield 12, 3) := by decide +kernel
theorem dX8_feed_15 : decode cX8_feed 15 = .ok (.getfield 76, 3) := by decide +kernel
theorem dX8_feed_18 : decode cX8_feed 18 = .ok (.goto 5, 3) := by decide +kernel
theorem dX8_feed_21 : decode cX8_feed 21 = .ok (.bipush (-3), 2) := by decide +kernel
theorem dX8_feed_23 : decode cX8_feed 23 = .ok (.ireturn, 1) := by decide +kernel
theorem dX8_end_0 : decode cX8_end 0 = .ok (.iload_n 1, 1) := by decide +kernel
theorem dX8_end_1 : decode cX8_end 1 = .ok (.ifCond .lt 14, 3) := by decide +kernel
theorem dX8_end_4 : decode cX8_end 4 = .ok (.iload_n 1, 1) := by decide +kernel
theorem dX8_end_5 : decode cX8_end 5 = .ok (.aload_n 0, 1) := by decide +kernel
theorem dX8_end_6 : decode cX8_end 6 = .ok (.getfield 12, 3) := by decide +kernel
theorem dX8_end_9 : decode cX8_end 9 = .ok (.getfield 76, 3) := by decide +kernel
theorem dX8_end_12 : decode cX8_end 12 = .ok (.if_icmp .le 5, 3) := by decide +kernel
theorem dX8_end_15 : decode cX8_end 15 = .ok (.iconst (-1), 1) := by decide +kernel
theorem dX8_end_16 : decode cX8_end 16 = .ok (.ireturn, 1) := by decide +kernel
theorem dX8_end_17 : decode cX8_end 17 = .ok (.aload_n 0, 1) := by decide +kernel
theorem dX8_end_18 : decode cX8_end 18 = .ok (.getfield 12, 3) := by decide +kernel
theorem dX8_end_21 : decode cX8_end 21 = .ok (.getfield 76, 3) := by decide +kernel
theorem dX8_end_24 : decode cX8_end 24 = .ok (.istore_n 2, 1) := by decide +kernel
theorem dX8_end_25 : decode cX8_end 25 = .ok (.aload_n 0, 1) := by decide +kernel
theorem dX8_end_26 : decode cX8_end 26 = .ok (.getfield 12, 3) := by decide +kernel
theorem dX8_end_29 : decode cX8_end 29 = .ok (.iload_n 1, 1) := by decide +kernel
theorem dX8_end_30 : decode cX8_end 30 = .ok (.putfield 76, 3) := by decide +kernel
theorem dX8_end_33 : decode cX8_end 33 = .ok (.iload_n 2, 1) := by decide +kernel
theorem dX8_end_34 : decode cX8_end 34 = .ok (.ireturn, 1) := by decide +kernel
theorem dX8_text_0 : decode cX8_text 0 = .ok (.new 79, 3) := by decide +kernel
theorem dX8_text_3 : decode cX8_text 3 = .ok (.dup, 1) := by decide +kernel
theorem dX8_text_4 : decode cX8_text 4 = .ok (.aload_n 0, 1) := by decide +kernel
theorem dX8_text_5 : decode cX8_text 5 = .ok (.getfield 12, 3) := by decide +kernel
theorem dX8_text_8 : decode cX8_text 8 = .ok (.aload_n 0, 1) := by decide +kernel
theorem dX8_text_9 : decode cX8_text 9 = .ok (.getfield 23, 3) := by decide +kernel
theorem dX8_text_12 : decode cX8_text 12 = .ok (.invokespecial 81, 3) := by decide +kernel
theorem dX8_text_15 : decode cX8_text 15 = .ok (.astore_n 1, 1) := by decide +kernel
theorem dX8_text_16 : decode cX8_text 16 = .ok (.aload_n 1, 1) := by decide +kernel
theorem dX8_text_17 : decode cX8_text 17 = .ok (.invokevirtual 84, 3) := by decide +kernel
theorem dX8_text_20 : decode cX8_text 20 = .ok (.istore_n 2, 1) := by decide +kernel
theorem dX8_text_21 : decode cX8_text 21 = .ok (.aload_n 0, 1) := by decide +kernel
theorem dX8_text_22 : decode cX8_text 22 = .ok (.getfield 12, 3) := by decide +kernel
theorem dX8_text_25 : decode cX8_text 25 = .ok (.iconst 0, 1) := by decide +kernel
theorem dX8_text_26 : decode cX8_text 26 = .ok (.putfield 76, 3) := by decide +kernel
theorem dX8_text_29 : decode cX8_text 29 = .ok (.aload_n 0, 1) := by decide +kernel
theorem dX8_text_30 : decode cX8_text 30 = .ok (.aload_n 1, 1) := by decide +kernel
theorem dX8_text_31 : decode cX8_text 31 = .ok (.getfield 88, 3) := by decide +kernel
theorem dX8_text_34 : decode cX8_text 34 = .ok (.putfield 64, 3) := by decide +kernel
theorem dX8_text_37 : decode cX8_text 37 = .ok (.aload_n 0, 1) := by decide +kernel
theorem dX8_text_38 : decode cX8_text 38 = .ok (.getfield 64, 3) := by decide +kernel
theorem dX8_text_41 : decode cX8_text 41 = .ok (.ifCond .eq 11, 3) := by decide +kernel
theorem dX8_text_44 : decode cX8_text 44 = .ok (.bipush (-10), 2) := by decide +kernel
theorem dX8_text_46 : decode cX8_text 46 = .ok (.aload_n 1, 1) := by decide +kernel
theorem dX8_text_47 : decode cX8_text 47 = .ok (.getfield 91, 3) := by decide +kernel
theorem dX8_text_50 : decode cX8_text 50 = .ok (.isub, 1) := by decide +kernel
theorem dX8_text_51 : decode cX8_text 51 = .ok (.ireturn, 1) := by decide +kernel
theorem dX8_text_52 : decode cX8_text 52 = .ok (.aload_n 0, 1) := by decide +kernel
theorem dX8_text_53 : decode cX8_text 53 = .ok (.getfield 19, 3) := by decide +kernel
theorem dX8_text_56 : decode cX8_text 56 = .ok (.aload_n 0, 1) := by decide +kernel
theorem dX8_text_57 : decode cX8_text 57 = .ok (.getfield 23, 3) := by decide +kernel
theorem dX8_text_60 : decode cX8_text 60 = .ok (.invokevirtual 94, 3) := by decide +kernel
theorem dX8_text_63 : decode cX8_text 63 = .ok (.iconst 0, 1) := by decide +kernel
theorem dX8_text_64 : decode cX8_text 64 = .ok (.istore_n 3, 1) := by decide +kernel
theorem dX8_text_65 : decode cX8_text 65 = .ok (.iload_n 3, 1) := by decide +kernel
theorem dX8_text_66 : decode cX8_text 66 = .ok (.aload_n 0, 1) := by decide +kernel
theorem dX8_text_67 : decode cX8_text 67 = .ok (.getfield 30, 3) := by decide +kernel
theorem dX8_text_70 : decode cX8_text 70 = .ok (.arraylength, 1) := by decide +kernel
theorem dX8_text_71 : decode cX8_text 71 = .ok (.if_icmp .ge 16, 3) := by decide +kernel
theorem dX8_text_74 : decode cX8_text 74 = .ok (.aload_n 0, 1) := by decide +kernel
theorem dX8_text_75 : decode cX8_text 75 = .ok (.getfield 30, 3) := by decide +kernel
theorem dX8_text_78 : decode cX8_text 78 = .ok (.iload_n 3, 1) := by decide +kernel
theorem dX8_text_79 : decode cX8_text 79 = .ok (.iconst 0, 1) := by decide +kernel
theorem dX8_text_80 : decode cX8_text 80 = .ok (.bastore, 1) := by decide +kernel
theorem dX8_text_81 : decode cX8_text 81 = .ok (.iinc 3 1, 3) := by decide +kernel
theorem dX8_text_84 : decode cX8_text 84 = .ok (.goto (-19), 3) := by decide +kernel
theorem dX8_text_87 : decode cX8_text 87 = .ok (.iload_n 2, 1) := by decide +kernel
theorem dX8_text_88 : decode cX8_text 88 = .ok (.ireturn, 1) := by decide +kernel
theorem dX8_fault_0 : decode cX8_fault 0 = .ok (.aload_n 0, 1) := by decide +kernel
theorem dX8_fault_1 : decode cX8_fault 1 = .ok (.getfield 64, 3) := by decide +kernel
theorem dX8_fault_4 : decode cX8_fault 4 = .ok (.ireturn, 1) := by decide +kernel
theorem dX8_rule_0 : decode cX8_rule 0 = .ok (.iload_n 1, 1) := by decide +kernel
theorem dX8_rule_1 : decode cX8_rule 1 = .ok (.tableswitch 87 0 5 #[39, 47, 55, 63, 71, 79], 39) := by decide +kernel
theorem dX8_rule_40 : decode cX8_rule 40 = .ok (.aload_n 0, 1) := by decide +kernel
theorem dX8_rule_41 : decode cX8_rule 41 = .ok (.getfield 19, 3) := by decide +kernel
theorem dX8_rule_44 : decode cX8_rule 44 = .ok (.getfield 98, 3) := by decide +kernel
theorem dX8_rule_47 : decode cX8_rule 47 = .ok (.ireturn, 1) := by decide +kernel
theorem dX8_rule_48 : decode cX8_rule 48 = .ok (.aload_n 0, 1) := by decide +kernel
theorem dX8_rule_49 : decode cX8_rule 49 = .ok (.getfield 19, 3) := by decide +kernel
theorem dX8_rule_52 : decode cX8_rule 52 = .ok (.getfield 101, 3) := by decide +kernel
theorem dX8_rule_55 : decode cX8_rule 55 = .ok (.ireturn, 1) := by decide +kernel
theorem dX8_rule_56 : decode cX8_rule 56 = .ok (.aload_n 0, 1) := by decide +kernel
theorem dX8_rule_57 : decode cX8_rule 57 = .ok (.getfield 19, 3) := by decide +kernel
theorem dX8_rule_60 : decode cX8_rule 60 = .ok (.getfield 104, 3) := by decide +kernel
theorem dX8_rule_63 : decode cX8_rule 63 = .ok (.ireturn, 1) := by decide +kernel
theorem dX8_rule_64 : decode cX8_rule 64 = .ok (.aload_n 0, 1) := by decide +kernel
theorem dX8_rule_65 : decode cX8_rule 65 = .ok (.getfield 19, 3) := by decide +kernel
theorem dX8_rule_68 : decode cX8_rule 68 = .ok (.getfield 107, 3) := by decide +kernel
theorem dX8_rule_71 : decode cX8_rule 71 = .ok (.ireturn, 1) := by decide +kernel
theorem dX8_rule_72 : decode cX8_rule 72 = .ok (.aload_n 0, 1) := by decide +kernel
theorem dX8_rule_73 : decode cX8_rule 73 = .ok (.getfield 19, 3) := by decide +kernel
theorem dX8_rule_76 : decode cX8_rule 76 = .ok (.getfield 110, 3) := by decide +kernel
theorem dX8_rule_79 : decode cX8_rule 79 = .ok (.ireturn, 1) := by decide +kernel
theorem dX8_rule_80 : decode cX8_rule 80 = .ok (.aload_n 0, 1) := by decide +kernel
theorem dX8_rule_81 : decode cX8_rule 81 = .ok (.getfield 19, 3) := by decide +kernel
theorem dX8_rule_84 : decode cX8_rule 84 = .ok (.getfield 113, 3) := by decide +kernel
theorem dX8_rule_87 : decode cX8_rule 87 = .ok (.ireturn, 1) := by decide +kernel
theorem dX8_rule_88 : decode cX8_rule 88 = .ok (.iconst (-1), 1) := by decide +kernel
theorem dX8_rule_89 : decode cX8_rule 89 = .ok (.ireturn, 1) := by decide +kernel
theorem dX8_figure_0 : decode cX8_figure 0 = .ok (.aload_n 0, 1) := by decide +kernel
theorem dX8_figure_1 : decode cX8_figure 1 = .ok (.iload_n 1, 1) := by decide +kernel
theorem dX8_figure_2 : decode cX8_figure 2 = .ok (.invokevirtual 116, 3) := by decide +kernel
theorem dX8_figure_5 : decode cX8_figure 5 = .ok (.ifCond .ne 5, 3) := by decide +kernel
theorem dX8_figure_8 : decode cX8_figure 8 = .ok (.iconst (-1), 1) := by decide +kernel
theorem dX8_figure_9 : decode cX8_figure 9 = .ok (.ireturn, 1) := by decide +kernel
theorem dX8_figure_10 : decode cX8_figure 10 = .ok (.aload_n 0, 1) := by decide +kernel
theorem dX8_figure_11 : decode cX8_figure 11 = .ok (.getfield 19, 3) := by decide +kernel
theorem dX8_figure_14 : decode cX8_figure 14 = .ok (.getfield 120, 3) := by decide +kernel
theorem dX8_figure_17 : decode cX8_figure 17 = .ok (.iload_n 1, 1) := by decide +kernel
theorem dX8_figure_18 : decode cX8_figure 18 = .ok (.aaload, 1) := by decide +kernel
theorem dX8_figure_19 : decode cX8_figure 19 = .ok (.astore_n 3, 1) := by decide +kernel
theorem dX8_figure_20 : decode cX8_figure 20 = .ok (.iload_n 2, 1) := by decide +kernel
theorem dX8_figure_21 : decode cX8_figure 21 = .ok (.tableswitch 102 0 6 #[43, 48, 53, 58, 63, 80, 97], 43) := by decide +kernel
theorem dX8_figure_64 : decode cX8_figure 64 = .ok (.aload_n 3, 1) := by decide +kernel
theorem dX8_figure_65 : decode cX8_figure 65 = .ok (.invokevirtual 124, 3) := by decide +kernel
theorem dX8_figure_68 : decode cX8_figure 68 = .ok (.ireturn, 1) := by decide +kernel
theorem dX8_figure_69 : decode cX8_figure 69 = .ok (.aload_n 3, 1) := by decide +kernel
theorem dX8_figure_70 : decode cX8_figure 70 = .ok (.getfield 127, 3) := by decide +kernel
theorem dX8_figure_73 : decode cX8_figure 73 = .ok (.ireturn, 1) := by decide +kernel
theorem dX8_figure_74 : decode cX8_figure 74 = .ok (.aload_n 3, 1) := by decide +kernel
theorem dX8_figure_75 : decode cX8_figure 75 = .ok (.getfield 130, 3) := by decide +kernel
theorem dX8_figure_78 : decode cX8_figure 78 = .ok (.ireturn, 1) := by decide +kernel
theorem dX8_figure_79 : decode cX8_figure 79 = .ok (.aload_n 3, 1) := by decide +kernel
theorem dX8_figure_80 : decode cX8_figure 80 = .ok (.getfield 133, 3) := by decide +kernel
theorem dX8_figure_83 : decode cX8_figure 83 = .ok (.ireturn, 1) := by decide +kernel
theorem dX8_figure_84 : decode cX8_figure 84 = .ok (.aload_n 3, 1) := by decide +kernel
theorem dX8_figure_85 : decode cX8_figure 85 = .ok (.getfield 136, 3) := by decide +kernel
theorem dX8_figure_88 : decode cX8_figure 88 = .ok (.ifCond .le 10, 3) := by decide +kernel
theorem dX8_figure_91 : decode cX8_figure 91 = .ok (.aload_n 3, 1) := by decide +kernel
theorem dX8_figure_92 : decode cX8_figure 92 = .ok (.getfield 136, 3) := by decide +kernel
theorem dX8_figure_95 : decode cX8_figure 95 = .ok (.goto 5, 3) := by decide +kernel
theorem dX8_figure_98 : decode cX8_figure 98 = .ok (.bipush (-4), 2) := by decide +kernel
theorem dX8_figure_100 : decode cX8_figure 100 = .ok (.ireturn, 1) := by decide +kernel
theorem dX8_figure_101 : decode cX8_figure 101 = .ok (.aload_n 3, 1) := by decide +kernel
theorem dX8_figure_102 : decode cX8_figure 102 = .ok (.getfield 139, 3) := by decide +kernel
theorem dX8_figure_105 : decode cX8_figure 105 = .ok (.ifCond .le 10, 3) := by decide +kernel
theorem dX8_figure_108 : decode cX8_figure 108 = .ok (.aload_n 3, 1) := by decide +kernel
theorem dX8_figure_109 : decode cX8_figure 109 = .ok (.getfield 139, 3) := by decide +kernel
theorem dX8_figure_112 : decode cX8_figure 112 = .ok (.goto 5, 3) := by decide +kernel
theorem dX8_figure_115 : decode cX8_figure 115 = .ok (.bipush (-4), 2) := by decide +kernel
theorem dX8_figure_117 : decode cX8_figure 117 = .ok (.ireturn, 1) := by decide +kernel
theorem dX8_figure_118 : decode cX8_figure 118 = .ok (.aload_n 3, 1) := by decide +kernel
theorem dX8_figure_119 : decode cX8_figure 119 = .ok (.invokevirtual 142, 3) := by decide +kernel
theorem dX8_figure_122 : decode cX8_figure 122 = .ok (.ireturn, 1) := by decide +kernel
theorem dX8_figure_123 : decode cX8_figure 123 = .ok (.iconst (-1), 1) := by decide +kernel
theorem dX8_figure_124 : decode cX8_figure 124 = .ok (.ireturn, 1) := by decide +kernel
theorem dX8_vote_0 : decode cX8_vote 0 = .ok (.iload_n 1, 1) := by decide +kernel
theorem dX8_vote_1 : decode cX8_vote 1 = .ok (.ifCond .lt 14, 3) := by decide +kernel
theorem dX8_vote_4 : decode cX8_vote 4 = .ok (.iload_n 1, 1) := by decide +kernel
theorem dX8_vote_5 : decode cX8_vote 5 = .ok (.aload_n 0, 1) := by decide +kernel
theorem dX8_vote_6 : decode cX8_vote 6 = .ok (.getfield 19, 3) := by decide +kernel
theorem dX8_vote_9 : decode cX8_vote 9 = .ok (.getfield 113, 3) := by decide +kernel
theorem dX8_vote_12 : decode cX8_vote 12 = .ok (.if_icmp .lt 5, 3) := by decide +kernel
theorem dX8_vote_15 : decode cX8_vote 15 = .ok (.iconst (-1), 1) := by decide +kernel
theorem dX8_vote_16 : decode cX8_vote 16 = .ok (.ireturn, 1) := by decide +kernel
theorem dX8_vote_17 : decode cX8_vote 17 = .ok (.aload_n 0, 1) := by decide +kernel
theorem dX8_vote_18 : decode cX8_vote 18 = .ok (.getfield 19, 3) := by decide +kernel
theorem dX8_vote_21 : decode cX8_vote 21 = .ok (.getfield 145, 3) := by decide +kernel
theorem dX8_vote_24 : decode cX8_vote 24 = .ok (.iload_n 1, 1) := by decide +kernel
theorem dX8_vote_25 : decode cX8_vote 25 = .ok (.aaload, 1) := by decide +kernel
theorem dX8_vote_26 : decode cX8_vote 26 = .ok (.astore_n 3, 1) := by decide +kernel
theorem dX8_vote_27 : decode cX8_vote 27 = .ok (.iload_n 2, 1) := by decide +kernel
theorem dX8_vote_28 : decode cX8_vote 28 = .ok (.tableswitch 61 0 4 #[36, 41, 46, 51, 56], 36) := by decide +kernel
theorem dX8_vote_64 : decode cX8_vote 64 = .ok (.aload_n 3, 1) := by decide +kernel
theorem dX8_vote_65 : decode cX8_vote 65 = .ok (.getfield 149, 3) := by decide +kernel
theorem dX8_vote_68 : decode cX8_vote 68 = .ok (.ireturn, 1) := by decide +kernel
theorem dX8_vote_69 : decode cX8_vote 69 = .ok (.aload_n 3, 1) := by decide +kernel
theorem dX8_vote_70 : decode cX8_vote 70 = .ok (.getfield 154, 3) := by decide +kernel
theorem dX8_vote_73 : decode cX8_vote 73 = .ok (.ireturn, 1) := by decide +kernel
theorem dX8_vote_74 : decode cX8_vote 74 = .ok (.aload_n 3, 1) := by decide +kernel
theorem dX8_vote_75 : decode cX8_vote 75 = .ok (.getfield 157, 3) := by decide +kernel
theorem dX8_vote_78 : decode cX8_vote 78 = .ok (.ireturn, 1) := by decide +kernel
theorem dX8_vote_79 : decode cX8_vote 79 = .ok (.aload_n 3, 1) := by decide +kernel
theorem dX8_vote_80 : decode cX8_vote 80 = .ok (.getfield 158, 3) := by decide +kernel
theorem dX8_vote_83 : decode cX8_vote 83 = .ok (.ireturn, 1) := by decide +kernel
theorem dX8_vote_84 : decode cX8_vote 84 = .ok (.aload_n 3, 1) := by decide +kernel
theorem dX8_vote_85 : decode cX8_vote 85 = .ok (.getfield 159, 3) := by decide +kernel
theorem dX8_vote_88 : decode cX8_vote 88 = .ok (.ireturn, 1) := by decide +kernel
theorem dX8_vote_89 : decode cX8_vote 89 = .ok (.iconst (-1), 1) := by decide +kernel
theorem dX8_vote_90 : decode cX8_vote 90 = .ok (.ireturn, 1) := by decide +kernel
theorem dX8_out_0 : decode cX8_out 0 = .ok (.aload_n 0, 1) := by decide +kernel
theorem dX8_out_1 : decode cX8_out 1 = .ok (.iload_n 1, 1) := by decide +kernel
theorem dX8_out_2 : decode cX8_out 2 = .ok (.invokevirtual 116, 3) := by decide +kernel
theorem dX8_out_5 : decode cX8_out 5 = .ok (.ifCond .eq 10, 3) := by decide +kernel
theorem dX8_out_8 : decode cX8_out 8 = .ok (.lload_n 2, 1) := by decide +kernel
theorem dX8_out_9 : decode cX8_out 9 = .ok (.invokestatic 160, 3) := by decide +kernel
theorem dX8_out_12 : decode cX8_out 12 = .ok (.ifCond .ne 5, 3) := by decide +kernel
theorem dX8_out_15 : decode cX8_out 15 = .ok (.iconst (-1), 1) := by decide +kernel
theorem dX8_out_16 : decode cX8_out 16 = .ok (.ireturn, 1) := by decide +kernel
theorem dX8_out_17 : decode cX8_out 17 = .ok (.aload_n 0, 1) := by decide +kernel
theorem dX8_out_18 : decode cX8_out 18 = .ok (.getfield 19, 3) := by decide +kernel
theorem dX8_out_21 : decode cX8_out 21 = .ok (.getfield 120, 3) := by decide +kernel
theorem dX8_out_24 : decode cX8_out 24 = .ok (.iload_n 1, 1) := by decide +kernel
theorem dX8_out_25 : decode cX8_out 25 = .ok (.aaload, 1) := by decide +kernel
theorem dX8_out_26 : decode cX8_out 26 = .ok (.lload_n 2, 1) := by decide +kernel
theorem dX8_out_27 : decode cX8_out 27 = .ok (.invokevirtual 163, 3) := by decide +kernel
theorem dX8_out_30 : decode cX8_out 30 = .ok (.ifCond .eq 7, 3) := by decide +kernel
theorem dX8_out_33 : decode cX8_out 33 = .ok (.iconst 1, 1) := by decide +kernel
theorem dX8_out_34 : decode cX8_out 34 = .ok (.goto 4, 3) := by decide +kernel
theorem dX8_out_37 : decode cX8_out 37 = .ok (.iconst 0, 1) := by decide +kernel
theorem dX8_out_38 : decode cX8_out 38 = .ok (.ireturn, 1) := by decide +kernel
theorem dX8_next_0 : decode cX8_next 0 = .ok (.aload_n 0, 1) := by decide +kernel
theorem dX8_next_1 : decode cX8_next 1 = .ok (.iload_n 1, 1) := by decide +kernel
theorem dX8_next_2 : decode cX8_next 2 = .ok (.invokevirtual 116, 3) := by decide +kernel
theorem dX8_next_5 : decode cX8_next 5 = .ok (.ifCond .eq 10, 3) := by decide +kernel
theorem dX8_next_8 : decode cX8_next 8 = .ok (.lload_n 2, 1) := by decide +kernel
theorem dX8_next_9 : decode cX8_next 9 = .ok (.invokestatic 160, 3) := by decide +kernel
theorem dX8_next_12 : decode cX8_next 12 = .ok (.ifCond .ne 7, 3) := by decide +kernel
theorem dX8_next_15 : decode cX8_next 15 = .ok (.ldc2_w 166, 3) := by decide +kernel
theorem dX8_next_18 : decode cX8_next 18 = .ok (.lreturn, 1) := by decide +kernel
theorem dX8_next_19 : decode cX8_next 19 = .ok (.aload_n 0, 1) := by decide +kernel
theorem dX8_next_20 : decode cX8_next 20 = .ok (.getfield 43, 3) := by decide +kernel
theorem dX8_next_23 : decode cX8_next 23 = .ok (.aload_n 0, 1) := by decide +kernel
theorem dX8_next_24 : decode cX8_next 24 = .ok (.getfield 19, 3) := by decide +kernel
theorem dX8_next_27 : decode cX8_next 27 = .ok (.getfield 120, 3) := by decide +kernel
theorem dX8_next_30 : decode cX8_next 30 = .ok (.iconst 1, 1) := by decide +kernel
theorem dX8_next_31 : decode cX8_next 31 = .ok (.iload_n 1, 1) := by decide +kernel
theorem dX8_next_32 : decode cX8_next 32 = .ok (.ishl, 1) := by decide +kernel
theorem dX8_next_33 : decode cX8_next 33 = .ok (.lload_n 2, 1) := by decide +kernel
theorem dX8_next_34 : decode cX8_next 34 = .ok (.invokevirtual 168, 3) := by decide +kernel
theorem dX8_next_37 : decode cX8_next 37 = .ok (.lreturn, 1) := by decide +kernel
theorem dX8_last_0 : decode cX8_last 0 = .ok (.aload_n 0, 1) := by decide +kernel
theorem dX8_last_1 : decode cX8_last 1 = .ok (.iload_n 1, 1) := by decide +kernel
theorem dX8_last_2 : decode cX8_last 2 = .ok (.invokevirtual 116, 3) := by decide +kernel
theorem dX8_last_5 : decode cX8_last 5 = .ok (.ifCond .eq 10, 3) := by decide +kernel
theorem dX8_last_8 : decode cX8_last 8 = .ok (.lload_n 2, 1) := by decide +kernel
theorem dX8_last_9 : decode cX8_last 9 = .ok (.invokestatic 160, 3) := by decide +kernel
theorem dX8_last_12 : decode cX8_last 12 = .ok (.ifCond .ne 7, 3) := by decide +kernel
theorem dX8_last_15 : decode cX8_last 15 = .ok (.ldc2_w 166, 3) := by decide +kernel
theorem dX8_last_18 : decode cX8_last 18 = .ok (.lreturn, 1) := by decide +kernel
theorem dX8_last_19 : decode cX8_last 19 = .ok (.aload_n 0, 1) := by decide +kernel
theorem dX8_last_20 : decode cX8_last 20 = .ok (.getfield 19, 3) := by decide +kernel
theorem dX8_last_23 : decode cX8_last 23 = .ok (.getfield 120, 3) := by decide +kernel
theorem dX8_last_26 : decode cX8_last 26 = .ok (.iload_n 1, 1) := by decide +kernel
theorem dX8_last_27 : decode cX8_last 27 = .ok (.aaload, 1) := by decide +kernel
theorem dX8_last_28 : decode cX8_last 28 = .ok (.astore 4, 2) := by decide +kernel
theorem dX8_last_30 : decode cX8_last 30 = .ok (.ldc2_w 172, 3) := by decide +kernel
theorem dX8_last_33 : decode cX8_last 33 = .ok (.lstore 5, 2) := by decide +kernel
theorem dX8_last_35 : decode cX8_last 35 = .ok (.iconst 0, 1) := by decide +kernel
theorem dX8_last_36 : decode cX8_last 36 = .ok (.istore 7, 2) := by decide +kernel
theorem dX8_last_38 : decode cX8_last 38 = .ok (.iload 7, 2) := by decide +kernel
theorem dX8_last_40 : decode cX8_last 40 = .ok (.aload 4, 2) := by decide +kernel
theorem dX8_last_42 : decode cX8_last 42 = .ok (.invokevirtual 174, 3) := by decide +kernel
theorem dX8_last_45 : decode cX8_last 45 = .ok (.if_icmp .ge 51, 3) := by decide +kernel
theorem dX8_last_48 : decode cX8_last 48 = .ok (.lload_n 2, 1) := by decide +kernel
theorem dX8_last_49 : decode cX8_last 49 = .ok (.lload_n 2, 1) := by decide +kernel
theorem dX8_last_50 : decode cX8_last 50 = .ok (.aload 4, 2) := by decide +kernel
theorem dX8_last_52 : decode cX8_last 52 = .ok (.iload 7, 2) := by decide +kernel
theorem dX8_last_54 : decode cX8_last 54 = .ok (.invokevirtual 177, 3) := by decide +kernel
theorem dX8_last_57 : decode cX8_last 57 = .ok (.i2l, 1) := by decide +kernel
theorem dX8_last_58 : decode cX8_last 58 = .ok (.lsub, 1) := by decide +kernel
theorem dX8_last_59 : decode cX8_last 59 = .ok (.aload 4, 2) := by decide +kernel
theorem dX8_last_61 : decode cX8_last 61 = .ok (.invokevirtual 142, 3) := by decide +kernel
theorem dX8_last_64 : decode cX8_last 64 = .ok (.i2l, 1) := by decide +kernel
theorem dX8_last_65 : decode cX8_last 65 = .ok (.invokestatic 181, 3) := by decide +kernel
theorem dX8_last_68 : decode cX8_last 68 = .ok (.lsub, 1) := by decide +kernel
theorem dX8_last_69 : decode cX8_last 69 = .ok (.lstore 8, 2) := by decide +kernel
theorem dX8_last_71 : decode cX8_last 71 = .ok (.lload 8, 2) := by decide +kernel
theorem dX8_last_73 : decode cX8_last 73 = .ok (.lconst 0, 1) := by decide +kernel
theorem dX8_last_74 : decode cX8_last 74 = .ok (.lcmp, 1) := by decide +kernel
theorem dX8_last_75 : decode cX8_last 75 = .ok (.ifCond .lt 15, 3) := by decide +kernel
theorem dX8_last_78 : decode cX8_last 78 = .ok (.lload 8, 2) := by decide +kernel
theorem dX8_last_80 : decode cX8_last 80 = .ok (.lload 5, 2) := by decide +kernel
theorem dX8_last_82 : decode cX8_last 82 = .ok (.lcmp, 1) := by decide +kernel
theorem dX8_last_83 : decode cX8_last 83 = .ok (.ifCond .le 7, 3) := by decide +kernel
theorem dX8_last_86 : decode cX8_last 86 = .ok (.lload 8, 2) := by decide +kernel
theorem dX8_last_88 : decode cX8_last 88 = .ok (.lstore 5, 2) := by decide +kernel
theorem dX8_last_90 : decode cX8_last 90 = .ok (.iinc 7 1, 3) := by decide +kernel
theorem dX8_last_93 : decode cX8_last 93 = .ok (.goto (-55), 3) := by decide +kernel
theorem dX8_last_96 : decode cX8_last 96 = .ok (.lload 5, 2) := by decide +kernel
theorem dX8_last_98 : decode cX8_last 98 = .ok (.lreturn, 1) := by decide +kernel
theorem dX8_often_0 : decode cX8_often 0 = .ok (.aload_n 0, 1) := by decide +kernel
theorem dX8_often_1 : decode cX8_often 1 = .ok (.iload_n 1, 1) := by decide +kernel
theorem dX8_often_2 : decode cX8_often 2 = .ok (.invokevirtual 116, 3) := by decide +kernel
theorem dX8_often_5 : decode cX8_often 5 = .ok (.ifCond .eq 12, 3) := by decide +kernel
theorem dX8_often_8 : decode cX8_often 8 = .ok (.lload_n 2, 1) := by decide +kernel
theorem dX8_often_9 : decode cX8_often 9 = .ok (.lload 4, 2) := by decide +kernel
theorem dX8_often_11 : decode cX8_often 11 = .ok (.invokestatic 185, 3) := by decide +kernel
theorem dX8_often_14 : decode cX8_often 14 = .ok (.ifCond .ne 7, 3) := by decide +kernel
theorem dX8_often_17 : decode cX8_often 17 = .ok (.ldc2_w 166, 3) := by decide +kernel
theorem dX8_often_20 : decode cX8_often 20 = .ok (.lreturn, 1) := by decide +kernel
theorem dX8_often_21 : decode cX8_often 21 = .ok (.aload_n 0, 1) := by decide +kernel
theorem dX8_often_22 : decode cX8_often 22 = .ok (.getfield 43, 3) := by decide +kernel
theorem dX8_often_25 : decode cX8_often 25 = .ok (.aload_n 0, 1) := by decide +kernel
theorem dX8_often_26 : decode cX8_often 26 = .ok (.getfield 19, 3) := by decide +kernel
theorem dX8_often_29 : decode cX8_often 29 = .ok (.getfield 120, 3) := by decide +kernel
theorem dX8_often_32 : decode cX8_often 32 = .ok (.iconst 1, 1) := by decide +kernel
theorem dX8_often_33 : decode cX8_often 33 = .ok (.iload_n 1, 1) := by decide +kernel
theorem dX8_often_34 : decode cX8_often 34 = .ok (.ishl, 1) := by decide +kernel
theorem dX8_often_35 : decode cX8_often 35 = .ok (.lload_n 2, 1) := by decide +kernel
theorem dX8_often_36 : decode cX8_often 36 = .ok (.lload 4, 2) := by decide +kernel
theorem dX8_often_38 : decode cX8_often 38 = .ok (.invokevirtual 189, 3) := by decide +kernel
theorem dX8_often_41 : decode cX8_often 41 = .ok (.lreturn, 1) := by decide +kernel
theorem dX8_together_0 : decode cX8_together 0 = .ok (.aload_n 0, 1) := by decide +kernel
theorem dX8_together_1 : decode cX8_together 1 = .ok (.iload_n 1, 1) := by decide +kernel
theorem dX8_together_2 : decode cX8_together 2 = .ok (.iload_n 2, 1) := by decide +kernel
theorem dX8_together_3 : decode cX8_together 3 = .ok (.invokevirtual 193, 3) := by decide +kernel
theorem dX8_together_6 : decode cX8_together 6 = .ok (.ifCond .eq 10, 3) := by decide +kernel
theorem dX8_together_9 : decode cX8_together 9 = .ok (.lload_n 3, 1) := by decide +kernel
theorem dX8_together_10 : decode cX8_together 10 = .ok (.invokestatic 160, 3) := by decide +kernel
theorem dX8_together_13 : decode cX8_together 13 = .ok (.ifCond .ne 7, 3) := by decide +kernel
theorem dX8_together_16 : decode cX8_together 16 = .ok (.ldc2_w 166, 3) := by decide +kernel
theorem dX8_together_19 : decode cX8_together 19 = .ok (.lreturn, 1) := by decide +kernel
theorem dX8_together_20 : decode cX8_together 20 = .ok (.aload_n 0, 1) := by decide +kernel
theorem dX8_together_21 : decode cX8_together 21 = .ok (.getfield 43, 3) := by decide +kernel
theorem dX8_together_24 : decode cX8_together 24 = .ok (.aload_n 0, 1) := by decide +kernel
theorem dX8_together_25 : decode cX8_together 25 = .ok (.getfield 19, 3) := by decide +kernel
theorem dX8_together_28 : decode cX8_together 28 = .ok (.getfield 120, 3) := by decide +kernel
theorem dX8_together_31 : decode cX8_together 31 = .ok (.iconst 1, 1) := by decide +kernel
theorem dX8_together_32 : decode cX8_together 32 = .ok (.iload_n 1, 1) := by decide +kernel
theorem dX8_together_33 : decode cX8_together 33 = .ok (.ishl, 1) := by decide +kernel
theorem dX8_together_34 : decode cX8_together 34 = .ok (.iconst 1, 1) := by decide +kernel
theorem dX8_together_35 : decode cX8_together 35 = .ok (.iload_n 2, 1) := by decide +kernel
theorem dX8_together_36 : decode cX8_together 36 = .ok (.ishl, 1) := by decide +kernel
theorem dX8_together_37 : decode cX8_together 37 = .ok (.ior, 1) := by decide +kernel
theorem dX8_together_38 : decode cX8_together 38 = .ok (.lload_n 3, 1) := by decide +kernel
theorem dX8_together_39 : decode cX8_together 39 = .ok (.invokevirtual 168, 3) := by decide +kernel
theorem dX8_together_42 : decode cX8_together 42 = .ok (.lreturn, 1) := by decide +kernel
theorem dX8_meetings_0 : decode cX8_meetings 0 = .ok (.aload_n 0, 1) := by decide +kernel
theorem dX8_meetings_1 : decode cX8_meetings 1 = .ok (.iload_n 1, 1) := by decide +kernel
theorem dX8_meetings_2 : decode cX8_meetings 2 = .ok (.iload_n 2, 1) := by decide +kernel
theorem dX8_meetings_3 : decode cX8_meetings 3 = .ok (.invokevirtual 193, 3) := by decide +kernel
theorem dX8_meetings_6 : decode cX8_meetings 6 = .ok (.ifCond .eq 12, 3) := by decide +kernel
theorem dX8_meetings_9 : decode cX8_meetings 9 = .ok (.lload_n 3, 1) := by decide +kernel
theorem dX8_meetings_10 : decode cX8_meetings 10 = .ok (.lload 5, 2) := by decide +kernel
theorem dX8_meetings_12 : decode cX8_meetings 12 = .ok (.invokestatic 185, 3) := by decide +kernel
theorem dX8_meetings_15 : decode cX8_meetings 15 = .ok (.ifCond .ne 7, 3) := by decide +kernel
theorem dX8_meetings_18 : decode cX8_meetings 18 = .ok (.ldc2_w 166, 3) := by decide +kernel
theorem dX8_meetings_21 : decode cX8_meetings 21 = .ok (.lreturn, 1) := by decide +kernel
theorem dX8_meetings_22 : decode cX8_meetings 22 = .ok (.aload_n 0, 1) := by decide +kernel
theorem dX8_meetings_23 : decode cX8_meetings 23 = .ok (.getfield 43, 3) := by decide +kernel
theorem dX8_meetings_26 : decode cX8_meetings 26 = .ok (.aload_n 0, 1) := by decide +kernel
theorem dX8_meetings_27 : decode cX8_meetings 27 = .ok (.getfield 19, 3) := by decide +kernel
theorem dX8_meetings_30 : decode cX8_meetings 30 = .ok (.getfield 120, 3) := by decide +kernel
theorem dX8_meetings_33 : decode cX8_meetings 33 = .ok (.iconst 1, 1) := by decide +kernel
theorem dX8_meetings_34 : decode cX8_meetings 34 = .ok (.iload_n 1, 1) := by decide +kernel
theorem dX8_meetings_35 : decode cX8_meetings 35 = .ok (.ishl, 1) := by decide +kernel
theorem dX8_meetings_36 : decode cX8_meetings 36 = .ok (.iconst 1, 1) := by decide +kernel
theorem dX8_meetings_37 : decode cX8_meetings 37 = .ok (.iload_n 2, 1) := by decide +kernel
theorem dX8_meetings_38 : decode cX8_meetings 38 = .ok (.ishl, 1) := by decide +kernel
theorem dX8_meetings_39 : decode cX8_meetings 39 = .ok (.ior, 1) := by decide +kernel
theorem dX8_meetings_40 : decode cX8_meetings 40 = .ok (.lload_n 3, 1) := by decide +kernel
theorem dX8_meetings_41 : decode cX8_meetings 41 = .ok (.lload 5, 2) := by decide +kernel
theorem dX8_meetings_43 : decode cX8_meetings 43 = .ok (.invokevirtual 189, 3) := by decide +kernel
theorem dX8_meetings_46 : decode cX8_meetings 46 = .ok (.lreturn, 1) := by decide +kernel
theorem dX8_all_0 : decode cX8_all 0 = .ok (.aload_n 0, 1) := by decide +kernel
theorem dX8_all_1 : decode cX8_all 1 = .ok (.iload_n 1, 1) := by decide +kernel
theorem dX8_all_2 : decode cX8_all 2 = .ok (.invokevirtual 197, 3) := by decide +kernel
theorem dX8_all_5 : decode cX8_all 5 = .ok (.ifCond .eq 10, 3) := by decide +kernel
theorem dX8_all_8 : decode cX8_all 8 = .ok (.lload_n 2, 1) := by decide +kernel
theorem dX8_all_9 : decode cX8_all 9 = .ok (.invokestatic 160, 3) := by decide +kernel
theorem dX8_all_12 : decode cX8_all 12 = .ok (.ifCond .ne 7, 3) := by decide +kernel
theorem dX8_all_15 : decode cX8_all 15 = .ok (.ldc2_w 166, 3) := by decide +kernel
theorem dX8_all_18 : decode cX8_all 18 = .ok (.lreturn, 1) := by decide +kernel
theorem dX8_all_19 : decode cX8_all 19 = .ok (.aload_n 0, 1) := by decide +kernel
theorem dX8_all_20 : decode cX8_all 20 = .ok (.getfield 43, 3) := by decide +kernel
theorem dX8_all_23 : decode cX8_all 23 = .ok (.aload_n 0, 1) := by decide +kernel
theorem dX8_all_24 : decode cX8_all 24 = .ok (.getfield 19, 3) := by decide +kernel
theorem dX8_all_27 : decode cX8_all 27 = .ok (.getfield 120, 3) := by decide +kernel
theorem dX8_all_30 : decode cX8_all 30 = .ok (.iload_n 1, 1) := by decide +kernel
theorem dX8_all_31 : decode cX8_all 31 = .ok (.lload_n 2, 1) := by decide +kernel
theorem dX8_all_32 : decode cX8_all 32 = .ok (.invokevirtual 168, 3) := by decide +kernel
theorem dX8_all_35 : decode cX8_all 35 = .ok (.lreturn, 1) := by decide +kernel
theorem dX8_cycle_0 : decode cX8_cycle 0 = .ok (.aload_n 0, 1) := by decide +kernel
theorem dX8_cycle_1 : decode cX8_cycle 1 = .ok (.iload_n 1, 1) := by decide +kernel
theorem dX8_cycle_2 : decode cX8_cycle 2 = .ok (.invokevirtual 197, 3) := by decide +kernel
theorem dX8_cycle_5 : decode cX8_cycle 5 = .ok (.ifCond .ne 7, 3) := by decide +kernel
theorem dX8_cycle_8 : decode cX8_cycle 8 = .ok (.ldc2_w 166, 3) := by decide +kernel
theorem dX8_cycle_11 : decode cX8_cycle 11 = .ok (.lreturn, 1) := by decide +kernel
theorem dX8_cycle_12 : decode cX8_cycle 12 = .ok (.aload_n 0, 1) := by decide +kernel
theorem dX8_cycle_13 : decode cX8_cycle 13 = .ok (.getfield 43, 3) := by decide +kernel
theorem dX8_cycle_16 : decode cX8_cycle 16 = .ok (.aload_n 0, 1) := by decide +kernel
theorem dX8_cycle_17 : decode cX8_cycle 17 = .ok (.getfield 19, 3) := by decide +kernel
theorem dX8_cycle_20 : decode cX8_cycle 20 = .ok (.getfield 120, 3) := by decide +kernel
theorem dX8_cycle_23 : decode cX8_cycle 23 = .ok (.iload_n 1, 1) := by decide +kernel
theorem dX8_cycle_24 : decode cX8_cycle 24 = .ok (.invokevirtual 200, 3) := by decide +kernel
theorem dX8_cycle_27 : decode cX8_cycle 27 = .ok (.lreturn, 1) := by decide +kernel
theorem dX8_crash_0 : decode cX8_crash 0 = .ok (.aload_n 0, 1) := by decide +kernel
theorem dX8_crash_1 : decode cX8_crash 1 = .ok (.iload_n 1, 1) := by decide +kernel
theorem dX8_crash_2 : decode cX8_crash 2 = .ok (.invokevirtual 116, 3) := by decide +kernel
theorem dX8_crash_5 : decode cX8_crash 5 = .ok (.ifCond .ne 5, 3) := by decide +kernel
theorem dX8_crash_8 : decode cX8_crash 8 = .ok (.iconst (-1), 1) := by decide +kernel
theorem dX8_crash_9 : decode cX8_crash 9 = .ok (.ireturn, 1) := by decide +kernel
theorem dX8_crash_10 : decode cX8_crash 10 = .ok (.aload_n 0, 1) := by decide +kernel
theorem dX8_crash_11 : decode cX8_crash 11 = .ok (.getfield 19, 3) := by decide +kernel
theorem dX8_crash_14 : decode cX8_crash 14 = .ok (.iload_n 1, 1) := by decide +kernel
theorem dX8_crash_15 : decode cX8_crash 15 = .ok (.invokevirtual 204, 3) := by decide +kernel
theorem dX8_crash_18 : decode cX8_crash 18 = .ok (.ireturn, 1) := by decide +kernel
theorem dX8_first_0 : decode cX8_first 0 = .ok (.lload_n 1, 1) := by decide +kernel
theorem dX8_first_1 : decode cX8_first 1 = .ok (.invokestatic 160, 3) := by decide +kernel
theorem dX8_first_4 : decode cX8_first 4 = .ok (.ifCond .eq 10, 3) := by decide +kernel
theorem dX8_first_7 : decode cX8_first 7 = .ok (.iload_n 3, 1) := by decide +kernel
theorem dX8_first_8 : decode cX8_first 8 = .ok (.invokestatic 207, 3) := by decide +kernel
theorem dX8_first_11 : decode cX8_first 11 = .ok (.ifCond .ne 7, 3) := by decide +kernel
theorem dX8_first_14 : decode cX8_first 14 = .ok (.ldc2_w 166, 3) := by decide +kernel
theorem dX8_first_17 : decode cX8_first 17 = .ok (.lreturn, 1) := by decide +kernel
theorem dX8_first_18 : decode cX8_first 18 = .ok (.ldc2_w 210, 3) := by decide +kernel
theorem dX8_first_21 : decode cX8_first 21 = .ok (.lstore 4, 2) := by decide +kernel
theorem dX8_first_23 : decode cX8_first 23 = .ok (.bipush (-4), 2) := by decide +kernel
theorem dX8_first_25 : decode cX8_first 25 = .ok (.istore 6, 2) := by decide +kernel
theorem dX8_first_27 : decode cX8_first 27 = .ok (.iconst 0, 1) := by decide +kernel
theorem dX8_first_28 : decode cX8_first 28 = .ok (.istore 7, 2) := by decide +kernel
theorem dX8_first_30 : decode cX8_first 30 = .ok (.iload 7, 2) := by decide +kernel
theorem dX8_first_32 : decode cX8_first 32 = .ok (.aload_n 0, 1) := by decide +kernel
theorem dX8_first_33 : decode cX8_first 33 = .ok (.getfield 19, 3) := by decide +kernel
theorem dX8_first_36 : decode cX8_first 36 = .ok (.getfield 98, 3) := by decide +kernel
theorem dX8_first_39 : decode cX8_first 39 = .ok (.if_icmp .ge 123, 3) := by decide +kernel
theorem dX8_first_42 : decode cX8_first 42 = .ok (.iload 7, 2) := by decide +kernel
theorem dX8_first_44 : decode cX8_first 44 = .ok (.iconst 1, 1) := by decide +kernel
theorem dX8_first_45 : decode cX8_first 45 = .ok (.iadd, 1) := by decide +kernel
theorem dX8_first_46 : decode cX8_first 46 = .ok (.istore 8, 2) := by decide +kernel
theorem dX8_first_48 : decode cX8_first 48 = .ok (.iload 8, 2) := by decide +kernel
theorem dX8_first_50 : decode cX8_first 50 = .ok (.aload_n 0, 1) := by decide +kernel
theorem dX8_first_51 : decode cX8_first 51 = .ok (.getfield 19, 3) := by decide +kernel
theorem dX8_first_54 : decode cX8_first 54 = .ok (.getfield 98, 3) := by decide +kernel
theorem dX8_first_57 : decode cX8_first 57 = .ok (.if_icmp .ge 99, 3) := by decide +kernel
theorem dX8_first_60 : decode cX8_first 60 = .ok (.aload_n 0, 1) := by decide +kernel
theorem dX8_first_61 : decode cX8_first 61 = .ok (.getfield 19, 3) := by decide +kernel
theorem dX8_first_64 : decode cX8_first 64 = .ok (.getfield 120, 3) := by decide +kernel
theorem dX8_first_67 : decode cX8_first 67 = .ok (.iload 7, 2) := by decide +kernel
theorem dX8_first_69 : decode cX8_first 69 = .ok (.aaload, 1) := by decide +kernel
theorem dX8_first_70 : decode cX8_first 70 = .ok (.getfield 133, 3) := by decide +kernel
theorem dX8_first_73 : decode cX8_first 73 = .ok (.aload_n 0, 1) := by decide +kernel
theorem dX8_first_74 : decode cX8_first 74 = .ok (.getfield 19, 3) := by decide +kernel
theorem dX8_first_77 : decode cX8_first 77 = .ok (.getfield 120, 3) := by decide +kernel
theorem dX8_first_80 : decode cX8_first 80 = .ok (.iload 8, 2) := by decide +kernel
theorem dX8_first_82 : decode cX8_first 82 = .ok (.aaload, 1) := by decide +kernel
theorem dX8_first_83 : decode cX8_first 83 = .ok (.getfield 133, 3) := by decide +kernel
theorem dX8_first_86 : decode cX8_first 86 = .ok (.if_icmp .ne 30, 3) := by decide +kernel
theorem dX8_first_89 : decode cX8_first 89 = .ok (.aload_n 0, 1) := by decide +kernel
theorem dX8_first_90 : decode cX8_first 90 = .ok (.getfield 43, 3) := by decide +kernel
theorem dX8_first_93 : decode cX8_first 93 = .ok (.aload_n 0, 1) := by decide +kernel
theorem dX8_first_94 : decode cX8_first 94 = .ok (.getfield 19, 3) := by decide +kernel
theorem dX8_first_97 : decode cX8_first 97 = .ok (.getfield 120, 3) := by decide +kernel
theorem dX8_first_100 : decode cX8_first 100 = .ok (.iconst 1, 1) := by decide +kernel
theorem dX8_first_101 : decode cX8_first 101 = .ok (.iload 7, 2) := by decide +kernel
theorem dX8_first_103 : decode cX8_first 103 = .ok (.ishl, 1) := by decide +kernel
theorem dX8_first_104 : decode cX8_first 104 = .ok (.iconst 1, 1) := by decide +kernel
theorem dX8_first_105 : decode cX8_first 105 = .ok (.iload 8, 2) := by decide +kernel
theorem dX8_first_107 : decode cX8_first 107 = .ok (.ishl, 1) := by decide +kernel
theorem dX8_first_108 : decode cX8_first 108 = .ok (.ior, 1) := by decide +kernel
theorem dX8_first_109 : decode cX8_first 109 = .ok (.lload_n 1, 1) := by decide +kernel
theorem dX8_first_110 : decode cX8_first 110 = .ok (.invokevirtual 168, 3) := by decide +kernel
theorem dX8_first_113 : decode cX8_first 113 = .ok (.goto 6, 3) := by decide +kernel
theorem dX8_first_116 : decode cX8_first 116 = .ok (.ldc2_w 172, 3) := by decide +kernel
theorem dX8_first_119 : decode cX8_first 119 = .ok (.lstore 9, 2) := by decide +kernel
theorem dX8_first_121 : decode cX8_first 121 = .ok (.lload 9, 2) := by decide +kernel
theorem dX8_first_123 : decode cX8_first 123 = .ok (.lconst 0, 1) := by decide +kernel
theorem dX8_first_124 : decode cX8_first 124 = .ok (.lcmp, 1) := by decide +kernel
theorem dX8_first_125 : decode cX8_first 125 = .ok (.ifCond .lt 25, 3) := by decide +kernel
theorem dX8_first_128 : decode cX8_first 128 = .ok (.lload 9, 2) := by decide +kernel
theorem dX8_first_130 : decode cX8_first 130 = .ok (.lload 4, 2) := by decide +kernel
theorem dX8_first_132 : decode cX8_first 132 = .ok (.lcmp, 1) := by decide +kernel
theorem dX8_first_133 : decode cX8_first 133 = .ok (.ifCond .ge 17, 3) := by decide +kernel
theorem dX8_first_136 : decode cX8_first 136 = .ok (.lload 9, 2) := by decide +kernel
theorem dX8_first_138 : decode cX8_first 138 = .ok (.lstore 4, 2) := by decide +kernel
theorem dX8_first_140 : decode cX8_first 140 = .ok (.bipush 10, 2) := by decide +kernel
theorem dX8_first_142 : decode cX8_first 142 = .ok (.iload 7, 2) := by decide +kernel
theorem dX8_first_144 : decode cX8_first 144 = .ok (.imul, 1) := by decide +kernel
theorem dX8_first_145 : decode cX8_first 145 = .ok (.iload 8, 2) := by decide +kernel
theorem dX8_first_147 : decode cX8_first 147 = .ok (.iadd, 1) := by decide +kernel
theorem dX8_first_148 : decode cX8_first 148 = .ok (.istore 6, 2) := by decide +kernel
theorem dX8_first_150 : decode cX8_first 150 = .ok (.iinc 8 1, 3) := by decide +kernel
theorem dX8_first_153 : decode cX8_first 153 = .ok (.goto (-105), 3) := by decide +kernel
theorem dX8_first_156 : decode cX8_first 156 = .ok (.iinc 7 1, 3) := by decide +kernel
theorem dX8_first_159 : decode cX8_first 159 = .ok (.goto (-129), 3) := by decide +kernel
theorem dX8_first_162 : decode cX8_first 162 = .ok (.iload 6, 2) := by decide +kernel
theorem dX8_first_164 : decode cX8_first 164 = .ok (.bipush (-4), 2) := by decide +kernel
theorem dX8_first_166 : decode cX8_first 166 = .ok (.if_icmp .ne 7, 3) := by decide +kernel
theorem dX8_first_169 : decode cX8_first 169 = .ok (.ldc2_w 172, 3) := by decide +kernel
theorem dX8_first_172 : decode cX8_first 172 = .ok (.lreturn, 1) := by decide +kernel
theorem dX8_first_173 : decode cX8_first 173 = .ok (.iload_n 3, 1) := by decide +kernel
theorem dX8_first_174 : decode cX8_first 174 = .ok (.ifCond .ne 8, 3) := by decide +kernel
theorem dX8_first_177 : decode cX8_first 177 = .ok (.lload 4, 2) := by decide +kernel
theorem dX8_first_179 : decode cX8_first 179 = .ok (.goto 6, 3) := by decide +kernel
theorem dX8_first_182 : decode cX8_first 182 = .ok (.iload 6, 2) := by decide +kernel
theorem dX8_first_184 : decode cX8_first 184 = .ok (.i2l, 1) := by decide +kernel
theorem dX8_first_185 : decode cX8_first 185 = .ok (.lreturn, 1) := by decide +kernel
theorem dX8_date_0 : decode cX8_date 0 = .ok (.lload_n 1, 1) := by decide +kernel
theorem dX8_date_1 : decode cX8_date 1 = .ok (.invokestatic 160, 3) := by decide +kernel
theorem dX8_date_4 : decode cX8_date 4 = .ok (.ifCond .eq 10, 3) := by decide +kernel
theorem dX8_date_7 : decode cX8_date 7 = .ok (.iload_n 3, 1) := by decide +kernel
theorem dX8_date_8 : decode cX8_date 8 = .ok (.invokestatic 207, 3) := by decide +kernel
theorem dX8_date_11 : decode cX8_date 11 = .ok (.ifCond .ne 7, 3) := by decide +kernel
theorem dX8_date_14 : decode cX8_date 14 = .ok (.ldc2_w 166, 3) := by decide +kernel
theorem dX8_date_17 : decode cX8_date 17 = .ok (.lreturn, 1) := by decide +kernel
theorem dX8_date_18 : decode cX8_date 18 = .ok (.iload_n 3, 1) := by decide +kernel
theorem dX8_date_19 : decode cX8_date 19 = .ok (.ifCond .ne 10, 3) := by decide +kernel
theorem dX8_date_22 : decode cX8_date 22 = .ok (.lload_n 1, 1) := by decide +kernel
theorem dX8_date_23 : decode cX8_date 23 = .ok (.invokestatic 212, 3) := by decide +kernel
theorem dX8_date_26 : decode cX8_date 26 = .ok (.goto 8, 3) := by decide +kernel
theorem dX8_date_29 : decode cX8_date 29 = .ok (.lload_n 1, 1) := by decide +kernel
theorem dX8_date_30 : decode cX8_date 30 = .ok (.invokestatic 216, 3) := by decide +kernel
theorem dX8_date_33 : decode cX8_date 33 = .ok (.i2l, 1) := by decide +kernel
theorem dX8_date_34 : decode cX8_date 34 = .ok (.lreturn, 1) := by decide +kernel
theorem dX8_day_0 : decode cX8_day 0 = .ok (.iload_n 1, 1) := by decide +kernel
theorem dX8_day_1 : decode cX8_day 1 = .ok (.ifCond .lt 33, 3) := by decide +kernel
theorem dX8_day_4 : decode cX8_day 4 = .ok (.iload_n 1, 1) := by decide +kernel
theorem dX8_day_5 : decode cX8_day 5 = .ok (.sipush 9999, 3) := by decide +kernel
theorem dX8_day_8 : decode cX8_day 8 = .ok (.if_icmp .gt 26, 3) := by decide +kernel
theorem dX8_day_11 : decode cX8_day 11 = .ok (.iload_n 2, 1) := by decide +kernel
theorem dX8_day_12 : decode cX8_day 12 = .ok (.ifCond .lt 22, 3) := by decide +kernel
theorem dX8_day_15 : decode cX8_day 15 = .ok (.iload_n 2, 1) := by decide +kernel
theorem dX8_day_16 : decode cX8_day 16 = .ok (.iload_n 1, 1) := by decide +kernel
theorem dX8_day_17 : decode cX8_day 17 = .ok (.iconst 4, 1) := by decide +kernel
theorem dX8_day_18 : decode cX8_day 18 = .ok (.irem, 1) := by decide +kernel
theorem dX8_day_19 : decode cX8_day 19 = .ok (.ifCond .ne 9, 3) := by decide +kernel
theorem dX8_day_22 : decode cX8_day 22 = .ok (.sipush 366, 3) := by decide +kernel
theorem dX8_day_25 : decode cX8_day 25 = .ok (.goto 6, 3) := by decide +kernel
theorem dX8_day_28 : decode cX8_day 28 = .ok (.sipush 365, 3) := by decide +kernel
theorem dX8_day_31 : decode cX8_day 31 = .ok (.if_icmp .lt 7, 3) := by decide +kernel
theorem dX8_day_34 : decode cX8_day 34 = .ok (.ldc2_w 166, 3) := by decide +kernel
theorem dX8_day_37 : decode cX8_day 37 = .ok (.lreturn, 1) := by decide +kernel
theorem dX8_day_38 : decode cX8_day 38 = .ok (.iload_n 1, 1) := by decide +kernel
theorem dX8_day_39 : decode cX8_day 39 = .ok (.iconst 3, 1) := by decide +kernel
theorem dX8_day_40 : decode cX8_day 40 = .ok (.iadd, 1) := by decide +kernel
theorem dX8_day_41 : decode cX8_day 41 = .ok (.iconst 4, 1) := by decide +kernel
theorem dX8_day_42 : decode cX8_day 42 = .ok (.idiv, 1) := by decide +kernel
theorem dX8_day_43 : decode cX8_day 43 = .ok (.istore_n 3, 1) := by decide +kernel
theorem dX8_day_44 : decode cX8_day 44 = .ok (.iload_n 1, 1) := by decide +kernel
theorem dX8_day_45 : decode cX8_day 45 = .ok (.i2l, 1) := by decide +kernel
theorem dX8_day_46 : decode cX8_day 46 = .ok (.ldc2_w 220, 3) := by decide +kernel
theorem dX8_day_49 : decode cX8_day 49 = .ok (.lmul, 1) := by decide +kernel
theorem dX8_day_50 : decode cX8_day 50 = .ok (.iload_n 3, 1) := by decide +kernel
theorem dX8_day_51 : decode cX8_day 51 = .ok (.i2l, 1) := by decide +kernel
theorem dX8_day_52 : decode cX8_day 52 = .ok (.ladd, 1) := by decide +kernel
theorem dX8_day_53 : decode cX8_day 53 = .ok (.iload_n 2, 1) := by decide +kernel
theorem dX8_day_54 : decode cX8_day 54 = .ok (.i2l, 1) := by decide +kernel
theorem dX8_day_55 : decode cX8_day 55 = .ok (.ladd, 1) := by decide +kernel
theorem dX8_day_56 : decode cX8_day 56 = .ok (.lreturn, 1) := by decide +kernel
theorem dX8_by_0 : decode cX8_by 0 = .ok (.aload_n 0, 1) := by decide +kernel
theorem dX8_by_1 : decode cX8_by 1 = .ok (.iload_n 1, 1) := by decide +kernel
theorem dX8_by_2 : decode cX8_by 2 = .ok (.invokevirtual 116, 3) := by decide +kernel
theorem dX8_by_5 : decode cX8_by 5 = .ok (.ifCond .eq 10, 3) := by decide +kernel
theorem dX8_by_8 : decode cX8_by 8 = .ok (.lload_n 2, 1) := by decide +kernel
theorem dX8_by_9 : decode cX8_by 9 = .ok (.invokestatic 160, 3) := by decide +kernel
theorem dX8_by_12 : decode cX8_by 12 = .ok (.ifCond .ne 5, 3) := by decide +kernel
theorem dX8_by_15 : decode cX8_by 15 = .ok (.iconst (-1), 1) := by decide +kernel
theorem dX8_by_16 : decode cX8_by 16 = .ok (.ireturn, 1) := by decide +kernel
theorem dX8_by_17 : decode cX8_by 17 = .ok (.aload_n 0, 1) := by decide +kernel
theorem dX8_by_18 : decode cX8_by 18 = .ok (.getfield 19, 3) := by decide +kernel
theorem dX8_by_21 : decode cX8_by 21 = .ok (.getfield 120, 3) := by decide +kernel
theorem dX8_by_24 : decode cX8_by 24 = .ok (.iload_n 1, 1) := by decide +kernel
theorem dX8_by_25 : decode cX8_by 25 = .ok (.aaload, 1) := by decide +kernel
theorem dX8_by_26 : decode cX8_by 26 = .ok (.astore 4, 2) := by decide +kernel
theorem dX8_by_28 : decode cX8_by 28 = .ok (.aload 4, 2) := by decide +kernel
theorem dX8_by_30 : decode cX8_by 30 = .ok (.lload_n 2, 1) := by decide +kernel
theorem dX8_by_31 : decode cX8_by 31 = .ok (.invokevirtual 163, 3) := by decide +kernel
theorem dX8_by_34 : decode cX8_by 34 = .ok (.ifCond .eq 19, 3) := by decide +kernel
theorem dX8_by_37 : decode cX8_by 37 = .ok (.aload_n 0, 1) := by decide +kernel
theorem dX8_by_38 : decode cX8_by 38 = .ok (.getfield 19, 3) := by decide +kernel
theorem dX8_by_41 : decode cX8_by 41 = .ok (.aload 4, 2) := by decide +kernel
theorem dX8_by_43 : decode cX8_by 43 = .ok (.lload_n 2, 1) := by decide +kernel
theorem dX8_by_44 : decode cX8_by 44 = .ok (.invokestatic 216, 3) := by decide +kernel
theorem dX8_by_47 : decode cX8_by 47 = .ok (.invokevirtual 222, 3) := by decide +kernel
theorem dX8_by_50 : decode cX8_by 50 = .ok (.goto 5, 3) := by decide +kernel
theorem dX8_by_53 : decode cX8_by 53 = .ok (.bipush (-4), 2) := by decide +kernel
theorem dX8_by_55 : decode cX8_by 55 = .ok (.ireturn, 1) := by decide +kernel
theorem dX8_clashes_0 : decode cX8_clashes 0 = .ok (.lload_n 1, 1) := by decide +kernel
theorem dX8_clashes_1 : decode cX8_clashes 1 = .ok (.invokestatic 160, 3) := by decide +kernel
theorem dX8_clashes_4 : decode cX8_clashes 4 = .ok (.ifCond .eq 10, 3) := by decide +kernel
theorem dX8_clashes_7 : decode cX8_clashes 7 = .ok (.iload_n 3, 1) := by decide +kernel
theorem dX8_clashes_8 : decode cX8_clashes 8 = .ok (.invokestatic 226, 3) := by decide +kernel
theorem dX8_clashes_11 : decode cX8_clashes 11 = .ok (.ifCond .ne 5, 3) := by decide +kernel
theorem dX8_clashes_14 : decode cX8_clashes 14 = .ok (.iconst (-1), 1) := by decide +kernel
theorem dX8_clashes_15 : decode cX8_clashes 15 = .ok (.ireturn, 1) := by decide +kernel
theorem dX8_clashes_16 : decode cX8_clashes 16 = .ok (.iconst 0, 1) := by decide +kernel
theorem dX8_clashes_17 : decode cX8_clashes 17 = .ok (.istore 4, 2) := by decide +kernel
theorem dX8_clashes_19 : decode cX8_clashes 19 = .ok (.iconst 0, 1) := by decide +kernel
theorem dX8_clashes_20 : decode cX8_clashes 20 = .ok (.istore 5, 2) := by decide +kernel
theorem dX8_clashes_22 : decode cX8_clashes 22 = .ok (.iload 5, 2) := by decide +kernel
theorem dX8_clashes_24 : decode cX8_clashes 24 = .ok (.iload_n 3, 1) := by decide +kernel
theorem dX8_clashes_25 : decode cX8_clashes 25 = .ok (.if_icmp .ge 31, 3) := by decide +kernel
theorem dX8_clashes_28 : decode cX8_clashes 28 = .ok (.aload_n 0, 1) := by decide +kernel
theorem dX8_clashes_29 : decode cX8_clashes 29 = .ok (.getfield 19, 3) := by decide +kernel
theorem dX8_clashes_32 : decode cX8_clashes 32 = .ok (.lload_n 1, 1) := by decide +kernel
theorem dX8_clashes_33 : decode cX8_clashes 33 = .ok (.iload 5, 2) := by decide +kernel
theorem dX8_clashes_35 : decode cX8_clashes 35 = .ok (.i2l, 1) := by decide +kernel
theorem dX8_clashes_36 : decode cX8_clashes 36 = .ok (.ladd, 1) := by decide +kernel
theorem dX8_clashes_37 : decode cX8_clashes 37 = .ok (.invokevirtual 229, 3) := by decide +kernel
theorem dX8_clashes_40 : decode cX8_clashes 40 = .ok (.sipush 512, 3) := by decide +kernel
theorem dX8_clashes_43 : decode cX8_clashes 43 = .ok (.iand, 1) := by decide +kernel
theorem dX8_clashes_44 : decode cX8_clashes 44 = .ok (.ifCond .eq 6, 3) := by decide +kernel
theorem dX8_clashes_47 : decode cX8_clashes 47 = .ok (.iinc 4 1, 3) := by decide +kernel
theorem dX8_clashes_50 : decode cX8_clashes 50 = .ok (.iinc 5 1, 3) := by decide +kernel
theorem dX8_clashes_53 : decode cX8_clashes 53 = .ok (.goto (-31), 3) := by decide +kernel
theorem dX8_clashes_56 : decode cX8_clashes 56 = .ok (.iload 4, 2) := by decide +kernel
theorem dX8_clashes_58 : decode cX8_clashes 58 = .ok (.ireturn, 1) := by decide +kernel
theorem dX8_stick_0 : decode cX8_stick 0 = .ok (.iload_n 1, 1) := by decide +kernel
theorem dX8_stick_1 : decode cX8_stick 1 = .ok (.bipush (-4), 2) := by decide +kernel
theorem dX8_stick_3 : decode cX8_stick 3 = .ok (.if_icmp .ne 15, 3) := by decide +kernel
theorem dX8_stick_6 : decode cX8_stick 6 = .ok (.iload_n 2, 1) := by decide +kernel
theorem dX8_stick_7 : decode cX8_stick 7 = .ok (.ifCond .ne 11, 3) := by decide +kernel
theorem dX8_stick_10 : decode cX8_stick 10 = .ok (.iload_n 3, 1) := by decide +kernel
theorem dX8_stick_11 : decode cX8_stick 11 = .ok (.ifCond .ne 7, 3) := by decide +kernel
theorem dX8_stick_14 : decode cX8_stick 14 = .ok (.iconst 1, 1) := by decide +kernel
theorem dX8_stick_15 : decode cX8_stick 15 = .ok (.goto 4, 3) := by decide +kernel
theorem dX8_stick_18 : decode cX8_stick 18 = .ok (.iconst 0, 1) := by decide +kernel
theorem dX8_stick_19 : decode cX8_stick 19 = .ok (.istore 4, 2) := by decide +kernel
theorem dX8_stick_21 : decode cX8_stick 21 = .ok (.iload 4, 2) := by decide +kernel
theorem dX8_stick_23 : decode cX8_stick 23 = .ok (.ifCond .ne 28, 3) := by decide +kernel
theorem dX8_stick_26 : decode cX8_stick 26 = .ok (.iload_n 1, 1) := by decide +kernel
theorem dX8_stick_27 : decode cX8_stick 27 = .ok (.invokestatic 232, 3) := by decide +kernel
theorem dX8_stick_30 : decode cX8_stick 30 = .ok (.ifCond .eq 19, 3) := by decide +kernel
theorem dX8_stick_33 : decode cX8_stick 33 = .ok (.iload_n 2, 1) := by decide +kernel
theorem dX8_stick_34 : decode cX8_stick 34 = .ok (.ifCond .lt 15, 3) := by decide +kernel
theorem dX8_stick_37 : decode cX8_stick 37 = .ok (.iload_n 3, 1) := by decide +kernel
theorem dX8_stick_38 : decode cX8_stick 38 = .ok (.iload_n 2, 1) := by decide +kernel
theorem dX8_stick_39 : decode cX8_stick 39 = .ok (.if_icmp .lt 10, 3) := by decide +kernel
theorem dX8_stick_42 : decode cX8_stick 42 = .ok (.iload_n 3, 1) := by decide +kernel
theorem dX8_stick_43 : decode cX8_stick 43 = .ok (.sipush 365, 3) := by decide +kernel
theorem dX8_stick_46 : decode cX8_stick 46 = .ok (.if_icmp .le 5, 3) := by decide +kernel
theorem dX8_stick_49 : decode cX8_stick 49 = .ok (.iconst (-1), 1) := by decide +kernel
theorem dX8_stick_50 : decode cX8_stick 50 = .ok (.ireturn, 1) := by decide +kernel
theorem dX8_stick_51 : decode cX8_stick 51 = .ok (.aload_n 0, 1) := by decide +kernel
theorem dX8_stick_52 : decode cX8_stick 52 = .ok (.getfield 19, 3) := by decide +kernel
theorem dX8_stick_55 : decode cX8_stick 55 = .ok (.getfield 101, 3) := by decide +kernel
theorem dX8_stick_58 : decode cX8_stick 58 = .ok (.bipush (-4), 2) := by decide +kernel
theorem dX8_stick_60 : decode cX8_stick 60 = .ok (.if_icmp .ne 7, 3) := by decide +kernel
theorem dX8_stick_63 : decode cX8_stick 63 = .ok (.iconst 0, 1) := by decide +kernel
theorem dX8_stick_64 : decode cX8_stick 64 = .ok (.goto 4, 3) := by decide +kernel
theorem dX8_stick_67 : decode cX8_stick 67 = .ok (.iconst 1, 1) := by decide +kernel
theorem dX8_stick_68 : decode cX8_stick 68 = .ok (.istore 5, 2) := by decide +kernel
theorem dX8_stick_70 : decode cX8_stick 70 = .ok (.iload 4, 2) := by decide +kernel
theorem dX8_stick_72 : decode cX8_stick 72 = .ok (.ifCond .eq 13, 3) := by decide +kernel
theorem dX8_stick_75 : decode cX8_stick 75 = .ok (.aload_n 0, 1) := by decide +kernel
theorem dX8_stick_76 : decode cX8_stick 76 = .ok (.getfield 19, 3) := by decide +kernel
theorem dX8_stick_79 : decode cX8_stick 79 = .ok (.invokevirtual 235, 3) := by decide +kernel
theorem dX8_stick_82 : decode cX8_stick 82 = .ok (.goto 13, 3) := by decide +kernel
theorem dX8_stick_85 : decode cX8_stick 85 = .ok (.aload_n 0, 1) := by decide +kernel
theorem dX8_stick_86 : decode cX8_stick 86 = .ok (.getfield 19, 3) := by decide +kernel
theorem dX8_stick_89 : decode cX8_stick 89 = .ok (.iload_n 1, 1) := by decide +kernel
theorem dX8_stick_90 : decode cX8_stick 90 = .ok (.iload_n 2, 1) := by decide +kernel
theorem dX8_stick_91 : decode cX8_stick 91 = .ok (.iload_n 3, 1) := by decide +kernel
theorem dX8_stick_92 : decode cX8_stick 92 = .ok (.invokevirtual 238, 3) := by decide +kernel
theorem dX8_stick_95 : decode cX8_stick 95 = .ok (.iload 5, 2) := by decide +kernel
theorem dX8_stick_97 : decode cX8_stick 97 = .ok (.ireturn, 1) := by decide +kernel
theorem dX8_cut_0 : decode cX8_cut 0 = .ok (.aload_n 0, 1) := by decide +kernel
theorem dX8_cut_1 : decode cX8_cut 1 = .ok (.iload_n 1, 1) := by decide +kernel
theorem dX8_cut_2 : decode cX8_cut 2 = .ok (.invokevirtual 116, 3) := by decide +kernel
theorem dX8_cut_5 : decode cX8_cut 5 = .ok (.ifCond .eq 10, 3) := by decide +kernel
theorem dX8_cut_8 : decode cX8_cut 8 = .ok (.iload_n 2, 1) := by decide +kernel
theorem dX8_cut_9 : decode cX8_cut 9 = .ok (.invokestatic 207, 3) := by decide +kernel
theorem dX8_cut_12 : decode cX8_cut 12 = .ok (.ifCond .ne 5, 3) := by decide +kernel
theorem dX8_cut_15 : decode cX8_cut 15 = .ok (.iconst (-1), 1) := by decide +kernel
theorem dX8_cut_16 : decode cX8_cut 16 = .ok (.ireturn, 1) := by decide +kernel
theorem dX8_cut_17 : decode cX8_cut 17 = .ok (.aload_n 0, 1) := by decide +kernel
theorem dX8_cut_18 : decode cX8_cut 18 = .ok (.getfield 19, 3) := by decide +kernel
theorem dX8_cut_21 : decode cX8_cut 21 = .ok (.iload_n 1, 1) := by decide +kernel
theorem dX8_cut_22 : decode cX8_cut 22 = .ok (.aload_n 0, 1) := by decide +kernel
theorem dX8_cut_23 : decode cX8_cut 23 = .ok (.getfield 50, 3) := by decide +kernel
theorem dX8_cut_26 : decode cX8_cut 26 = .ok (.invokevirtual 242, 3) := by decide +kernel
theorem dX8_cut_29 : decode cX8_cut 29 = .ok (.ifCond .ne 6, 3) := by decide +kernel
theorem dX8_cut_32 : decode cX8_cut 32 = .ok (.bipush (-4), 2) := by decide +kernel
theorem dX8_cut_34 : decode cX8_cut 34 = .ok (.ireturn, 1) := by decide +kernel
theorem dX8_cut_35 : decode cX8_cut 35 = .ok (.iload_n 2, 1) := by decide +kernel
theorem dX8_cut_36 : decode cX8_cut 36 = .ok (.ifCond .ne 13, 3) := by decide +kernel
theorem dX8_cut_39 : decode cX8_cut 39 = .ok (.aload_n 0, 1) := by decide +kernel
theorem dX8_cut_40 : decode cX8_cut 40 = .ok (.getfield 50, 3) := by decide +kernel
theorem dX8_cut_43 : decode cX8_cut 43 = .ok (.getfield 127, 3) := by decide +kernel
theorem dX8_cut_46 : decode cX8_cut 46 = .ok (.goto 10, 3) := by decide +kernel
theorem dX8_cut_49 : decode cX8_cut 49 = .ok (.aload_n 0, 1) := by decide +kernel
theorem dX8_cut_50 : decode cX8_cut 50 = .ok (.getfield 50, 3) := by decide +kernel
theorem dX8_cut_53 : decode cX8_cut 53 = .ok (.getfield 130, 3) := by decide +kernel
theorem dX8_cut_56 : decode cX8_cut 56 = .ok (.ireturn, 1) := by decide +kernel
theorem dX8_turn_0 : decode cX8_turn 0 = .ok (.aload_n 0, 1) := by decide +kernel
theorem dX8_turn_1 : decode cX8_turn 1 = .ok (.iload_n 1, 1) := by decide +kernel
theorem dX8_turn_2 : decode cX8_turn 2 = .ok (.invokevirtual 116, 3) := by decide +kernel
theorem dX8_turn_5 : decode cX8_turn 5 = .ok (.ifCond .ne 5, 3) := by decide +kernel
theorem dX8_turn_8 : decode cX8_turn 8 = .ok (.iconst (-1), 1) := by decide +kernel
theorem dX8_turn_9 : decode cX8_turn 9 = .ok (.ireturn, 1) := by decide +kernel
theorem dX8_turn_10 : decode cX8_turn 10 = .ok (.aload_n 0, 1) := by decide +kernel
theorem dX8_turn_11 : decode cX8_turn 11 = .ok (.getfield 19, 3) := by decide +kernel
theorem dX8_turn_14 : decode cX8_turn 14 = .ok (.getfield 120, 3) := by decide +kernel
theorem dX8_turn_17 : decode cX8_turn 17 = .ok (.iload_n 1, 1) := by decide +kernel
theorem dX8_turn_18 : decode cX8_turn 18 = .ok (.aaload, 1) := by decide +kernel
theorem dX8_turn_19 : decode cX8_turn 19 = .ok (.astore_n 2, 1) := by decide +kernel
theorem dX8_turn_20 : decode cX8_turn 20 = .ok (.aload_n 0, 1) := by decide +kernel
theorem dX8_turn_21 : decode cX8_turn 21 = .ok (.getfield 50, 3) := by decide +kernel
theorem dX8_turn_24 : decode cX8_turn 24 = .ok (.aload_n 2, 1) := by decide +kernel
theorem dX8_turn_25 : decode cX8_turn 25 = .ok (.invokevirtual 246, 3) := by decide +kernel
theorem dX8_turn_28 : decode cX8_turn 28 = .ok (.aload_n 0, 1) := by decide +kernel
theorem dX8_turn_29 : decode cX8_turn 29 = .ok (.getfield 19, 3) := by decide +kernel
theorem dX8_turn_32 : decode cX8_turn 32 = .ok (.iload_n 1, 1) := by decide +kernel
theorem dX8_turn_33 : decode cX8_turn 33 = .ok (.aload_n 0, 1) := by decide +kernel
theorem dX8_turn_34 : decode cX8_turn 34 = .ok (.getfield 50, 3) := by decide +kernel
theorem dX8_turn_37 : decode cX8_turn 37 = .ok (.invokevirtual 249, 3) := by decide +kernel
theorem dX8_turn_40 : decode cX8_turn 40 = .ok (.lstore_n 3, 1) := by decide +kernel
theorem dX8_turn_41 : decode cX8_turn 41 = .ok (.iconst 0, 1) := by decide +kernel
theorem dX8_turn_42 : decode cX8_turn 42 = .ok (.istore 5, 2) := by decide +kernel
theorem dX8_turn_44 : decode cX8_turn 44 = .ok (.iload 5, 2) := by decide +kernel
theorem dX8_turn_46 : decode cX8_turn 46 = .ok (.aload_n 2, 1) := by decide +kernel
theorem dX8_turn_47 : decode cX8_turn 47 = .ok (.getfield 127, 3) := by decide +kernel
theorem dX8_turn_50 : decode cX8_turn 50 = .ok (.if_icmp .ge 42, 3) := by decide +kernel
theorem dX8_turn_53 : decode cX8_turn 53 = .ok (.aload_n 2, 1) := by decide +kernel
theorem dX8_turn_54 : decode cX8_turn 54 = .ok (.getfield 130, 3) := by decide +kernel
theorem dX8_turn_57 : decode cX8_turn 57 = .ok (.iload 5, 2) := by decide +kernel
theorem dX8_turn_59 : decode cX8_turn 59 = .ok (.iadd, 1) := by decide +kernel
theorem dX8_turn_60 : decode cX8_turn 60 = .ok (.i2l, 1) := by decide +kernel
theorem dX8_turn_61 : decode cX8_turn 61 = .ok (.aload_n 2, 1) := by decide +kernel
theorem dX8_turn_62 : decode cX8_turn 62 = .ok (.getfield 127, 3) := by decide +kernel
theorem dX8_turn_65 : decode cX8_turn 65 = .ok (.i2l, 1) := by decide +kernel
theorem dX8_turn_66 : decode cX8_turn 66 = .ok (.invokestatic 181, 3) := by decide +kernel
theorem dX8_turn_69 : decode cX8_turn 69 = .ok (.l2i, 1) := by decide +kernel
theorem dX8_turn_70 : decode cX8_turn 70 = .ok (.istore 6, 2) := by decide +kernel
theorem dX8_turn_72 : decode cX8_turn 72 = .ok (.lload_n 3, 1) := by decide +kernel
theorem dX8_turn_73 : decode cX8_turn 73 = .ok (.iload 6, 2) := by decide +kernel
theorem dX8_turn_75 : decode cX8_turn 75 = .ok (.lushr, 1) := by decide +kernel
theorem dX8_turn_76 : decode cX8_turn 76 = .ok (.lconst 1, 1) := by decide +kernel
theorem dX8_turn_77 : decode cX8_turn 77 = .ok (.land, 1) := by decide +kernel
theorem dX8_turn_78 : decode cX8_turn 78 = .ok (.lconst 0, 1) := by decide +kernel
theorem dX8_turn_79 : decode cX8_turn 79 = .ok (.lcmp, 1) := by decide +kernel
theorem dX8_turn_80 : decode cX8_turn 80 = .ok (.ifCond .eq 6, 3) := by decide +kernel
theorem dX8_turn_83 : decode cX8_turn 83 = .ok (.iload 6, 2) := by decide +kernel
theorem dX8_turn_85 : decode cX8_turn 85 = .ok (.ireturn, 1) := by decide +kernel
theorem dX8_turn_86 : decode cX8_turn 86 = .ok (.iinc 5 1, 3) := by decide +kernel
theorem dX8_turn_89 : decode cX8_turn 89 = .ok (.goto (-45), 3) := by decide +kernel
theorem dX8_turn_92 : decode cX8_turn 92 = .ok (.bipush (-4), 2) := by decide +kernel
theorem dX8_turn_94 : decode cX8_turn 94 = .ok (.ireturn, 1) := by decide +kernel
theorem dX8_recut_0 : decode cX8_recut 0 = .ok (.aload_n 0, 1) := by decide +kernel
theorem dX8_recut_1 : decode cX8_recut 1 = .ok (.iload_n 1, 1) := by decide +kernel
theorem dX8_recut_2 : decode cX8_recut 2 = .ok (.invokevirtual 116, 3) := by decide +kernel
theorem dX8_recut_5 : decode cX8_recut 5 = .ok (.ifCond .eq 27, 3) := by decide +kernel
theorem dX8_recut_8 : decode cX8_recut 8 = .ok (.iload_n 2, 1) := by decide +kernel
theorem dX8_recut_9 : decode cX8_recut 9 = .ok (.iload_n 3, 1) := by decide +kernel
theorem dX8_recut_10 : decode cX8_recut 10 = .ok (.invokestatic 253, 3) := by decide +kernel
theorem dX8_recut_13 : decode cX8_recut 13 = .ok (.ifCond .eq 19, 3) := by decide +kernel
theorem dX8_recut_16 : decode cX8_recut 16 = .ok (.aload_n 0, 1) := by decide +kernel
theorem dX8_recut_17 : decode cX8_recut 17 = .ok (.getfield 19, 3) := by decide +kernel
theorem dX8_recut_20 : decode cX8_recut 20 = .ok (.getfield 120, 3) := by decide +kernel
theorem dX8_recut_23 : decode cX8_recut 23 = .ok (.iload_n 1, 1) := by decide +kernel
theorem dX8_recut_24 : decode cX8_recut 24 = .ok (.aaload, 1) := by decide +kernel
theorem dX8_recut_25 : decode cX8_recut 25 = .ok (.getfield 139, 3) := by decide +kernel
theorem dX8_recut_28 : decode cX8_recut 28 = .ok (.iload_n 2, 1) := by decide +kernel
theorem dX8_recut_29 : decode cX8_recut 29 = .ok (.if_icmp .lt 5, 3) := by decide +kernel
theorem dX8_recut_32 : decode cX8_recut 32 = .ok (.iconst (-1), 1) := by decide +kernel
theorem dX8_recut_33 : decode cX8_recut 33 = .ok (.ireturn, 1) := by decide +kernel
theorem dX8_recut_34 : decode cX8_recut 34 = .ok (.aload_n 0, 1) := by decide +kernel
theorem dX8_recut_35 : decode cX8_recut 35 = .ok (.getfield 19, 3) := by decide +kernel
theorem dX8_recut_38 : decode cX8_recut 38 = .ok (.getfield 120, 3) := by decide +kernel
theorem dX8_recut_41 : decode cX8_recut 41 = .ok (.iload_n 1, 1) := by decide +kernel
theorem dX8_recut_42 : decode cX8_recut 42 = .ok (.aaload, 1) := by decide +kernel
theorem dX8_recut_43 : decode cX8_recut 43 = .ok (.astore 4, 2) := by decide +kernel
theorem dX8_recut_45 : decode cX8_recut 45 = .ok (.aload 4, 2) := by decide +kernel
theorem dX8_recut_47 : decode cX8_recut 47 = .ok (.getfield 127, 3) := by decide +kernel
theorem dX8_recut_50 : decode cX8_recut 50 = .ok (.istore 5, 2) := by decide +kernel
theorem dX8_recut_52 : decode cX8_recut 52 = .ok (.aload 4, 2) := by decide +kernel
theorem dX8_recut_54 : decode cX8_recut 54 = .ok (.iload_n 2, 1) := by decide +kernel
theorem dX8_recut_55 : decode cX8_recut 55 = .ok (.putfield 127, 3) := by decide +kernel
theorem dX8_recut_58 : decode cX8_recut 58 = .ok (.aload 4, 2) := by decide +kernel
theorem dX8_recut_60 : decode cX8_recut 60 = .ok (.iload_n 3, 1) := by decide +kernel
theorem dX8_recut_61 : decode cX8_recut 61 = .ok (.putfield 130, 3) := by decide +kernel
theorem dX8_recut_64 : decode cX8_recut 64 = .ok (.iload 5, 2) := by decide +kernel
theorem dX8_recut_66 : decode cX8_recut 66 = .ok (.ireturn, 1) := by decide +kernel
theorem dX8_mend_0 : decode cX8_mend 0 = .ok (.iload_n 1, 1) := by decide +kernel
theorem dX8_mend_1 : decode cX8_mend 1 = .ok (.invokestatic 207, 3) := by decide +kernel
theorem dX8_mend_4 : decode cX8_mend 4 = .ok (.ifCond .ne 5, 3) := by decide +kernel
theorem dX8_mend_7 : decode cX8_mend 7 = .ok (.iconst (-1), 1) := by decide +kernel
theorem dX8_mend_8 : decode cX8_mend 8 = .ok (.ireturn, 1) := by decide +kernel
theorem dX8_mend_9 : decode cX8_mend 9 = .ok (.iconst 0, 1) := by decide +kernel
theorem dX8_mend_10 : decode cX8_mend 10 = .ok (.istore_n 2, 1) := by decide +kernel
theorem dX8_mend_11 : decode cX8_mend 11 = .ok (.iload_n 2, 1) := by decide +kernel
theorem dX8_mend_12 : decode cX8_mend 12 = .ok (.aload_n 0, 1) := by decide +kernel
theorem dX8_mend_13 : decode cX8_mend 13 = .ok (.getfield 19, 3) := by decide +kernel
theorem dX8_mend_16 : decode cX8_mend 16 = .ok (.getfield 98, 3) := by decide +kernel
theorem dX8_mend_19 : decode cX8_mend 19 = .ok (.if_icmp .ge 45, 3) := by decide +kernel
theorem dX8_mend_22 : decode cX8_mend 22 = .ok (.aload_n 0, 1) := by decide +kernel
theorem dX8_mend_23 : decode cX8_mend 23 = .ok (.getfield 54, 3) := by decide +kernel
theorem dX8_mend_26 : decode cX8_mend 26 = .ok (.iload_n 2, 1) := by decide +kernel
theorem dX8_mend_27 : decode cX8_mend 27 = .ok (.aload_n 0, 1) := by decide +kernel
theorem dX8_mend_28 : decode cX8_mend 28 = .ok (.getfield 19, 3) := by decide +kernel
theorem dX8_mend_31 : decode cX8_mend 31 = .ok (.getfield 120, 3) := by decide +kernel
theorem dX8_mend_34 : decode cX8_mend 34 = .ok (.iload_n 2, 1) := by decide +kernel
theorem dX8_mend_35 : decode cX8_mend 35 = .ok (.aaload, 1) := by decide +kernel
theorem dX8_mend_36 : decode cX8_mend 36 = .ok (.getfield 127, 3) := by decide +kernel
theorem dX8_mend_39 : decode cX8_mend 39 = .ok (.iastore, 1) := by decide +kernel
theorem dX8_mend_40 : decode cX8_mend 40 = .ok (.aload_n 0, 1) := by decide +kernel
theorem dX8_mend_41 : decode cX8_mend 41 = .ok (.getfield 58, 3) := by decide +kernel
theorem dX8_mend_44 : decode cX8_mend 44 = .ok (.iload_n 2, 1) := by decide +kernel
theorem dX8_mend_45 : decode cX8_mend 45 = .ok (.aload_n 0, 1) := by decide +kernel
theorem dX8_mend_46 : decode cX8_mend 46 = .ok (.getfield 19, 3) := by decide +kernel
theorem dX8_mend_49 : decode cX8_mend 49 = .ok (.getfield 120, 3) := by decide +kernel
theorem dX8_mend_52 : decode cX8_mend 52 = .ok (.iload_n 2, 1) := by decide +kernel
theorem dX8_mend_53 : decode cX8_mend 53 = .ok (.aaload, 1) := by decide +kernel
theorem dX8_mend_54 : decode cX8_mend 54 = .ok (.getfield 130, 3) := by decide +kernel
theorem dX8_mend_57 : decode cX8_mend 57 = .ok (.iastore, 1) := by decide +kernel
theorem dX8_mend_58 : decode cX8_mend 58 = .ok (.iinc 2 1, 3) := by decide +kernel
theorem dX8_mend_61 : decode cX8_mend 61 = .ok (.goto (-50), 3) := by decide +kernel
theorem dX8_mend_64 : decode cX8_mend 64 = .ok (.iconst 0, 1) := by decide +kernel
theorem dX8_mend_65 : decode cX8_mend 65 = .ok (.istore_n 2, 1) := by decide +kernel
theorem dX8_mend_66 : decode cX8_mend 66 = .ok (.iconst 0, 1) := by decide +kernel
theorem dX8_mend_67 : decode cX8_mend 67 = .ok (.istore_n 3, 1) := by decide +kernel
theorem dX8_mend_68 : decode cX8_mend 68 = .ok (.iload_n 3, 1) := by decide +kernel
theorem dX8_mend_69 : decode cX8_mend 69 = .ok (.aload_n 0, 1) := by decide +kernel
theorem dX8_mend_70 : decode cX8_mend 70 = .ok (.getfield 19, 3) := by decide +kernel
theorem dX8_mend_73 : decode cX8_mend 73 = .ok (.getfield 98, 3) := by decide +kernel
theorem dX8_mend_76 : decode cX8_mend 76 = .ok (.if_icmp .ge 54, 3) := by decide +kernel
theorem dX8_mend_79 : decode cX8_mend 79 = .ok (.aload_n 0, 1) := by decide +kernel
theorem dX8_mend_80 : decode cX8_mend 80 = .ok (.getfield 19, 3) := by decide +kernel
theorem dX8_mend_83 : decode cX8_mend 83 = .ok (.iload_n 3, 1) := by decide +kernel
theorem dX8_mend_84 : decode cX8_mend 84 = .ok (.invokevirtual 204, 3) := by decide +kernel
theorem dX8_mend_87 : decode cX8_mend 87 = .ok (.ifCond .eq 37, 3) := by decide +kernel
theorem dX8_mend_90 : decode cX8_mend 90 = .ok (.aload_n 0, 1) := by decide +kernel
theorem dX8_mend_91 : decode cX8_mend 91 = .ok (.getfield 19, 3) := by decide +kernel
theorem dX8_mend_94 : decode cX8_mend 94 = .ok (.iload_n 3, 1) := by decide +kernel
theorem dX8_mend_95 : decode cX8_mend 95 = .ok (.aload_n 0, 1) := by decide +kernel
theorem dX8_mend_96 : decode cX8_mend 96 = .ok (.getfield 50, 3) := by decide +kernel
theorem dX8_mend_99 : decode cX8_mend 99 = .ok (.invokevirtual 242, 3) := by decide +kernel
theorem dX8_mend_102 : decode cX8_mend 102 = .ok (.ifCond .eq 22, 3) := by decide +kernel
theorem dX8_mend_105 : decode cX8_mend 105 = .ok (.aload_n 0, 1) := by decide +kernel
theorem dX8_mend_106 : decode cX8_mend 106 = .ok (.getfield 19, 3) := by decide +kernel
theorem dX8_mend_109 : decode cX8_mend 109 = .ok (.getfield 120, 3) := by decide +kernel
theorem dX8_mend_112 : decode cX8_mend 112 = .ok (.iload_n 3, 1) := by decide +kernel
theorem dX8_mend_113 : decode cX8_mend 113 = .ok (.aaload, 1) := by decide +kernel
theorem dX8_mend_114 : decode cX8_mend 114 = .ok (.aload_n 0, 1) := by decide +kernel
theorem dX8_mend_115 : decode cX8_mend 115 = .ok (.getfield 50, 3) := by decide +kernel
theorem dX8_mend_118 : decode cX8_mend 118 = .ok (.invokevirtual 246, 3) := by decide +kernel
theorem dX8_mend_121 : decode cX8_mend 121 = .ok (.iinc 2 1, 3) := by decide +kernel
theorem dX8_mend_124 : decode cX8_mend 124 = .ok (.iinc 3 1, 3) := by decide +kernel
theorem dX8_mend_127 : decode cX8_mend 127 = .ok (.goto (-59), 3) := by decide +kernel
theorem dX8_mend_130 : decode cX8_mend 130 = .ok (.aload_n 0, 1) := by decide +kernel
theorem dX8_mend_131 : decode cX8_mend 131 = .ok (.getfield 19, 3) := by decide +kernel
theorem dX8_mend_134 : decode cX8_mend 134 = .ok (.invokevirtual 256, 3) := by decide +kernel
theorem dX8_mend_137 : decode cX8_mend 137 = .ok (.istore_n 3, 1) := by decide +kernel
theorem dX8_mend_138 : decode cX8_mend 138 = .ok (.iconst 0, 1) := by decide +kernel
theorem dX8_mend_139 : decode cX8_mend 139 = .ok (.istore 4, 2) := by decide +kernel
theorem dX8_mend_141 : decode cX8_mend 141 = .ok (.iload 4, 2) := by decide +kernel
theorem dX8_mend_143 : decode cX8_mend 143 = .ok (.aload_n 0, 1) := by decide +kernel
theorem dX8_mend_144 : decode cX8_mend 144 = .ok (.getfield 19, 3) := by decide +kernel
theorem dX8_mend_147 : decode cX8_mend 147 = .ok (.getfield 98, 3) := by decide +kernel
theorem dX8_mend_150 : decode cX8_mend 150 = .ok (.if_icmp .ge 49, 3) := by decide +kernel
theorem dX8_mend_153 : decode cX8_mend 153 = .ok (.aload_n 0, 1) := by decide +kernel
theorem dX8_mend_154 : decode cX8_mend 154 = .ok (.getfield 19, 3) := by decide +kernel
theorem dX8_mend_157 : decode cX8_mend 157 = .ok (.getfield 120, 3) := by decide +kernel
theorem dX8_mend_160 : decode cX8_mend 160 = .ok (.iload 4, 2) := by decide +kernel
theorem dX8_mend_162 : decode cX8_mend 162 = .ok (.aaload, 1) := by decide +kernel
theorem dX8_mend_163 : decode cX8_mend 163 = .ok (.aload_n 0, 1) := by decide +kernel
theorem dX8_mend_164 : decode cX8_mend 164 = .ok (.getfield 54, 3) := by decide +kernel
theorem dX8_mend_167 : decode cX8_mend 167 = .ok (.iload 4, 2) := by decide +kernel
theorem dX8_mend_169 : decode cX8_mend 169 = .ok (.iaload, 1) := by decide +kernel
theorem dX8_mend_170 : decode cX8_mend 170 = .ok (.putfield 127, 3) := by decide +kernel
theorem dX8_mend_173 : decode cX8_mend 173 = .ok (.aload_n 0, 1) := by decide +kernel
theorem dX8_mend_174 : decode cX8_mend 174 = .ok (.getfield 19, 3) := by decide +kernel
theorem dX8_mend_177 : decode cX8_mend 177 = .ok (.getfield 120, 3) := by decide +kernel
theorem dX8_mend_180 : decode cX8_mend 180 = .ok (.iload 4, 2) := by decide +kernel
theorem dX8_mend_182 : decode cX8_mend 182 = .ok (.aaload, 1) := by decide +kernel
theorem dX8_mend_183 : decode cX8_mend 183 = .ok (.aload_n 0, 1) := by decide +kernel
theorem dX8_mend_184 : decode cX8_mend 184 = .ok (.getfield 58, 3) := by decide +kernel
theorem dX8_mend_187 : decode cX8_mend 187 = .ok (.iload 4, 2) := by decide +kernel
theorem dX8_mend_189 : decode cX8_mend 189 = .ok (.iaload, 1) := by decide +kernel
theorem dX8_mend_190 : decode cX8_mend 190 = .ok (.putfield 130, 3) := by decide +kernel
theorem dX8_mend_193 : decode cX8_mend 193 = .ok (.iinc 4 1, 3) := by decide +kernel
theorem dX8_mend_196 : decode cX8_mend 196 = .ok (.goto (-55), 3) := by decide +kernel
theorem dX8_mend_199 : decode cX8_mend 199 = .ok (.iload_n 1, 1) := by decide +kernel
theorem dX8_mend_200 : decode cX8_mend 200 = .ok (.ifCond .ne 7, 3) := by decide +kernel
theorem dX8_mend_203 : decode cX8_mend 203 = .ok (.iload_n 2, 1) := by decide +kernel
theorem dX8_mend_204 : decode cX8_mend 204 = .ok (.goto 4, 3) := by decide +kernel
theorem dX8_mend_207 : decode cX8_mend 207 = .ok (.iload_n 3, 1) := by decide +kernel
theorem dX8_mend_208 : decode cX8_mend 208 = .ok (.ireturn, 1) := by decide +kernel
theorem dX8_hold_0 : decode cX8_hold 0 = .ok (.iload_n 1, 1) := by decide +kernel
theorem dX8_hold_1 : decode cX8_hold 1 = .ok (.ifCond .lt 14, 3) := by decide +kernel
theorem dX8_hold_4 : decode cX8_hold 4 = .ok (.iload_n 1, 1) := by decide +kernel
theorem dX8_hold_5 : decode cX8_hold 5 = .ok (.aload_n 0, 1) := by decide +kernel
theorem dX8_hold_6 : decode cX8_hold 6 = .ok (.getfield 19, 3) := by decide +kernel
theorem dX8_hold_9 : decode cX8_hold 9 = .ok (.getfield 113, 3) := by decide +kernel
theorem dX8_hold_12 : decode cX8_hold 12 = .ok (.if_icmp .le 5, 3) := by decide +kernel
theorem dX8_hold_15 : decode cX8_hold 15 = .ok (.iconst (-1), 1) := by decide +kernel
theorem dX8_hold_16 : decode cX8_hold 16 = .ok (.ireturn, 1) := by decide +kernel
theorem dX8_hold_17 : decode cX8_hold 17 = .ok (.aload_n 0, 1) := by decide +kernel
theorem dX8_hold_18 : decode cX8_hold 18 = .ok (.getfield 19, 3) := by decide +kernel
theorem dX8_hold_21 : decode cX8_hold 21 = .ok (.iload_n 1, 1) := by decide +kernel
theorem dX8_hold_22 : decode cX8_hold 22 = .ok (.invokevirtual 259, 3) := by decide +kernel
theorem dX8_hold_25 : decode cX8_hold 25 = .ok (.aload_n 0, 1) := by decide +kernel
theorem dX8_hold_26 : decode cX8_hold 26 = .ok (.getfield 19, 3) := by decide +kernel
theorem dX8_hold_29 : decode cX8_hold 29 = .ok (.invokevirtual 256, 3) := by decide +kernel
theorem dX8_hold_32 : decode cX8_hold 32 = .ok (.ireturn, 1) := by decide +kernel
theorem dX8_ask_0 : decode cX8_ask 0 = .ok (.iload_n 1, 1) := by decide +kernel
theorem dX8_ask_1 : decode cX8_ask 1 = .ok (.aload_n 0, 1) := by decide +kernel
theorem dX8_ask_2 : decode cX8_ask 2 = .ok (.getfield 19, 3) := by decide +kernel
theorem dX8_ask_5 : decode cX8_ask 5 = .ok (.invokevirtual 263, 3) := by decide +kernel
theorem dX8_ask_8 : decode cX8_ask 8 = .ok (.if_icmp .lt 34, 3) := by decide +kernel
theorem dX8_ask_11 : decode cX8_ask 11 = .ok (.iload_n 1, 1) := by decide +kernel
theorem dX8_ask_12 : decode cX8_ask 12 = .ok (.bipush 99, 2) := by decide +kernel
theorem dX8_ask_14 : decode cX8_ask 14 = .ok (.if_icmp .gt 28, 3) := by decide +kernel
theorem dX8_ask_17 : decode cX8_ask 17 = .ok (.aload_n 0, 1) := by decide +kernel
theorem dX8_ask_18 : decode cX8_ask 18 = .ok (.iload_n 2, 1) := by decide +kernel
theorem dX8_ask_19 : decode cX8_ask 19 = .ok (.invokevirtual 116, 3) := by decide +kernel
theorem dX8_ask_22 : decode cX8_ask 22 = .ok (.ifCond .eq 20, 3) := by decide +kernel
theorem dX8_ask_25 : decode cX8_ask 25 = .ok (.iload_n 3, 1) := by decide +kernel
theorem dX8_ask_26 : decode cX8_ask 26 = .ok (.iload 4, 2) := by decide +kernel
theorem dX8_ask_28 : decode cX8_ask 28 = .ok (.invokestatic 253, 3) := by decide +kernel
theorem dX8_ask_31 : decode cX8_ask 31 = .ok (.ifCond .eq 11, 3) := by decide +kernel
theorem dX8_ask_34 : decode cX8_ask 34 = .ok (.iload 5, 2) := by decide +kernel
theorem dX8_ask_36 : decode cX8_ask 36 = .ok (.invokestatic 232, 3) := by decide +kernel
theorem dX8_ask_39 : decode cX8_ask 39 = .ok (.ifCond .ne 5, 3) := by decide +kernel
theorem dX8_ask_42 : decode cX8_ask 42 = .ok (.iconst (-1), 1) := by decide +kernel
theorem dX8_ask_43 : decode cX8_ask 43 = .ok (.ireturn, 1) := by decide +kernel
theorem dX8_ask_44 : decode cX8_ask 44 = .ok (.aload_n 0, 1) := by decide +kernel
theorem dX8_ask_45 : decode cX8_ask 45 = .ok (.getfield 19, 3) := by decide +kernel
theorem dX8_ask_48 : decode cX8_ask 48 = .ok (.getfield 113, 3) := by decide +kernel
theorem dX8_ask_51 : decode cX8_ask 51 = .ok (.bipush 6, 2) := by decide +kernel
theorem dX8_ask_53 : decode cX8_ask 53 = .ok (.if_icmp .lt 6, 3) := by decide +kernel
theorem dX8_ask_56 : decode cX8_ask 56 = .ok (.bipush (-3), 2) := by decide +kernel
theorem dX8_ask_58 : decode cX8_ask 58 = .ok (.ireturn, 1) := by decide +kernel
theorem dX8_ask_59 : decode cX8_ask 59 = .ok (.aload_n 0, 1) := by decide +kernel
theorem dX8_ask_60 : decode cX8_ask 60 = .ok (.getfield 19, 3) := by decide +kernel
theorem dX8_ask_63 : decode cX8_ask 63 = .ok (.iload_n 1, 1) := by decide +kernel
theorem dX8_ask_64 : decode cX8_ask 64 = .ok (.iload_n 2, 1) := by decide +kernel
theorem dX8_ask_65 : decode cX8_ask 65 = .ok (.iload_n 3, 1) := by decide +kernel
theorem dX8_ask_66 : decode cX8_ask 66 = .ok (.iload 4, 2) := by decide +kernel
theorem dX8_ask_68 : decode cX8_ask 68 = .ok (.iload 5, 2) := by decide +kernel
theorem dX8_ask_70 : decode cX8_ask 70 = .ok (.invokevirtual 266, 3) := by decide +kernel
theorem dX8_ask_73 : decode cX8_ask 73 = .ok (.aload_n 0, 1) := by decide +kernel
theorem dX8_ask_74 : decode cX8_ask 74 = .ok (.getfield 19, 3) := by decide +kernel
theorem dX8_ask_77 : decode cX8_ask 77 = .ok (.getfield 113, 3) := by decide +kernel
theorem dX8_ask_80 : decode cX8_ask 80 = .ok (.ireturn, 1) := by decide +kernel
theorem dX8_see_0 : decode cX8_see 0 = .ok (.aload_n 0, 1) := by decide +kernel
theorem dX8_see_1 : decode cX8_see 1 = .ok (.iload_n 1, 1) := by decide +kernel
theorem dX8_see_2 : decode cX8_see 2 = .ok (.iload_n 2, 1) := by decide +kernel
theorem dX8_see_3 : decode cX8_see 3 = .ok (.iload_n 3, 1) := by decide +kernel
theorem dX8_see_4 : decode cX8_see 4 = .ok (.invokevirtual 270, 3) := by decide +kernel
theorem dX8_see_7 : decode cX8_see 7 = .ok (.ireturn, 1) := by decide +kernel
theorem dX8_forget_0 : decode cX8_forget 0 = .ok (.iload_n 1, 1) := by decide +kernel
theorem dX8_forget_1 : decode cX8_forget 1 = .ok (.ifCond .lt 14, 3) := by decide +kernel
theorem dX8_forget_4 : decode cX8_forget 4 = .ok (.iload_n 1, 1) := by decide +kernel
theorem dX8_forget_5 : decode cX8_forget 5 = .ok (.aload_n 0, 1) := by decide +kernel
theorem dX8_forget_6 : decode cX8_forget 6 = .ok (.getfield 19, 3) := by decide +kernel
theorem dX8_forget_9 : decode cX8_forget 9 = .ok (.getfield 274, 3) := by decide +kernel
theorem dX8_forget_12 : decode cX8_forget 12 = .ok (.if_icmp .le 5, 3) := by decide +kernel
theorem dX8_forget_15 : decode cX8_forget 15 = .ok (.iconst (-1), 1) := by decide +kernel
theorem dX8_forget_16 : decode cX8_forget 16 = .ok (.ireturn, 1) := by decide +kernel
theorem dX8_forget_17 : decode cX8_forget 17 = .ok (.aload_n 0, 1) := by decide +kernel
theorem dX8_forget_18 : decode cX8_forget 18 = .ok (.getfield 19, 3) := by decide +kernel
theorem dX8_forget_21 : decode cX8_forget 21 = .ok (.getfield 274, 3) := by decide +kernel
theorem dX8_forget_24 : decode cX8_forget 24 = .ok (.istore_n 2, 1) := by decide +kernel
theorem dX8_forget_25 : decode cX8_forget 25 = .ok (.aload_n 0, 1) := by decide +kernel
theorem dX8_forget_26 : decode cX8_forget 26 = .ok (.getfield 19, 3) := by decide +kernel
theorem dX8_forget_29 : decode cX8_forget 29 = .ok (.iload_n 1, 1) := by decide +kernel
theorem dX8_forget_30 : decode cX8_forget 30 = .ok (.putfield 274, 3) := by decide +kernel
theorem dX8_forget_33 : decode cX8_forget 33 = .ok (.iload_n 2, 1) := by decide +kernel
theorem dX8_forget_34 : decode cX8_forget 34 = .ok (.ireturn, 1) := by decide +kernel
theorem dX8_error_0 : decode cX8_error 0 = .ok (.aload_n 0, 1) := by decide +kernel
theorem dX8_error_1 : decode cX8_error 1 = .ok (.iload_n 1, 1) := by decide +kernel
theorem dX8_error_2 : decode cX8_error 2 = .ok (.invokevirtual 116, 3) := by decide +kernel
theorem dX8_error_5 : decode cX8_error 5 = .ok (.ifCond .ne 5, 3) := by decide +kernel
theorem dX8_error_8 : decode cX8_error 8 = .ok (.iconst (-1), 1) := by decide +kernel
theorem dX8_error_9 : decode cX8_error 9 = .ok (.ireturn, 1) := by decide +kernel
theorem dX8_error_10 : decode cX8_error 10 = .ok (.aload_n 0, 1) := by decide +kernel
theorem dX8_error_11 : decode cX8_error 11 = .ok (.getfield 19, 3) := by decide +kernel
theorem dX8_error_14 : decode cX8_error 14 = .ok (.getfield 120, 3) := by decide +kernel
theorem dX8_error_17 : decode cX8_error 17 = .ok (.iload_n 1, 1) := by decide +kernel
theorem dX8_error_18 : decode cX8_error 18 = .ok (.aaload, 1) := by decide +kernel
theorem dX8_error_19 : decode cX8_error 19 = .ok (.astore_n 2, 1) := by decide +kernel
theorem dX8_error_20 : decode cX8_error 20 = .ok (.aload_n 0, 1) := by decide +kernel
theorem dX8_error_21 : decode cX8_error 21 = .ok (.getfield 50, 3) := by decide +kernel
theorem dX8_error_24 : decode cX8_error 24 = .ok (.aload_n 2, 1) := by decide +kernel
theorem dX8_error_25 : decode cX8_error 25 = .ok (.invokevirtual 246, 3) := by decide +kernel
theorem dX8_error_28 : decode cX8_error 28 = .ok (.aload_n 0, 1) := by decide +kernel
theorem dX8_error_29 : decode cX8_error 29 = .ok (.getfield 50, 3) := by decide +kernel
theorem dX8_error_32 : decode cX8_error 32 = .ok (.aload_n 2, 1) := by decide +kernel
theorem dX8_error_33 : decode cX8_error 33 = .ok (.getfield 130, 3) := by decide +kernel
theorem dX8_error_36 : decode cX8_error 36 = .ok (.iconst 1, 1) := by decide +kernel
theorem dX8_error_37 : decode cX8_error 37 = .ok (.iadd, 1) := by decide +kernel
theorem dX8_error_38 : decode cX8_error 38 = .ok (.aload_n 2, 1) := by decide +kernel
theorem dX8_error_39 : decode cX8_error 39 = .ok (.getfield 127, 3) := by decide +kernel
theorem dX8_error_42 : decode cX8_error 42 = .ok (.if_icmp .ge 12, 3) := by decide +kernel
theorem dX8_error_45 : decode cX8_error 45 = .ok (.aload_n 2, 1) := by decide +kernel
theorem dX8_error_46 : decode cX8_error 46 = .ok (.getfield 130, 3) := by decide +kernel
theorem dX8_error_49 : decode cX8_error 49 = .ok (.iconst 1, 1) := by decide +kernel
theorem dX8_error_50 : decode cX8_error 50 = .ok (.iadd, 1) := by decide +kernel
theorem dX8_error_51 : decode cX8_error 51 = .ok (.goto 4, 3) := by decide +kernel
theorem dX8_error_54 : decode cX8_error 54 = .ok (.iconst 0, 1) := by decide +kernel
theorem dX8_error_55 : decode cX8_error 55 = .ok (.putfield 130, 3) := by decide +kernel
theorem dX8_error_58 : decode cX8_error 58 = .ok (.aload_n 0, 1) := by decide +kernel
theorem dX8_error_59 : decode cX8_error 59 = .ok (.getfield 19, 3) := by decide +kernel
theorem dX8_error_62 : decode cX8_error 62 = .ok (.iload_n 1, 1) := by decide +kernel
theorem dX8_error_63 : decode cX8_error 63 = .ok (.aload_n 2, 1) := by decide +kernel
theorem dX8_error_64 : decode cX8_error 64 = .ok (.invokevirtual 277, 3) := by decide +kernel
theorem dX8_error_67 : decode cX8_error 67 = .ok (.istore_n 3, 1) := by decide +kernel
theorem dX8_error_68 : decode cX8_error 68 = .ok (.aload_n 0, 1) := by decide +kernel
theorem dX8_error_69 : decode cX8_error 69 = .ok (.getfield 19, 3) := by decide +kernel
theorem dX8_error_72 : decode cX8_error 72 = .ok (.iload_n 1, 1) := by decide +kernel
theorem dX8_error_73 : decode cX8_error 73 = .ok (.aload_n 0, 1) := by decide +kernel
theorem dX8_error_74 : decode cX8_error 74 = .ok (.getfield 50, 3) := by decide +kernel
theorem dX8_error_77 : decode cX8_error 77 = .ok (.invokevirtual 277, 3) := by decide +kernel
theorem dX8_error_80 : decode cX8_error 80 = .ok (.istore 4, 2) := by decide +kernel
theorem dX8_error_82 : decode cX8_error 82 = .ok (.iload_n 3, 1) := by decide +kernel
theorem dX8_error_83 : decode cX8_error 83 = .ok (.ifCond .eq 14, 3) := by decide +kernel
theorem dX8_error_86 : decode cX8_error 86 = .ok (.iload 4, 2) := by decide +kernel
theorem dX8_error_88 : decode cX8_error 88 = .ok (.ifCond .eq 7, 3) := by decide +kernel
theorem dX8_error_91 : decode cX8_error 91 = .ok (.iconst 2, 1) := by decide +kernel
theorem dX8_error_92 : decode cX8_error 92 = .ok (.goto 4, 3) := by decide +kernel
theorem dX8_error_95 : decode cX8_error 95 = .ok (.iconst 0, 1) := by decide +kernel
theorem dX8_error_96 : decode cX8_error 96 = .ok (.ireturn, 1) := by decide +kernel
theorem dX8_error_97 : decode cX8_error 97 = .ok (.iload 4, 2) := by decide +kernel
theorem dX8_error_99 : decode cX8_error 99 = .ok (.ifCond .eq 7, 3) := by decide +kernel
theorem dX8_error_102 : decode cX8_error 102 = .ok (.iconst 1, 1) := by decide +kernel
theorem dX8_error_103 : decode cX8_error 103 = .ok (.goto 4, 3) := by decide +kernel
theorem dX8_error_106 : decode cX8_error 106 = .ok (.iconst 3, 1) := by decide +kernel
theorem dX8_error_107 : decode cX8_error 107 = .ok (.ireturn, 1) := by decide +kernel
theorem dX8_wheels_0 : decode cX8_wheels 0 = .ok (.aload_n 0, 1) := by decide +kernel
theorem dX8_wheels_1 : decode cX8_wheels 1 = .ok (.iload_n 1, 1) := by decide +kernel
theorem dX8_wheels_2 : decode cX8_wheels 2 = .ok (.invokevirtual 116, 3) := by decide +kernel
theorem dX8_wheels_5 : decode cX8_wheels 5 = .ok (.ifCond .eq 12, 3) := by decide +kernel
theorem dX8_wheels_8 : decode cX8_wheels 8 = .ok (.iload_n 2, 1) := by decide +kernel
theorem dX8_wheels_9 : decode cX8_wheels 9 = .ok (.ifCond .lt 8, 3) := by decide +kernel
theorem dX8_wheels_12 : decode cX8_wheels 12 = .ok (.iload_n 2, 1) := by decide +kernel
