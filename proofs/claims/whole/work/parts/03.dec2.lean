theorem dX8_wheels_13 : decode cX8_wheels 13 = .ok (.iconst 2, 1) := by decide +kernel
theorem dX8_wheels_14 : decode cX8_wheels 14 = .ok (.if_icmp .le 5, 3) := by decide +kernel
theorem dX8_wheels_17 : decode cX8_wheels 17 = .ok (.iconst (-1), 1) := by decide +kernel
theorem dX8_wheels_18 : decode cX8_wheels 18 = .ok (.ireturn, 1) := by decide +kernel
theorem dX8_wheels_19 : decode cX8_wheels 19 = .ok (.iconst 0, 1) := by decide +kernel
theorem dX8_wheels_20 : decode cX8_wheels 20 = .ok (.istore_n 3, 1) := by decide +kernel
theorem dX8_wheels_21 : decode cX8_wheels 21 = .ok (.iconst 2, 1) := by decide +kernel
theorem dX8_wheels_22 : decode cX8_wheels 22 = .ok (.istore 4, 2) := by decide +kernel
theorem dX8_wheels_24 : decode cX8_wheels 24 = .ok (.iload 4, 2) := by decide +kernel
theorem dX8_wheels_26 : decode cX8_wheels 26 = .ok (.bipush 60, 2) := by decide +kernel
theorem dX8_wheels_28 : decode cX8_wheels 28 = .ok (.if_icmp .gt 62, 3) := by decide +kernel
theorem dX8_wheels_31 : decode cX8_wheels 31 = .ok (.aload_n 0, 1) := by decide +kernel
theorem dX8_wheels_32 : decode cX8_wheels 32 = .ok (.getfield 19, 3) := by decide +kernel
theorem dX8_wheels_35 : decode cX8_wheels 35 = .ok (.iload_n 1, 1) := by decide +kernel
theorem dX8_wheels_36 : decode cX8_wheels 36 = .ok (.iload 4, 2) := by decide +kernel
theorem dX8_wheels_38 : decode cX8_wheels 38 = .ok (.invokevirtual 280, 3) := by decide +kernel
theorem dX8_wheels_41 : decode cX8_wheels 41 = .ok (.lstore 5, 2) := by decide +kernel
theorem dX8_wheels_43 : decode cX8_wheels 43 = .ok (.lload 5, 2) := by decide +kernel
theorem dX8_wheels_45 : decode cX8_wheels 45 = .ok (.lconst 0, 1) := by decide +kernel
theorem dX8_wheels_46 : decode cX8_wheels 46 = .ok (.lcmp, 1) := by decide +kernel
theorem dX8_wheels_47 : decode cX8_wheels 47 = .ok (.ifCond .eq 11, 3) := by decide +kernel
theorem dX8_wheels_50 : decode cX8_wheels 50 = .ok (.iload_n 2, 1) := by decide +kernel
theorem dX8_wheels_51 : decode cX8_wheels 51 = .ok (.iconst 1, 1) := by decide +kernel
theorem dX8_wheels_52 : decode cX8_wheels 52 = .ok (.if_icmp .ne 6, 3) := by decide +kernel
theorem dX8_wheels_55 : decode cX8_wheels 55 = .ok (.iload 4, 2) := by decide +kernel
theorem dX8_wheels_57 : decode cX8_wheels 57 = .ok (.ireturn, 1) := by decide +kernel
theorem dX8_wheels_58 : decode cX8_wheels 58 = .ok (.lload 5, 2) := by decide +kernel
theorem dX8_wheels_60 : decode cX8_wheels 60 = .ok (.lconst 0, 1) := by decide +kernel
theorem dX8_wheels_61 : decode cX8_wheels 61 = .ok (.lcmp, 1) := by decide +kernel
theorem dX8_wheels_62 : decode cX8_wheels 62 = .ok (.ifCond .eq 14, 3) := by decide +kernel
theorem dX8_wheels_65 : decode cX8_wheels 65 = .ok (.iload_n 2, 1) := by decide +kernel
theorem dX8_wheels_66 : decode cX8_wheels 66 = .ok (.iconst 2, 1) := by decide +kernel
theorem dX8_wheels_67 : decode cX8_wheels 67 = .ok (.if_icmp .ne 9, 3) := by decide +kernel
theorem dX8_wheels_70 : decode cX8_wheels 70 = .ok (.lload 5, 2) := by decide +kernel
theorem dX8_wheels_72 : decode cX8_wheels 72 = .ok (.invokestatic 284, 3) := by decide +kernel
theorem dX8_wheels_75 : decode cX8_wheels 75 = .ok (.ireturn, 1) := by decide +kernel
theorem dX8_wheels_76 : decode cX8_wheels 76 = .ok (.iload_n 3, 1) := by decide +kernel
theorem dX8_wheels_77 : decode cX8_wheels 77 = .ok (.lload 5, 2) := by decide +kernel
theorem dX8_wheels_79 : decode cX8_wheels 79 = .ok (.invokestatic 287, 3) := by decide +kernel
theorem dX8_wheels_82 : decode cX8_wheels 82 = .ok (.iadd, 1) := by decide +kernel
theorem dX8_wheels_83 : decode cX8_wheels 83 = .ok (.istore_n 3, 1) := by decide +kernel
theorem dX8_wheels_84 : decode cX8_wheels 84 = .ok (.iinc 4 1, 3) := by decide +kernel
theorem dX8_wheels_87 : decode cX8_wheels 87 = .ok (.goto (-63), 3) := by decide +kernel
theorem dX8_wheels_90 : decode cX8_wheels 90 = .ok (.iload_n 2, 1) := by decide +kernel
theorem dX8_wheels_91 : decode cX8_wheels 91 = .ok (.ifCond .ne 7, 3) := by decide +kernel
theorem dX8_wheels_94 : decode cX8_wheels 94 = .ok (.iload_n 3, 1) := by decide +kernel
theorem dX8_wheels_95 : decode cX8_wheels 95 = .ok (.goto 5, 3) := by decide +kernel
theorem dX8_wheels_98 : decode cX8_wheels 98 = .ok (.bipush (-4), 2) := by decide +kernel
theorem dX8_wheels_100 : decode cX8_wheels 100 = .ok (.ireturn, 1) := by decide +kernel
theorem dX8_worn_0 : decode cX8_worn 0 = .ok (.aload_n 0, 1) := by decide +kernel
theorem dX8_worn_1 : decode cX8_worn 1 = .ok (.iload_n 1, 1) := by decide +kernel
theorem dX8_worn_2 : decode cX8_worn 2 = .ok (.invokevirtual 116, 3) := by decide +kernel
theorem dX8_worn_5 : decode cX8_worn 5 = .ok (.ifCond .ne 5, 3) := by decide +kernel
theorem dX8_worn_8 : decode cX8_worn 8 = .ok (.iconst (-1), 1) := by decide +kernel
theorem dX8_worn_9 : decode cX8_worn 9 = .ok (.ireturn, 1) := by decide +kernel
theorem dX8_worn_10 : decode cX8_worn 10 = .ok (.aload_n 0, 1) := by decide +kernel
theorem dX8_worn_11 : decode cX8_worn 11 = .ok (.getfield 50, 3) := by decide +kernel
theorem dX8_worn_14 : decode cX8_worn 14 = .ok (.aload_n 0, 1) := by decide +kernel
theorem dX8_worn_15 : decode cX8_worn 15 = .ok (.getfield 19, 3) := by decide +kernel
theorem dX8_worn_18 : decode cX8_worn 18 = .ok (.getfield 120, 3) := by decide +kernel
theorem dX8_worn_21 : decode cX8_worn 21 = .ok (.iload_n 1, 1) := by decide +kernel
theorem dX8_worn_22 : decode cX8_worn 22 = .ok (.aaload, 1) := by decide +kernel
theorem dX8_worn_23 : decode cX8_worn 23 = .ok (.invokevirtual 246, 3) := by decide +kernel
theorem dX8_worn_26 : decode cX8_worn 26 = .ok (.iconst 0, 1) := by decide +kernel
theorem dX8_worn_27 : decode cX8_worn 27 = .ok (.istore_n 2, 1) := by decide +kernel
theorem dX8_worn_28 : decode cX8_worn 28 = .ok (.iconst 0, 1) := by decide +kernel
theorem dX8_worn_29 : decode cX8_worn 29 = .ok (.istore_n 3, 1) := by decide +kernel
theorem dX8_worn_30 : decode cX8_worn 30 = .ok (.iload_n 3, 1) := by decide +kernel
theorem dX8_worn_31 : decode cX8_worn 31 = .ok (.iconst 3, 1) := by decide +kernel
theorem dX8_worn_32 : decode cX8_worn 32 = .ok (.if_icmp .gt 38, 3) := by decide +kernel
theorem dX8_worn_35 : decode cX8_worn 35 = .ok (.aload_n 0, 1) := by decide +kernel
theorem dX8_worn_36 : decode cX8_worn 36 = .ok (.getfield 50, 3) := by decide +kernel
theorem dX8_worn_39 : decode cX8_worn 39 = .ok (.iload_n 3, 1) := by decide +kernel
theorem dX8_worn_40 : decode cX8_worn 40 = .ok (.putfield 136, 3) := by decide +kernel
theorem dX8_worn_43 : decode cX8_worn 43 = .ok (.aload_n 0, 1) := by decide +kernel
theorem dX8_worn_44 : decode cX8_worn 44 = .ok (.getfield 19, 3) := by decide +kernel
theorem dX8_worn_47 : decode cX8_worn 47 = .ok (.iload_n 1, 1) := by decide +kernel
theorem dX8_worn_48 : decode cX8_worn 48 = .ok (.aload_n 0, 1) := by decide +kernel
theorem dX8_worn_49 : decode cX8_worn 49 = .ok (.getfield 50, 3) := by decide +kernel
theorem dX8_worn_52 : decode cX8_worn 52 = .ok (.invokevirtual 277, 3) := by decide +kernel
theorem dX8_worn_55 : decode cX8_worn 55 = .ok (.ifCond .eq 9, 3) := by decide +kernel
theorem dX8_worn_58 : decode cX8_worn 58 = .ok (.iload_n 2, 1) := by decide +kernel
theorem dX8_worn_59 : decode cX8_worn 59 = .ok (.iconst 1, 1) := by decide +kernel
theorem dX8_worn_60 : decode cX8_worn 60 = .ok (.iload_n 3, 1) := by decide +kernel
theorem dX8_worn_61 : decode cX8_worn 61 = .ok (.ishl, 1) := by decide +kernel
theorem dX8_worn_62 : decode cX8_worn 62 = .ok (.ior, 1) := by decide +kernel
theorem dX8_worn_63 : decode cX8_worn 63 = .ok (.istore_n 2, 1) := by decide +kernel
theorem dX8_worn_64 : decode cX8_worn 64 = .ok (.iinc 3 1, 3) := by decide +kernel
theorem dX8_worn_67 : decode cX8_worn 67 = .ok (.goto (-37), 3) := by decide +kernel
theorem dX8_worn_70 : decode cX8_worn 70 = .ok (.iload_n 2, 1) := by decide +kernel
theorem dX8_worn_71 : decode cX8_worn 71 = .ok (.ireturn, 1) := by decide +kernel
theorem dX8_fright_0 : decode cX8_fright 0 = .ok (.iload_n 1, 1) := by decide +kernel
theorem dX8_fright_1 : decode cX8_fright 1 = .ok (.invokestatic 232, 3) := by decide +kernel
theorem dX8_fright_4 : decode cX8_fright 4 = .ok (.ifCond .eq 18, 3) := by decide +kernel
theorem dX8_fright_7 : decode cX8_fright 7 = .ok (.lload_n 2, 1) := by decide +kernel
theorem dX8_fright_8 : decode cX8_fright 8 = .ok (.invokestatic 160, 3) := by decide +kernel
theorem dX8_fright_11 : decode cX8_fright 11 = .ok (.ifCond .eq 11, 3) := by decide +kernel
theorem dX8_fright_14 : decode cX8_fright 14 = .ok (.iload 4, 2) := by decide +kernel
theorem dX8_fright_16 : decode cX8_fright 16 = .ok (.invokestatic 226, 3) := by decide +kernel
theorem dX8_fright_19 : decode cX8_fright 19 = .ok (.ifCond .ne 5, 3) := by decide +kernel
theorem dX8_fright_22 : decode cX8_fright 22 = .ok (.iconst (-1), 1) := by decide +kernel
theorem dX8_fright_23 : decode cX8_fright 23 = .ok (.ireturn, 1) := by decide +kernel
theorem dX8_fright_24 : decode cX8_fright 24 = .ok (.aload_n 0, 1) := by decide +kernel
theorem dX8_fright_25 : decode cX8_fright 25 = .ok (.lload_n 2, 1) := by decide +kernel
theorem dX8_fright_26 : decode cX8_fright 26 = .ok (.iload 4, 2) := by decide +kernel
theorem dX8_fright_28 : decode cX8_fright 28 = .ok (.invokevirtual 292, 3) := by decide +kernel
theorem dX8_fright_31 : decode cX8_fright 31 = .ok (.aload_n 0, 1) := by decide +kernel
theorem dX8_fright_32 : decode cX8_fright 32 = .ok (.getfield 61, 3) := by decide +kernel
theorem dX8_fright_35 : decode cX8_fright 35 = .ok (.iload_n 1, 1) := by decide +kernel
theorem dX8_fright_36 : decode cX8_fright 36 = .ok (.iaload, 1) := by decide +kernel
theorem dX8_fright_37 : decode cX8_fright 37 = .ok (.ireturn, 1) := by decide +kernel
theorem dX8_stand_0 : decode cX8_stand 0 = .ok (.lload_n 1, 1) := by decide +kernel
theorem dX8_stand_1 : decode cX8_stand 1 = .ok (.invokestatic 160, 3) := by decide +kernel
theorem dX8_stand_4 : decode cX8_stand 4 = .ok (.ifCond .eq 10, 3) := by decide +kernel
theorem dX8_stand_7 : decode cX8_stand 7 = .ok (.iload_n 3, 1) := by decide +kernel
theorem dX8_stand_8 : decode cX8_stand 8 = .ok (.invokestatic 226, 3) := by decide +kernel
theorem dX8_stand_11 : decode cX8_stand 11 = .ok (.ifCond .ne 5, 3) := by decide +kernel
theorem dX8_stand_14 : decode cX8_stand 14 = .ok (.iconst (-1), 1) := by decide +kernel
theorem dX8_stand_15 : decode cX8_stand 15 = .ok (.ireturn, 1) := by decide +kernel
theorem dX8_stand_16 : decode cX8_stand 16 = .ok (.aload_n 0, 1) := by decide +kernel
theorem dX8_stand_17 : decode cX8_stand 17 = .ok (.lload_n 1, 1) := by decide +kernel
theorem dX8_stand_18 : decode cX8_stand 18 = .ok (.iload_n 3, 1) := by decide +kernel
theorem dX8_stand_19 : decode cX8_stand 19 = .ok (.invokevirtual 292, 3) := by decide +kernel
theorem dX8_stand_22 : decode cX8_stand 22 = .ok (.iconst 0, 1) := by decide +kernel
theorem dX8_stand_23 : decode cX8_stand 23 = .ok (.istore 4, 2) := by decide +kernel
theorem dX8_stand_25 : decode cX8_stand 25 = .ok (.iconst 1, 1) := by decide +kernel
theorem dX8_stand_26 : decode cX8_stand 26 = .ok (.istore 5, 2) := by decide +kernel
theorem dX8_stand_28 : decode cX8_stand 28 = .ok (.iload 5, 2) := by decide +kernel
theorem dX8_stand_30 : decode cX8_stand 30 = .ok (.aload_n 0, 1) := by decide +kernel
theorem dX8_stand_31 : decode cX8_stand 31 = .ok (.getfield 61, 3) := by decide +kernel
theorem dX8_stand_34 : decode cX8_stand 34 = .ok (.arraylength, 1) := by decide +kernel
theorem dX8_stand_35 : decode cX8_stand 35 = .ok (.if_icmp .ge 30, 3) := by decide +kernel
theorem dX8_stand_38 : decode cX8_stand 38 = .ok (.aload_n 0, 1) := by decide +kernel
theorem dX8_stand_39 : decode cX8_stand 39 = .ok (.getfield 61, 3) := by decide +kernel
theorem dX8_stand_42 : decode cX8_stand 42 = .ok (.iload 5, 2) := by decide +kernel
theorem dX8_stand_44 : decode cX8_stand 44 = .ok (.iaload, 1) := by decide +kernel
theorem dX8_stand_45 : decode cX8_stand 45 = .ok (.aload_n 0, 1) := by decide +kernel
theorem dX8_stand_46 : decode cX8_stand 46 = .ok (.getfield 61, 3) := by decide +kernel
theorem dX8_stand_49 : decode cX8_stand 49 = .ok (.iload 4, 2) := by decide +kernel
theorem dX8_stand_51 : decode cX8_stand 51 = .ok (.iaload, 1) := by decide +kernel
theorem dX8_stand_52 : decode cX8_stand 52 = .ok (.if_icmp .ge 7, 3) := by decide +kernel
theorem dX8_stand_55 : decode cX8_stand 55 = .ok (.iload 5, 2) := by decide +kernel
theorem dX8_stand_57 : decode cX8_stand 57 = .ok (.istore 4, 2) := by decide +kernel
theorem dX8_stand_59 : decode cX8_stand 59 = .ok (.iinc 5 1, 3) := by decide +kernel
theorem dX8_stand_62 : decode cX8_stand 62 = .ok (.goto (-34), 3) := by decide +kernel
theorem dX8_stand_65 : decode cX8_stand 65 = .ok (.iload 4, 2) := by decide +kernel
theorem dX8_stand_67 : decode cX8_stand 67 = .ok (.ireturn, 1) := by decide +kernel
theorem dX8_keep_0 : decode cX8_keep 0 = .ok (.iload_n 1, 1) := by decide +kernel
theorem dX8_keep_1 : decode cX8_keep 1 = .ok (.invokestatic 296, 3) := by decide +kernel
theorem dX8_keep_4 : decode cX8_keep 4 = .ok (.ifCond .ne 5, 3) := by decide +kernel
theorem dX8_keep_7 : decode cX8_keep 7 = .ok (.iconst (-1), 1) := by decide +kernel
theorem dX8_keep_8 : decode cX8_keep 8 = .ok (.ireturn, 1) := by decide +kernel
theorem dX8_keep_9 : decode cX8_keep 9 = .ok (.aload_n 0, 1) := by decide +kernel
theorem dX8_keep_10 : decode cX8_keep 10 = .ok (.getfield 30, 3) := by decide +kernel
theorem dX8_keep_13 : decode cX8_keep 13 = .ok (.iload_n 1, 1) := by decide +kernel
theorem dX8_keep_14 : decode cX8_keep 14 = .ok (.baload, 1) := by decide +kernel
theorem dX8_keep_15 : decode cX8_keep 15 = .ok (.ifCond .eq 7, 3) := by decide +kernel
theorem dX8_keep_18 : decode cX8_keep 18 = .ok (.iconst 1, 1) := by decide +kernel
theorem dX8_keep_19 : decode cX8_keep 19 = .ok (.goto 4, 3) := by decide +kernel
theorem dX8_keep_22 : decode cX8_keep 22 = .ok (.iconst 0, 1) := by decide +kernel
theorem dX8_keep_23 : decode cX8_keep 23 = .ok (.istore_n 2, 1) := by decide +kernel
theorem dX8_keep_24 : decode cX8_keep 24 = .ok (.aload_n 0, 1) := by decide +kernel
theorem dX8_keep_25 : decode cX8_keep 25 = .ok (.getfield 26, 3) := by decide +kernel
theorem dX8_keep_28 : decode cX8_keep 28 = .ok (.iload_n 1, 1) := by decide +kernel
theorem dX8_keep_29 : decode cX8_keep 29 = .ok (.aaload, 1) := by decide +kernel
theorem dX8_keep_30 : decode cX8_keep 30 = .ok (.aload_n 0, 1) := by decide +kernel
theorem dX8_keep_31 : decode cX8_keep 31 = .ok (.getfield 19, 3) := by decide +kernel
theorem dX8_keep_34 : decode cX8_keep 34 = .ok (.invokevirtual 94, 3) := by decide +kernel
theorem dX8_keep_37 : decode cX8_keep 37 = .ok (.aload_n 0, 1) := by decide +kernel
theorem dX8_keep_38 : decode cX8_keep 38 = .ok (.getfield 30, 3) := by decide +kernel
theorem dX8_keep_41 : decode cX8_keep 41 = .ok (.iload_n 1, 1) := by decide +kernel
theorem dX8_keep_42 : decode cX8_keep 42 = .ok (.iconst 1, 1) := by decide +kernel
theorem dX8_keep_43 : decode cX8_keep 43 = .ok (.bastore, 1) := by decide +kernel
theorem dX8_keep_44 : decode cX8_keep 44 = .ok (.iload_n 2, 1) := by decide +kernel
theorem dX8_keep_45 : decode cX8_keep 45 = .ok (.ireturn, 1) := by decide +kernel
theorem dX8_back_0 : decode cX8_back 0 = .ok (.iload_n 1, 1) := by decide +kernel
theorem dX8_back_1 : decode cX8_back 1 = .ok (.invokestatic 296, 3) := by decide +kernel
theorem dX8_back_4 : decode cX8_back 4 = .ok (.ifCond .ne 5, 3) := by decide +kernel
theorem dX8_back_7 : decode cX8_back 7 = .ok (.iconst (-1), 1) := by decide +kernel
theorem dX8_back_8 : decode cX8_back 8 = .ok (.ireturn, 1) := by decide +kernel
theorem dX8_back_9 : decode cX8_back 9 = .ok (.aload_n 0, 1) := by decide +kernel
theorem dX8_back_10 : decode cX8_back 10 = .ok (.getfield 30, 3) := by decide +kernel
theorem dX8_back_13 : decode cX8_back 13 = .ok (.iload_n 1, 1) := by decide +kernel
theorem dX8_back_14 : decode cX8_back 14 = .ok (.baload, 1) := by decide +kernel
theorem dX8_back_15 : decode cX8_back 15 = .ok (.ifCond .ne 6, 3) := by decide +kernel
theorem dX8_back_18 : decode cX8_back 18 = .ok (.bipush (-2), 2) := by decide +kernel
theorem dX8_back_20 : decode cX8_back 20 = .ok (.ireturn, 1) := by decide +kernel
theorem dX8_back_21 : decode cX8_back 21 = .ok (.aload_n 0, 1) := by decide +kernel
theorem dX8_back_22 : decode cX8_back 22 = .ok (.getfield 19, 3) := by decide +kernel
theorem dX8_back_25 : decode cX8_back 25 = .ok (.aload_n 0, 1) := by decide +kernel
theorem dX8_back_26 : decode cX8_back 26 = .ok (.getfield 26, 3) := by decide +kernel
theorem dX8_back_29 : decode cX8_back 29 = .ok (.iload_n 1, 1) := by decide +kernel
theorem dX8_back_30 : decode cX8_back 30 = .ok (.aaload, 1) := by decide +kernel
theorem dX8_back_31 : decode cX8_back 31 = .ok (.invokevirtual 94, 3) := by decide +kernel
theorem dX8_back_34 : decode cX8_back 34 = .ok (.aload_n 0, 1) := by decide +kernel
theorem dX8_back_35 : decode cX8_back 35 = .ok (.getfield 19, 3) := by decide +kernel
theorem dX8_back_38 : decode cX8_back 38 = .ok (.getfield 98, 3) := by decide +kernel
theorem dX8_back_41 : decode cX8_back 41 = .ok (.ireturn, 1) := by decide +kernel
theorem dX8_sheet_0 : decode cX8_sheet 0 = .ok (.iload_n 1, 1) := by decide +kernel
theorem dX8_sheet_1 : decode cX8_sheet 1 = .ok (.invokestatic 299, 3) := by decide +kernel
theorem dX8_sheet_4 : decode cX8_sheet 4 = .ok (.ifCond .eq 16, 3) := by decide +kernel
theorem dX8_sheet_7 : decode cX8_sheet 7 = .ok (.iload_n 2, 1) := by decide +kernel
theorem dX8_sheet_8 : decode cX8_sheet 8 = .ok (.invokestatic 302, 3) := by decide +kernel
theorem dX8_sheet_11 : decode cX8_sheet 11 = .ok (.ifCond .eq 9, 3) := by decide +kernel
theorem dX8_sheet_14 : decode cX8_sheet 14 = .ok (.iload_n 3, 1) := by decide +kernel
theorem dX8_sheet_15 : decode cX8_sheet 15 = .ok (.bipush 40, 2) := by decide +kernel
theorem dX8_sheet_17 : decode cX8_sheet 17 = .ok (.if_icmp .le 5, 3) := by decide +kernel
theorem dX8_sheet_20 : decode cX8_sheet 20 = .ok (.iconst (-1), 1) := by decide +kernel
theorem dX8_sheet_21 : decode cX8_sheet 21 = .ok (.ireturn, 1) := by decide +kernel
theorem dX8_sheet_22 : decode cX8_sheet 22 = .ok (.iload_n 3, 1) := by decide +kernel
theorem dX8_sheet_23 : decode cX8_sheet 23 = .ok (.ifCond .ge 6, 3) := by decide +kernel
theorem dX8_sheet_26 : decode cX8_sheet 26 = .ok (.bipush (-14), 2) := by decide +kernel
theorem dX8_sheet_28 : decode cX8_sheet 28 = .ok (.ireturn, 1) := by decide +kernel
theorem dX8_sheet_29 : decode cX8_sheet 29 = .ok (.aload_n 0, 1) := by decide +kernel
theorem dX8_sheet_30 : decode cX8_sheet 30 = .ok (.getfield 36, 3) := by decide +kernel
theorem dX8_sheet_33 : decode cX8_sheet 33 = .ok (.iload_n 1, 1) := by decide +kernel
theorem dX8_sheet_34 : decode cX8_sheet 34 = .ok (.aaload, 1) := by decide +kernel
theorem dX8_sheet_35 : decode cX8_sheet 35 = .ok (.iload_n 2, 1) := by decide +kernel
theorem dX8_sheet_36 : decode cX8_sheet 36 = .ok (.iload_n 3, 1) := by decide +kernel
theorem dX8_sheet_37 : decode cX8_sheet 37 = .ok (.invokevirtual 305, 3) := by decide +kernel
theorem dX8_sheet_40 : decode cX8_sheet 40 = .ok (.iconst 1, 1) := by decide +kernel
theorem dX8_sheet_41 : decode cX8_sheet 41 = .ok (.ireturn, 1) := by decide +kernel
theorem dX8_lay_0 : decode cX8_lay 0 = .ok (.iload_n 1, 1) := by decide +kernel
theorem dX8_lay_1 : decode cX8_lay 1 = .ok (.invokestatic 299, 3) := by decide +kernel
theorem dX8_lay_4 : decode cX8_lay 4 = .ok (.ifCond .ne 5, 3) := by decide +kernel
theorem dX8_lay_7 : decode cX8_lay 7 = .ok (.iconst (-1), 1) := by decide +kernel
theorem dX8_lay_8 : decode cX8_lay 8 = .ok (.ireturn, 1) := by decide +kernel
theorem dX8_lay_9 : decode cX8_lay 9 = .ok (.aload_n 0, 1) := by decide +kernel
theorem dX8_lay_10 : decode cX8_lay 10 = .ok (.getfield 36, 3) := by decide +kernel
theorem dX8_lay_13 : decode cX8_lay 13 = .ok (.iload_n 1, 1) := by decide +kernel
theorem dX8_lay_14 : decode cX8_lay 14 = .ok (.aaload, 1) := by decide +kernel
theorem dX8_lay_15 : decode cX8_lay 15 = .ok (.astore 4, 2) := by decide +kernel
theorem dX8_lay_17 : decode cX8_lay 17 = .ok (.aload 4, 2) := by decide +kernel
theorem dX8_lay_19 : decode cX8_lay 19 = .ok (.aload 4, 2) := by decide +kernel
theorem dX8_lay_21 : decode cX8_lay 21 = .ok (.getfield 309, 3) := by decide +kernel
theorem dX8_lay_24 : decode cX8_lay 24 = .ok (.iload_n 2, 1) := by decide +kernel
theorem dX8_lay_25 : decode cX8_lay 25 = .ok (.i2l, 1) := by decide +kernel
theorem dX8_lay_26 : decode cX8_lay 26 = .ok (.iconst 1, 1) := by decide +kernel
theorem dX8_lay_27 : decode cX8_lay 27 = .ok (.invokevirtual 312, 3) := by decide +kernel
theorem dX8_lay_30 : decode cX8_lay 30 = .ok (.istore 5, 2) := by decide +kernel
theorem dX8_lay_32 : decode cX8_lay 32 = .ok (.iload 5, 2) := by decide +kernel
theorem dX8_lay_34 : decode cX8_lay 34 = .ok (.ifCond .eq 9, 3) := by decide +kernel
theorem dX8_lay_37 : decode cX8_lay 37 = .ok (.bipush (-10), 2) := by decide +kernel
theorem dX8_lay_39 : decode cX8_lay 39 = .ok (.iload 5, 2) := by decide +kernel
theorem dX8_lay_41 : decode cX8_lay 41 = .ok (.isub, 1) := by decide +kernel
theorem dX8_lay_42 : decode cX8_lay 42 = .ok (.ireturn, 1) := by decide +kernel
theorem dX8_lay_43 : decode cX8_lay 43 = .ok (.aload 4, 2) := by decide +kernel
theorem dX8_lay_45 : decode cX8_lay 45 = .ok (.iload_n 2, 1) := by decide +kernel
theorem dX8_lay_46 : decode cX8_lay 46 = .ok (.iload_n 3, 1) := by decide +kernel
theorem dX8_lay_47 : decode cX8_lay 47 = .ok (.invokevirtual 316, 3) := by decide +kernel
theorem dX8_lay_50 : decode cX8_lay 50 = .ok (.iconst 1, 1) := by decide +kernel
theorem dX8_lay_51 : decode cX8_lay 51 = .ok (.ireturn, 1) := by decide +kernel
theorem dX8_read_0 : decode cX8_read 0 = .ok (.iload_n 1, 1) := by decide +kernel
theorem dX8_read_1 : decode cX8_read 1 = .ok (.invokestatic 299, 3) := by decide +kernel
theorem dX8_read_4 : decode cX8_read 4 = .ok (.ifCond .eq 22, 3) := by decide +kernel
theorem dX8_read_7 : decode cX8_read 7 = .ok (.iload_n 2, 1) := by decide +kernel
theorem dX8_read_8 : decode cX8_read 8 = .ok (.invokestatic 302, 3) := by decide +kernel
theorem dX8_read_11 : decode cX8_read 11 = .ok (.ifCond .eq 15, 3) := by decide +kernel
theorem dX8_read_14 : decode cX8_read 14 = .ok (.iload 4, 2) := by decide +kernel
theorem dX8_read_16 : decode cX8_read 16 = .ok (.ifCond .lt 10, 3) := by decide +kernel
theorem dX8_read_19 : decode cX8_read 19 = .ok (.iload 4, 2) := by decide +kernel
theorem dX8_read_21 : decode cX8_read 21 = .ok (.bipush 12, 2) := by decide +kernel
theorem dX8_read_23 : decode cX8_read 23 = .ok (.if_icmp .le 5, 3) := by decide +kernel
theorem dX8_read_26 : decode cX8_read 26 = .ok (.iconst (-1), 1) := by decide +kernel
theorem dX8_read_27 : decode cX8_read 27 = .ok (.ireturn, 1) := by decide +kernel
theorem dX8_read_28 : decode cX8_read 28 = .ok (.aload_n 0, 1) := by decide +kernel
theorem dX8_read_29 : decode cX8_read 29 = .ok (.getfield 36, 3) := by decide +kernel
theorem dX8_read_32 : decode cX8_read 32 = .ok (.iload_n 1, 1) := by decide +kernel
theorem dX8_read_33 : decode cX8_read 33 = .ok (.aaload, 1) := by decide +kernel
theorem dX8_read_34 : decode cX8_read 34 = .ok (.astore 5, 2) := by decide +kernel
theorem dX8_read_36 : decode cX8_read 36 = .ok (.aload_n 0, 1) := by decide +kernel
theorem dX8_read_37 : decode cX8_read 37 = .ok (.getfield 19, 3) := by decide +kernel
theorem dX8_read_40 : decode cX8_read 40 = .ok (.getfield 274, 3) := by decide +kernel
theorem dX8_read_43 : decode cX8_read 43 = .ok (.istore 6, 2) := by decide +kernel
theorem dX8_read_45 : decode cX8_read 45 = .ok (.iconst 0, 1) := by decide +kernel
theorem dX8_read_46 : decode cX8_read 46 = .ok (.istore 7, 2) := by decide +kernel
theorem dX8_read_48 : decode cX8_read 48 = .ok (.iload 7, 2) := by decide +kernel
theorem dX8_read_50 : decode cX8_read 50 = .ok (.iload 4, 2) := by decide +kernel
theorem dX8_read_52 : decode cX8_read 52 = .ok (.if_icmp .ge 73, 3) := by decide +kernel
theorem dX8_read_55 : decode cX8_read 55 = .ok (.iload_n 3, 1) := by decide +kernel
theorem dX8_read_56 : decode cX8_read 56 = .ok (.i2l, 1) := by decide +kernel
theorem dX8_read_57 : decode cX8_read 57 = .ok (.ldc2_w 319, 3) := by decide +kernel
theorem dX8_read_60 : decode cX8_read 60 = .ok (.iload 7, 2) := by decide +kernel
theorem dX8_read_62 : decode cX8_read 62 = .ok (.i2l, 1) := by decide +kernel
theorem dX8_read_63 : decode cX8_read 63 = .ok (.lmul, 1) := by decide +kernel
theorem dX8_read_64 : decode cX8_read 64 = .ok (.ladd, 1) := by decide +kernel
theorem dX8_read_65 : decode cX8_read 65 = .ok (.lstore 8, 2) := by decide +kernel
theorem dX8_read_67 : decode cX8_read 67 = .ok (.aload 5, 2) := by decide +kernel
theorem dX8_read_69 : decode cX8_read 69 = .ok (.iload_n 2, 1) := by decide +kernel
theorem dX8_read_70 : decode cX8_read 70 = .ok (.lload 8, 2) := by decide +kernel
theorem dX8_read_72 : decode cX8_read 72 = .ok (.iconst 3, 1) := by decide +kernel
theorem dX8_read_73 : decode cX8_read 73 = .ok (.invokevirtual 312, 3) := by decide +kernel
theorem dX8_read_76 : decode cX8_read 76 = .ok (.istore 10, 2) := by decide +kernel
theorem dX8_read_78 : decode cX8_read 78 = .ok (.iload 10, 2) := by decide +kernel
theorem dX8_read_80 : decode cX8_read 80 = .ok (.ifCond .eq 12, 3) := by decide +kernel
theorem dX8_read_83 : decode cX8_read 83 = .ok (.aload_n 0, 1) := by decide +kernel
theorem dX8_read_84 : decode cX8_read 84 = .ok (.iload 10, 2) := by decide +kernel
theorem dX8_read_86 : decode cX8_read 86 = .ok (.putfield 68, 3) := by decide +kernel
theorem dX8_read_89 : decode cX8_read 89 = .ok (.iload 7, 2) := by decide +kernel
theorem dX8_read_91 : decode cX8_read 91 = .ok (.ireturn, 1) := by decide +kernel
theorem dX8_read_92 : decode cX8_read 92 = .ok (.aload_n 0, 1) := by decide +kernel
theorem dX8_read_93 : decode cX8_read 93 = .ok (.aload 5, 2) := by decide +kernel
theorem dX8_read_95 : decode cX8_read 95 = .ok (.lload 8, 2) := by decide +kernel
theorem dX8_read_97 : decode cX8_read 97 = .ok (.l2i, 1) := by decide +kernel
theorem dX8_read_98 : decode cX8_read 98 = .ok (.invokevirtual 321, 3) := by decide +kernel
theorem dX8_read_101 : decode cX8_read 101 = .ok (.ifCond .ne 18, 3) := by decide +kernel
theorem dX8_read_104 : decode cX8_read 104 = .ok (.aload_n 0, 1) := by decide +kernel
theorem dX8_read_105 : decode cX8_read 105 = .ok (.getfield 19, 3) := by decide +kernel
theorem dX8_read_108 : decode cX8_read 108 = .ok (.iload 6, 2) := by decide +kernel
theorem dX8_read_110 : decode cX8_read 110 = .ok (.putfield 274, 3) := by decide +kernel
theorem dX8_read_113 : decode cX8_read 113 = .ok (.bipush (-20), 2) := by decide +kernel
theorem dX8_read_115 : decode cX8_read 115 = .ok (.iload 7, 2) := by decide +kernel
theorem dX8_read_117 : decode cX8_read 117 = .ok (.isub, 1) := by decide +kernel
theorem dX8_read_118 : decode cX8_read 118 = .ok (.ireturn, 1) := by decide +kernel
theorem dX8_read_119 : decode cX8_read 119 = .ok (.iinc 7 1, 3) := by decide +kernel
theorem dX8_read_122 : decode cX8_read 122 = .ok (.goto (-74), 3) := by decide +kernel
theorem dX8_read_125 : decode cX8_read 125 = .ok (.aload_n 0, 1) := by decide +kernel
theorem dX8_read_126 : decode cX8_read 126 = .ok (.iconst 0, 1) := by decide +kernel
theorem dX8_read_127 : decode cX8_read 127 = .ok (.putfield 68, 3) := by decide +kernel
theorem dX8_read_130 : decode cX8_read 130 = .ok (.iload 4, 2) := by decide +kernel
theorem dX8_read_132 : decode cX8_read 132 = .ok (.ireturn, 1) := by decide +kernel
theorem dX8_torn_0 : decode cX8_torn 0 = .ok (.aload_n 0, 1) := by decide +kernel
theorem dX8_torn_1 : decode cX8_torn 1 = .ok (.getfield 68, 3) := by decide +kernel
theorem dX8_torn_4 : decode cX8_torn 4 = .ok (.ireturn, 1) := by decide +kernel
theorem dX8_count_0 : decode cX8_count 0 = .ok (.iload_n 1, 1) := by decide +kernel
theorem dX8_count_1 : decode cX8_count 1 = .ok (.tableswitch 116 0 4 #[35, 43, 51, 81, 89], 35) := by decide +kernel
theorem dX8_count_36 : decode cX8_count 36 = .ok (.aload_n 0, 1) := by decide +kernel
theorem dX8_count_37 : decode cX8_count 37 = .ok (.getfield 19, 3) := by decide +kernel
theorem dX8_count_40 : decode cX8_count 40 = .ok (.invokevirtual 256, 3) := by decide +kernel
theorem dX8_count_43 : decode cX8_count 43 = .ok (.ireturn, 1) := by decide +kernel
theorem dX8_count_44 : decode cX8_count 44 = .ok (.aload_n 0, 1) := by decide +kernel
theorem dX8_count_45 : decode cX8_count 45 = .ok (.getfield 19, 3) := by decide +kernel
theorem dX8_count_48 : decode cX8_count 48 = .ok (.getfield 274, 3) := by decide +kernel
theorem dX8_count_51 : decode cX8_count 51 = .ok (.ireturn, 1) := by decide +kernel
theorem dX8_count_52 : decode cX8_count 52 = .ok (.aload_n 0, 1) := by decide +kernel
theorem dX8_count_53 : decode cX8_count 53 = .ok (.getfield 30, 3) := by decide +kernel
theorem dX8_count_56 : decode cX8_count 56 = .ok (.iconst 0, 1) := by decide +kernel
theorem dX8_count_57 : decode cX8_count 57 = .ok (.baload, 1) := by decide +kernel
theorem dX8_count_58 : decode cX8_count 58 = .ok (.ifCond .eq 7, 3) := by decide +kernel
theorem dX8_count_61 : decode cX8_count 61 = .ok (.iconst 1, 1) := by decide +kernel
theorem dX8_count_62 : decode cX8_count 62 = .ok (.goto 4, 3) := by decide +kernel
theorem dX8_count_65 : decode cX8_count 65 = .ok (.iconst 0, 1) := by decide +kernel
theorem dX8_count_66 : decode cX8_count 66 = .ok (.aload_n 0, 1) := by decide +kernel
theorem dX8_count_67 : decode cX8_count 67 = .ok (.getfield 30, 3) := by decide +kernel
theorem dX8_count_70 : decode cX8_count 70 = .ok (.iconst 1, 1) := by decide +kernel
theorem dX8_count_71 : decode cX8_count 71 = .ok (.baload, 1) := by decide +kernel
theorem dX8_count_72 : decode cX8_count 72 = .ok (.ifCond .eq 7, 3) := by decide +kernel
theorem dX8_count_75 : decode cX8_count 75 = .ok (.iconst 1, 1) := by decide +kernel
theorem dX8_count_76 : decode cX8_count 76 = .ok (.goto 4, 3) := by decide +kernel
theorem dX8_count_79 : decode cX8_count 79 = .ok (.iconst 0, 1) := by decide +kernel
theorem dX8_count_80 : decode cX8_count 80 = .ok (.iadd, 1) := by decide +kernel
theorem dX8_count_81 : decode cX8_count 81 = .ok (.ireturn, 1) := by decide +kernel
theorem dX8_count_82 : decode cX8_count 82 = .ok (.aload_n 0, 1) := by decide +kernel
theorem dX8_count_83 : decode cX8_count 83 = .ok (.getfield 12, 3) := by decide +kernel
theorem dX8_count_86 : decode cX8_count 86 = .ok (.getfield 76, 3) := by decide +kernel
theorem dX8_count_89 : decode cX8_count 89 = .ok (.ireturn, 1) := by decide +kernel
theorem dX8_count_90 : decode cX8_count 90 = .ok (.aload_n 0, 1) := by decide +kernel
theorem dX8_count_91 : decode cX8_count 91 = .ok (.getfield 36, 3) := by decide +kernel
theorem dX8_count_94 : decode cX8_count 94 = .ok (.iconst 0, 1) := by decide +kernel
theorem dX8_count_95 : decode cX8_count 95 = .ok (.aaload, 1) := by decide +kernel
theorem dX8_count_96 : decode cX8_count 96 = .ok (.getfield 325, 3) := by decide +kernel
theorem dX8_count_99 : decode cX8_count 99 = .ok (.ifCond .ge 8, 3) := by decide +kernel
theorem dX8_count_102 : decode cX8_count 102 = .ok (.bipush (-4), 2) := by decide +kernel
theorem dX8_count_104 : decode cX8_count 104 = .ok (.goto 12, 3) := by decide +kernel
theorem dX8_count_107 : decode cX8_count 107 = .ok (.aload_n 0, 1) := by decide +kernel
theorem dX8_count_108 : decode cX8_count 108 = .ok (.getfield 36, 3) := by decide +kernel
theorem dX8_count_111 : decode cX8_count 111 = .ok (.iconst 0, 1) := by decide +kernel
theorem dX8_count_112 : decode cX8_count 112 = .ok (.aaload, 1) := by decide +kernel
theorem dX8_count_113 : decode cX8_count 113 = .ok (.getfield 325, 3) := by decide +kernel
theorem dX8_count_116 : decode cX8_count 116 = .ok (.ireturn, 1) := by decide +kernel
theorem dX8_count_117 : decode cX8_count 117 = .ok (.iconst (-1), 1) := by decide +kernel
theorem dX8_count_118 : decode cX8_count 118 = .ok (.ireturn, 1) := by decide +kernel
theorem dX8_isFigure_0 : decode cX8_isFigure 0 = .ok (.iload_n 1, 1) := by decide +kernel
theorem dX8_isFigure_1 : decode cX8_isFigure 1 = .ok (.ifCond .lt 18, 3) := by decide +kernel
theorem dX8_isFigure_4 : decode cX8_isFigure 4 = .ok (.iload_n 1, 1) := by decide +kernel
theorem dX8_isFigure_5 : decode cX8_isFigure 5 = .ok (.aload_n 0, 1) := by decide +kernel
theorem dX8_isFigure_6 : decode cX8_isFigure 6 = .ok (.getfield 19, 3) := by decide +kernel
theorem dX8_isFigure_9 : decode cX8_isFigure 9 = .ok (.getfield 98, 3) := by decide +kernel
theorem dX8_isFigure_12 : decode cX8_isFigure 12 = .ok (.if_icmp .ge 7, 3) := by decide +kernel
theorem dX8_isFigure_15 : decode cX8_isFigure 15 = .ok (.iconst 1, 1) := by decide +kernel
theorem dX8_isFigure_16 : decode cX8_isFigure 16 = .ok (.goto 4, 3) := by decide +kernel
theorem dX8_isFigure_19 : decode cX8_isFigure 19 = .ok (.iconst 0, 1) := by decide +kernel
theorem dX8_isFigure_20 : decode cX8_isFigure 20 = .ok (.ireturn, 1) := by decide +kernel
theorem dX8_isPair_0 : decode cX8_isPair 0 = .ok (.aload_n 0, 1) := by decide +kernel
theorem dX8_isPair_1 : decode cX8_isPair 1 = .ok (.iload_n 1, 1) := by decide +kernel
theorem dX8_isPair_2 : decode cX8_isPair 2 = .ok (.invokevirtual 116, 3) := by decide +kernel
theorem dX8_isPair_5 : decode cX8_isPair 5 = .ok (.ifCond .eq 20, 3) := by decide +kernel
theorem dX8_isPair_8 : decode cX8_isPair 8 = .ok (.aload_n 0, 1) := by decide +kernel
theorem dX8_isPair_9 : decode cX8_isPair 9 = .ok (.iload_n 2, 1) := by decide +kernel
theorem dX8_isPair_10 : decode cX8_isPair 10 = .ok (.invokevirtual 116, 3) := by decide +kernel
theorem dX8_isPair_13 : decode cX8_isPair 13 = .ok (.ifCond .eq 12, 3) := by decide +kernel
theorem dX8_isPair_16 : decode cX8_isPair 16 = .ok (.iload_n 1, 1) := by decide +kernel
theorem dX8_isPair_17 : decode cX8_isPair 17 = .ok (.iload_n 2, 1) := by decide +kernel
theorem dX8_isPair_18 : decode cX8_isPair 18 = .ok (.if_icmp .eq 7, 3) := by decide +kernel
theorem dX8_isPair_21 : decode cX8_isPair 21 = .ok (.iconst 1, 1) := by decide +kernel
theorem dX8_isPair_22 : decode cX8_isPair 22 = .ok (.goto 4, 3) := by decide +kernel
theorem dX8_isPair_25 : decode cX8_isPair 25 = .ok (.iconst 0, 1) := by decide +kernel
theorem dX8_isPair_26 : decode cX8_isPair 26 = .ok (.ireturn, 1) := by decide +kernel
theorem dX8_isSome_0 : decode cX8_isSome 0 = .ok (.iload_n 1, 1) := by decide +kernel
theorem dX8_isSome_1 : decode cX8_isSome 1 = .ok (.ifCond .le 20, 3) := by decide +kernel
theorem dX8_isSome_4 : decode cX8_isSome 4 = .ok (.iload_n 1, 1) := by decide +kernel
theorem dX8_isSome_5 : decode cX8_isSome 5 = .ok (.iconst 1, 1) := by decide +kernel
theorem dX8_isSome_6 : decode cX8_isSome 6 = .ok (.aload_n 0, 1) := by decide +kernel
theorem dX8_isSome_7 : decode cX8_isSome 7 = .ok (.getfield 19, 3) := by decide +kernel
theorem dX8_isSome_10 : decode cX8_isSome 10 = .ok (.getfield 98, 3) := by decide +kernel
theorem dX8_isSome_13 : decode cX8_isSome 13 = .ok (.ishl, 1) := by decide +kernel
theorem dX8_isSome_14 : decode cX8_isSome 14 = .ok (.if_icmp .ge 7, 3) := by decide +kernel
theorem dX8_isSome_17 : decode cX8_isSome 17 = .ok (.iconst 1, 1) := by decide +kernel
theorem dX8_isSome_18 : decode cX8_isSome 18 = .ok (.goto 4, 3) := by decide +kernel
theorem dX8_isSome_21 : decode cX8_isSome 21 = .ok (.iconst 0, 1) := by decide +kernel
theorem dX8_isSome_22 : decode cX8_isSome 22 = .ok (.ireturn, 1) := by decide +kernel
theorem dX8_isDay_0 : decode cX8_isDay 0 = .ok (.lload_n 0, 1) := by decide +kernel
theorem dX8_isDay_1 : decode cX8_isDay 1 = .ok (.lconst 0, 1) := by decide +kernel
theorem dX8_isDay_2 : decode cX8_isDay 2 = .ok (.lcmp, 1) := by decide +kernel
theorem dX8_isDay_3 : decode cX8_isDay 3 = .ok (.ifCond .lt 15, 3) := by decide +kernel
theorem dX8_isDay_6 : decode cX8_isDay 6 = .ok (.lload_n 0, 1) := by decide +kernel
theorem dX8_isDay_7 : decode cX8_isDay 7 = .ok (.ldc2_w 328, 3) := by decide +kernel
theorem dX8_isDay_10 : decode cX8_isDay 10 = .ok (.lcmp, 1) := by decide +kernel
theorem dX8_isDay_11 : decode cX8_isDay 11 = .ok (.ifCond .gt 7, 3) := by decide +kernel
theorem dX8_isDay_14 : decode cX8_isDay 14 = .ok (.iconst 1, 1) := by decide +kernel
theorem dX8_isDay_15 : decode cX8_isDay 15 = .ok (.goto 4, 3) := by decide +kernel
theorem dX8_isDay_18 : decode cX8_isDay 18 = .ok (.iconst 0, 1) := by decide +kernel
theorem dX8_isDay_19 : decode cX8_isDay 19 = .ok (.ireturn, 1) := by decide +kernel
theorem dX8_isSpan_0 : decode cX8_isSpan 0 = .ok (.lload_n 0, 1) := by decide +kernel
theorem dX8_isSpan_1 : decode cX8_isSpan 1 = .ok (.invokestatic 160, 3) := by decide +kernel
theorem dX8_isSpan_4 : decode cX8_isSpan 4 = .ok (.ifCond .eq 20, 3) := by decide +kernel
theorem dX8_isSpan_7 : decode cX8_isSpan 7 = .ok (.lload_n 2, 1) := by decide +kernel
theorem dX8_isSpan_8 : decode cX8_isSpan 8 = .ok (.invokestatic 160, 3) := by decide +kernel
theorem dX8_isSpan_11 : decode cX8_isSpan 11 = .ok (.ifCond .eq 13, 3) := by decide +kernel
theorem dX8_isSpan_14 : decode cX8_isSpan 14 = .ok (.lload_n 0, 1) := by decide +kernel
theorem dX8_isSpan_15 : decode cX8_isSpan 15 = .ok (.lload_n 2, 1) := by decide +kernel
theorem dX8_isSpan_16 : decode cX8_isSpan 16 = .ok (.lcmp, 1) := by decide +kernel
theorem dX8_isSpan_17 : decode cX8_isSpan 17 = .ok (.ifCond .gt 7, 3) := by decide +kernel
theorem dX8_isSpan_20 : decode cX8_isSpan 20 = .ok (.iconst 1, 1) := by decide +kernel
theorem dX8_isSpan_21 : decode cX8_isSpan 21 = .ok (.goto 4, 3) := by decide +kernel
theorem dX8_isSpan_24 : decode cX8_isSpan 24 = .ok (.iconst 0, 1) := by decide +kernel
theorem dX8_isSpan_25 : decode cX8_isSpan 25 = .ok (.ireturn, 1) := by decide +kernel
theorem dX8_isDayCount_0 : decode cX8_isDayCount 0 = .ok (.iload_n 0, 1) := by decide +kernel
theorem dX8_isDayCount_1 : decode cX8_isDayCount 1 = .ok (.iconst 1, 1) := by decide +kernel
theorem dX8_isDayCount_2 : decode cX8_isDayCount 2 = .ok (.if_icmp .lt 14, 3) := by decide +kernel
theorem dX8_isDayCount_5 : decode cX8_isDayCount 5 = .ok (.iload_n 0, 1) := by decide +kernel
theorem dX8_isDayCount_6 : decode cX8_isDayCount 6 = .ok (.sipush 400, 3) := by decide +kernel
theorem dX8_isDayCount_9 : decode cX8_isDayCount 9 = .ok (.if_icmp .gt 7, 3) := by decide +kernel
theorem dX8_isDayCount_12 : decode cX8_isDayCount 12 = .ok (.iconst 1, 1) := by decide +kernel
theorem dX8_isDayCount_13 : decode cX8_isDayCount 13 = .ok (.goto 4, 3) := by decide +kernel
theorem dX8_isDayCount_16 : decode cX8_isDayCount 16 = .ok (.iconst 0, 1) := by decide +kernel
theorem dX8_isDayCount_17 : decode cX8_isDayCount 17 = .ok (.ireturn, 1) := by decide +kernel
theorem dX8_isDoor_0 : decode cX8_isDoor 0 = .ok (.iload_n 0, 1) := by decide +kernel
theorem dX8_isDoor_1 : decode cX8_isDoor 1 = .ok (.ifCond .lt 13, 3) := by decide +kernel
theorem dX8_isDoor_4 : decode cX8_isDoor 4 = .ok (.iload_n 0, 1) := by decide +kernel
theorem dX8_isDoor_5 : decode cX8_isDoor 5 = .ok (.bipush 8, 2) := by decide +kernel
theorem dX8_isDoor_7 : decode cX8_isDoor 7 = .ok (.if_icmp .gt 7, 3) := by decide +kernel
theorem dX8_isDoor_10 : decode cX8_isDoor 10 = .ok (.iconst 1, 1) := by decide +kernel
theorem dX8_isDoor_11 : decode cX8_isDoor 11 = .ok (.goto 4, 3) := by decide +kernel
theorem dX8_isDoor_14 : decode cX8_isDoor 14 = .ok (.iconst 0, 1) := by decide +kernel
theorem dX8_isDoor_15 : decode cX8_isDoor 15 = .ok (.ireturn, 1) := by decide +kernel
theorem dX8_isWheel_0 : decode cX8_isWheel 0 = .ok (.iload_n 0, 1) := by decide +kernel
theorem dX8_isWheel_1 : decode cX8_isWheel 1 = .ok (.iconst 2, 1) := by decide +kernel
theorem dX8_isWheel_2 : decode cX8_isWheel 2 = .ok (.if_icmp .lt 22, 3) := by decide +kernel
theorem dX8_isWheel_5 : decode cX8_isWheel 5 = .ok (.iload_n 0, 1) := by decide +kernel
theorem dX8_isWheel_6 : decode cX8_isWheel 6 = .ok (.bipush 60, 2) := by decide +kernel
theorem dX8_isWheel_8 : decode cX8_isWheel 8 = .ok (.if_icmp .gt 16, 3) := by decide +kernel
theorem dX8_isWheel_11 : decode cX8_isWheel 11 = .ok (.iload_n 1, 1) := by decide +kernel
theorem dX8_isWheel_12 : decode cX8_isWheel 12 = .ok (.ifCond .lt 12, 3) := by decide +kernel
theorem dX8_isWheel_15 : decode cX8_isWheel 15 = .ok (.iload_n 1, 1) := by decide +kernel
theorem dX8_isWheel_16 : decode cX8_isWheel 16 = .ok (.iload_n 0, 1) := by decide +kernel
theorem dX8_isWheel_17 : decode cX8_isWheel 17 = .ok (.if_icmp .ge 7, 3) := by decide +kernel
theorem dX8_isWheel_20 : decode cX8_isWheel 20 = .ok (.iconst 1, 1) := by decide +kernel
theorem dX8_isWheel_21 : decode cX8_isWheel 21 = .ok (.goto 4, 3) := by decide +kernel
theorem dX8_isWheel_24 : decode cX8_isWheel 24 = .ok (.iconst 0, 1) := by decide +kernel
theorem dX8_isWheel_25 : decode cX8_isWheel 25 = .ok (.ireturn, 1) := by decide +kernel
theorem dX8_isYesOrNo_0 : decode cX8_isYesOrNo 0 = .ok (.iload_n 0, 1) := by decide +kernel
theorem dX8_isYesOrNo_1 : decode cX8_isYesOrNo 1 = .ok (.ifCond .eq 8, 3) := by decide +kernel
theorem dX8_isYesOrNo_4 : decode cX8_isYesOrNo 4 = .ok (.iload_n 0, 1) := by decide +kernel
theorem dX8_isYesOrNo_5 : decode cX8_isYesOrNo 5 = .ok (.iconst 1, 1) := by decide +kernel
theorem dX8_isYesOrNo_6 : decode cX8_isYesOrNo 6 = .ok (.if_icmp .ne 7, 3) := by decide +kernel
theorem dX8_isYesOrNo_9 : decode cX8_isYesOrNo 9 = .ok (.iconst 1, 1) := by decide +kernel
theorem dX8_isYesOrNo_10 : decode cX8_isYesOrNo 10 = .ok (.goto 4, 3) := by decide +kernel
theorem dX8_isYesOrNo_13 : decode cX8_isYesOrNo 13 = .ok (.iconst 0, 1) := by decide +kernel
theorem dX8_isYesOrNo_14 : decode cX8_isYesOrNo 14 = .ok (.ireturn, 1) := by decide +kernel
theorem dX8_isImage_0 : decode cX8_isImage 0 = .ok (.iload_n 0, 1) := by decide +kernel
theorem dX8_isImage_1 : decode cX8_isImage 1 = .ok (.ifCond .lt 12, 3) := by decide +kernel
theorem dX8_isImage_4 : decode cX8_isImage 4 = .ok (.iload_n 0, 1) := by decide +kernel
theorem dX8_isImage_5 : decode cX8_isImage 5 = .ok (.iconst 2, 1) := by decide +kernel
theorem dX8_isImage_6 : decode cX8_isImage 6 = .ok (.if_icmp .ge 7, 3) := by decide +kernel
theorem dX8_isImage_9 : decode cX8_isImage 9 = .ok (.iconst 1, 1) := by decide +kernel
theorem dX8_isImage_10 : decode cX8_isImage 10 = .ok (.goto 4, 3) := by decide +kernel
theorem dX8_isImage_13 : decode cX8_isImage 13 = .ok (.iconst 0, 1) := by decide +kernel
theorem dX8_isImage_14 : decode cX8_isImage 14 = .ok (.ireturn, 1) := by decide +kernel
theorem dX8_isSheet_0 : decode cX8_isSheet 0 = .ok (.iload_n 0, 1) := by decide +kernel
theorem dX8_isSheet_1 : decode cX8_isSheet 1 = .ok (.ifCond .lt 12, 3) := by decide +kernel
theorem dX8_isSheet_4 : decode cX8_isSheet 4 = .ok (.iload_n 0, 1) := by decide +kernel
theorem dX8_isSheet_5 : decode cX8_isSheet 5 = .ok (.iconst 4, 1) := by decide +kernel
theorem dX8_isSheet_6 : decode cX8_isSheet 6 = .ok (.if_icmp .ge 7, 3) := by decide +kernel
theorem dX8_isSheet_9 : decode cX8_isSheet 9 = .ok (.iconst 1, 1) := by decide +kernel
theorem dX8_isSheet_10 : decode cX8_isSheet 10 = .ok (.goto 4, 3) := by decide +kernel
theorem dX8_isSheet_13 : decode cX8_isSheet 13 = .ok (.iconst 0, 1) := by decide +kernel
theorem dX8_isSheet_14 : decode cX8_isSheet 14 = .ok (.ireturn, 1) := by decide +kernel
theorem dX8_isLane_0 : decode cX8_isLane 0 = .ok (.iload_n 0, 1) := by decide +kernel
theorem dX8_isLane_1 : decode cX8_isLane 1 = .ok (.ifCond .lt 12, 3) := by decide +kernel
theorem dX8_isLane_4 : decode cX8_isLane 4 = .ok (.iload_n 0, 1) := by decide +kernel
theorem dX8_isLane_5 : decode cX8_isLane 5 = .ok (.iconst 2, 1) := by decide +kernel
theorem dX8_isLane_6 : decode cX8_isLane 6 = .ok (.if_icmp .gt 7, 3) := by decide +kernel
theorem dX8_isLane_9 : decode cX8_isLane 9 = .ok (.iconst 1, 1) := by decide +kernel
theorem dX8_isLane_10 : decode cX8_isLane 10 = .ok (.goto 4, 3) := by decide +kernel
theorem dX8_isLane_13 : decode cX8_isLane 13 = .ok (.iconst 0, 1) := by decide +kernel
theorem dX8_isLane_14 : decode cX8_isLane 14 = .ok (.ireturn, 1) := by decide +kernel
theorem dX8_addSight_0 : decode cX8_addSight 0 = .ok (.aload_n 0, 1) := by decide +kernel
theorem dX8_addSight_1 : decode cX8_addSight 1 = .ok (.iload_n 1, 1) := by decide +kernel
theorem dX8_addSight_2 : decode cX8_addSight 2 = .ok (.invokevirtual 116, 3) := by decide +kernel
theorem dX8_addSight_5 : decode cX8_addSight 5 = .ok (.ifCond .eq 14, 3) := by decide +kernel
theorem dX8_addSight_8 : decode cX8_addSight 8 = .ok (.iload_n 2, 1) := by decide +kernel
theorem dX8_addSight_9 : decode cX8_addSight 9 = .ok (.ifCond .lt 10, 3) := by decide +kernel
theorem dX8_addSight_12 : decode cX8_addSight 12 = .ok (.iload_n 2, 1) := by decide +kernel
theorem dX8_addSight_13 : decode cX8_addSight 13 = .ok (.sipush 30000, 3) := by decide +kernel
theorem dX8_addSight_16 : decode cX8_addSight 16 = .ok (.if_icmp .le 5, 3) := by decide +kernel
theorem dX8_addSight_19 : decode cX8_addSight 19 = .ok (.iconst (-1), 1) := by decide +kernel
theorem dX8_addSight_20 : decode cX8_addSight 20 = .ok (.ireturn, 1) := by decide +kernel
theorem dX8_addSight_21 : decode cX8_addSight 21 = .ok (.aload_n 0, 1) := by decide +kernel
theorem dX8_addSight_22 : decode cX8_addSight 22 = .ok (.getfield 19, 3) := by decide +kernel
theorem dX8_addSight_25 : decode cX8_addSight 25 = .ok (.getfield 274, 3) := by decide +kernel
theorem dX8_addSight_28 : decode cX8_addSight 28 = .ok (.bipush 12, 2) := by decide +kernel
theorem dX8_addSight_30 : decode cX8_addSight 30 = .ok (.if_icmp .lt 6, 3) := by decide +kernel
theorem dX8_addSight_33 : decode cX8_addSight 33 = .ok (.bipush (-3), 2) := by decide +kernel
theorem dX8_addSight_35 : decode cX8_addSight 35 = .ok (.ireturn, 1) := by decide +kernel
theorem dX8_addSight_36 : decode cX8_addSight 36 = .ok (.aload_n 0, 1) := by decide +kernel
theorem dX8_addSight_37 : decode cX8_addSight 37 = .ok (.getfield 19, 3) := by decide +kernel
theorem dX8_addSight_40 : decode cX8_addSight 40 = .ok (.getfield 330, 3) := by decide +kernel
theorem dX8_addSight_43 : decode cX8_addSight 43 = .ok (.aload_n 0, 1) := by decide +kernel
theorem dX8_addSight_44 : decode cX8_addSight 44 = .ok (.getfield 19, 3) := by decide +kernel
theorem dX8_addSight_47 : decode cX8_addSight 47 = .ok (.getfield 274, 3) := by decide +kernel
theorem dX8_addSight_50 : decode cX8_addSight 50 = .ok (.aaload, 1) := by decide +kernel
theorem dX8_addSight_51 : decode cX8_addSight 51 = .ok (.iload_n 1, 1) := by decide +kernel
theorem dX8_addSight_52 : decode cX8_addSight 52 = .ok (.iload_n 2, 1) := by decide +kernel
theorem dX8_addSight_53 : decode cX8_addSight 53 = .ok (.iload_n 3, 1) := by decide +kernel
theorem dX8_addSight_54 : decode cX8_addSight 54 = .ok (.invokevirtual 334, 3) := by decide +kernel
theorem dX8_addSight_57 : decode cX8_addSight 57 = .ok (.aload_n 0, 1) := by decide +kernel
theorem dX8_addSight_58 : decode cX8_addSight 58 = .ok (.getfield 19, 3) := by decide +kernel
theorem dX8_addSight_61 : decode cX8_addSight 61 = .ok (.dup, 1) := by decide +kernel
theorem dX8_addSight_62 : decode cX8_addSight 62 = .ok (.getfield 274, 3) := by decide +kernel
theorem dX8_addSight_65 : decode cX8_addSight 65 = .ok (.iconst 1, 1) := by decide +kernel
theorem dX8_addSight_66 : decode cX8_addSight 66 = .ok (.iadd, 1) := by decide +kernel
theorem dX8_addSight_67 : decode cX8_addSight 67 = .ok (.putfield 274, 3) := by decide +kernel
theorem dX8_addSight_70 : decode cX8_addSight 70 = .ok (.aload_n 0, 1) := by decide +kernel
theorem dX8_addSight_71 : decode cX8_addSight 71 = .ok (.getfield 19, 3) := by decide +kernel
theorem dX8_addSight_74 : decode cX8_addSight 74 = .ok (.getfield 274, 3) := by decide +kernel
theorem dX8_addSight_77 : decode cX8_addSight 77 = .ok (.ireturn, 1) := by decide +kernel
theorem dX8_addSightOf_0 : decode cX8_addSightOf 0 = .ok (.aload_n 1, 1) := by decide +kernel
theorem dX8_addSightOf_1 : decode cX8_addSightOf 1 = .ok (.getfield 340, 3) := by decide +kernel
theorem dX8_addSightOf_4 : decode cX8_addSightOf 4 = .ok (.iload_n 2, 1) := by decide +kernel
theorem dX8_addSightOf_5 : decode cX8_addSightOf 5 = .ok (.iconst 2, 1) := by decide +kernel
theorem dX8_addSightOf_6 : decode cX8_addSightOf 6 = .ok (.iadd, 1) := by decide +kernel
theorem dX8_addSightOf_7 : decode cX8_addSightOf 7 = .ok (.iaload, 1) := by decide +kernel
theorem dX8_addSightOf_8 : decode cX8_addSightOf 8 = .ok (.istore_n 3, 1) := by decide +kernel
theorem dX8_addSightOf_9 : decode cX8_addSightOf 9 = .ok (.iload_n 3, 1) := by decide +kernel
theorem dX8_addSightOf_10 : decode cX8_addSightOf 10 = .ok (.invokestatic 207, 3) := by decide +kernel
theorem dX8_addSightOf_13 : decode cX8_addSightOf 13 = .ok (.ifCond .eq 38, 3) := by decide +kernel
theorem dX8_addSightOf_16 : decode cX8_addSightOf 16 = .ok (.aload_n 0, 1) := by decide +kernel
theorem dX8_addSightOf_17 : decode cX8_addSightOf 17 = .ok (.aload_n 1, 1) := by decide +kernel
theorem dX8_addSightOf_18 : decode cX8_addSightOf 18 = .ok (.getfield 340, 3) := by decide +kernel
theorem dX8_addSightOf_21 : decode cX8_addSightOf 21 = .ok (.iload_n 2, 1) := by decide +kernel
theorem dX8_addSightOf_22 : decode cX8_addSightOf 22 = .ok (.iaload, 1) := by decide +kernel
theorem dX8_addSightOf_23 : decode cX8_addSightOf 23 = .ok (.aload_n 1, 1) := by decide +kernel
theorem dX8_addSightOf_24 : decode cX8_addSightOf 24 = .ok (.getfield 340, 3) := by decide +kernel
theorem dX8_addSightOf_27 : decode cX8_addSightOf 27 = .ok (.iload_n 2, 1) := by decide +kernel
theorem dX8_addSightOf_28 : decode cX8_addSightOf 28 = .ok (.iconst 1, 1) := by decide +kernel
theorem dX8_addSightOf_29 : decode cX8_addSightOf 29 = .ok (.iadd, 1) := by decide +kernel
theorem dX8_addSightOf_30 : decode cX8_addSightOf 30 = .ok (.iaload, 1) := by decide +kernel
theorem dX8_addSightOf_31 : decode cX8_addSightOf 31 = .ok (.iload_n 3, 1) := by decide +kernel
theorem dX8_addSightOf_32 : decode cX8_addSightOf 32 = .ok (.iconst 1, 1) := by decide +kernel
theorem dX8_addSightOf_33 : decode cX8_addSightOf 33 = .ok (.if_icmp .ne 7, 3) := by decide +kernel
theorem dX8_addSightOf_36 : decode cX8_addSightOf 36 = .ok (.iconst 1, 1) := by decide +kernel
theorem dX8_addSightOf_37 : decode cX8_addSightOf 37 = .ok (.goto 4, 3) := by decide +kernel
theorem dX8_addSightOf_40 : decode cX8_addSightOf 40 = .ok (.iconst 0, 1) := by decide +kernel
theorem dX8_addSightOf_41 : decode cX8_addSightOf 41 = .ok (.invokevirtual 270, 3) := by decide +kernel
theorem dX8_addSightOf_44 : decode cX8_addSightOf 44 = .ok (.ifCond .le 7, 3) := by decide +kernel
theorem dX8_addSightOf_47 : decode cX8_addSightOf 47 = .ok (.iconst 1, 1) := by decide +kernel
theorem dX8_addSightOf_48 : decode cX8_addSightOf 48 = .ok (.goto 4, 3) := by decide +kernel
theorem dX8_addSightOf_51 : decode cX8_addSightOf 51 = .ok (.iconst 0, 1) := by decide +kernel
theorem dX8_addSightOf_52 : decode cX8_addSightOf 52 = .ok (.ireturn, 1) := by decide +kernel
theorem dX8_countFrights_0 : decode cX8_countFrights 0 = .ok (.iconst 0, 1) := by decide +kernel
theorem dX8_countFrights_1 : decode cX8_countFrights 1 = .ok (.istore 4, 2) := by decide +kernel
theorem dX8_countFrights_3 : decode cX8_countFrights 3 = .ok (.iload 4, 2) := by decide +kernel
theorem dX8_countFrights_5 : decode cX8_countFrights 5 = .ok (.aload_n 0, 1) := by decide +kernel
theorem dX8_countFrights_6 : decode cX8_countFrights 6 = .ok (.getfield 61, 3) := by decide +kernel
theorem dX8_countFrights_9 : decode cX8_countFrights 9 = .ok (.arraylength, 1) := by decide +kernel
theorem dX8_countFrights_10 : decode cX8_countFrights 10 = .ok (.if_icmp .ge 17, 3) := by decide +kernel
theorem dX8_countFrights_13 : decode cX8_countFrights 13 = .ok (.aload_n 0, 1) := by decide +kernel
theorem dX8_countFrights_14 : decode cX8_countFrights 14 = .ok (.getfield 61, 3) := by decide +kernel
theorem dX8_countFrights_17 : decode cX8_countFrights 17 = .ok (.iload 4, 2) := by decide +kernel
theorem dX8_countFrights_19 : decode cX8_countFrights 19 = .ok (.iconst 0, 1) := by decide +kernel
theorem dX8_countFrights_20 : decode cX8_countFrights 20 = .ok (.iastore, 1) := by decide +kernel
theorem dX8_countFrights_21 : decode cX8_countFrights 21 = .ok (.iinc 4 1, 3) := by decide +kernel
theorem dX8_countFrights_24 : decode cX8_countFrights 24 = .ok (.goto (-21), 3) := by decide +kernel
theorem dX8_countFrights_27 : decode cX8_countFrights 27 = .ok (.iconst 0, 1) := by decide +kernel
theorem dX8_countFrights_28 : decode cX8_countFrights 28 = .ok (.istore 4, 2) := by decide +kernel
theorem dX8_countFrights_30 : decode cX8_countFrights 30 = .ok (.iload 4, 2) := by decide +kernel
theorem dX8_countFrights_32 : decode cX8_countFrights 32 = .ok (.iload_n 3, 1) := by decide +kernel
theorem dX8_countFrights_33 : decode cX8_countFrights 33 = .ok (.if_icmp .ge 71, 3) := by decide +kernel
theorem dX8_countFrights_36 : decode cX8_countFrights 36 = .ok (.aload_n 0, 1) := by decide +kernel
theorem dX8_countFrights_37 : decode cX8_countFrights 37 = .ok (.getfield 19, 3) := by decide +kernel
theorem dX8_countFrights_40 : decode cX8_countFrights 40 = .ok (.lload_n 1, 1) := by decide +kernel
theorem dX8_countFrights_41 : decode cX8_countFrights 41 = .ok (.iload 4, 2) := by decide +kernel
theorem dX8_countFrights_43 : decode cX8_countFrights 43 = .ok (.i2l, 1) := by decide +kernel
theorem dX8_countFrights_44 : decode cX8_countFrights 44 = .ok (.ladd, 1) := by decide +kernel
theorem dX8_countFrights_45 : decode cX8_countFrights 45 = .ok (.invokevirtual 229, 3) := by decide +kernel
theorem dX8_countFrights_48 : decode cX8_countFrights 48 = .ok (.istore 5, 2) := by decide +kernel
theorem dX8_countFrights_50 : decode cX8_countFrights 50 = .ok (.iconst 0, 1) := by decide +kernel
theorem dX8_countFrights_51 : decode cX8_countFrights 51 = .ok (.istore 6, 2) := by decide +kernel
theorem dX8_countFrights_53 : decode cX8_countFrights 53 = .ok (.iload 6, 2) := by decide +kernel
theorem dX8_countFrights_55 : decode cX8_countFrights 55 = .ok (.aload_n 0, 1) := by decide +kernel
theorem dX8_countFrights_56 : decode cX8_countFrights 56 = .ok (.getfield 61, 3) := by decide +kernel
theorem dX8_countFrights_59 : decode cX8_countFrights 59 = .ok (.arraylength, 1) := by decide +kernel
theorem dX8_countFrights_60 : decode cX8_countFrights 60 = .ok (.if_icmp .ge 38, 3) := by decide +kernel
theorem dX8_countFrights_63 : decode cX8_countFrights 63 = .ok (.iload 5, 2) := by decide +kernel
theorem dX8_countFrights_65 : decode cX8_countFrights 65 = .ok (.iload 6, 2) := by decide +kernel
theorem dX8_countFrights_67 : decode cX8_countFrights 67 = .ok (.aload_n 0, 1) := by decide +kernel
theorem dX8_countFrights_68 : decode cX8_countFrights 68 = .ok (.getfield 19, 3) := by decide +kernel
theorem dX8_countFrights_71 : decode cX8_countFrights 71 = .ok (.getfield 110, 3) := by decide +kernel
theorem dX8_countFrights_74 : decode cX8_countFrights 74 = .ok (.invokestatic 343, 3) := by decide +kernel
theorem dX8_countFrights_77 : decode cX8_countFrights 77 = .ok (.iand, 1) := by decide +kernel
theorem dX8_countFrights_78 : decode cX8_countFrights 78 = .ok (.ifCond .eq 14, 3) := by decide +kernel
theorem dX8_countFrights_81 : decode cX8_countFrights 81 = .ok (.aload_n 0, 1) := by decide +kernel
theorem dX8_countFrights_82 : decode cX8_countFrights 82 = .ok (.getfield 61, 3) := by decide +kernel
theorem dX8_countFrights_85 : decode cX8_countFrights 85 = .ok (.iload 6, 2) := by decide +kernel
theorem dX8_countFrights_87 : decode cX8_countFrights 87 = .ok (.dup2, 1) := by decide +kernel
theorem dX8_countFrights_88 : decode cX8_countFrights 88 = .ok (.iaload, 1) := by decide +kernel
theorem dX8_countFrights_89 : decode cX8_countFrights 89 = .ok (.iconst 1, 1) := by decide +kernel
theorem dX8_countFrights_90 : decode cX8_countFrights 90 = .ok (.iadd, 1) := by decide +kernel
theorem dX8_countFrights_91 : decode cX8_countFrights 91 = .ok (.iastore, 1) := by decide +kernel
theorem dX8_countFrights_92 : decode cX8_countFrights 92 = .ok (.iinc 6 1, 3) := by decide +kernel
theorem dX8_countFrights_95 : decode cX8_countFrights 95 = .ok (.goto (-42), 3) := by decide +kernel
theorem dX8_countFrights_98 : decode cX8_countFrights 98 = .ok (.iinc 4 1, 3) := by decide +kernel
theorem dX8_countFrights_101 : decode cX8_countFrights 101 = .ok (.goto (-71), 3) := by decide +kernel
theorem dX8_countFrights_104 : decode cX8_countFrights 104 = .ok (.return_, 1) := by decide +kernel
theorem dX8_near_0 : decode cX8_near 0 = .ok (.iconst 0, 1) := by decide +kernel
theorem dX8_near_1 : decode cX8_near 1 = .ok (.iload_n 0, 1) := by decide +kernel
theorem dX8_near_2 : decode cX8_near 2 = .ok (.iload_n 1, 1) := by decide +kernel
theorem dX8_near_3 : decode cX8_near 3 = .ok (.isub, 1) := by decide +kernel
theorem dX8_near_4 : decode cX8_near 4 = .ok (.invokestatic 347, 3) := by decide +kernel
theorem dX8_near_7 : decode cX8_near 7 = .ok (.istore_n 2, 1) := by decide +kernel
theorem dX8_near_8 : decode cX8_near 8 = .ok (.bipush 8, 2) := by decide +kernel
theorem dX8_near_10 : decode cX8_near 10 = .ok (.iload_n 0, 1) := by decide +kernel
theorem dX8_near_11 : decode cX8_near 11 = .ok (.iload_n 1, 1) := by decide +kernel
theorem dX8_near_12 : decode cX8_near 12 = .ok (.iadd, 1) := by decide +kernel
theorem dX8_near_13 : decode cX8_near 13 = .ok (.invokestatic 352, 3) := by decide +kernel
theorem dX8_near_16 : decode cX8_near 16 = .ok (.istore_n 3, 1) := by decide +kernel
theorem dX8_near_17 : decode cX8_near 17 = .ok (.iconst 1, 1) := by decide +kernel
theorem dX8_near_18 : decode cX8_near 18 = .ok (.iload_n 3, 1) := by decide +kernel
theorem dX8_near_19 : decode cX8_near 19 = .ok (.iconst 1, 1) := by decide +kernel
theorem dX8_near_20 : decode cX8_near 20 = .ok (.iadd, 1) := by decide +kernel
theorem dX8_near_21 : decode cX8_near 21 = .ok (.ishl, 1) := by decide +kernel
theorem dX8_near_22 : decode cX8_near 22 = .ok (.iconst 1, 1) := by decide +kernel
theorem dX8_near_23 : decode cX8_near 23 = .ok (.iload_n 2, 1) := by decide +kernel
theorem dX8_near_24 : decode cX8_near 24 = .ok (.ishl, 1) := by decide +kernel
theorem dX8_near_25 : decode cX8_near 25 = .ok (.isub, 1) := by decide +kernel
theorem dX8_near_26 : decode cX8_near 26 = .ok (.ireturn, 1) := by decide +kernel
theorem dX8_yearOf_0 : decode cX8_yearOf 0 = .ok (.lload_n 0, 1) := by decide +kernel
theorem dX8_yearOf_1 : decode cX8_yearOf 1 = .ok (.ldc2_w 355, 3) := by decide +kernel
theorem dX8_yearOf_4 : decode cX8_yearOf 4 = .ok (.invokestatic 181, 3) := by decide +kernel
theorem dX8_yearOf_7 : decode cX8_yearOf 7 = .ok (.l2i, 1) := by decide +kernel
theorem dX8_yearOf_8 : decode cX8_yearOf 8 = .ok (.istore_n 2, 1) := by decide +kernel
theorem dX8_yearOf_9 : decode cX8_yearOf 9 = .ok (.lload_n 0, 1) := by decide +kernel
theorem dX8_yearOf_10 : decode cX8_yearOf 10 = .ok (.ldc2_w 355, 3) := by decide +kernel
theorem dX8_yearOf_13 : decode cX8_yearOf 13 = .ok (.ldiv, 1) := by decide +kernel
theorem dX8_yearOf_14 : decode cX8_yearOf 14 = .ok (.ldc2_w 357, 3) := by decide +kernel
theorem dX8_yearOf_17 : decode cX8_yearOf 17 = .ok (.lmul, 1) := by decide +kernel
theorem dX8_yearOf_18 : decode cX8_yearOf 18 = .ok (.lstore_n 3, 1) := by decide +kernel
theorem dX8_yearOf_19 : decode cX8_yearOf 19 = .ok (.iload_n 2, 1) := by decide +kernel
theorem dX8_yearOf_20 : decode cX8_yearOf 20 = .ok (.sipush 366, 3) := by decide +kernel
theorem dX8_yearOf_23 : decode cX8_yearOf 23 = .ok (.if_icmp .ge 7, 3) := by decide +kernel
theorem dX8_yearOf_26 : decode cX8_yearOf 26 = .ok (.lload_n 3, 1) := by decide +kernel
theorem dX8_yearOf_27 : decode cX8_yearOf 27 = .ok (.goto 17, 3) := by decide +kernel
theorem dX8_yearOf_30 : decode cX8_yearOf 30 = .ok (.lload_n 3, 1) := by decide +kernel
theorem dX8_yearOf_31 : decode cX8_yearOf 31 = .ok (.lconst 1, 1) := by decide +kernel
theorem dX8_yearOf_32 : decode cX8_yearOf 32 = .ok (.ladd, 1) := by decide +kernel
theorem dX8_yearOf_33 : decode cX8_yearOf 33 = .ok (.iload_n 2, 1) := by decide +kernel
theorem dX8_yearOf_34 : decode cX8_yearOf 34 = .ok (.sipush 366, 3) := by decide +kernel
theorem dX8_yearOf_37 : decode cX8_yearOf 37 = .ok (.isub, 1) := by decide +kernel
theorem dX8_yearOf_38 : decode cX8_yearOf 38 = .ok (.sipush 365, 3) := by decide +kernel
theorem dX8_yearOf_41 : decode cX8_yearOf 41 = .ok (.idiv, 1) := by decide +kernel
theorem dX8_yearOf_42 : decode cX8_yearOf 42 = .ok (.i2l, 1) := by decide +kernel
theorem dX8_yearOf_43 : decode cX8_yearOf 43 = .ok (.ladd, 1) := by decide +kernel
theorem dX8_yearOf_44 : decode cX8_yearOf 44 = .ok (.lreturn, 1) := by decide +kernel
theorem dX8_dayOfYear_0 : decode cX8_dayOfYear 0 = .ok (.lload_n 0, 1) := by decide +kernel
theorem dX8_dayOfYear_1 : decode cX8_dayOfYear 1 = .ok (.ldc2_w 355, 3) := by decide +kernel
theorem dX8_dayOfYear_4 : decode cX8_dayOfYear 4 = .ok (.invokestatic 181, 3) := by decide +kernel
theorem dX8_dayOfYear_7 : decode cX8_dayOfYear 7 = .ok (.l2i, 1) := by decide +kernel
theorem dX8_dayOfYear_8 : decode cX8_dayOfYear 8 = .ok (.istore_n 2, 1) := by decide +kernel
theorem dX8_dayOfYear_9 : decode cX8_dayOfYear 9 = .ok (.iload_n 2, 1) := by decide +kernel
theorem dX8_dayOfYear_10 : decode cX8_dayOfYear 10 = .ok (.sipush 366, 3) := by decide +kernel
theorem dX8_dayOfYear_13 : decode cX8_dayOfYear 13 = .ok (.if_icmp .ge 7, 3) := by decide +kernel
theorem dX8_dayOfYear_16 : decode cX8_dayOfYear 16 = .ok (.iload_n 2, 1) := by decide +kernel
theorem dX8_dayOfYear_17 : decode cX8_dayOfYear 17 = .ok (.goto 12, 3) := by decide +kernel
theorem dX8_dayOfYear_20 : decode cX8_dayOfYear 20 = .ok (.iload_n 2, 1) := by decide +kernel
theorem dX8_dayOfYear_21 : decode cX8_dayOfYear 21 = .ok (.sipush 366, 3) := by decide +kernel
theorem dX8_dayOfYear_24 : decode cX8_dayOfYear 24 = .ok (.isub, 1) := by decide +kernel
theorem dX8_dayOfYear_25 : decode cX8_dayOfYear 25 = .ok (.sipush 365, 3) := by decide +kernel
theorem dX8_dayOfYear_28 : decode cX8_dayOfYear 28 = .ok (.irem, 1) := by decide +kernel
theorem dX8_dayOfYear_29 : decode cX8_dayOfYear 29 = .ok (.ireturn, 1) := by decide +kernel
theorem dX8_rest_0 : decode cX8_rest 0 = .ok (.lload_n 2, 1) := by decide +kernel
theorem dX8_rest_1 : decode cX8_rest 1 = .ok (.lconst 1, 1) := by decide +kernel
theorem dX8_rest_2 : decode cX8_rest 2 = .ok (.lcmp, 1) := by decide +kernel
theorem dX8_rest_3 : decode cX8_rest 3 = .ok (.ifCond .ge 5, 3) := by decide +kernel
theorem dX8_rest_6 : decode cX8_rest 6 = .ok (.lconst 0, 1) := by decide +kernel
theorem dX8_rest_7 : decode cX8_rest 7 = .ok (.lreturn, 1) := by decide +kernel
theorem dX8_rest_8 : decode cX8_rest 8 = .ok (.lload_n 0, 1) := by decide +kernel
theorem dX8_rest_9 : decode cX8_rest 9 = .ok (.lload_n 2, 1) := by decide +kernel
theorem dX8_rest_10 : decode cX8_rest 10 = .ok (.lrem, 1) := by decide +kernel
theorem dX8_rest_11 : decode cX8_rest 11 = .ok (.lstore 4, 2) := by decide +kernel
theorem dX8_rest_13 : decode cX8_rest 13 = .ok (.lload 4, 2) := by decide +kernel
theorem dX8_rest_15 : decode cX8_rest 15 = .ok (.lconst 0, 1) := by decide +kernel
theorem dX8_rest_16 : decode cX8_rest 16 = .ok (.lcmp, 1) := by decide +kernel
theorem dX8_rest_17 : decode cX8_rest 17 = .ok (.ifCond .ge 10, 3) := by decide +kernel
theorem dX8_rest_20 : decode cX8_rest 20 = .ok (.lload 4, 2) := by decide +kernel
theorem dX8_rest_22 : decode cX8_rest 22 = .ok (.lload_n 2, 1) := by decide +kernel
theorem dX8_rest_23 : decode cX8_rest 23 = .ok (.ladd, 1) := by decide +kernel
theorem dX8_rest_24 : decode cX8_rest 24 = .ok (.goto 5, 3) := by decide +kernel
theorem dX8_rest_27 : decode cX8_rest 27 = .ok (.lload 4, 2) := by decide +kernel
theorem dX8_rest_29 : decode cX8_rest 29 = .ok (.lreturn, 1) := by decide +kernel
theorem dX8_commonDivisor_0 : decode cX8_commonDivisor 0 = .ok (.lload_n 0, 1) := by decide +kernel
theorem dX8_commonDivisor_1 : decode cX8_commonDivisor 1 = .ok (.lstore 4, 2) := by decide +kernel
theorem dX8_commonDivisor_3 : decode cX8_commonDivisor 3 = .ok (.lload_n 2, 1) := by decide +kernel
theorem dX8_commonDivisor_4 : decode cX8_commonDivisor 4 = .ok (.lstore 6, 2) := by decide +kernel
theorem dX8_commonDivisor_6 : decode cX8_commonDivisor 6 = .ok (.iconst 0, 1) := by decide +kernel
theorem dX8_commonDivisor_7 : decode cX8_commonDivisor 7 = .ok (.istore 8, 2) := by decide +kernel
theorem dX8_commonDivisor_9 : decode cX8_commonDivisor 9 = .ok (.iload 8, 2) := by decide +kernel
theorem dX8_commonDivisor_11 : decode cX8_commonDivisor 11 = .ok (.sipush 200, 3) := by decide +kernel
theorem dX8_commonDivisor_14 : decode cX8_commonDivisor 14 = .ok (.if_icmp .ge 31, 3) := by decide +kernel
theorem dX8_commonDivisor_17 : decode cX8_commonDivisor 17 = .ok (.lload 6, 2) := by decide +kernel
theorem dX8_commonDivisor_19 : decode cX8_commonDivisor 19 = .ok (.lconst 0, 1) := by decide +kernel
theorem dX8_commonDivisor_20 : decode cX8_commonDivisor 20 = .ok (.lcmp, 1) := by decide +kernel
theorem dX8_commonDivisor_21 : decode cX8_commonDivisor 21 = .ok (.ifCond .le 24, 3) := by decide +kernel
theorem dX8_commonDivisor_24 : decode cX8_commonDivisor 24 = .ok (.lload 4, 2) := by decide +kernel
theorem dX8_commonDivisor_26 : decode cX8_commonDivisor 26 = .ok (.lload 6, 2) := by decide +kernel
theorem dX8_commonDivisor_28 : decode cX8_commonDivisor 28 = .ok (.lrem, 1) := by decide +kernel
theorem dX8_commonDivisor_29 : decode cX8_commonDivisor 29 = .ok (.lstore 9, 2) := by decide +kernel
theorem dX8_commonDivisor_31 : decode cX8_commonDivisor 31 = .ok (.lload 6, 2) := by decide +kernel
theorem dX8_commonDivisor_33 : decode cX8_commonDivisor 33 = .ok (.lstore 4, 2) := by decide +kernel
theorem dX8_commonDivisor_35 : decode cX8_commonDivisor 35 = .ok (.lload 9, 2) := by decide +kernel
theorem dX8_commonDivisor_37 : decode cX8_commonDivisor 37 = .ok (.lstore 6, 2) := by decide +kernel
theorem dX8_commonDivisor_39 : decode cX8_commonDivisor 39 = .ok (.iinc 8 1, 3) := by decide +kernel
theorem dX8_commonDivisor_42 : decode cX8_commonDivisor 42 = .ok (.goto (-33), 3) := by decide +kernel
theorem dX8_commonDivisor_45 : decode cX8_commonDivisor 45 = .ok (.lload 4, 2) := by decide +kernel
theorem dX8_commonDivisor_47 : decode cX8_commonDivisor 47 = .ok (.lconst 1, 1) := by decide +kernel
theorem dX8_commonDivisor_48 : decode cX8_commonDivisor 48 = .ok (.invokestatic 359, 3) := by decide +kernel
theorem dX8_commonDivisor_51 : decode cX8_commonDivisor 51 = .ok (.lreturn, 1) := by decide +kernel
theorem dX8_lowestBit_0 : decode cX8_lowestBit 0 = .ok (.iconst 0, 1) := by decide +kernel
theorem dX8_lowestBit_1 : decode cX8_lowestBit 1 = .ok (.istore_n 2, 1) := by decide +kernel
theorem dX8_lowestBit_2 : decode cX8_lowestBit 2 = .ok (.iload_n 2, 1) := by decide +kernel
theorem dX8_lowestBit_3 : decode cX8_lowestBit 3 = .ok (.bipush 60, 2) := by decide +kernel
theorem dX8_lowestBit_5 : decode cX8_lowestBit 5 = .ok (.if_icmp .ge 21, 3) := by decide +kernel
theorem dX8_lowestBit_8 : decode cX8_lowestBit 8 = .ok (.lload_n 0, 1) := by decide +kernel
theorem dX8_lowestBit_9 : decode cX8_lowestBit 9 = .ok (.iload_n 2, 1) := by decide +kernel
theorem dX8_lowestBit_10 : decode cX8_lowestBit 10 = .ok (.lushr, 1) := by decide +kernel
theorem dX8_lowestBit_11 : decode cX8_lowestBit 11 = .ok (.lconst 1, 1) := by decide +kernel
theorem dX8_lowestBit_12 : decode cX8_lowestBit 12 = .ok (.land, 1) := by decide +kernel
theorem dX8_lowestBit_13 : decode cX8_lowestBit 13 = .ok (.lconst 0, 1) := by decide +kernel
theorem dX8_lowestBit_14 : decode cX8_lowestBit 14 = .ok (.lcmp, 1) := by decide +kernel
theorem dX8_lowestBit_15 : decode cX8_lowestBit 15 = .ok (.ifCond .eq 5, 3) := by decide +kernel
theorem dX8_lowestBit_18 : decode cX8_lowestBit 18 = .ok (.iload_n 2, 1) := by decide +kernel
theorem dX8_lowestBit_19 : decode cX8_lowestBit 19 = .ok (.ireturn, 1) := by decide +kernel
theorem dX8_lowestBit_20 : decode cX8_lowestBit 20 = .ok (.iinc 2 1, 3) := by decide +kernel
theorem dX8_lowestBit_23 : decode cX8_lowestBit 23 = .ok (.goto (-21), 3) := by decide +kernel
theorem dX8_lowestBit_26 : decode cX8_lowestBit 26 = .ok (.iconst 0, 1) := by decide +kernel
theorem dX8_lowestBit_27 : decode cX8_lowestBit 27 = .ok (.ireturn, 1) := by decide +kernel
theorem dX9_init_0 : decode cX9_init 0 = .ok (.aload_n 0, 1) := by decide +kernel
theorem dX9_init_1 : decode cX9_init 1 = .ok (.invokespecial 1, 3) := by decide +kernel
theorem dX9_init_4 : decode cX9_init 4 = .ok (.aload_n 0, 1) := by decide +kernel
theorem dX9_init_5 : decode cX9_init 5 = .ok (.sipush 324, 3) := by decide +kernel
theorem dX9_init_8 : decode cX9_init 8 = .ok (.newarray .int, 2) := by decide +kernel
theorem dX9_init_10 : decode cX9_init 10 = .ok (.putfield 7, 3) := by decide +kernel
theorem dX9_init_13 : decode cX9_init 13 = .ok (.aload_n 0, 1) := by decide +kernel
theorem dX9_init_14 : decode cX9_init 14 = .ok (.iconst 2, 1) := by decide +kernel
theorem dX9_init_15 : decode cX9_init 15 = .ok (.newarray .boolean, 2) := by decide +kernel
theorem dX9_init_17 : decode cX9_init 17 = .ok (.putfield 13, 3) := by decide +kernel
theorem dX9_init_20 : decode cX9_init 20 = .ok (.aload_n 0, 1) := by decide +kernel
theorem dX9_init_21 : decode cX9_init 21 = .ok (.bipush 108, 2) := by decide +kernel
theorem dX9_init_23 : decode cX9_init 23 = .ok (.newarray .int, 2) := by decide +kernel
theorem dX9_init_25 : decode cX9_init 25 = .ok (.putfield 17, 3) := by decide +kernel
theorem dX9_init_28 : decode cX9_init 28 = .ok (.aload_n 0, 1) := by decide +kernel
theorem dX9_init_29 : decode cX9_init 29 = .ok (.sipush 400, 3) := by decide +kernel
theorem dX9_init_32 : decode cX9_init 32 = .ok (.newarray .int, 2) := by decide +kernel
theorem dX9_init_34 : decode cX9_init 34 = .ok (.putfield 20, 3) := by decide +kernel
theorem dX9_init_37 : decode cX9_init 37 = .ok (.aload_n 0, 1) := by decide +kernel
theorem dX9_init_38 : decode cX9_init 38 = .ok (.ldc 23, 2) := by decide +kernel
theorem dX9_init_40 : decode cX9_init 40 = .ok (.newarray .long, 2) := by decide +kernel
theorem dX9_init_42 : decode cX9_init 42 = .ok (.putfield 24, 3) := by decide +kernel
theorem dX9_init_45 : decode cX9_init 45 = .ok (.aload_n 0, 1) := by decide +kernel
theorem dX9_init_46 : decode cX9_init 46 = .ok (.ldc 23, 2) := by decide +kernel
theorem dX9_init_48 : decode cX9_init 48 = .ok (.newarray .long, 2) := by decide +kernel
theorem dX9_init_50 : decode cX9_init 50 = .ok (.putfield 28, 3) := by decide +kernel
theorem dX9_init_53 : decode cX9_init 53 = .ok (.aload_n 0, 1) := by decide +kernel
theorem dX9_init_54 : decode cX9_init 54 = .ok (.bipush 12, 2) := by decide +kernel
theorem dX9_init_56 : decode cX9_init 56 = .ok (.newarray .int, 2) := by decide +kernel
theorem dX9_init_58 : decode cX9_init 58 = .ok (.putfield 31, 3) := by decide +kernel
theorem dX9_init_61 : decode cX9_init 61 = .ok (.aload_n 0, 1) := by decide +kernel
theorem dX9_init_62 : decode cX9_init 62 = .ok (.iconst 4, 1) := by decide +kernel
theorem dX9_init_63 : decode cX9_init 63 = .ok (.newarray .int, 2) := by decide +kernel
theorem dX9_init_65 : decode cX9_init 65 = .ok (.putfield 34, 3) := by decide +kernel
theorem dX9_init_68 : decode cX9_init 68 = .ok (.aload_n 0, 1) := by decide +kernel
theorem dX9_init_69 : decode cX9_init 69 = .ok (.iconst 4, 1) := by decide +kernel
theorem dX9_init_70 : decode cX9_init 70 = .ok (.newarray .int, 2) := by decide +kernel
theorem dX9_init_72 : decode cX9_init 72 = .ok (.putfield 37, 3) := by decide +kernel
theorem dX9_init_75 : decode cX9_init 75 = .ok (.aload_n 0, 1) := by decide +kernel
theorem dX9_init_76 : decode cX9_init 76 = .ok (.sipush 160, 3) := by decide +kernel
theorem dX9_init_79 : decode cX9_init 79 = .ok (.newarray .int, 2) := by decide +kernel
theorem dX9_init_81 : decode cX9_init 81 = .ok (.putfield 40, 3) := by decide +kernel
theorem dX9_init_84 : decode cX9_init 84 = .ok (.iconst 0, 1) := by decide +kernel
theorem dX9_init_85 : decode cX9_init 85 = .ok (.istore_n 1, 1) := by decide +kernel
theorem dX9_init_86 : decode cX9_init 86 = .ok (.iload_n 1, 1) := by decide +kernel
theorem dX9_init_87 : decode cX9_init 87 = .ok (.iconst 4, 1) := by decide +kernel
theorem dX9_init_88 : decode cX9_init 88 = .ok (.if_icmp .ge 17, 3) := by decide +kernel
theorem dX9_init_91 : decode cX9_init 91 = .ok (.aload_n 0, 1) := by decide +kernel
theorem dX9_init_92 : decode cX9_init 92 = .ok (.getfield 34, 3) := by decide +kernel
theorem dX9_init_95 : decode cX9_init 95 = .ok (.iload_n 1, 1) := by decide +kernel
theorem dX9_init_96 : decode cX9_init 96 = .ok (.bipush (-4), 2) := by decide +kernel
theorem dX9_init_98 : decode cX9_init 98 = .ok (.iastore, 1) := by decide +kernel
theorem dX9_init_99 : decode cX9_init 99 = .ok (.iinc 1 1, 3) := by decide +kernel
theorem dX9_init_102 : decode cX9_init 102 = .ok (.goto (-16), 3) := by decide +kernel
theorem dX9_init_105 : decode cX9_init 105 = .ok (.aload_n 0, 1) := by decide +kernel
theorem dX9_init_106 : decode cX9_init 106 = .ok (.invokevirtual 43, 3) := by decide +kernel
theorem dX9_init_109 : decode cX9_init 109 = .ok (.aload_n 0, 1) := by decide +kernel
theorem dX9_init_110 : decode cX9_init 110 = .ok (.invokevirtual 46, 3) := by decide +kernel
theorem dX9_init_113 : decode cX9_init 113 = .ok (.return_, 1) := by decide +kernel
theorem dX9_in_0 : decode cX9_in 0 = .ok (.lload_n 0, 1) := by decide +kernel
theorem dX9_in_1 : decode cX9_in 1 = .ok (.lload_n 2, 1) := by decide +kernel
theorem dX9_in_2 : decode cX9_in 2 = .ok (.lcmp, 1) := by decide +kernel
theorem dX9_in_3 : decode cX9_in 3 = .ok (.ifCond .lt 14, 3) := by decide +kernel
theorem dX9_in_6 : decode cX9_in 6 = .ok (.lload_n 0, 1) := by decide +kernel
theorem dX9_in_7 : decode cX9_in 7 = .ok (.lload 4, 2) := by decide +kernel
theorem dX9_in_9 : decode cX9_in 9 = .ok (.lcmp, 1) := by decide +kernel
theorem dX9_in_10 : decode cX9_in 10 = .ok (.ifCond .gt 7, 3) := by decide +kernel
theorem dX9_in_13 : decode cX9_in 13 = .ok (.iconst 1, 1) := by decide +kernel
theorem dX9_in_14 : decode cX9_in 14 = .ok (.goto 4, 3) := by decide +kernel
theorem dX9_in_17 : decode cX9_in 17 = .ok (.iconst 0, 1) := by decide +kernel
theorem dX9_in_18 : decode cX9_in 18 = .ok (.ireturn, 1) := by decide +kernel
theorem dX9_flag_0 : decode cX9_flag 0 = .ok (.iload_n 0, 1) := by decide +kernel
theorem dX9_flag_1 : decode cX9_flag 1 = .ok (.ifCond .eq 7, 3) := by decide +kernel
theorem dX9_flag_4 : decode cX9_flag 4 = .ok (.iconst 1, 1) := by decide +kernel
theorem dX9_flag_5 : decode cX9_flag 5 = .ok (.goto 4, 3) := by decide +kernel
theorem dX9_flag_8 : decode cX9_flag 8 = .ok (.iconst 0, 1) := by decide +kernel
theorem dX9_flag_9 : decode cX9_flag 9 = .ok (.ireturn, 1) := by decide +kernel
theorem dX9_firstDraft_0 : decode cX9_firstDraft 0 = .ok (.iconst 0, 1) := by decide +kernel
theorem dX9_firstDraft_1 : decode cX9_firstDraft 1 = .ok (.istore_n 1, 1) := by decide +kernel
theorem dX9_firstDraft_2 : decode cX9_firstDraft 2 = .ok (.iload_n 1, 1) := by decide +kernel
theorem dX9_firstDraft_3 : decode cX9_firstDraft 3 = .ok (.bipush 108, 2) := by decide +kernel
theorem dX9_firstDraft_5 : decode cX9_firstDraft 5 = .ok (.if_icmp .ge 16, 3) := by decide +kernel
theorem dX9_firstDraft_8 : decode cX9_firstDraft 8 = .ok (.aload_n 0, 1) := by decide +kernel
theorem dX9_firstDraft_9 : decode cX9_firstDraft 9 = .ok (.getfield 17, 3) := by decide +kernel
theorem dX9_firstDraft_12 : decode cX9_firstDraft 12 = .ok (.iload_n 1, 1) := by decide +kernel
theorem dX9_firstDraft_13 : decode cX9_firstDraft 13 = .ok (.iconst 0, 1) := by decide +kernel
theorem dX9_firstDraft_14 : decode cX9_firstDraft 14 = .ok (.iastore, 1) := by decide +kernel
theorem dX9_firstDraft_15 : decode cX9_firstDraft 15 = .ok (.iinc 1 1, 3) := by decide +kernel
theorem dX9_firstDraft_18 : decode cX9_firstDraft 18 = .ok (.goto (-16), 3) := by decide +kernel
theorem dX9_firstDraft_21 : decode cX9_firstDraft 21 = .ok (.aload_n 0, 1) := by decide +kernel
theorem dX9_firstDraft_22 : decode cX9_firstDraft 22 = .ok (.getfield 17, 3) := by decide +kernel
theorem dX9_firstDraft_25 : decode cX9_firstDraft 25 = .ok (.bipush 68, 2) := by decide +kernel
theorem dX9_firstDraft_27 : decode cX9_firstDraft 27 = .ok (.bipush (-4), 2) := by decide +kernel
theorem dX9_firstDraft_29 : decode cX9_firstDraft 29 = .ok (.iastore, 1) := by decide +kernel
theorem dX9_firstDraft_30 : decode cX9_firstDraft 30 = .ok (.aload_n 0, 1) := by decide +kernel
theorem dX9_firstDraft_31 : decode cX9_firstDraft 31 = .ok (.getfield 17, 3) := by decide +kernel
theorem dX9_firstDraft_34 : decode cX9_firstDraft 34 = .ok (.bipush 69, 2) := by decide +kernel
theorem dX9_firstDraft_36 : decode cX9_firstDraft 36 = .ok (.bipush (-4), 2) := by decide +kernel
theorem dX9_firstDraft_38 : decode cX9_firstDraft 38 = .ok (.iastore, 1) := by decide +kernel
theorem dX9_firstDraft_39 : decode cX9_firstDraft 39 = .ok (.aload_n 0, 1) := by decide +kernel
theorem dX9_firstDraft_40 : decode cX9_firstDraft 40 = .ok (.getfield 17, 3) := by decide +kernel
theorem dX9_firstDraft_43 : decode cX9_firstDraft 43 = .ok (.bipush 70, 2) := by decide +kernel
theorem dX9_firstDraft_45 : decode cX9_firstDraft 45 = .ok (.bipush (-4), 2) := by decide +kernel
theorem dX9_firstDraft_47 : decode cX9_firstDraft 47 = .ok (.iastore, 1) := by decide +kernel
theorem dX9_firstDraft_48 : decode cX9_firstDraft 48 = .ok (.aload_n 0, 1) := by decide +kernel
theorem dX9_firstDraft_49 : decode cX9_firstDraft 49 = .ok (.iconst 1, 1) := by decide +kernel
theorem dX9_firstDraft_50 : decode cX9_firstDraft 50 = .ok (.putfield 49, 3) := by decide +kernel
theorem dX9_firstDraft_53 : decode cX9_firstDraft 53 = .ok (.aload_n 0, 1) := by decide +kernel
theorem dX9_firstDraft_54 : decode cX9_firstDraft 54 = .ok (.iconst 0, 1) := by decide +kernel
theorem dX9_firstDraft_55 : decode cX9_firstDraft 55 = .ok (.putfield 53, 3) := by decide +kernel
theorem dX9_firstDraft_58 : decode cX9_firstDraft 58 = .ok (.aload_n 0, 1) := by decide +kernel
theorem dX9_firstDraft_59 : decode cX9_firstDraft 59 = .ok (.iconst 0, 1) := by decide +kernel
theorem dX9_firstDraft_60 : decode cX9_firstDraft 60 = .ok (.putfield 57, 3) := by decide +kernel
theorem dX9_firstDraft_63 : decode cX9_firstDraft 63 = .ok (.aload_n 0, 1) := by decide +kernel
theorem dX9_firstDraft_64 : decode cX9_firstDraft 64 = .ok (.bipush (-4), 2) := by decide +kernel
theorem dX9_firstDraft_66 : decode cX9_firstDraft 66 = .ok (.putfield 60, 3) := by decide +kernel
theorem dX9_firstDraft_69 : decode cX9_firstDraft 69 = .ok (.return_, 1) := by decide +kernel
theorem dX9_keepDraft_0 : decode cX9_keepDraft 0 = .ok (.iconst 0, 1) := by decide +kernel
theorem dX9_keepDraft_1 : decode cX9_keepDraft 1 = .ok (.istore_n 1, 1) := by decide +kernel
theorem dX9_keepDraft_2 : decode cX9_keepDraft 2 = .ok (.iload_n 1, 1) := by decide +kernel
theorem dX9_keepDraft_3 : decode cX9_keepDraft 3 = .ok (.bipush 108, 2) := by decide +kernel
theorem dX9_keepDraft_5 : decode cX9_keepDraft 5 = .ok (.if_icmp .ge 21, 3) := by decide +kernel
theorem dX9_keepDraft_8 : decode cX9_keepDraft 8 = .ok (.aload_n 0, 1) := by decide +kernel
theorem dX9_keepDraft_9 : decode cX9_keepDraft 9 = .ok (.getfield 7, 3) := by decide +kernel
theorem dX9_keepDraft_12 : decode cX9_keepDraft 12 = .ok (.iload_n 1, 1) := by decide +kernel
theorem dX9_keepDraft_13 : decode cX9_keepDraft 13 = .ok (.aload_n 0, 1) := by decide +kernel
theorem dX9_keepDraft_14 : decode cX9_keepDraft 14 = .ok (.getfield 17, 3) := by decide +kernel
theorem dX9_keepDraft_17 : decode cX9_keepDraft 17 = .ok (.iload_n 1, 1) := by decide +kernel
theorem dX9_keepDraft_18 : decode cX9_keepDraft 18 = .ok (.iaload, 1) := by decide +kernel
theorem dX9_keepDraft_19 : decode cX9_keepDraft 19 = .ok (.iastore, 1) := by decide +kernel
theorem dX9_keepDraft_20 : decode cX9_keepDraft 20 = .ok (.iinc 1 1, 3) := by decide +kernel
theorem dX9_keepDraft_23 : decode cX9_keepDraft 23 = .ok (.goto (-21), 3) := by decide +kernel
theorem dX9_keepDraft_26 : decode cX9_keepDraft 26 = .ok (.aload_n 0, 1) := by decide +kernel
theorem dX9_keepDraft_27 : decode cX9_keepDraft 27 = .ok (.aload_n 0, 1) := by decide +kernel
theorem dX9_keepDraft_28 : decode cX9_keepDraft 28 = .ok (.getfield 49, 3) := by decide +kernel
theorem dX9_keepDraft_31 : decode cX9_keepDraft 31 = .ok (.putfield 63, 3) := by decide +kernel
theorem dX9_keepDraft_34 : decode cX9_keepDraft 34 = .ok (.aload_n 0, 1) := by decide +kernel
theorem dX9_keepDraft_35 : decode cX9_keepDraft 35 = .ok (.getfield 13, 3) := by decide +kernel
theorem dX9_keepDraft_38 : decode cX9_keepDraft 38 = .ok (.iconst 0, 1) := by decide +kernel
theorem dX9_keepDraft_39 : decode cX9_keepDraft 39 = .ok (.iconst 0, 1) := by decide +kernel
theorem dX9_keepDraft_40 : decode cX9_keepDraft 40 = .ok (.bastore, 1) := by decide +kernel
theorem dX9_keepDraft_41 : decode cX9_keepDraft 41 = .ok (.aload_n 0, 1) := by decide +kernel
theorem dX9_keepDraft_42 : decode cX9_keepDraft 42 = .ok (.getfield 13, 3) := by decide +kernel
theorem dX9_keepDraft_45 : decode cX9_keepDraft 45 = .ok (.iconst 1, 1) := by decide +kernel
theorem dX9_keepDraft_46 : decode cX9_keepDraft 46 = .ok (.iconst 0, 1) := by decide +kernel
theorem dX9_keepDraft_47 : decode cX9_keepDraft 47 = .ok (.bastore, 1) := by decide +kernel
theorem dX9_keepDraft_48 : decode cX9_keepDraft 48 = .ok (.return_, 1) := by decide +kernel
theorem dX9_feed_0 : decode cX9_feed 0 = .ok (.aload_n 0, 1) := by decide +kernel
theorem dX9_feed_1 : decode cX9_feed 1 = .ok (.getfield 66, 3) := by decide +kernel
theorem dX9_feed_4 : decode cX9_feed 4 = .ok (.bipush 8, 2) := by decide +kernel
theorem dX9_feed_6 : decode cX9_feed 6 = .ok (.iadd, 1) := by decide +kernel
theorem dX9_feed_7 : decode cX9_feed 7 = .ok (.sipush 400, 3) := by decide +kernel
theorem dX9_feed_10 : decode cX9_feed 10 = .ok (.if_icmp .le 6, 3) := by decide +kernel
theorem dX9_feed_13 : decode cX9_feed 13 = .ok (.bipush (-3), 2) := by decide +kernel
theorem dX9_feed_15 : decode cX9_feed 15 = .ok (.ireturn, 1) := by decide +kernel
theorem dX9_feed_16 : decode cX9_feed 16 = .ok (.bipush 56, 2) := by decide +kernel
theorem dX9_feed_18 : decode cX9_feed 18 = .ok (.istore_n 3, 1) := by decide +kernel
theorem dX9_feed_19 : decode cX9_feed 19 = .ok (.iload_n 3, 1) := by decide +kernel
theorem dX9_feed_20 : decode cX9_feed 20 = .ok (.ifCond .lt 36, 3) := by decide +kernel
theorem dX9_feed_23 : decode cX9_feed 23 = .ok (.aload_n 0, 1) := by decide +kernel
theorem dX9_feed_24 : decode cX9_feed 24 = .ok (.getfield 20, 3) := by decide +kernel
theorem dX9_feed_27 : decode cX9_feed 27 = .ok (.aload_n 0, 1) := by decide +kernel
theorem dX9_feed_28 : decode cX9_feed 28 = .ok (.getfield 66, 3) := by decide +kernel
theorem dX9_feed_31 : decode cX9_feed 31 = .ok (.lload_n 1, 1) := by decide +kernel
theorem dX9_feed_32 : decode cX9_feed 32 = .ok (.iload_n 3, 1) := by decide +kernel
theorem dX9_feed_33 : decode cX9_feed 33 = .ok (.lshr, 1) := by decide +kernel
theorem dX9_feed_34 : decode cX9_feed 34 = .ok (.ldc2_w 69, 3) := by decide +kernel
theorem dX9_feed_37 : decode cX9_feed 37 = .ok (.land, 1) := by decide +kernel
theorem dX9_feed_38 : decode cX9_feed 38 = .ok (.l2i, 1) := by decide +kernel
theorem dX9_feed_39 : decode cX9_feed 39 = .ok (.iastore, 1) := by decide +kernel
theorem dX9_feed_40 : decode cX9_feed 40 = .ok (.aload_n 0, 1) := by decide +kernel
theorem dX9_feed_41 : decode cX9_feed 41 = .ok (.dup, 1) := by decide +kernel
theorem dX9_feed_42 : decode cX9_feed 42 = .ok (.getfield 66, 3) := by decide +kernel
theorem dX9_feed_45 : decode cX9_feed 45 = .ok (.iconst 1, 1) := by decide +kernel
theorem dX9_feed_46 : decode cX9_feed 46 = .ok (.iadd, 1) := by decide +kernel
theorem dX9_feed_47 : decode cX9_feed 47 = .ok (.putfield 66, 3) := by decide +kernel
theorem dX9_feed_50 : decode cX9_feed 50 = .ok (.iinc 3 (-8), 3) := by decide +kernel
theorem dX9_feed_53 : decode cX9_feed 53 = .ok (.goto (-34), 3) := by decide +kernel
theorem dX9_feed_56 : decode cX9_feed 56 = .ok (.aload_n 0, 1) := by decide +kernel
theorem dX9_feed_57 : decode cX9_feed 57 = .ok (.getfield 66, 3) := by decide +kernel
theorem dX9_feed_60 : decode cX9_feed 60 = .ok (.ireturn, 1) := by decide +kernel
theorem dX9_end_0 : decode cX9_end 0 = .ok (.iload_n 1, 1) := by decide +kernel
theorem dX9_end_1 : decode cX9_end 1 = .ok (.i2l, 1) := by decide +kernel
theorem dX9_end_2 : decode cX9_end 2 = .ok (.lconst 0, 1) := by decide +kernel
theorem dX9_end_3 : decode cX9_end 3 = .ok (.aload_n 0, 1) := by decide +kernel
theorem dX9_end_4 : decode cX9_end 4 = .ok (.getfield 66, 3) := by decide +kernel
theorem dX9_end_7 : decode cX9_end 7 = .ok (.i2l, 1) := by decide +kernel
theorem dX9_end_8 : decode cX9_end 8 = .ok (.invokestatic 71, 3) := by decide +kernel
theorem dX9_end_11 : decode cX9_end 11 = .ok (.ifCond .ne 5, 3) := by decide +kernel
theorem dX9_end_14 : decode cX9_end 14 = .ok (.iconst (-1), 1) := by decide +kernel
theorem dX9_end_15 : decode cX9_end 15 = .ok (.ireturn, 1) := by decide +kernel
theorem dX9_end_16 : decode cX9_end 16 = .ok (.aload_n 0, 1) := by decide +kernel
theorem dX9_end_17 : decode cX9_end 17 = .ok (.getfield 66, 3) := by decide +kernel
theorem dX9_end_20 : decode cX9_end 20 = .ok (.istore_n 2, 1) := by decide +kernel
theorem dX9_end_21 : decode cX9_end 21 = .ok (.aload_n 0, 1) := by decide +kernel
theorem dX9_end_22 : decode cX9_end 22 = .ok (.iload_n 1, 1) := by decide +kernel
theorem dX9_end_23 : decode cX9_end 23 = .ok (.putfield 66, 3) := by decide +kernel
theorem dX9_end_26 : decode cX9_end 26 = .ok (.iload_n 2, 1) := by decide +kernel
theorem dX9_end_27 : decode cX9_end 27 = .ok (.ireturn, 1) := by decide +kernel
theorem dX9_needs_0 : decode cX9_needs 0 = .ok (.iload_n 1, 1) := by decide +kernel
theorem dX9_needs_1 : decode cX9_needs 1 = .ok (.ifCond .ne 23, 3) := by decide +kernel
theorem dX9_needs_4 : decode cX9_needs 4 = .ok (.aload_n 0, 1) := by decide +kernel
theorem dX9_needs_5 : decode cX9_needs 5 = .ok (.getfield 75, 3) := by decide +kernel
theorem dX9_needs_8 : decode cX9_needs 8 = .ok (.ifCond .ne 16, 3) := by decide +kernel
theorem dX9_needs_11 : decode cX9_needs 11 = .ok (.aload_n 0, 1) := by decide +kernel
theorem dX9_needs_12 : decode cX9_needs 12 = .ok (.iload_n 2, 1) := by decide +kernel
theorem dX9_needs_13 : decode cX9_needs 13 = .ok (.putfield 75, 3) := by decide +kernel
theorem dX9_needs_16 : decode cX9_needs 16 = .ok (.aload_n 0, 1) := by decide +kernel
theorem dX9_needs_17 : decode cX9_needs 17 = .ok (.aload_n 0, 1) := by decide +kernel
theorem dX9_needs_18 : decode cX9_needs 18 = .ok (.getfield 78, 3) := by decide +kernel
theorem dX9_needs_21 : decode cX9_needs 21 = .ok (.putfield 81, 3) := by decide +kernel
theorem dX9_needs_24 : decode cX9_needs 24 = .ok (.return_, 1) := by decide +kernel
theorem dX9_look_0 : decode cX9_look 0 = .ok (.iload_n 1, 1) := by decide +kernel
theorem dX9_look_1 : decode cX9_look 1 = .ok (.aload_n 0, 1) := by decide +kernel
theorem dX9_look_2 : decode cX9_look 2 = .ok (.getfield 66, 3) := by decide +kernel
theorem dX9_look_5 : decode cX9_look 5 = .ok (.if_icmp .ge 12, 3) := by decide +kernel
theorem dX9_look_8 : decode cX9_look 8 = .ok (.aload_n 0, 1) := by decide +kernel
theorem dX9_look_9 : decode cX9_look 9 = .ok (.getfield 20, 3) := by decide +kernel
theorem dX9_look_12 : decode cX9_look 12 = .ok (.iload_n 1, 1) := by decide +kernel
theorem dX9_look_13 : decode cX9_look 13 = .ok (.iaload, 1) := by decide +kernel
theorem dX9_look_14 : decode cX9_look 14 = .ok (.goto 4, 3) := by decide +kernel
theorem dX9_look_17 : decode cX9_look 17 = .ok (.iconst (-1), 1) := by decide +kernel
theorem dX9_look_18 : decode cX9_look 18 = .ok (.ireturn, 1) := by decide +kernel
theorem dX9_is_0 : decode cX9_is 0 = .ok (.aload_n 0, 1) := by decide +kernel
theorem dX9_is_1 : decode cX9_is 1 = .ok (.getfield 84, 3) := by decide +kernel
theorem dX9_is_4 : decode cX9_is 4 = .ok (.aload_n 0, 1) := by decide +kernel
theorem dX9_is_5 : decode cX9_is 5 = .ok (.getfield 78, 3) := by decide +kernel
theorem dX9_is_8 : decode cX9_is 8 = .ok (.isub, 1) := by decide +kernel
theorem dX9_is_9 : decode cX9_is 9 = .ok (.iload_n 1, 1) := by decide +kernel
theorem dX9_is_10 : decode cX9_is 10 = .ok (.if_icmp .ne 63, 3) := by decide +kernel
theorem dX9_is_13 : decode cX9_is 13 = .ok (.aload_n 0, 1) := by decide +kernel
theorem dX9_is_14 : decode cX9_is 14 = .ok (.aload_n 0, 1) := by decide +kernel
theorem dX9_is_15 : decode cX9_is 15 = .ok (.getfield 78, 3) := by decide +kernel
theorem dX9_is_18 : decode cX9_is 18 = .ok (.invokevirtual 87, 3) := by decide +kernel
theorem dX9_is_21 : decode cX9_is 21 = .ok (.iload_n 2, 1) := by decide +kernel
theorem dX9_is_22 : decode cX9_is 22 = .ok (.if_icmp .ne 51, 3) := by decide +kernel
theorem dX9_is_25 : decode cX9_is 25 = .ok (.aload_n 0, 1) := by decide +kernel
theorem dX9_is_26 : decode cX9_is 26 = .ok (.aload_n 0, 1) := by decide +kernel
theorem dX9_is_27 : decode cX9_is 27 = .ok (.getfield 78, 3) := by decide +kernel
theorem dX9_is_30 : decode cX9_is 30 = .ok (.iconst 1, 1) := by decide +kernel
theorem dX9_is_31 : decode cX9_is 31 = .ok (.iadd, 1) := by decide +kernel
theorem dX9_is_32 : decode cX9_is 32 = .ok (.invokevirtual 87, 3) := by decide +kernel
theorem dX9_is_35 : decode cX9_is 35 = .ok (.iload_n 3, 1) := by decide +kernel
theorem dX9_is_36 : decode cX9_is 36 = .ok (.if_icmp .ne 37, 3) := by decide +kernel
theorem dX9_is_39 : decode cX9_is 39 = .ok (.aload_n 0, 1) := by decide +kernel
theorem dX9_is_40 : decode cX9_is 40 = .ok (.aload_n 0, 1) := by decide +kernel
theorem dX9_is_41 : decode cX9_is 41 = .ok (.getfield 78, 3) := by decide +kernel
theorem dX9_is_44 : decode cX9_is 44 = .ok (.iconst 2, 1) := by decide +kernel
theorem dX9_is_45 : decode cX9_is 45 = .ok (.iadd, 1) := by decide +kernel
theorem dX9_is_46 : decode cX9_is 46 = .ok (.invokevirtual 87, 3) := by decide +kernel
theorem dX9_is_49 : decode cX9_is 49 = .ok (.iload 4, 2) := by decide +kernel
theorem dX9_is_51 : decode cX9_is 51 = .ok (.if_icmp .ne 22, 3) := by decide +kernel
theorem dX9_is_54 : decode cX9_is 54 = .ok (.aload_n 0, 1) := by decide +kernel
theorem dX9_is_55 : decode cX9_is 55 = .ok (.aload_n 0, 1) := by decide +kernel
theorem dX9_is_56 : decode cX9_is 56 = .ok (.getfield 78, 3) := by decide +kernel
theorem dX9_is_59 : decode cX9_is 59 = .ok (.iconst 3, 1) := by decide +kernel
theorem dX9_is_60 : decode cX9_is 60 = .ok (.iadd, 1) := by decide +kernel
theorem dX9_is_61 : decode cX9_is 61 = .ok (.invokevirtual 87, 3) := by decide +kernel
theorem dX9_is_64 : decode cX9_is 64 = .ok (.iload 5, 2) := by decide +kernel
theorem dX9_is_66 : decode cX9_is 66 = .ok (.if_icmp .ne 7, 3) := by decide +kernel
theorem dX9_is_69 : decode cX9_is 69 = .ok (.iconst 1, 1) := by decide +kernel
theorem dX9_is_70 : decode cX9_is 70 = .ok (.goto 4, 3) := by decide +kernel
theorem dX9_is_73 : decode cX9_is 73 = .ok (.iconst 0, 1) := by decide +kernel
theorem dX9_is_74 : decode cX9_is 74 = .ok (.ireturn, 1) := by decide +kernel
theorem dX9_ends_0 : decode cX9_ends 0 = .ok (.aload_n 0, 1) := by decide +kernel
theorem dX9_ends_1 : decode cX9_ends 1 = .ok (.aload_n 0, 1) := by decide +kernel
theorem dX9_ends_2 : decode cX9_ends 2 = .ok (.getfield 78, 3) := by decide +kernel
theorem dX9_ends_5 : decode cX9_ends 5 = .ok (.iconst 4, 1) := by decide +kernel
theorem dX9_ends_6 : decode cX9_ends 6 = .ok (.iadd, 1) := by decide +kernel
theorem dX9_ends_7 : decode cX9_ends 7 = .ok (.invokevirtual 87, 3) := by decide +kernel
theorem dX9_ends_10 : decode cX9_ends 10 = .ok (.iload_n 1, 1) := by decide +kernel
theorem dX9_ends_11 : decode cX9_ends 11 = .ok (.if_icmp .ne 44, 3) := by decide +kernel
theorem dX9_ends_14 : decode cX9_ends 14 = .ok (.iload_n 2, 1) := by decide +kernel
theorem dX9_ends_15 : decode cX9_ends 15 = .ok (.ifCond .eq 17, 3) := by decide +kernel
theorem dX9_ends_18 : decode cX9_ends 18 = .ok (.aload_n 0, 1) := by decide +kernel
theorem dX9_ends_19 : decode cX9_ends 19 = .ok (.aload_n 0, 1) := by decide +kernel
theorem dX9_ends_20 : decode cX9_ends 20 = .ok (.getfield 78, 3) := by decide +kernel
theorem dX9_ends_23 : decode cX9_ends 23 = .ok (.iconst 5, 1) := by decide +kernel
theorem dX9_ends_24 : decode cX9_ends 24 = .ok (.iadd, 1) := by decide +kernel
theorem dX9_ends_25 : decode cX9_ends 25 = .ok (.invokevirtual 87, 3) := by decide +kernel
theorem dX9_ends_28 : decode cX9_ends 28 = .ok (.iload_n 2, 1) := by decide +kernel
theorem dX9_ends_29 : decode cX9_ends 29 = .ok (.if_icmp .ne 26, 3) := by decide +kernel
theorem dX9_ends_32 : decode cX9_ends 32 = .ok (.iload_n 3, 1) := by decide +kernel
theorem dX9_ends_33 : decode cX9_ends 33 = .ok (.ifCond .eq 18, 3) := by decide +kernel
theorem dX9_ends_36 : decode cX9_ends 36 = .ok (.aload_n 0, 1) := by decide +kernel
theorem dX9_ends_37 : decode cX9_ends 37 = .ok (.aload_n 0, 1) := by decide +kernel
theorem dX9_ends_38 : decode cX9_ends 38 = .ok (.getfield 78, 3) := by decide +kernel
theorem dX9_ends_41 : decode cX9_ends 41 = .ok (.bipush 6, 2) := by decide +kernel
theorem dX9_ends_43 : decode cX9_ends 43 = .ok (.iadd, 1) := by decide +kernel
theorem dX9_ends_44 : decode cX9_ends 44 = .ok (.invokevirtual 87, 3) := by decide +kernel
theorem dX9_ends_47 : decode cX9_ends 47 = .ok (.iload_n 3, 1) := by decide +kernel
theorem dX9_ends_48 : decode cX9_ends 48 = .ok (.if_icmp .ne 7, 3) := by decide +kernel
theorem dX9_ends_51 : decode cX9_ends 51 = .ok (.iconst 1, 1) := by decide +kernel
theorem dX9_ends_52 : decode cX9_ends 52 = .ok (.goto 4, 3) := by decide +kernel
theorem dX9_ends_55 : decode cX9_ends 55 = .ok (.iconst 0, 1) := by decide +kernel
theorem dX9_ends_56 : decode cX9_ends 56 = .ok (.ireturn, 1) := by decide +kernel
theorem dX9_lineNow_0 : decode cX9_lineNow 0 = .ok (.aload_n 0, 1) := by decide +kernel
theorem dX9_lineNow_1 : decode cX9_lineNow 1 = .ok (.bipush 6, 2) := by decide +kernel
theorem dX9_lineNow_3 : decode cX9_lineNow 3 = .ok (.bipush 102, 2) := by decide +kernel
theorem dX9_lineNow_5 : decode cX9_lineNow 5 = .ok (.bipush 105, 2) := by decide +kernel
theorem dX9_lineNow_7 : decode cX9_lineNow 7 = .ok (.bipush 103, 2) := by decide +kernel
theorem dX9_lineNow_9 : decode cX9_lineNow 9 = .ok (.bipush 117, 2) := by decide +kernel
theorem dX9_lineNow_11 : decode cX9_lineNow 11 = .ok (.invokevirtual 91, 3) := by decide +kernel
theorem dX9_lineNow_14 : decode cX9_lineNow 14 = .ok (.ifCond .eq 17, 3) := by decide +kernel
theorem dX9_lineNow_17 : decode cX9_lineNow 17 = .ok (.aload_n 0, 1) := by decide +kernel
theorem dX9_lineNow_18 : decode cX9_lineNow 18 = .ok (.bipush 114, 2) := by decide +kernel
theorem dX9_lineNow_20 : decode cX9_lineNow 20 = .ok (.bipush 101, 2) := by decide +kernel
theorem dX9_lineNow_22 : decode cX9_lineNow 22 = .ok (.iconst 0, 1) := by decide +kernel
theorem dX9_lineNow_23 : decode cX9_lineNow 23 = .ok (.invokevirtual 95, 3) := by decide +kernel
theorem dX9_lineNow_26 : decode cX9_lineNow 26 = .ok (.ifCond .eq 5, 3) := by decide +kernel
theorem dX9_lineNow_29 : decode cX9_lineNow 29 = .ok (.iconst 0, 1) := by decide +kernel
theorem dX9_lineNow_30 : decode cX9_lineNow 30 = .ok (.ireturn, 1) := by decide +kernel
theorem dX9_lineNow_31 : decode cX9_lineNow 31 = .ok (.aload_n 0, 1) := by decide +kernel
theorem dX9_lineNow_32 : decode cX9_lineNow 32 = .ok (.iconst 5, 1) := by decide +kernel
theorem dX9_lineNow_33 : decode cX9_lineNow 33 = .ok (.bipush 115, 2) := by decide +kernel
theorem dX9_lineNow_35 : decode cX9_lineNow 35 = .ok (.bipush 116, 2) := by decide +kernel
theorem dX9_lineNow_37 : decode cX9_lineNow 37 = .ok (.bipush 105, 2) := by decide +kernel
theorem dX9_lineNow_39 : decode cX9_lineNow 39 = .ok (.bipush 99, 2) := by decide +kernel
theorem dX9_lineNow_41 : decode cX9_lineNow 41 = .ok (.invokevirtual 91, 3) := by decide +kernel
theorem dX9_lineNow_44 : decode cX9_lineNow 44 = .ok (.ifCond .eq 16, 3) := by decide +kernel
theorem dX9_lineNow_47 : decode cX9_lineNow 47 = .ok (.aload_n 0, 1) := by decide +kernel
theorem dX9_lineNow_48 : decode cX9_lineNow 48 = .ok (.bipush 107, 2) := by decide +kernel
theorem dX9_lineNow_50 : decode cX9_lineNow 50 = .ok (.iconst 0, 1) := by decide +kernel
theorem dX9_lineNow_51 : decode cX9_lineNow 51 = .ok (.iconst 0, 1) := by decide +kernel
theorem dX9_lineNow_52 : decode cX9_lineNow 52 = .ok (.invokevirtual 95, 3) := by decide +kernel
theorem dX9_lineNow_55 : decode cX9_lineNow 55 = .ok (.ifCond .eq 5, 3) := by decide +kernel
theorem dX9_lineNow_58 : decode cX9_lineNow 58 = .ok (.iconst 1, 1) := by decide +kernel
theorem dX9_lineNow_59 : decode cX9_lineNow 59 = .ok (.ireturn, 1) := by decide +kernel
theorem dX9_lineNow_60 : decode cX9_lineNow 60 = .ok (.aload_n 0, 1) := by decide +kernel
theorem dX9_lineNow_61 : decode cX9_lineNow 61 = .ok (.iconst 5, 1) := by decide +kernel
theorem dX9_lineNow_62 : decode cX9_lineNow 62 = .ok (.bipush 114, 2) := by decide +kernel
theorem dX9_lineNow_64 : decode cX9_lineNow 64 = .ok (.bipush 101, 2) := by decide +kernel
theorem dX9_lineNow_66 : decode cX9_lineNow 66 = .ok (.bipush 97, 2) := by decide +kernel
theorem dX9_lineNow_68 : decode cX9_lineNow 68 = .ok (.bipush 99, 2) := by decide +kernel
theorem dX9_lineNow_70 : decode cX9_lineNow 70 = .ok (.invokevirtual 91, 3) := by decide +kernel
theorem dX9_lineNow_73 : decode cX9_lineNow 73 = .ok (.ifCond .eq 16, 3) := by decide +kernel
theorem dX9_lineNow_76 : decode cX9_lineNow 76 = .ok (.aload_n 0, 1) := by decide +kernel
theorem dX9_lineNow_77 : decode cX9_lineNow 77 = .ok (.bipush 104, 2) := by decide +kernel
theorem dX9_lineNow_79 : decode cX9_lineNow 79 = .ok (.iconst 0, 1) := by decide +kernel
theorem dX9_lineNow_80 : decode cX9_lineNow 80 = .ok (.iconst 0, 1) := by decide +kernel
theorem dX9_lineNow_81 : decode cX9_lineNow 81 = .ok (.invokevirtual 95, 3) := by decide +kernel
theorem dX9_lineNow_84 : decode cX9_lineNow 84 = .ok (.ifCond .eq 5, 3) := by decide +kernel
theorem dX9_lineNow_87 : decode cX9_lineNow 87 = .ok (.iconst 2, 1) := by decide +kernel
theorem dX9_lineNow_88 : decode cX9_lineNow 88 = .ok (.ireturn, 1) := by decide +kernel
theorem dX9_lineNow_89 : decode cX9_lineNow 89 = .ok (.aload_n 0, 1) := by decide +kernel
theorem dX9_lineNow_90 : decode cX9_lineNow 90 = .ok (.iconst 4, 1) := by decide +kernel
theorem dX9_lineNow_91 : decode cX9_lineNow 91 = .ok (.bipush 118, 2) := by decide +kernel
theorem dX9_lineNow_93 : decode cX9_lineNow 93 = .ok (.bipush 111, 2) := by decide +kernel
theorem dX9_lineNow_95 : decode cX9_lineNow 95 = .ok (.bipush 116, 2) := by decide +kernel
theorem dX9_lineNow_97 : decode cX9_lineNow 97 = .ok (.bipush 101, 2) := by decide +kernel
theorem dX9_lineNow_99 : decode cX9_lineNow 99 = .ok (.invokevirtual 91, 3) := by decide +kernel
theorem dX9_lineNow_102 : decode cX9_lineNow 102 = .ok (.ifCond .eq 7, 3) := by decide +kernel
theorem dX9_lineNow_105 : decode cX9_lineNow 105 = .ok (.iconst 3, 1) := by decide +kernel
theorem dX9_lineNow_106 : decode cX9_lineNow 106 = .ok (.goto 5, 3) := by decide +kernel
theorem dX9_lineNow_109 : decode cX9_lineNow 109 = .ok (.bipush (-4), 2) := by decide +kernel
theorem dX9_lineNow_111 : decode cX9_lineNow 111 = .ok (.ireturn, 1) := by decide +kernel
theorem dX9_kindNow_0 : decode cX9_kindNow 0 = .ok (.aload_n 0, 1) := by decide +kernel
theorem dX9_kindNow_1 : decode cX9_kindNow 1 = .ok (.iconst 5, 1) := by decide +kernel
theorem dX9_kindNow_2 : decode cX9_kindNow 2 = .ok (.bipush 112, 2) := by decide +kernel
theorem dX9_kindNow_4 : decode cX9_kindNow 4 = .ok (.bipush 108, 2) := by decide +kernel
theorem dX9_kindNow_6 : decode cX9_kindNow 6 = .ok (.bipush 97, 2) := by decide +kernel
theorem dX9_kindNow_8 : decode cX9_kindNow 8 = .ok (.bipush 105, 2) := by decide +kernel
theorem dX9_kindNow_10 : decode cX9_kindNow 10 = .ok (.invokevirtual 91, 3) := by decide +kernel
theorem dX9_kindNow_13 : decode cX9_kindNow 13 = .ok (.ifCond .eq 16, 3) := by decide +kernel
theorem dX9_kindNow_16 : decode cX9_kindNow 16 = .ok (.aload_n 0, 1) := by decide +kernel
theorem dX9_kindNow_17 : decode cX9_kindNow 17 = .ok (.bipush 110, 2) := by decide +kernel
theorem dX9_kindNow_19 : decode cX9_kindNow 19 = .ok (.iconst 0, 1) := by decide +kernel
theorem dX9_kindNow_20 : decode cX9_kindNow 20 = .ok (.iconst 0, 1) := by decide +kernel
theorem dX9_kindNow_21 : decode cX9_kindNow 21 = .ok (.invokevirtual 95, 3) := by decide +kernel
theorem dX9_kindNow_24 : decode cX9_kindNow 24 = .ok (.ifCond .eq 5, 3) := by decide +kernel
theorem dX9_kindNow_27 : decode cX9_kindNow 27 = .ok (.iconst 0, 1) := by decide +kernel
theorem dX9_kindNow_28 : decode cX9_kindNow 28 = .ok (.ireturn, 1) := by decide +kernel
theorem dX9_kindNow_29 : decode cX9_kindNow 29 = .ok (.aload_n 0, 1) := by decide +kernel
theorem dX9_kindNow_30 : decode cX9_kindNow 30 = .ok (.iconst 4, 1) := by decide +kernel
theorem dX9_kindNow_31 : decode cX9_kindNow 31 = .ok (.bipush 119, 2) := by decide +kernel
theorem dX9_kindNow_33 : decode cX9_kindNow 33 = .ok (.bipush 111, 2) := by decide +kernel
theorem dX9_kindNow_35 : decode cX9_kindNow 35 = .ok (.bipush 114, 2) := by decide +kernel
theorem dX9_kindNow_37 : decode cX9_kindNow 37 = .ok (.bipush 110, 2) := by decide +kernel
theorem dX9_kindNow_39 : decode cX9_kindNow 39 = .ok (.invokevirtual 91, 3) := by decide +kernel
theorem dX9_kindNow_42 : decode cX9_kindNow 42 = .ok (.ifCond .eq 5, 3) := by decide +kernel
theorem dX9_kindNow_45 : decode cX9_kindNow 45 = .ok (.iconst 1, 1) := by decide +kernel
theorem dX9_kindNow_46 : decode cX9_kindNow 46 = .ok (.ireturn, 1) := by decide +kernel
theorem dX9_kindNow_47 : decode cX9_kindNow 47 = .ok (.aload_n 0, 1) := by decide +kernel
theorem dX9_kindNow_48 : decode cX9_kindNow 48 = .ok (.iconst 4, 1) := by decide +kernel
theorem dX9_kindNow_49 : decode cX9_kindNow 49 = .ok (.bipush 116, 2) := by decide +kernel
theorem dX9_kindNow_51 : decode cX9_kindNow 51 = .ok (.bipush 119, 2) := by decide +kernel
theorem dX9_kindNow_53 : decode cX9_kindNow 53 = .ok (.bipush 105, 2) := by decide +kernel
theorem dX9_kindNow_55 : decode cX9_kindNow 55 = .ok (.bipush 110, 2) := by decide +kernel
theorem dX9_kindNow_57 : decode cX9_kindNow 57 = .ok (.invokevirtual 91, 3) := by decide +kernel
theorem dX9_kindNow_60 : decode cX9_kindNow 60 = .ok (.ifCond .eq 7, 3) := by decide +kernel
theorem dX9_kindNow_63 : decode cX9_kindNow 63 = .ok (.iconst 2, 1) := by decide +kernel
theorem dX9_kindNow_64 : decode cX9_kindNow 64 = .ok (.goto 25, 3) := by decide +kernel
theorem dX9_kindNow_67 : decode cX9_kindNow 67 = .ok (.aload_n 0, 1) := by decide +kernel
theorem dX9_kindNow_68 : decode cX9_kindNow 68 = .ok (.iconst 4, 1) := by decide +kernel
theorem dX9_kindNow_69 : decode cX9_kindNow 69 = .ok (.bipush 98, 2) := by decide +kernel
theorem dX9_kindNow_71 : decode cX9_kindNow 71 = .ok (.bipush 111, 2) := by decide +kernel
theorem dX9_kindNow_73 : decode cX9_kindNow 73 = .ok (.bipush 116, 2) := by decide +kernel
theorem dX9_kindNow_75 : decode cX9_kindNow 75 = .ok (.bipush 104, 2) := by decide +kernel
theorem dX9_kindNow_77 : decode cX9_kindNow 77 = .ok (.invokevirtual 91, 3) := by decide +kernel
theorem dX9_kindNow_80 : decode cX9_kindNow 80 = .ok (.ifCond .eq 7, 3) := by decide +kernel
theorem dX9_kindNow_83 : decode cX9_kindNow 83 = .ok (.iconst 3, 1) := by decide +kernel
theorem dX9_kindNow_84 : decode cX9_kindNow 84 = .ok (.goto 5, 3) := by decide +kernel
theorem dX9_kindNow_87 : decode cX9_kindNow 87 = .ok (.bipush (-4), 2) := by decide +kernel
theorem dX9_kindNow_89 : decode cX9_kindNow 89 = .ok (.ireturn, 1) := by decide +kernel
theorem dX9_next1_0 : decode cX9_next1 0 = .ok (.aload_n 0, 1) := by decide +kernel
theorem dX9_next1_1 : decode cX9_next1 1 = .ok (.getfield 75, 3) := by decide +kernel
theorem dX9_next1_4 : decode cX9_next1 4 = .ok (.ifCond .le 4, 3) := by decide +kernel
theorem dX9_next1_7 : decode cX9_next1 7 = .ok (.return_, 1) := by decide +kernel
theorem dX9_next1_8 : decode cX9_next1 8 = .ok (.aload_n 0, 1) := by decide +kernel
theorem dX9_next1_9 : decode cX9_next1 9 = .ok (.aload_n 0, 1) := by decide +kernel
theorem dX9_next1_10 : decode cX9_next1 10 = .ok (.getfield 84, 3) := by decide +kernel
theorem dX9_next1_13 : decode cX9_next1 13 = .ok (.invokevirtual 87, 3) := by decide +kernel
theorem dX9_next1_16 : decode cX9_next1 16 = .ok (.bipush 32, 2) := by decide +kernel
theorem dX9_next1_18 : decode cX9_next1 18 = .ok (.if_icmp .ne 16, 3) := by decide +kernel
theorem dX9_next1_21 : decode cX9_next1 21 = .ok (.aload_n 0, 1) := by decide +kernel
theorem dX9_next1_22 : decode cX9_next1 22 = .ok (.dup, 1) := by decide +kernel
theorem dX9_next1_23 : decode cX9_next1 23 = .ok (.getfield 84, 3) := by decide +kernel
theorem dX9_next1_26 : decode cX9_next1 26 = .ok (.iconst 1, 1) := by decide +kernel
theorem dX9_next1_27 : decode cX9_next1 27 = .ok (.iadd, 1) := by decide +kernel
theorem dX9_next1_28 : decode cX9_next1 28 = .ok (.putfield 84, 3) := by decide +kernel
theorem dX9_next1_31 : decode cX9_next1 31 = .ok (.goto (-23), 3) := by decide +kernel
theorem dX9_next1_34 : decode cX9_next1 34 = .ok (.aload_n 0, 1) := by decide +kernel
theorem dX9_next1_35 : decode cX9_next1 35 = .ok (.aload_n 0, 1) := by decide +kernel
theorem dX9_next1_36 : decode cX9_next1 36 = .ok (.getfield 84, 3) := by decide +kernel
theorem dX9_next1_39 : decode cX9_next1 39 = .ok (.putfield 78, 3) := by decide +kernel
theorem dX9_next1_42 : decode cX9_next1 42 = .ok (.aload_n 0, 1) := by decide +kernel
theorem dX9_next1_43 : decode cX9_next1 43 = .ok (.aload_n 0, 1) := by decide +kernel
theorem dX9_next1_44 : decode cX9_next1 44 = .ok (.getfield 84, 3) := by decide +kernel
theorem dX9_next1_47 : decode cX9_next1 47 = .ok (.invokevirtual 87, 3) := by decide +kernel
theorem dX9_next1_50 : decode cX9_next1 50 = .ok (.istore_n 1, 1) := by decide +kernel
theorem dX9_next1_51 : decode cX9_next1 51 = .ok (.iload_n 1, 1) := by decide +kernel
theorem dX9_next1_52 : decode cX9_next1 52 = .ok (.ifCond .ge 11, 3) := by decide +kernel
theorem dX9_next1_55 : decode cX9_next1 55 = .ok (.aload_n 0, 1) := by decide +kernel
theorem dX9_next1_56 : decode cX9_next1 56 = .ok (.iconst 0, 1) := by decide +kernel
theorem dX9_next1_57 : decode cX9_next1 57 = .ok (.putfield 99, 3) := by decide +kernel
theorem dX9_next1_60 : decode cX9_next1 60 = .ok (.goto 214, 3) := by decide +kernel
theorem dX9_next1_63 : decode cX9_next1 63 = .ok (.iload_n 1, 1) := by decide +kernel
theorem dX9_next1_64 : decode cX9_next1 64 = .ok (.i2l, 1) := by decide +kernel
theorem dX9_next1_65 : decode cX9_next1 65 = .ok (.ldc2_w 102, 3) := by decide +kernel
theorem dX9_next1_68 : decode cX9_next1 68 = .ok (.ldc2_w 104, 3) := by decide +kernel
theorem dX9_next1_71 : decode cX9_next1 71 = .ok (.invokestatic 71, 3) := by decide +kernel
theorem dX9_next1_74 : decode cX9_next1 74 = .ok (.ifCond .eq 42, 3) := by decide +kernel
theorem dX9_next1_77 : decode cX9_next1 77 = .ok (.aload_n 0, 1) := by decide +kernel
theorem dX9_next1_78 : decode cX9_next1 78 = .ok (.iconst 1, 1) := by decide +kernel
theorem dX9_next1_79 : decode cX9_next1 79 = .ok (.putfield 99, 3) := by decide +kernel
theorem dX9_next1_82 : decode cX9_next1 82 = .ok (.aload_n 0, 1) := by decide +kernel
theorem dX9_next1_83 : decode cX9_next1 83 = .ok (.aload_n 0, 1) := by decide +kernel
theorem dX9_next1_84 : decode cX9_next1 84 = .ok (.getfield 84, 3) := by decide +kernel
theorem dX9_next1_87 : decode cX9_next1 87 = .ok (.invokevirtual 87, 3) := by decide +kernel
theorem dX9_next1_90 : decode cX9_next1 90 = .ok (.i2l, 1) := by decide +kernel
theorem dX9_next1_91 : decode cX9_next1 91 = .ok (.ldc2_w 102, 3) := by decide +kernel
theorem dX9_next1_94 : decode cX9_next1 94 = .ok (.ldc2_w 104, 3) := by decide +kernel
theorem dX9_next1_97 : decode cX9_next1 97 = .ok (.invokestatic 71, 3) := by decide +kernel
theorem dX9_next1_100 : decode cX9_next1 100 = .ok (.ifCond .eq 174, 3) := by decide +kernel
theorem dX9_next1_103 : decode cX9_next1 103 = .ok (.aload_n 0, 1) := by decide +kernel
theorem dX9_next1_104 : decode cX9_next1 104 = .ok (.dup, 1) := by decide +kernel
theorem dX9_next1_105 : decode cX9_next1 105 = .ok (.getfield 84, 3) := by decide +kernel
theorem dX9_next1_108 : decode cX9_next1 108 = .ok (.iconst 1, 1) := by decide +kernel
theorem dX9_next1_109 : decode cX9_next1 109 = .ok (.iadd, 1) := by decide +kernel
theorem dX9_next1_110 : decode cX9_next1 110 = .ok (.putfield 84, 3) := by decide +kernel
theorem dX9_next1_113 : decode cX9_next1 113 = .ok (.goto (-31), 3) := by decide +kernel
theorem dX9_next1_116 : decode cX9_next1 116 = .ok (.iload_n 1, 1) := by decide +kernel
theorem dX9_next1_117 : decode cX9_next1 117 = .ok (.i2l, 1) := by decide +kernel
theorem dX9_next1_118 : decode cX9_next1 118 = .ok (.ldc2_w 106, 3) := by decide +kernel
theorem dX9_next1_121 : decode cX9_next1 121 = .ok (.ldc2_w 108, 3) := by decide +kernel
theorem dX9_next1_124 : decode cX9_next1 124 = .ok (.invokestatic 71, 3) := by decide +kernel
theorem dX9_next1_127 : decode cX9_next1 127 = .ok (.ifCond .eq 116, 3) := by decide +kernel
theorem dX9_next1_130 : decode cX9_next1 130 = .ok (.aload_n 0, 1) := by decide +kernel
theorem dX9_next1_131 : decode cX9_next1 131 = .ok (.iconst 2, 1) := by decide +kernel
theorem dX9_next1_132 : decode cX9_next1 132 = .ok (.putfield 99, 3) := by decide +kernel
theorem dX9_next1_135 : decode cX9_next1 135 = .ok (.aload_n 0, 1) := by decide +kernel
theorem dX9_next1_136 : decode cX9_next1 136 = .ok (.iconst 0, 1) := by decide +kernel
theorem dX9_next1_137 : decode cX9_next1 137 = .ok (.putfield 110, 3) := by decide +kernel
theorem dX9_next1_140 : decode cX9_next1 140 = .ok (.aload_n 0, 1) := by decide +kernel
theorem dX9_next1_141 : decode cX9_next1 141 = .ok (.aload_n 0, 1) := by decide +kernel
theorem dX9_next1_142 : decode cX9_next1 142 = .ok (.getfield 84, 3) := by decide +kernel
theorem dX9_next1_145 : decode cX9_next1 145 = .ok (.invokevirtual 87, 3) := by decide +kernel
theorem dX9_next1_148 : decode cX9_next1 148 = .ok (.i2l, 1) := by decide +kernel
theorem dX9_next1_149 : decode cX9_next1 149 = .ok (.ldc2_w 106, 3) := by decide +kernel
theorem dX9_next1_152 : decode cX9_next1 152 = .ok (.ldc2_w 108, 3) := by decide +kernel
theorem dX9_next1_155 : decode cX9_next1 155 = .ok (.invokestatic 71, 3) := by decide +kernel
theorem dX9_next1_158 : decode cX9_next1 158 = .ok (.ifCond .eq 59, 3) := by decide +kernel
theorem dX9_next1_161 : decode cX9_next1 161 = .ok (.aload_n 0, 1) := by decide +kernel
theorem dX9_next1_162 : decode cX9_next1 162 = .ok (.aload_n 0, 1) := by decide +kernel
theorem dX9_next1_163 : decode cX9_next1 163 = .ok (.getfield 84, 3) := by decide +kernel
theorem dX9_next1_166 : decode cX9_next1 166 = .ok (.aload_n 0, 1) := by decide +kernel
theorem dX9_next1_167 : decode cX9_next1 167 = .ok (.getfield 78, 3) := by decide +kernel
theorem dX9_next1_170 : decode cX9_next1 170 = .ok (.isub, 1) := by decide +kernel
theorem dX9_next1_171 : decode cX9_next1 171 = .ok (.iconst 3, 1) := by decide +kernel
theorem dX9_next1_172 : decode cX9_next1 172 = .ok (.if_icmp .ge 25, 3) := by decide +kernel
theorem dX9_next1_175 : decode cX9_next1 175 = .ok (.bipush 10, 2) := by decide +kernel
theorem dX9_next1_177 : decode cX9_next1 177 = .ok (.aload_n 0, 1) := by decide +kernel
theorem dX9_next1_178 : decode cX9_next1 178 = .ok (.getfield 110, 3) := by decide +kernel
theorem dX9_next1_181 : decode cX9_next1 181 = .ok (.imul, 1) := by decide +kernel
theorem dX9_next1_182 : decode cX9_next1 182 = .ok (.aload_n 0, 1) := by decide +kernel
theorem dX9_next1_183 : decode cX9_next1 183 = .ok (.aload_n 0, 1) := by decide +kernel
theorem dX9_next1_184 : decode cX9_next1 184 = .ok (.getfield 84, 3) := by decide +kernel
theorem dX9_next1_187 : decode cX9_next1 187 = .ok (.invokevirtual 87, 3) := by decide +kernel
theorem dX9_next1_190 : decode cX9_next1 190 = .ok (.iadd, 1) := by decide +kernel
theorem dX9_next1_191 : decode cX9_next1 191 = .ok (.bipush 48, 2) := by decide +kernel
theorem dX9_next1_193 : decode cX9_next1 193 = .ok (.isub, 1) := by decide +kernel
theorem dX9_next1_194 : decode cX9_next1 194 = .ok (.goto 7, 3) := by decide +kernel
theorem dX9_next1_197 : decode cX9_next1 197 = .ok (.aload_n 0, 1) := by decide +kernel
theorem dX9_next1_198 : decode cX9_next1 198 = .ok (.getfield 110, 3) := by decide +kernel
theorem dX9_next1_201 : decode cX9_next1 201 = .ok (.putfield 110, 3) := by decide +kernel
theorem dX9_next1_204 : decode cX9_next1 204 = .ok (.aload_n 0, 1) := by decide +kernel
theorem dX9_next1_205 : decode cX9_next1 205 = .ok (.dup, 1) := by decide +kernel
theorem dX9_next1_206 : decode cX9_next1 206 = .ok (.getfield 84, 3) := by decide +kernel
theorem dX9_next1_209 : decode cX9_next1 209 = .ok (.iconst 1, 1) := by decide +kernel
theorem dX9_next1_210 : decode cX9_next1 210 = .ok (.iadd, 1) := by decide +kernel
theorem dX9_next1_211 : decode cX9_next1 211 = .ok (.putfield 84, 3) := by decide +kernel
theorem dX9_next1_214 : decode cX9_next1 214 = .ok (.goto (-74), 3) := by decide +kernel
theorem dX9_next1_217 : decode cX9_next1 217 = .ok (.aload_n 0, 1) := by decide +kernel
theorem dX9_next1_218 : decode cX9_next1 218 = .ok (.aload_n 0, 1) := by decide +kernel
theorem dX9_next1_219 : decode cX9_next1 219 = .ok (.getfield 84, 3) := by decide +kernel
theorem dX9_next1_222 : decode cX9_next1 222 = .ok (.aload_n 0, 1) := by decide +kernel
theorem dX9_next1_223 : decode cX9_next1 223 = .ok (.getfield 78, 3) := by decide +kernel
theorem dX9_next1_226 : decode cX9_next1 226 = .ok (.isub, 1) := by decide +kernel
theorem dX9_next1_227 : decode cX9_next1 227 = .ok (.iconst 3, 1) := by decide +kernel
theorem dX9_next1_228 : decode cX9_next1 228 = .ok (.if_icmp .gt 7, 3) := by decide +kernel
theorem dX9_next1_231 : decode cX9_next1 231 = .ok (.iconst 1, 1) := by decide +kernel
theorem dX9_next1_232 : decode cX9_next1 232 = .ok (.goto 4, 3) := by decide +kernel
theorem dX9_next1_235 : decode cX9_next1 235 = .ok (.iconst 0, 1) := by decide +kernel
theorem dX9_next1_236 : decode cX9_next1 236 = .ok (.iconst 1, 1) := by decide +kernel
theorem dX9_next1_237 : decode cX9_next1 237 = .ok (.invokevirtual 113, 3) := by decide +kernel
theorem dX9_next1_240 : decode cX9_next1 240 = .ok (.goto 34, 3) := by decide +kernel
theorem dX9_next1_243 : decode cX9_next1 243 = .ok (.aload_n 0, 1) := by decide +kernel
theorem dX9_next1_244 : decode cX9_next1 244 = .ok (.iconst 3, 1) := by decide +kernel
theorem dX9_next1_245 : decode cX9_next1 245 = .ok (.putfield 99, 3) := by decide +kernel
theorem dX9_next1_248 : decode cX9_next1 248 = .ok (.aload_n 0, 1) := by decide +kernel
theorem dX9_next1_249 : decode cX9_next1 249 = .ok (.iload_n 1, 1) := by decide +kernel
theorem dX9_next1_250 : decode cX9_next1 250 = .ok (.bipush 59, 2) := by decide +kernel
theorem dX9_next1_252 : decode cX9_next1 252 = .ok (.if_icmp .ne 7, 3) := by decide +kernel
theorem dX9_next1_255 : decode cX9_next1 255 = .ok (.iconst 1, 1) := by decide +kernel
theorem dX9_next1_256 : decode cX9_next1 256 = .ok (.goto 4, 3) := by decide +kernel
theorem dX9_next1_259 : decode cX9_next1 259 = .ok (.iconst 0, 1) := by decide +kernel
theorem dX9_next1_260 : decode cX9_next1 260 = .ok (.iconst 1, 1) := by decide +kernel
theorem dX9_next1_261 : decode cX9_next1 261 = .ok (.invokevirtual 113, 3) := by decide +kernel
theorem dX9_next1_264 : decode cX9_next1 264 = .ok (.aload_n 0, 1) := by decide +kernel
theorem dX9_next1_265 : decode cX9_next1 265 = .ok (.dup, 1) := by decide +kernel
theorem dX9_next1_266 : decode cX9_next1 266 = .ok (.getfield 84, 3) := by decide +kernel
theorem dX9_next1_269 : decode cX9_next1 269 = .ok (.iconst 1, 1) := by decide +kernel
theorem dX9_next1_270 : decode cX9_next1 270 = .ok (.iadd, 1) := by decide +kernel
theorem dX9_next1_271 : decode cX9_next1 271 = .ok (.putfield 84, 3) := by decide +kernel
theorem dX9_next1_274 : decode cX9_next1 274 = .ok (.return_, 1) := by decide +kernel
theorem dX9_looked_0 : decode cX9_looked 0 = .ok (.aload_n 0, 1) := by decide +kernel
theorem dX9_looked_1 : decode cX9_looked 1 = .ok (.getfield 75, 3) := by decide +kernel
theorem dX9_looked_4 : decode cX9_looked 4 = .ok (.ifCond .ne 21, 3) := by decide +kernel
theorem dX9_looked_7 : decode cX9_looked 7 = .ok (.aload_n 0, 1) := by decide +kernel
theorem dX9_looked_8 : decode cX9_looked 8 = .ok (.aload_n 0, 1) := by decide +kernel
theorem dX9_looked_9 : decode cX9_looked 9 = .ok (.getfield 99, 3) := by decide +kernel
theorem dX9_looked_12 : decode cX9_looked 12 = .ok (.iconst 2, 1) := by decide +kernel
theorem dX9_looked_13 : decode cX9_looked 13 = .ok (.if_icmp .ne 7, 3) := by decide +kernel
theorem dX9_looked_16 : decode cX9_looked 16 = .ok (.iconst 1, 1) := by decide +kernel
theorem dX9_looked_17 : decode cX9_looked 17 = .ok (.goto 4, 3) := by decide +kernel
theorem dX9_looked_20 : decode cX9_looked 20 = .ok (.iconst 0, 1) := by decide +kernel
theorem dX9_looked_21 : decode cX9_looked 21 = .ok (.iconst 2, 1) := by decide +kernel
theorem dX9_looked_22 : decode cX9_looked 22 = .ok (.invokevirtual 113, 3) := by decide +kernel
theorem dX9_looked_25 : decode cX9_looked 25 = .ok (.aload_n 0, 1) := by decide +kernel
theorem dX9_looked_26 : decode cX9_looked 26 = .ok (.getfield 75, 3) := by decide +kernel
theorem dX9_looked_29 : decode cX9_looked 29 = .ok (.ifCond .ne 20, 3) := by decide +kernel
theorem dX9_looked_32 : decode cX9_looked 32 = .ok (.aload_n 0, 1) := by decide +kernel
theorem dX9_looked_33 : decode cX9_looked 33 = .ok (.aload_n 0, 1) := by decide +kernel
theorem dX9_looked_34 : decode cX9_looked 34 = .ok (.getfield 110, 3) := by decide +kernel
theorem dX9_looked_37 : decode cX9_looked 37 = .ok (.i2l, 1) := by decide +kernel
theorem dX9_looked_38 : decode cX9_looked 38 = .ok (.iload_n 1, 1) := by decide +kernel
theorem dX9_looked_39 : decode cX9_looked 39 = .ok (.i2l, 1) := by decide +kernel
theorem dX9_looked_40 : decode cX9_looked 40 = .ok (.iload_n 2, 1) := by decide +kernel
theorem dX9_looked_41 : decode cX9_looked 41 = .ok (.i2l, 1) := by decide +kernel
theorem dX9_looked_42 : decode cX9_looked 42 = .ok (.invokestatic 71, 3) := by decide +kernel
theorem dX9_looked_45 : decode cX9_looked 45 = .ok (.iconst 3, 1) := by decide +kernel
theorem dX9_looked_46 : decode cX9_looked 46 = .ok (.invokevirtual 113, 3) := by decide +kernel
theorem dX9_looked_49 : decode cX9_looked 49 = .ok (.aload_n 0, 1) := by decide +kernel
theorem dX9_looked_50 : decode cX9_looked 50 = .ok (.getfield 75, 3) := by decide +kernel
theorem dX9_looked_53 : decode cX9_looked 53 = .ok (.ifCond .ne 10, 3) := by decide +kernel
theorem dX9_looked_56 : decode cX9_looked 56 = .ok (.aload_n 0, 1) := by decide +kernel
theorem dX9_looked_57 : decode cX9_looked 57 = .ok (.getfield 110, 3) := by decide +kernel
theorem dX9_looked_60 : decode cX9_looked 60 = .ok (.goto 4, 3) := by decide +kernel
theorem dX9_looked_63 : decode cX9_looked 63 = .ok (.iconst 0, 1) := by decide +kernel
theorem dX9_looked_64 : decode cX9_looked 64 = .ok (.ireturn, 1) := by decide +kernel
theorem dX9_readNumber_0 : decode cX9_readNumber 0 = .ok (.aload_n 0, 1) := by decide +kernel
theorem dX9_readNumber_1 : decode cX9_readNumber 1 = .ok (.iload_n 1, 1) := by decide +kernel
theorem dX9_readNumber_2 : decode cX9_readNumber 2 = .ok (.iload_n 2, 1) := by decide +kernel
theorem dX9_readNumber_3 : decode cX9_readNumber 3 = .ok (.invokevirtual 117, 3) := by decide +kernel
theorem dX9_readNumber_6 : decode cX9_readNumber 6 = .ok (.istore_n 3, 1) := by decide +kernel
theorem dX9_readNumber_7 : decode cX9_readNumber 7 = .ok (.aload_n 0, 1) := by decide +kernel
theorem dX9_readNumber_8 : decode cX9_readNumber 8 = .ok (.invokevirtual 121, 3) := by decide +kernel
theorem dX9_readNumber_11 : decode cX9_readNumber 11 = .ok (.iload_n 3, 1) := by decide +kernel
theorem dX9_readNumber_12 : decode cX9_readNumber 12 = .ok (.ireturn, 1) := by decide +kernel
theorem dX9_readFigure_0 : decode cX9_readFigure 0 = .ok (.iconst 1, 1) := by decide +kernel
theorem dX9_readFigure_1 : decode cX9_readFigure 1 = .ok (.bipush 6, 2) := by decide +kernel
theorem dX9_readFigure_3 : decode cX9_readFigure 3 = .ok (.aload_n 0, 1) := by decide +kernel
theorem dX9_readFigure_4 : decode cX9_readFigure 4 = .ok (.getfield 17, 3) := by decide +kernel
theorem dX9_readFigure_7 : decode cX9_readFigure 7 = .ok (.iconst 0, 1) := by decide +kernel
theorem dX9_readFigure_8 : decode cX9_readFigure 8 = .ok (.iaload, 1) := by decide +kernel
theorem dX9_readFigure_9 : decode cX9_readFigure 9 = .ok (.imul, 1) := by decide +kernel
theorem dX9_readFigure_10 : decode cX9_readFigure 10 = .ok (.iadd, 1) := by decide +kernel
theorem dX9_readFigure_11 : decode cX9_readFigure 11 = .ok (.istore_n 1, 1) := by decide +kernel
theorem dX9_readFigure_12 : decode cX9_readFigure 12 = .ok (.aload_n 0, 1) := by decide +kernel
theorem dX9_readFigure_13 : decode cX9_readFigure 13 = .ok (.getfield 75, 3) := by decide +kernel
theorem dX9_readFigure_16 : decode cX9_readFigure 16 = .ok (.ifCond .ne 18, 3) := by decide +kernel
theorem dX9_readFigure_19 : decode cX9_readFigure 19 = .ok (.aload_n 0, 1) := by decide +kernel
theorem dX9_readFigure_20 : decode cX9_readFigure 20 = .ok (.getfield 99, 3) := by decide +kernel
theorem dX9_readFigure_23 : decode cX9_readFigure 23 = .ok (.iconst 1, 1) := by decide +kernel
theorem dX9_readFigure_24 : decode cX9_readFigure 24 = .ok (.if_icmp .ne 10, 3) := by decide +kernel
theorem dX9_readFigure_27 : decode cX9_readFigure 27 = .ok (.aload_n 0, 1) := by decide +kernel
theorem dX9_readFigure_28 : decode cX9_readFigure 28 = .ok (.invokevirtual 124, 3) := by decide +kernel
theorem dX9_readFigure_31 : decode cX9_readFigure 31 = .ok (.goto 5, 3) := by decide +kernel
theorem dX9_readFigure_34 : decode cX9_readFigure 34 = .ok (.bipush (-4), 2) := by decide +kernel
theorem dX9_readFigure_36 : decode cX9_readFigure 36 = .ok (.istore_n 2, 1) := by decide +kernel
theorem dX9_readFigure_37 : decode cX9_readFigure 37 = .ok (.aload_n 0, 1) := by decide +kernel
theorem dX9_readFigure_38 : decode cX9_readFigure 38 = .ok (.iload_n 2, 1) := by decide +kernel
theorem dX9_readFigure_39 : decode cX9_readFigure 39 = .ok (.bipush (-4), 2) := by decide +kernel
theorem dX9_readFigure_41 : decode cX9_readFigure 41 = .ok (.if_icmp .eq 7, 3) := by decide +kernel
theorem dX9_readFigure_44 : decode cX9_readFigure 44 = .ok (.iconst 1, 1) := by decide +kernel
theorem dX9_readFigure_45 : decode cX9_readFigure 45 = .ok (.goto 4, 3) := by decide +kernel
theorem dX9_readFigure_48 : decode cX9_readFigure 48 = .ok (.iconst 0, 1) := by decide +kernel
theorem dX9_readFigure_49 : decode cX9_readFigure 49 = .ok (.iconst 2, 1) := by decide +kernel
theorem dX9_readFigure_50 : decode cX9_readFigure 50 = .ok (.invokevirtual 113, 3) := by decide +kernel
theorem dX9_readFigure_53 : decode cX9_readFigure 53 = .ok (.aload_n 0, 1) := by decide +kernel
theorem dX9_readFigure_54 : decode cX9_readFigure 54 = .ok (.invokevirtual 121, 3) := by decide +kernel
theorem dX9_readFigure_57 : decode cX9_readFigure 57 = .ok (.aload_n 0, 1) := by decide +kernel
theorem dX9_readFigure_58 : decode cX9_readFigure 58 = .ok (.getfield 75, 3) := by decide +kernel
theorem dX9_readFigure_61 : decode cX9_readFigure 61 = .ok (.ifCond .ne 19, 3) := by decide +kernel
theorem dX9_readFigure_64 : decode cX9_readFigure 64 = .ok (.iload_n 2, 1) := by decide +kernel
theorem dX9_readFigure_65 : decode cX9_readFigure 65 = .ok (.iconst 2, 1) := by decide +kernel
theorem dX9_readFigure_66 : decode cX9_readFigure 66 = .ok (.irem, 1) := by decide +kernel
theorem dX9_readFigure_67 : decode cX9_readFigure 67 = .ok (.iconst 1, 1) := by decide +kernel
theorem dX9_readFigure_68 : decode cX9_readFigure 68 = .ok (.if_icmp .ne 12, 3) := by decide +kernel
theorem dX9_readFigure_71 : decode cX9_readFigure 71 = .ok (.aload_n 0, 1) := by decide +kernel
theorem dX9_readFigure_72 : decode cX9_readFigure 72 = .ok (.iconst 1, 1) := by decide +kernel
theorem dX9_readFigure_73 : decode cX9_readFigure 73 = .ok (.iconst 3, 1) := by decide +kernel
theorem dX9_readFigure_74 : decode cX9_readFigure 74 = .ok (.invokevirtual 128, 3) := by decide +kernel
theorem dX9_readFigure_77 : decode cX9_readFigure 77 = .ok (.goto 5, 3) := by decide +kernel
theorem dX9_readFigure_80 : decode cX9_readFigure 80 = .ok (.bipush (-4), 2) := by decide +kernel
theorem dX9_readFigure_82 : decode cX9_readFigure 82 = .ok (.istore_n 3, 1) := by decide +kernel
theorem dX9_readFigure_83 : decode cX9_readFigure 83 = .ok (.aload_n 0, 1) := by decide +kernel
theorem dX9_readFigure_84 : decode cX9_readFigure 84 = .ok (.getfield 75, 3) := by decide +kernel
theorem dX9_readFigure_87 : decode cX9_readFigure 87 = .ok (.ifCond .ne 18, 3) := by decide +kernel
theorem dX9_readFigure_90 : decode cX9_readFigure 90 = .ok (.iload_n 2, 1) := by decide +kernel
theorem dX9_readFigure_91 : decode cX9_readFigure 91 = .ok (.iconst 1, 1) := by decide +kernel
theorem dX9_readFigure_92 : decode cX9_readFigure 92 = .ok (.if_icmp .le 13, 3) := by decide +kernel
theorem dX9_readFigure_95 : decode cX9_readFigure 95 = .ok (.aload_n 0, 1) := by decide +kernel
theorem dX9_readFigure_96 : decode cX9_readFigure 96 = .ok (.iconst 1, 1) := by decide +kernel
theorem dX9_readFigure_97 : decode cX9_readFigure 97 = .ok (.bipush 59, 2) := by decide +kernel
theorem dX9_readFigure_99 : decode cX9_readFigure 99 = .ok (.invokevirtual 128, 3) := by decide +kernel
theorem dX9_readFigure_102 : decode cX9_readFigure 102 = .ok (.goto 5, 3) := by decide +kernel
theorem dX9_readFigure_105 : decode cX9_readFigure 105 = .ok (.bipush (-4), 2) := by decide +kernel
theorem dX9_readFigure_107 : decode cX9_readFigure 107 = .ok (.istore 4, 2) := by decide +kernel
theorem dX9_readFigure_109 : decode cX9_readFigure 109 = .ok (.aload_n 0, 1) := by decide +kernel
theorem dX9_readFigure_110 : decode cX9_readFigure 110 = .ok (.iconst 2, 1) := by decide +kernel
theorem dX9_readFigure_111 : decode cX9_readFigure 111 = .ok (.bipush 60, 2) := by decide +kernel
theorem dX9_readFigure_113 : decode cX9_readFigure 113 = .ok (.invokevirtual 117, 3) := by decide +kernel
theorem dX9_readFigure_116 : decode cX9_readFigure 116 = .ok (.istore 5, 2) := by decide +kernel
theorem dX9_readFigure_118 : decode cX9_readFigure 118 = .ok (.aload_n 0, 1) := by decide +kernel
theorem dX9_readFigure_119 : decode cX9_readFigure 119 = .ok (.getfield 75, 3) := by decide +kernel
theorem dX9_readFigure_122 : decode cX9_readFigure 122 = .ok (.ifCond .ne 20, 3) := by decide +kernel
theorem dX9_readFigure_125 : decode cX9_readFigure 125 = .ok (.aload_n 0, 1) := by decide +kernel
theorem dX9_readFigure_126 : decode cX9_readFigure 126 = .ok (.iload 5, 2) := by decide +kernel
theorem dX9_readFigure_128 : decode cX9_readFigure 128 = .ok (.iload 4, 2) := by decide +kernel
theorem dX9_readFigure_130 : decode cX9_readFigure 130 = .ok (.if_icmp .le 7, 3) := by decide +kernel
theorem dX9_readFigure_133 : decode cX9_readFigure 133 = .ok (.iconst 1, 1) := by decide +kernel
theorem dX9_readFigure_134 : decode cX9_readFigure 134 = .ok (.goto 4, 3) := by decide +kernel
theorem dX9_readFigure_137 : decode cX9_readFigure 137 = .ok (.iconst 0, 1) := by decide +kernel
theorem dX9_readFigure_138 : decode cX9_readFigure 138 = .ok (.iconst 4, 1) := by decide +kernel
theorem dX9_readFigure_139 : decode cX9_readFigure 139 = .ok (.invokevirtual 113, 3) := by decide +kernel
theorem dX9_readFigure_142 : decode cX9_readFigure 142 = .ok (.aload_n 0, 1) := by decide +kernel
theorem dX9_readFigure_143 : decode cX9_readFigure 143 = .ok (.invokevirtual 121, 3) := by decide +kernel
theorem dX9_readFigure_146 : decode cX9_readFigure 146 = .ok (.aload_n 0, 1) := by decide +kernel
theorem dX9_readFigure_147 : decode cX9_readFigure 147 = .ok (.iconst 0, 1) := by decide +kernel
theorem dX9_readFigure_148 : decode cX9_readFigure 148 = .ok (.bipush 59, 2) := by decide +kernel
theorem dX9_readFigure_150 : decode cX9_readFigure 150 = .ok (.invokevirtual 117, 3) := by decide +kernel
theorem dX9_readFigure_153 : decode cX9_readFigure 153 = .ok (.istore 6, 2) := by decide +kernel
theorem dX9_readFigure_155 : decode cX9_readFigure 155 = .ok (.aload_n 0, 1) := by decide +kernel
theorem dX9_readFigure_156 : decode cX9_readFigure 156 = .ok (.getfield 75, 3) := by decide +kernel
theorem dX9_readFigure_159 : decode cX9_readFigure 159 = .ok (.ifCond .ne 20, 3) := by decide +kernel
theorem dX9_readFigure_162 : decode cX9_readFigure 162 = .ok (.aload_n 0, 1) := by decide +kernel
theorem dX9_readFigure_163 : decode cX9_readFigure 163 = .ok (.iload 6, 2) := by decide +kernel
theorem dX9_readFigure_165 : decode cX9_readFigure 165 = .ok (.iload 5, 2) := by decide +kernel
theorem dX9_readFigure_167 : decode cX9_readFigure 167 = .ok (.if_icmp .ge 7, 3) := by decide +kernel
theorem dX9_readFigure_170 : decode cX9_readFigure 170 = .ok (.iconst 1, 1) := by decide +kernel
theorem dX9_readFigure_171 : decode cX9_readFigure 171 = .ok (.goto 4, 3) := by decide +kernel
theorem dX9_readFigure_174 : decode cX9_readFigure 174 = .ok (.iconst 0, 1) := by decide +kernel
theorem dX9_readFigure_175 : decode cX9_readFigure 175 = .ok (.iconst 4, 1) := by decide +kernel
theorem dX9_readFigure_176 : decode cX9_readFigure 176 = .ok (.invokevirtual 113, 3) := by decide +kernel
theorem dX9_readFigure_179 : decode cX9_readFigure 179 = .ok (.aload_n 0, 1) := by decide +kernel
theorem dX9_readFigure_180 : decode cX9_readFigure 180 = .ok (.invokevirtual 121, 3) := by decide +kernel
theorem dX9_readFigure_183 : decode cX9_readFigure 183 = .ok (.aload_n 0, 1) := by decide +kernel
theorem dX9_readFigure_184 : decode cX9_readFigure 184 = .ok (.iconst 0, 1) := by decide +kernel
theorem dX9_readFigure_185 : decode cX9_readFigure 185 = .ok (.bipush 8, 2) := by decide +kernel
theorem dX9_readFigure_187 : decode cX9_readFigure 187 = .ok (.invokevirtual 128, 3) := by decide +kernel
theorem dX9_readFigure_190 : decode cX9_readFigure 190 = .ok (.istore 7, 2) := by decide +kernel
theorem dX9_readFigure_192 : decode cX9_readFigure 192 = .ok (.aload_n 0, 1) := by decide +kernel
theorem dX9_readFigure_193 : decode cX9_readFigure 193 = .ok (.getfield 17, 3) := by decide +kernel
theorem dX9_readFigure_196 : decode cX9_readFigure 196 = .ok (.iload_n 1, 1) := by decide +kernel
theorem dX9_readFigure_197 : decode cX9_readFigure 197 = .ok (.iconst 0, 1) := by decide +kernel
theorem dX9_readFigure_198 : decode cX9_readFigure 198 = .ok (.iadd, 1) := by decide +kernel
theorem dX9_readFigure_199 : decode cX9_readFigure 199 = .ok (.iload_n 2, 1) := by decide +kernel
theorem dX9_readFigure_200 : decode cX9_readFigure 200 = .ok (.iastore, 1) := by decide +kernel
theorem dX9_readFigure_201 : decode cX9_readFigure 201 = .ok (.aload_n 0, 1) := by decide +kernel
theorem dX9_readFigure_202 : decode cX9_readFigure 202 = .ok (.getfield 17, 3) := by decide +kernel
theorem dX9_readFigure_205 : decode cX9_readFigure 205 = .ok (.iload_n 1, 1) := by decide +kernel
theorem dX9_readFigure_206 : decode cX9_readFigure 206 = .ok (.iconst 1, 1) := by decide +kernel
theorem dX9_readFigure_207 : decode cX9_readFigure 207 = .ok (.iadd, 1) := by decide +kernel
theorem dX9_readFigure_208 : decode cX9_readFigure 208 = .ok (.iload 5, 2) := by decide +kernel
theorem dX9_readFigure_210 : decode cX9_readFigure 210 = .ok (.iastore, 1) := by decide +kernel
theorem dX9_readFigure_211 : decode cX9_readFigure 211 = .ok (.aload_n 0, 1) := by decide +kernel
theorem dX9_readFigure_212 : decode cX9_readFigure 212 = .ok (.getfield 17, 3) := by decide +kernel
theorem dX9_readFigure_215 : decode cX9_readFigure 215 = .ok (.iload_n 1, 1) := by decide +kernel
theorem dX9_readFigure_216 : decode cX9_readFigure 216 = .ok (.iconst 2, 1) := by decide +kernel
theorem dX9_readFigure_217 : decode cX9_readFigure 217 = .ok (.iadd, 1) := by decide +kernel
theorem dX9_readFigure_218 : decode cX9_readFigure 218 = .ok (.iload 6, 2) := by decide +kernel
theorem dX9_readFigure_220 : decode cX9_readFigure 220 = .ok (.iastore, 1) := by decide +kernel
theorem dX9_readFigure_221 : decode cX9_readFigure 221 = .ok (.aload_n 0, 1) := by decide +kernel
theorem dX9_readFigure_222 : decode cX9_readFigure 222 = .ok (.getfield 17, 3) := by decide +kernel
theorem dX9_readFigure_225 : decode cX9_readFigure 225 = .ok (.iload_n 1, 1) := by decide +kernel
theorem dX9_readFigure_226 : decode cX9_readFigure 226 = .ok (.iconst 3, 1) := by decide +kernel
theorem dX9_readFigure_227 : decode cX9_readFigure 227 = .ok (.iadd, 1) := by decide +kernel
theorem dX9_readFigure_228 : decode cX9_readFigure 228 = .ok (.iload 7, 2) := by decide +kernel
theorem dX9_readFigure_230 : decode cX9_readFigure 230 = .ok (.iastore, 1) := by decide +kernel
theorem dX9_readFigure_231 : decode cX9_readFigure 231 = .ok (.aload_n 0, 1) := by decide +kernel
theorem dX9_readFigure_232 : decode cX9_readFigure 232 = .ok (.getfield 17, 3) := by decide +kernel
theorem dX9_readFigure_235 : decode cX9_readFigure 235 = .ok (.iload_n 1, 1) := by decide +kernel
theorem dX9_readFigure_236 : decode cX9_readFigure 236 = .ok (.iconst 4, 1) := by decide +kernel
theorem dX9_readFigure_237 : decode cX9_readFigure 237 = .ok (.iadd, 1) := by decide +kernel
theorem dX9_readFigure_238 : decode cX9_readFigure 238 = .ok (.iload_n 3, 1) := by decide +kernel
theorem dX9_readFigure_239 : decode cX9_readFigure 239 = .ok (.iastore, 1) := by decide +kernel
theorem dX9_readFigure_240 : decode cX9_readFigure 240 = .ok (.aload_n 0, 1) := by decide +kernel
theorem dX9_readFigure_241 : decode cX9_readFigure 241 = .ok (.getfield 17, 3) := by decide +kernel
theorem dX9_readFigure_244 : decode cX9_readFigure 244 = .ok (.iload_n 1, 1) := by decide +kernel
theorem dX9_readFigure_245 : decode cX9_readFigure 245 = .ok (.iconst 5, 1) := by decide +kernel
theorem dX9_readFigure_246 : decode cX9_readFigure 246 = .ok (.iadd, 1) := by decide +kernel
theorem dX9_readFigure_247 : decode cX9_readFigure 247 = .ok (.iload 4, 2) := by decide +kernel
theorem dX9_readFigure_249 : decode cX9_readFigure 249 = .ok (.iastore, 1) := by decide +kernel
theorem dX9_readFigure_250 : decode cX9_readFigure 250 = .ok (.aload_n 0, 1) := by decide +kernel
theorem dX9_readFigure_251 : decode cX9_readFigure 251 = .ok (.getfield 17, 3) := by decide +kernel
theorem dX9_readFigure_254 : decode cX9_readFigure 254 = .ok (.iconst 0, 1) := by decide +kernel
theorem dX9_readFigure_255 : decode cX9_readFigure 255 = .ok (.dup2, 1) := by decide +kernel
theorem dX9_readFigure_256 : decode cX9_readFigure 256 = .ok (.iaload, 1) := by decide +kernel
theorem dX9_readFigure_257 : decode cX9_readFigure 257 = .ok (.iconst 1, 1) := by decide +kernel
theorem dX9_readFigure_258 : decode cX9_readFigure 258 = .ok (.iadd, 1) := by decide +kernel
theorem dX9_readFigure_259 : decode cX9_readFigure 259 = .ok (.iastore, 1) := by decide +kernel
theorem dX9_readFigure_260 : decode cX9_readFigure 260 = .ok (.return_, 1) := by decide +kernel
theorem dX9_readVote_0 : decode cX9_readVote 0 = .ok (.aload_n 0, 1) := by decide +kernel
theorem dX9_readVote_1 : decode cX9_readVote 1 = .ok (.getfield 17, 3) := by decide +kernel
theorem dX9_readVote_4 : decode cX9_readVote 4 = .ok (.bipush 37, 2) := by decide +kernel
theorem dX9_readVote_6 : decode cX9_readVote 6 = .ok (.iaload, 1) := by decide +kernel
theorem dX9_readVote_7 : decode cX9_readVote 7 = .ok (.istore_n 1, 1) := by decide +kernel
theorem dX9_readVote_8 : decode cX9_readVote 8 = .ok (.bipush 38, 2) := by decide +kernel
theorem dX9_readVote_10 : decode cX9_readVote 10 = .ok (.iconst 5, 1) := by decide +kernel
theorem dX9_readVote_11 : decode cX9_readVote 11 = .ok (.iload_n 1, 1) := by decide +kernel
theorem dX9_readVote_12 : decode cX9_readVote 12 = .ok (.imul, 1) := by decide +kernel
theorem dX9_readVote_13 : decode cX9_readVote 13 = .ok (.iadd, 1) := by decide +kernel
theorem dX9_readVote_14 : decode cX9_readVote 14 = .ok (.istore_n 2, 1) := by decide +kernel
theorem dX9_readVote_15 : decode cX9_readVote 15 = .ok (.aload_n 0, 1) := by decide +kernel
theorem dX9_readVote_16 : decode cX9_readVote 16 = .ok (.getfield 17, 3) := by decide +kernel
theorem dX9_readVote_19 : decode cX9_readVote 19 = .ok (.iload_n 2, 1) := by decide +kernel
theorem dX9_readVote_20 : decode cX9_readVote 20 = .ok (.aload_n 0, 1) := by decide +kernel
theorem dX9_readVote_21 : decode cX9_readVote 21 = .ok (.iload_n 1, 1) := by decide +kernel
theorem dX9_readVote_22 : decode cX9_readVote 22 = .ok (.ifCond .ne 7, 3) := by decide +kernel
theorem dX9_readVote_25 : decode cX9_readVote 25 = .ok (.iconst 0, 1) := by decide +kernel
theorem dX9_readVote_26 : decode cX9_readVote 26 = .ok (.goto 11, 3) := by decide +kernel
theorem dX9_readVote_29 : decode cX9_readVote 29 = .ok (.aload_n 0, 1) := by decide +kernel
theorem dX9_readVote_30 : decode cX9_readVote 30 = .ok (.getfield 17, 3) := by decide +kernel
theorem dX9_readVote_33 : decode cX9_readVote 33 = .ok (.iload_n 2, 1) := by decide +kernel
theorem dX9_readVote_34 : decode cX9_readVote 34 = .ok (.iconst 5, 1) := by decide +kernel
theorem dX9_readVote_35 : decode cX9_readVote 35 = .ok (.isub, 1) := by decide +kernel
theorem dX9_readVote_36 : decode cX9_readVote 36 = .ok (.iaload, 1) := by decide +kernel
theorem dX9_readVote_37 : decode cX9_readVote 37 = .ok (.bipush 99, 2) := by decide +kernel
theorem dX9_readVote_39 : decode cX9_readVote 39 = .ok (.invokevirtual 128, 3) := by decide +kernel
theorem dX9_readVote_42 : decode cX9_readVote 42 = .ok (.iastore, 1) := by decide +kernel
theorem dX9_readVote_43 : decode cX9_readVote 43 = .ok (.aload_n 0, 1) := by decide +kernel
theorem dX9_readVote_44 : decode cX9_readVote 44 = .ok (.getfield 17, 3) := by decide +kernel
theorem dX9_readVote_47 : decode cX9_readVote 47 = .ok (.iload_n 2, 1) := by decide +kernel
theorem dX9_readVote_48 : decode cX9_readVote 48 = .ok (.iconst 1, 1) := by decide +kernel
theorem dX9_readVote_49 : decode cX9_readVote 49 = .ok (.iadd, 1) := by decide +kernel
theorem dX9_readVote_50 : decode cX9_readVote 50 = .ok (.aload_n 0, 1) := by decide +kernel
theorem dX9_readVote_51 : decode cX9_readVote 51 = .ok (.iconst 0, 1) := by decide +kernel
theorem dX9_readVote_52 : decode cX9_readVote 52 = .ok (.iconst 5, 1) := by decide +kernel
theorem dX9_readVote_53 : decode cX9_readVote 53 = .ok (.invokevirtual 128, 3) := by decide +kernel
theorem dX9_readVote_56 : decode cX9_readVote 56 = .ok (.iastore, 1) := by decide +kernel
theorem dX9_readVote_57 : decode cX9_readVote 57 = .ok (.aload_n 0, 1) := by decide +kernel
theorem dX9_readVote_58 : decode cX9_readVote 58 = .ok (.aload_n 0, 1) := by decide +kernel
theorem dX9_readVote_59 : decode cX9_readVote 59 = .ok (.getfield 17, 3) := by decide +kernel
theorem dX9_readVote_62 : decode cX9_readVote 62 = .ok (.iload_n 2, 1) := by decide +kernel
theorem dX9_readVote_63 : decode cX9_readVote 63 = .ok (.iconst 1, 1) := by decide +kernel
theorem dX9_readVote_64 : decode cX9_readVote 64 = .ok (.iadd, 1) := by decide +kernel
theorem dX9_readVote_65 : decode cX9_readVote 65 = .ok (.iaload, 1) := by decide +kernel
theorem dX9_readVote_66 : decode cX9_readVote 66 = .ok (.aload_n 0, 1) := by decide +kernel
theorem dX9_readVote_67 : decode cX9_readVote 67 = .ok (.getfield 60, 3) := by decide +kernel
theorem dX9_readVote_70 : decode cX9_readVote 70 = .ok (.if_icmp .le 14, 3) := by decide +kernel
theorem dX9_readVote_73 : decode cX9_readVote 73 = .ok (.aload_n 0, 1) := by decide +kernel
theorem dX9_readVote_74 : decode cX9_readVote 74 = .ok (.getfield 17, 3) := by decide +kernel
theorem dX9_readVote_77 : decode cX9_readVote 77 = .ok (.iload_n 2, 1) := by decide +kernel
theorem dX9_readVote_78 : decode cX9_readVote 78 = .ok (.iconst 1, 1) := by decide +kernel
theorem dX9_readVote_79 : decode cX9_readVote 79 = .ok (.iadd, 1) := by decide +kernel
theorem dX9_readVote_80 : decode cX9_readVote 80 = .ok (.iaload, 1) := by decide +kernel
theorem dX9_readVote_81 : decode cX9_readVote 81 = .ok (.goto 7, 3) := by decide +kernel
theorem dX9_readVote_84 : decode cX9_readVote 84 = .ok (.aload_n 0, 1) := by decide +kernel
theorem dX9_readVote_85 : decode cX9_readVote 85 = .ok (.getfield 60, 3) := by decide +kernel
theorem dX9_readVote_88 : decode cX9_readVote 88 = .ok (.putfield 60, 3) := by decide +kernel
theorem dX9_readVote_91 : decode cX9_readVote 91 = .ok (.aload_n 0, 1) := by decide +kernel
theorem dX9_readVote_92 : decode cX9_readVote 92 = .ok (.getfield 17, 3) := by decide +kernel
theorem dX9_readVote_95 : decode cX9_readVote 95 = .ok (.iload_n 2, 1) := by decide +kernel
theorem dX9_readVote_96 : decode cX9_readVote 96 = .ok (.iconst 2, 1) := by decide +kernel
theorem dX9_readVote_97 : decode cX9_readVote 97 = .ok (.iadd, 1) := by decide +kernel
theorem dX9_readVote_98 : decode cX9_readVote 98 = .ok (.aload_n 0, 1) := by decide +kernel
theorem dX9_readVote_99 : decode cX9_readVote 99 = .ok (.iconst 2, 1) := by decide +kernel
theorem dX9_readVote_100 : decode cX9_readVote 100 = .ok (.bipush 60, 2) := by decide +kernel
theorem dX9_readVote_102 : decode cX9_readVote 102 = .ok (.invokevirtual 128, 3) := by decide +kernel
theorem dX9_readVote_105 : decode cX9_readVote 105 = .ok (.iastore, 1) := by decide +kernel
theorem dX9_readVote_106 : decode cX9_readVote 106 = .ok (.aload_n 0, 1) := by decide +kernel
theorem dX9_readVote_107 : decode cX9_readVote 107 = .ok (.getfield 17, 3) := by decide +kernel
theorem dX9_readVote_110 : decode cX9_readVote 110 = .ok (.iload_n 2, 1) := by decide +kernel
theorem dX9_readVote_111 : decode cX9_readVote 111 = .ok (.iconst 3, 1) := by decide +kernel
theorem dX9_readVote_112 : decode cX9_readVote 112 = .ok (.iadd, 1) := by decide +kernel
theorem dX9_readVote_113 : decode cX9_readVote 113 = .ok (.aload_n 0, 1) := by decide +kernel
theorem dX9_readVote_114 : decode cX9_readVote 114 = .ok (.iconst 0, 1) := by decide +kernel
theorem dX9_readVote_115 : decode cX9_readVote 115 = .ok (.aload_n 0, 1) := by decide +kernel
theorem dX9_readVote_116 : decode cX9_readVote 116 = .ok (.getfield 17, 3) := by decide +kernel
theorem dX9_readVote_119 : decode cX9_readVote 119 = .ok (.iload_n 2, 1) := by decide +kernel
theorem dX9_readVote_120 : decode cX9_readVote 120 = .ok (.iconst 2, 1) := by decide +kernel
theorem dX9_readVote_121 : decode cX9_readVote 121 = .ok (.iadd, 1) := by decide +kernel
theorem dX9_readVote_122 : decode cX9_readVote 122 = .ok (.iaload, 1) := by decide +kernel
theorem dX9_readVote_123 : decode cX9_readVote 123 = .ok (.iconst 1, 1) := by decide +kernel
theorem dX9_readVote_124 : decode cX9_readVote 124 = .ok (.isub, 1) := by decide +kernel
theorem dX9_readVote_125 : decode cX9_readVote 125 = .ok (.invokevirtual 128, 3) := by decide +kernel
theorem dX9_readVote_128 : decode cX9_readVote 128 = .ok (.iastore, 1) := by decide +kernel
theorem dX9_readVote_129 : decode cX9_readVote 129 = .ok (.aload_n 0, 1) := by decide +kernel
theorem dX9_readVote_130 : decode cX9_readVote 130 = .ok (.getfield 17, 3) := by decide +kernel
theorem dX9_readVote_133 : decode cX9_readVote 133 = .ok (.iload_n 2, 1) := by decide +kernel
theorem dX9_readVote_134 : decode cX9_readVote 134 = .ok (.iconst 4, 1) := by decide +kernel
theorem dX9_readVote_135 : decode cX9_readVote 135 = .ok (.iadd, 1) := by decide +kernel
theorem dX9_readVote_136 : decode cX9_readVote 136 = .ok (.aload_n 0, 1) := by decide +kernel
