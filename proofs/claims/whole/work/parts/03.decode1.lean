theorem d_X_init_0 : decode b_X_init 0 = .ok (.aload_n 0, 1) := by decide +kernel
theorem d_X_init_1 : decode b_X_init 1 = .ok (.invokespecial 1, 3) := by decide +kernel
theorem d_X_init_4 : decode b_X_init 4 = .ok (.aload_n 0, 1) := by decide +kernel
theorem d_X_init_5 : decode b_X_init 5 = .ok (.sipush 400, 3) := by decide +kernel
theorem d_X_init_8 : decode b_X_init 8 = .ok (.newarray .int, 2) := by decide +kernel
theorem d_X_init_10 : decode b_X_init 10 = .ok (.putfield 9, 3) := by decide +kernel
theorem d_X_init_13 : decode b_X_init 13 = .ok (.aload_n 0, 1) := by decide +kernel
theorem d_X_init_14 : decode b_X_init 14 = .ok (.iconst 0, 1) := by decide +kernel
theorem d_X_init_15 : decode b_X_init 15 = .ok (.putfield 13, 3) := by decide +kernel
theorem d_X_init_18 : decode b_X_init 18 = .ok (.aload_n 0, 1) := by decide +kernel
theorem d_X_init_19 : decode b_X_init 19 = .ok (.sipush 200, 3) := by decide +kernel
theorem d_X_init_22 : decode b_X_init 22 = .ok (.newarray .int, 2) := by decide +kernel
theorem d_X_init_24 : decode b_X_init 24 = .ok (.putfield 17, 3) := by decide +kernel
theorem d_X_init_27 : decode b_X_init 27 = .ok (.aload_n 0, 1) := by decide +kernel
theorem d_X_init_28 : decode b_X_init 28 = .ok (.sipush 200, 3) := by decide +kernel
theorem d_X_init_31 : decode b_X_init 31 = .ok (.newarray .boolean, 2) := by decide +kernel
theorem d_X_init_33 : decode b_X_init 33 = .ok (.putfield 20, 3) := by decide +kernel
theorem d_X_init_36 : decode b_X_init 36 = .ok (.aload_n 0, 1) := by decide +kernel
theorem d_X_init_37 : decode b_X_init 37 = .ok (.iconst 0, 1) := by decide +kernel
theorem d_X_init_38 : decode b_X_init 38 = .ok (.putfield 24, 3) := by decide +kernel
theorem d_X_init_41 : decode b_X_init 41 = .ok (.aload_n 0, 1) := by decide +kernel
theorem d_X_init_42 : decode b_X_init 42 = .ok (.sipush 401, 3) := by decide +kernel
theorem d_X_init_45 : decode b_X_init 45 = .ok (.newarray .int, 2) := by decide +kernel
theorem d_X_init_47 : decode b_X_init 47 = .ok (.putfield 27, 3) := by decide +kernel
theorem d_X_init_50 : decode b_X_init 50 = .ok (.return_, 1) := by decide +kernel
theorem d_X_text_0 : decode b_X_text 0 = .ok (.aload_n 0, 1) := by decide +kernel
theorem d_X_text_1 : decode b_X_text 1 = .ok (.getfield 13, 3) := by decide +kernel
theorem d_X_text_4 : decode b_X_text 4 = .ok (.iload_n 3, 1) := by decide +kernel
theorem d_X_text_5 : decode b_X_text 5 = .ok (.sipush 400, 3) := by decide +kernel
theorem d_X_text_8 : decode b_X_text 8 = .ok (.invokestatic 30, 3) := by decide +kernel
theorem d_X_text_11 : decode b_X_text 11 = .ok (.ifCond .ne 5, 3) := by decide +kernel
theorem d_X_text_14 : decode b_X_text 14 = .ok (.iconst (-1), 1) := by decide +kernel
theorem d_X_text_15 : decode b_X_text 15 = .ok (.ireturn, 1) := by decide +kernel
theorem d_X_text_16 : decode b_X_text 16 = .ok (.iconst 0, 1) := by decide +kernel
theorem d_X_text_17 : decode b_X_text 17 = .ok (.istore 4, 2) := by decide +kernel
theorem d_X_text_19 : decode b_X_text 19 = .ok (.iload 4, 2) := by decide +kernel
theorem d_X_text_21 : decode b_X_text 21 = .ok (.iload_n 3, 1) := by decide +kernel
theorem d_X_text_22 : decode b_X_text 22 = .ok (.if_icmp .ge 28, 3) := by decide +kernel
theorem d_X_text_25 : decode b_X_text 25 = .ok (.aload_n 0, 1) := by decide +kernel
theorem d_X_text_26 : decode b_X_text 26 = .ok (.getfield 9, 3) := by decide +kernel
theorem d_X_text_29 : decode b_X_text 29 = .ok (.aload_n 0, 1) := by decide +kernel
theorem d_X_text_30 : decode b_X_text 30 = .ok (.getfield 13, 3) := by decide +kernel
theorem d_X_text_33 : decode b_X_text 33 = .ok (.iload 4, 2) := by decide +kernel
theorem d_X_text_35 : decode b_X_text 35 = .ok (.iadd, 1) := by decide +kernel
theorem d_X_text_36 : decode b_X_text 36 = .ok (.lload_n 1, 1) := by decide +kernel
theorem d_X_text_37 : decode b_X_text 37 = .ok (.iload_n 3, 1) := by decide +kernel
theorem d_X_text_38 : decode b_X_text 38 = .ok (.iload 4, 2) := by decide +kernel
theorem d_X_text_40 : decode b_X_text 40 = .ok (.invokestatic 34, 3) := by decide +kernel
theorem d_X_text_43 : decode b_X_text 43 = .ok (.iastore, 1) := by decide +kernel
theorem d_X_text_44 : decode b_X_text 44 = .ok (.iinc 4 1, 3) := by decide +kernel
theorem d_X_text_47 : decode b_X_text 47 = .ok (.goto (-28), 3) := by decide +kernel
theorem d_X_text_50 : decode b_X_text 50 = .ok (.aload_n 0, 1) := by decide +kernel
theorem d_X_text_51 : decode b_X_text 51 = .ok (.dup, 1) := by decide +kernel
theorem d_X_text_52 : decode b_X_text 52 = .ok (.getfield 13, 3) := by decide +kernel
theorem d_X_text_55 : decode b_X_text 55 = .ok (.iload_n 3, 1) := by decide +kernel
theorem d_X_text_56 : decode b_X_text 56 = .ok (.iadd, 1) := by decide +kernel
theorem d_X_text_57 : decode b_X_text 57 = .ok (.putfield 13, 3) := by decide +kernel
theorem d_X_text_60 : decode b_X_text 60 = .ok (.aload_n 0, 1) := by decide +kernel
theorem d_X_text_61 : decode b_X_text 61 = .ok (.getfield 13, 3) := by decide +kernel
theorem d_X_text_64 : decode b_X_text 64 = .ok (.ireturn, 1) := by decide +kernel
theorem d_X_pattern_0 : decode b_X_pattern 0 = .ok (.aload_n 0, 1) := by decide +kernel
theorem d_X_pattern_1 : decode b_X_pattern 1 = .ok (.getfield 24, 3) := by decide +kernel
theorem d_X_pattern_4 : decode b_X_pattern 4 = .ok (.iload_n 3, 1) := by decide +kernel
theorem d_X_pattern_5 : decode b_X_pattern 5 = .ok (.sipush 200, 3) := by decide +kernel
theorem d_X_pattern_8 : decode b_X_pattern 8 = .ok (.invokestatic 30, 3) := by decide +kernel
theorem d_X_pattern_11 : decode b_X_pattern 11 = .ok (.ifCond .ne 5, 3) := by decide +kernel
theorem d_X_pattern_14 : decode b_X_pattern 14 = .ok (.iconst (-1), 1) := by decide +kernel
theorem d_X_pattern_15 : decode b_X_pattern 15 = .ok (.ireturn, 1) := by decide +kernel
theorem d_X_pattern_16 : decode b_X_pattern 16 = .ok (.iconst 0, 1) := by decide +kernel
theorem d_X_pattern_17 : decode b_X_pattern 17 = .ok (.istore 5, 2) := by decide +kernel
theorem d_X_pattern_19 : decode b_X_pattern 19 = .ok (.iload 5, 2) := by decide +kernel
theorem d_X_pattern_21 : decode b_X_pattern 21 = .ok (.iload_n 3, 1) := by decide +kernel
theorem d_X_pattern_22 : decode b_X_pattern 22 = .ok (.if_icmp .ge 56, 3) := by decide +kernel
theorem d_X_pattern_25 : decode b_X_pattern 25 = .ok (.aload_n 0, 1) := by decide +kernel
theorem d_X_pattern_26 : decode b_X_pattern 26 = .ok (.getfield 17, 3) := by decide +kernel
theorem d_X_pattern_29 : decode b_X_pattern 29 = .ok (.aload_n 0, 1) := by decide +kernel
theorem d_X_pattern_30 : decode b_X_pattern 30 = .ok (.getfield 24, 3) := by decide +kernel
theorem d_X_pattern_33 : decode b_X_pattern 33 = .ok (.iload 5, 2) := by decide +kernel
theorem d_X_pattern_35 : decode b_X_pattern 35 = .ok (.iadd, 1) := by decide +kernel
theorem d_X_pattern_36 : decode b_X_pattern 36 = .ok (.lload_n 1, 1) := by decide +kernel
theorem d_X_pattern_37 : decode b_X_pattern 37 = .ok (.iload_n 3, 1) := by decide +kernel
theorem d_X_pattern_38 : decode b_X_pattern 38 = .ok (.iload 5, 2) := by decide +kernel
theorem d_X_pattern_40 : decode b_X_pattern 40 = .ok (.invokestatic 34, 3) := by decide +kernel
theorem d_X_pattern_43 : decode b_X_pattern 43 = .ok (.iastore, 1) := by decide +kernel
theorem d_X_pattern_44 : decode b_X_pattern 44 = .ok (.aload_n 0, 1) := by decide +kernel
theorem d_X_pattern_45 : decode b_X_pattern 45 = .ok (.getfield 20, 3) := by decide +kernel
theorem d_X_pattern_48 : decode b_X_pattern 48 = .ok (.aload_n 0, 1) := by decide +kernel
theorem d_X_pattern_49 : decode b_X_pattern 49 = .ok (.getfield 24, 3) := by decide +kernel
theorem d_X_pattern_52 : decode b_X_pattern 52 = .ok (.iload 5, 2) := by decide +kernel
theorem d_X_pattern_54 : decode b_X_pattern 54 = .ok (.iadd, 1) := by decide +kernel
theorem d_X_pattern_55 : decode b_X_pattern 55 = .ok (.iload 4, 2) := by decide +kernel
theorem d_X_pattern_57 : decode b_X_pattern 57 = .ok (.iload 5, 2) := by decide +kernel
theorem d_X_pattern_59 : decode b_X_pattern 59 = .ok (.iushr, 1) := by decide +kernel
theorem d_X_pattern_60 : decode b_X_pattern 60 = .ok (.iconst 1, 1) := by decide +kernel
theorem d_X_pattern_61 : decode b_X_pattern 61 = .ok (.iand, 1) := by decide +kernel
theorem d_X_pattern_62 : decode b_X_pattern 62 = .ok (.iconst 1, 1) := by decide +kernel
theorem d_X_pattern_63 : decode b_X_pattern 63 = .ok (.if_icmp .ne 7, 3) := by decide +kernel
theorem d_X_pattern_66 : decode b_X_pattern 66 = .ok (.iconst 1, 1) := by decide +kernel
theorem d_X_pattern_67 : decode b_X_pattern 67 = .ok (.goto 4, 3) := by decide +kernel
theorem d_X_pattern_70 : decode b_X_pattern 70 = .ok (.iconst 0, 1) := by decide +kernel
theorem d_X_pattern_71 : decode b_X_pattern 71 = .ok (.bastore, 1) := by decide +kernel
theorem d_X_pattern_72 : decode b_X_pattern 72 = .ok (.iinc 5 1, 3) := by decide +kernel
theorem d_X_pattern_75 : decode b_X_pattern 75 = .ok (.goto (-56), 3) := by decide +kernel
theorem d_X_pattern_78 : decode b_X_pattern 78 = .ok (.aload_n 0, 1) := by decide +kernel
theorem d_X_pattern_79 : decode b_X_pattern 79 = .ok (.dup, 1) := by decide +kernel
theorem d_X_pattern_80 : decode b_X_pattern 80 = .ok (.getfield 24, 3) := by decide +kernel
theorem d_X_pattern_83 : decode b_X_pattern 83 = .ok (.iload_n 3, 1) := by decide +kernel
theorem d_X_pattern_84 : decode b_X_pattern 84 = .ok (.iadd, 1) := by decide +kernel
theorem d_X_pattern_85 : decode b_X_pattern 85 = .ok (.putfield 24, 3) := by decide +kernel
theorem d_X_pattern_88 : decode b_X_pattern 88 = .ok (.aload_n 0, 1) := by decide +kernel
theorem d_X_pattern_89 : decode b_X_pattern 89 = .ok (.getfield 24, 3) := by decide +kernel
theorem d_X_pattern_92 : decode b_X_pattern 92 = .ok (.ireturn, 1) := by decide +kernel
theorem d_X_clear_0 : decode b_X_clear 0 = .ok (.aload_n 0, 1) := by decide +kernel
theorem d_X_clear_1 : decode b_X_clear 1 = .ok (.getfield 13, 3) := by decide +kernel
theorem d_X_clear_4 : decode b_X_clear 4 = .ok (.istore_n 1, 1) := by decide +kernel
theorem d_X_clear_5 : decode b_X_clear 5 = .ok (.aload_n 0, 1) := by decide +kernel
theorem d_X_clear_6 : decode b_X_clear 6 = .ok (.iconst 0, 1) := by decide +kernel
theorem d_X_clear_7 : decode b_X_clear 7 = .ok (.putfield 13, 3) := by decide +kernel
theorem d_X_clear_10 : decode b_X_clear 10 = .ok (.aload_n 0, 1) := by decide +kernel
theorem d_X_clear_11 : decode b_X_clear 11 = .ok (.iconst 0, 1) := by decide +kernel
theorem d_X_clear_12 : decode b_X_clear 12 = .ok (.putfield 24, 3) := by decide +kernel
theorem d_X_clear_15 : decode b_X_clear 15 = .ok (.iload_n 1, 1) := by decide +kernel
theorem d_X_clear_16 : decode b_X_clear 16 = .ok (.ireturn, 1) := by decide +kernel
theorem d_X_matches_0 : decode b_X_matches 0 = .ok (.aload_n 0, 1) := by decide +kernel
theorem d_X_matches_1 : decode b_X_matches 1 = .ok (.iconst 0, 1) := by decide +kernel
theorem d_X_matches_2 : decode b_X_matches 2 = .ok (.aload_n 0, 1) := by decide +kernel
theorem d_X_matches_3 : decode b_X_matches 3 = .ok (.getfield 13, 3) := by decide +kernel
theorem d_X_matches_6 : decode b_X_matches 6 = .ok (.invokevirtual 38, 3) := by decide +kernel
theorem d_X_matches_9 : decode b_X_matches 9 = .ok (.ireturn, 1) := by decide +kernel
theorem d_X_part_0 : decode b_X_part 0 = .ok (.iload_n 1, 1) := by decide +kernel
theorem d_X_part_1 : decode b_X_part 1 = .ok (.ifCond .lt 16, 3) := by decide +kernel
theorem d_X_part_4 : decode b_X_part 4 = .ok (.iload_n 2, 1) := by decide +kernel
theorem d_X_part_5 : decode b_X_part 5 = .ok (.iload_n 1, 1) := by decide +kernel
theorem d_X_part_6 : decode b_X_part 6 = .ok (.if_icmp .lt 11, 3) := by decide +kernel
theorem d_X_part_9 : decode b_X_part 9 = .ok (.iload_n 2, 1) := by decide +kernel
theorem d_X_part_10 : decode b_X_part 10 = .ok (.aload_n 0, 1) := by decide +kernel
theorem d_X_part_11 : decode b_X_part 11 = .ok (.getfield 13, 3) := by decide +kernel
theorem d_X_part_14 : decode b_X_part 14 = .ok (.if_icmp .le 13, 3) := by decide +kernel
theorem d_X_part_17 : decode b_X_part 17 = .ok (.new 42, 3) := by decide +kernel
theorem d_X_part_20 : decode b_X_part 20 = .ok (.dup, 1) := by decide +kernel
theorem d_X_part_21 : decode b_X_part 21 = .ok (.ldc 44, 2) := by decide +kernel
theorem d_X_part_23 : decode b_X_part 23 = .ok (.invokespecial 46, 3) := by decide +kernel
theorem d_X_part_26 : decode b_X_part 26 = .ok (.athrow, 1) := by decide +kernel
theorem d_X_part_27 : decode b_X_part 27 = .ok (.aload_n 0, 1) := by decide +kernel
theorem d_X_part_28 : decode b_X_part 28 = .ok (.iload_n 1, 1) := by decide +kernel
theorem d_X_part_29 : decode b_X_part 29 = .ok (.iload_n 2, 1) := by decide +kernel
theorem d_X_part_30 : decode b_X_part 30 = .ok (.invokevirtual 38, 3) := by decide +kernel
theorem d_X_part_33 : decode b_X_part 33 = .ok (.ireturn, 1) := by decide +kernel
theorem d_X_cut_0 : decode b_X_cut 0 = .ok (.iload_n 1, 1) := by decide +kernel
theorem d_X_cut_1 : decode b_X_cut 1 = .ok (.ifCond .eq 11, 3) := by decide +kernel
theorem d_X_cut_4 : decode b_X_cut 4 = .ok (.aload_n 0, 1) := by decide +kernel
theorem d_X_cut_5 : decode b_X_cut 5 = .ok (.iload_n 2, 1) := by decide +kernel
theorem d_X_cut_6 : decode b_X_cut 6 = .ok (.invokevirtual 49, 3) := by decide +kernel
theorem d_X_cut_9 : decode b_X_cut 9 = .ok (.goto 8, 3) := by decide +kernel
theorem d_X_cut_12 : decode b_X_cut 12 = .ok (.aload_n 0, 1) := by decide +kernel
theorem d_X_cut_13 : decode b_X_cut 13 = .ok (.iload_n 2, 1) := by decide +kernel
theorem d_X_cut_14 : decode b_X_cut 14 = .ok (.invokevirtual 53, 3) := by decide +kernel
theorem d_X_cut_17 : decode b_X_cut 17 = .ok (.ireturn, 1) := by decide +kernel
theorem d_X_isSpecial_0 : decode b_X_isSpecial 0 = .ok (.iconst 0, 1) := by decide +kernel
theorem d_X_isSpecial_1 : decode b_X_isSpecial 1 = .ok (.istore_n 1, 1) := by decide +kernel
theorem d_X_isSpecial_2 : decode b_X_isSpecial 2 = .ok (.iload_n 1, 1) := by decide +kernel
theorem d_X_isSpecial_3 : decode b_X_isSpecial 3 = .ok (.aload_n 0, 1) := by decide +kernel
theorem d_X_isSpecial_4 : decode b_X_isSpecial 4 = .ok (.getfield 24, 3) := by decide +kernel
theorem d_X_isSpecial_7 : decode b_X_isSpecial 7 = .ok (.if_icmp .ge 41, 3) := by decide +kernel
theorem d_X_isSpecial_10 : decode b_X_isSpecial 10 = .ok (.aload_n 0, 1) := by decide +kernel
theorem d_X_isSpecial_11 : decode b_X_isSpecial 11 = .ok (.iload_n 1, 1) := by decide +kernel
theorem d_X_isSpecial_12 : decode b_X_isSpecial 12 = .ok (.bipush 42, 2) := by decide +kernel
theorem d_X_isSpecial_14 : decode b_X_isSpecial 14 = .ok (.invokevirtual 56, 3) := by decide +kernel
theorem d_X_isSpecial_17 : decode b_X_isSpecial 17 = .ok (.ifCond .ne 23, 3) := by decide +kernel
theorem d_X_isSpecial_20 : decode b_X_isSpecial 20 = .ok (.aload_n 0, 1) := by decide +kernel
theorem d_X_isSpecial_21 : decode b_X_isSpecial 21 = .ok (.iload_n 1, 1) := by decide +kernel
theorem d_X_isSpecial_22 : decode b_X_isSpecial 22 = .ok (.bipush 63, 2) := by decide +kernel
theorem d_X_isSpecial_24 : decode b_X_isSpecial 24 = .ok (.invokevirtual 56, 3) := by decide +kernel
theorem d_X_isSpecial_27 : decode b_X_isSpecial 27 = .ok (.ifCond .ne 13, 3) := by decide +kernel
theorem d_X_isSpecial_30 : decode b_X_isSpecial 30 = .ok (.aload_n 0, 1) := by decide +kernel
theorem d_X_isSpecial_31 : decode b_X_isSpecial 31 = .ok (.iload_n 1, 1) := by decide +kernel
theorem d_X_isSpecial_32 : decode b_X_isSpecial 32 = .ok (.bipush 91, 2) := by decide +kernel
theorem d_X_isSpecial_34 : decode b_X_isSpecial 34 = .ok (.invokevirtual 56, 3) := by decide +kernel
theorem d_X_isSpecial_37 : decode b_X_isSpecial 37 = .ok (.ifCond .eq 5, 3) := by decide +kernel
theorem d_X_isSpecial_40 : decode b_X_isSpecial 40 = .ok (.iconst 1, 1) := by decide +kernel
theorem d_X_isSpecial_41 : decode b_X_isSpecial 41 = .ok (.ireturn, 1) := by decide +kernel
theorem d_X_isSpecial_42 : decode b_X_isSpecial 42 = .ok (.iinc 1 1, 3) := by decide +kernel
theorem d_X_isSpecial_45 : decode b_X_isSpecial 45 = .ok (.goto (-43), 3) := by decide +kernel
theorem d_X_isSpecial_48 : decode b_X_isSpecial 48 = .ok (.iconst 0, 1) := by decide +kernel
theorem d_X_isSpecial_49 : decode b_X_isSpecial 49 = .ok (.ireturn, 1) := by decide +kernel
theorem d_X_count_0 : decode b_X_count 0 = .ok (.iload_n 1, 1) := by decide +kernel
theorem d_X_count_1 : decode b_X_count 1 = .ok (.tableswitch 51 0 3 #[31, 36, 41, 46], 31) := by decide +kernel
theorem d_X_count_32 : decode b_X_count 32 = .ok (.aload_n 0, 1) := by decide +kernel
theorem d_X_count_33 : decode b_X_count 33 = .ok (.getfield 13, 3) := by decide +kernel
theorem d_X_count_36 : decode b_X_count 36 = .ok (.ireturn, 1) := by decide +kernel
theorem d_X_count_37 : decode b_X_count 37 = .ok (.aload_n 0, 1) := by decide +kernel
theorem d_X_count_38 : decode b_X_count 38 = .ok (.getfield 24, 3) := by decide +kernel
theorem d_X_count_41 : decode b_X_count 41 = .ok (.ireturn, 1) := by decide +kernel
theorem d_X_count_42 : decode b_X_count 42 = .ok (.aload_n 0, 1) := by decide +kernel
theorem d_X_count_43 : decode b_X_count 43 = .ok (.invokevirtual 60, 3) := by decide +kernel
theorem d_X_count_46 : decode b_X_count 46 = .ok (.ireturn, 1) := by decide +kernel
theorem d_X_count_47 : decode b_X_count 47 = .ok (.aload_n 0, 1) := by decide +kernel
theorem d_X_count_48 : decode b_X_count 48 = .ok (.invokevirtual 64, 3) := by decide +kernel
theorem d_X_count_51 : decode b_X_count 51 = .ok (.ireturn, 1) := by decide +kernel
theorem d_X_count_52 : decode b_X_count 52 = .ok (.iconst (-1), 1) := by decide +kernel
theorem d_X_count_53 : decode b_X_count 53 = .ok (.ireturn, 1) := by decide +kernel
theorem d_X_hasRoom_0 : decode b_X_hasRoom 0 = .ok (.iload_n 1, 1) := by decide +kernel
theorem d_X_hasRoom_1 : decode b_X_hasRoom 1 = .ok (.ifCond .lt 20, 3) := by decide +kernel
theorem d_X_hasRoom_4 : decode b_X_hasRoom 4 = .ok (.iload_n 1, 1) := by decide +kernel
theorem d_X_hasRoom_5 : decode b_X_hasRoom 5 = .ok (.bipush 8, 2) := by decide +kernel
theorem d_X_hasRoom_7 : decode b_X_hasRoom 7 = .ok (.if_icmp .gt 14, 3) := by decide +kernel
theorem d_X_hasRoom_10 : decode b_X_hasRoom 10 = .ok (.iload_n 0, 1) := by decide +kernel
theorem d_X_hasRoom_11 : decode b_X_hasRoom 11 = .ok (.iload_n 1, 1) := by decide +kernel
theorem d_X_hasRoom_12 : decode b_X_hasRoom 12 = .ok (.iadd, 1) := by decide +kernel
theorem d_X_hasRoom_13 : decode b_X_hasRoom 13 = .ok (.iload_n 2, 1) := by decide +kernel
theorem d_X_hasRoom_14 : decode b_X_hasRoom 14 = .ok (.if_icmp .gt 7, 3) := by decide +kernel
theorem d_X_hasRoom_17 : decode b_X_hasRoom 17 = .ok (.iconst 1, 1) := by decide +kernel
theorem d_X_hasRoom_18 : decode b_X_hasRoom 18 = .ok (.goto 4, 3) := by decide +kernel
theorem d_X_hasRoom_21 : decode b_X_hasRoom 21 = .ok (.iconst 0, 1) := by decide +kernel
theorem d_X_hasRoom_22 : decode b_X_hasRoom 22 = .ok (.ireturn, 1) := by decide +kernel
theorem d_X_byteOf_0 : decode b_X_byteOf 0 = .ok (.lload_n 0, 1) := by decide +kernel
theorem d_X_byteOf_1 : decode b_X_byteOf 1 = .ok (.bipush 8, 2) := by decide +kernel
theorem d_X_byteOf_3 : decode b_X_byteOf 3 = .ok (.iload_n 2, 1) := by decide +kernel
theorem d_X_byteOf_4 : decode b_X_byteOf 4 = .ok (.iconst 1, 1) := by decide +kernel
theorem d_X_byteOf_5 : decode b_X_byteOf 5 = .ok (.isub, 1) := by decide +kernel
theorem d_X_byteOf_6 : decode b_X_byteOf 6 = .ok (.iload_n 3, 1) := by decide +kernel
theorem d_X_byteOf_7 : decode b_X_byteOf 7 = .ok (.isub, 1) := by decide +kernel
theorem d_X_byteOf_8 : decode b_X_byteOf 8 = .ok (.imul, 1) := by decide +kernel
theorem d_X_byteOf_9 : decode b_X_byteOf 9 = .ok (.lushr, 1) := by decide +kernel
theorem d_X_byteOf_10 : decode b_X_byteOf 10 = .ok (.ldc2_w 67, 3) := by decide +kernel
theorem d_X_byteOf_13 : decode b_X_byteOf 13 = .ok (.land, 1) := by decide +kernel
theorem d_X_byteOf_14 : decode b_X_byteOf 14 = .ok (.l2i, 1) := by decide +kernel
theorem d_X_byteOf_15 : decode b_X_byteOf 15 = .ok (.ireturn, 1) := by decide +kernel
theorem d_X_quotedCount_0 : decode b_X_quotedCount 0 = .ok (.iconst 0, 1) := by decide +kernel
theorem d_X_quotedCount_1 : decode b_X_quotedCount 1 = .ok (.istore_n 1, 1) := by decide +kernel
theorem d_X_quotedCount_2 : decode b_X_quotedCount 2 = .ok (.iconst 0, 1) := by decide +kernel
theorem d_X_quotedCount_3 : decode b_X_quotedCount 3 = .ok (.istore_n 2, 1) := by decide +kernel
theorem d_X_quotedCount_4 : decode b_X_quotedCount 4 = .ok (.iload_n 2, 1) := by decide +kernel
theorem d_X_quotedCount_5 : decode b_X_quotedCount 5 = .ok (.aload_n 0, 1) := by decide +kernel
theorem d_X_quotedCount_6 : decode b_X_quotedCount 6 = .ok (.getfield 24, 3) := by decide +kernel
theorem d_X_quotedCount_9 : decode b_X_quotedCount 9 = .ok (.if_icmp .ge 21, 3) := by decide +kernel
theorem d_X_quotedCount_12 : decode b_X_quotedCount 12 = .ok (.aload_n 0, 1) := by decide +kernel
theorem d_X_quotedCount_13 : decode b_X_quotedCount 13 = .ok (.getfield 20, 3) := by decide +kernel
theorem d_X_quotedCount_16 : decode b_X_quotedCount 16 = .ok (.iload_n 2, 1) := by decide +kernel
theorem d_X_quotedCount_17 : decode b_X_quotedCount 17 = .ok (.baload, 1) := by decide +kernel
theorem d_X_quotedCount_18 : decode b_X_quotedCount 18 = .ok (.ifCond .eq 6, 3) := by decide +kernel
theorem d_X_quotedCount_21 : decode b_X_quotedCount 21 = .ok (.iinc 1 1, 3) := by decide +kernel
theorem d_X_quotedCount_24 : decode b_X_quotedCount 24 = .ok (.iinc 2 1, 3) := by decide +kernel
theorem d_X_quotedCount_27 : decode b_X_quotedCount 27 = .ok (.goto (-23), 3) := by decide +kernel
theorem d_X_quotedCount_30 : decode b_X_quotedCount 30 = .ok (.iload_n 1, 1) := by decide +kernel
theorem d_X_quotedCount_31 : decode b_X_quotedCount 31 = .ok (.ireturn, 1) := by decide +kernel
theorem d_X_setCount_0 : decode b_X_setCount 0 = .ok (.iconst 0, 1) := by decide +kernel
theorem d_X_setCount_1 : decode b_X_setCount 1 = .ok (.istore_n 1, 1) := by decide +kernel
theorem d_X_setCount_2 : decode b_X_setCount 2 = .ok (.iconst 0, 1) := by decide +kernel
theorem d_X_setCount_3 : decode b_X_setCount 3 = .ok (.istore_n 2, 1) := by decide +kernel
theorem d_X_setCount_4 : decode b_X_setCount 4 = .ok (.iload_n 2, 1) := by decide +kernel
theorem d_X_setCount_5 : decode b_X_setCount 5 = .ok (.aload_n 0, 1) := by decide +kernel
theorem d_X_setCount_6 : decode b_X_setCount 6 = .ok (.getfield 24, 3) := by decide +kernel
theorem d_X_setCount_9 : decode b_X_setCount 9 = .ok (.if_icmp .ge 21, 3) := by decide +kernel
theorem d_X_setCount_12 : decode b_X_setCount 12 = .ok (.aload_n 0, 1) := by decide +kernel
theorem d_X_setCount_13 : decode b_X_setCount 13 = .ok (.iload_n 2, 1) := by decide +kernel
theorem d_X_setCount_14 : decode b_X_setCount 14 = .ok (.invokevirtual 69, 3) := by decide +kernel
theorem d_X_setCount_17 : decode b_X_setCount 17 = .ok (.iconst (-1), 1) := by decide +kernel
theorem d_X_setCount_18 : decode b_X_setCount 18 = .ok (.if_icmp .eq 6, 3) := by decide +kernel
theorem d_X_setCount_21 : decode b_X_setCount 21 = .ok (.iinc 1 1, 3) := by decide +kernel
theorem d_X_setCount_24 : decode b_X_setCount 24 = .ok (.iinc 2 1, 3) := by decide +kernel
theorem d_X_setCount_27 : decode b_X_setCount 27 = .ok (.goto (-23), 3) := by decide +kernel
theorem d_X_setCount_30 : decode b_X_setCount 30 = .ok (.iload_n 1, 1) := by decide +kernel
theorem d_X_setCount_31 : decode b_X_setCount 31 = .ok (.ireturn, 1) := by decide +kernel
theorem d_X_pieceMatches_0 : decode b_X_pieceMatches 0 = .ok (.aload_n 0, 1) := by decide +kernel
theorem d_X_pieceMatches_1 : decode b_X_pieceMatches 1 = .ok (.iload_n 1, 1) := by decide +kernel
theorem d_X_pieceMatches_2 : decode b_X_pieceMatches 2 = .ok (.iload_n 2, 1) := by decide +kernel
theorem d_X_pieceMatches_3 : decode b_X_pieceMatches 3 = .ok (.invokevirtual 73, 3) := by decide +kernel
theorem d_X_pieceMatches_6 : decode b_X_pieceMatches 6 = .ok (.aload_n 0, 1) := by decide +kernel
theorem d_X_pieceMatches_7 : decode b_X_pieceMatches 7 = .ok (.iload_n 1, 1) := by decide +kernel
theorem d_X_pieceMatches_8 : decode b_X_pieceMatches 8 = .ok (.iload_n 2, 1) := by decide +kernel
theorem d_X_pieceMatches_9 : decode b_X_pieceMatches 9 = .ok (.iconst 0, 1) := by decide +kernel
theorem d_X_pieceMatches_10 : decode b_X_pieceMatches 10 = .ok (.invokevirtual 77, 3) := by decide +kernel
theorem d_X_pieceMatches_13 : decode b_X_pieceMatches 13 = .ok (.aload_n 0, 1) := by decide +kernel
theorem d_X_pieceMatches_14 : decode b_X_pieceMatches 14 = .ok (.getfield 27, 3) := by decide +kernel
theorem d_X_pieceMatches_17 : decode b_X_pieceMatches 17 = .ok (.iload_n 2, 1) := by decide +kernel
theorem d_X_pieceMatches_18 : decode b_X_pieceMatches 18 = .ok (.iaload, 1) := by decide +kernel
theorem d_X_pieceMatches_19 : decode b_X_pieceMatches 19 = .ok (.iconst (-1), 1) := by decide +kernel
theorem d_X_pieceMatches_20 : decode b_X_pieceMatches 20 = .ok (.if_icmp .eq 7, 3) := by decide +kernel
theorem d_X_pieceMatches_23 : decode b_X_pieceMatches 23 = .ok (.iconst 1, 1) := by decide +kernel
theorem d_X_pieceMatches_24 : decode b_X_pieceMatches 24 = .ok (.goto 4, 3) := by decide +kernel
theorem d_X_pieceMatches_27 : decode b_X_pieceMatches 27 = .ok (.iconst 0, 1) := by decide +kernel
theorem d_X_pieceMatches_28 : decode b_X_pieceMatches 28 = .ok (.ireturn, 1) := by decide +kernel
theorem d_X_matchingBeginning_0 : decode b_X_matchingBeginning 0 = .ok (.aload_n 0, 1) := by decide +kernel
theorem d_X_matchingBeginning_1 : decode b_X_matchingBeginning 1 = .ok (.iconst 0, 1) := by decide +kernel
theorem d_X_matchingBeginning_2 : decode b_X_matchingBeginning 2 = .ok (.aload_n 0, 1) := by decide +kernel
theorem d_X_matchingBeginning_3 : decode b_X_matchingBeginning 3 = .ok (.getfield 13, 3) := by decide +kernel
theorem d_X_matchingBeginning_6 : decode b_X_matchingBeginning 6 = .ok (.invokevirtual 73, 3) := by decide +kernel
theorem d_X_matchingBeginning_9 : decode b_X_matchingBeginning 9 = .ok (.aload_n 0, 1) := by decide +kernel
theorem d_X_matchingBeginning_10 : decode b_X_matchingBeginning 10 = .ok (.iconst 0, 1) := by decide +kernel
theorem d_X_matchingBeginning_11 : decode b_X_matchingBeginning 11 = .ok (.aload_n 0, 1) := by decide +kernel
theorem d_X_matchingBeginning_12 : decode b_X_matchingBeginning 12 = .ok (.getfield 13, 3) := by decide +kernel
theorem d_X_matchingBeginning_15 : decode b_X_matchingBeginning 15 = .ok (.iconst 0, 1) := by decide +kernel
theorem d_X_matchingBeginning_16 : decode b_X_matchingBeginning 16 = .ok (.invokevirtual 77, 3) := by decide +kernel
theorem d_X_matchingBeginning_19 : decode b_X_matchingBeginning 19 = .ok (.iconst (-1), 1) := by decide +kernel
theorem d_X_matchingBeginning_20 : decode b_X_matchingBeginning 20 = .ok (.istore_n 2, 1) := by decide +kernel
theorem d_X_matchingBeginning_21 : decode b_X_matchingBeginning 21 = .ok (.iconst 0, 1) := by decide +kernel
theorem d_X_matchingBeginning_22 : decode b_X_matchingBeginning 22 = .ok (.istore_n 3, 1) := by decide +kernel
theorem d_X_matchingBeginning_23 : decode b_X_matchingBeginning 23 = .ok (.iload_n 3, 1) := by decide +kernel
theorem d_X_matchingBeginning_24 : decode b_X_matchingBeginning 24 = .ok (.aload_n 0, 1) := by decide +kernel
theorem d_X_matchingBeginning_25 : decode b_X_matchingBeginning 25 = .ok (.getfield 13, 3) := by decide +kernel
theorem d_X_matchingBeginning_28 : decode b_X_matchingBeginning 28 = .ok (.if_icmp .gt 30, 3) := by decide +kernel
theorem d_X_matchingBeginning_31 : decode b_X_matchingBeginning 31 = .ok (.aload_n 0, 1) := by decide +kernel
theorem d_X_matchingBeginning_32 : decode b_X_matchingBeginning 32 = .ok (.getfield 27, 3) := by decide +kernel
theorem d_X_matchingBeginning_35 : decode b_X_matchingBeginning 35 = .ok (.iload_n 3, 1) := by decide +kernel
theorem d_X_matchingBeginning_36 : decode b_X_matchingBeginning 36 = .ok (.iaload, 1) := by decide +kernel
theorem d_X_matchingBeginning_37 : decode b_X_matchingBeginning 37 = .ok (.iconst (-1), 1) := by decide +kernel
theorem d_X_matchingBeginning_38 : decode b_X_matchingBeginning 38 = .ok (.if_icmp .eq 14, 3) := by decide +kernel
theorem d_X_matchingBeginning_41 : decode b_X_matchingBeginning 41 = .ok (.iload_n 1, 1) := by decide +kernel
theorem d_X_matchingBeginning_42 : decode b_X_matchingBeginning 42 = .ok (.ifCond .ne 8, 3) := by decide +kernel
theorem d_X_matchingBeginning_45 : decode b_X_matchingBeginning 45 = .ok (.iload_n 2, 1) := by decide +kernel
theorem d_X_matchingBeginning_46 : decode b_X_matchingBeginning 46 = .ok (.iconst (-1), 1) := by decide +kernel
theorem d_X_matchingBeginning_47 : decode b_X_matchingBeginning 47 = .ok (.if_icmp .ne 5, 3) := by decide +kernel
theorem d_X_matchingBeginning_50 : decode b_X_matchingBeginning 50 = .ok (.iload_n 3, 1) := by decide +kernel
theorem d_X_matchingBeginning_51 : decode b_X_matchingBeginning 51 = .ok (.istore_n 2, 1) := by decide +kernel
theorem d_X_matchingBeginning_52 : decode b_X_matchingBeginning 52 = .ok (.iinc 3 1, 3) := by decide +kernel
theorem d_X_matchingBeginning_55 : decode b_X_matchingBeginning 55 = .ok (.goto (-32), 3) := by decide +kernel
theorem d_X_matchingBeginning_58 : decode b_X_matchingBeginning 58 = .ok (.iload_n 2, 1) := by decide +kernel
theorem d_X_matchingBeginning_59 : decode b_X_matchingBeginning 59 = .ok (.ireturn, 1) := by decide +kernel
theorem d_X_matchingEnd_0 : decode b_X_matchingEnd 0 = .ok (.aload_n 0, 1) := by decide +kernel
theorem d_X_matchingEnd_1 : decode b_X_matchingEnd 1 = .ok (.invokevirtual 81, 3) := by decide +kernel
theorem d_X_matchingEnd_4 : decode b_X_matchingEnd 4 = .ok (.aload_n 0, 1) := by decide +kernel
theorem d_X_matchingEnd_5 : decode b_X_matchingEnd 5 = .ok (.iconst 0, 1) := by decide +kernel
theorem d_X_matchingEnd_6 : decode b_X_matchingEnd 6 = .ok (.aload_n 0, 1) := by decide +kernel
theorem d_X_matchingEnd_7 : decode b_X_matchingEnd 7 = .ok (.getfield 13, 3) := by decide +kernel
theorem d_X_matchingEnd_10 : decode b_X_matchingEnd 10 = .ok (.iload_n 1, 1) := by decide +kernel
theorem d_X_matchingEnd_11 : decode b_X_matchingEnd 11 = .ok (.invokevirtual 77, 3) := by decide +kernel
theorem d_X_matchingEnd_14 : decode b_X_matchingEnd 14 = .ok (.aload_n 0, 1) := by decide +kernel
theorem d_X_matchingEnd_15 : decode b_X_matchingEnd 15 = .ok (.getfield 27, 3) := by decide +kernel
theorem d_X_matchingEnd_18 : decode b_X_matchingEnd 18 = .ok (.aload_n 0, 1) := by decide +kernel
theorem d_X_matchingEnd_19 : decode b_X_matchingEnd 19 = .ok (.getfield 13, 3) := by decide +kernel
theorem d_X_matchingEnd_22 : decode b_X_matchingEnd 22 = .ok (.iaload, 1) := by decide +kernel
theorem d_X_matchingEnd_23 : decode b_X_matchingEnd 23 = .ok (.istore_n 2, 1) := by decide +kernel
theorem d_X_matchingEnd_24 : decode b_X_matchingEnd 24 = .ok (.iload_n 2, 1) := by decide +kernel
theorem d_X_matchingEnd_25 : decode b_X_matchingEnd 25 = .ok (.iconst (-1), 1) := by decide +kernel
theorem d_X_matchingEnd_26 : decode b_X_matchingEnd 26 = .ok (.if_icmp .ne 7, 3) := by decide +kernel
theorem d_X_matchingEnd_29 : decode b_X_matchingEnd 29 = .ok (.iconst (-1), 1) := by decide +kernel
theorem d_X_matchingEnd_30 : decode b_X_matchingEnd 30 = .ok (.goto 9, 3) := by decide +kernel
theorem d_X_matchingEnd_33 : decode b_X_matchingEnd 33 = .ok (.aload_n 0, 1) := by decide +kernel
theorem d_X_matchingEnd_34 : decode b_X_matchingEnd 34 = .ok (.getfield 13, 3) := by decide +kernel
theorem d_X_matchingEnd_37 : decode b_X_matchingEnd 37 = .ok (.iload_n 2, 1) := by decide +kernel
theorem d_X_matchingEnd_38 : decode b_X_matchingEnd 38 = .ok (.isub, 1) := by decide +kernel
theorem d_X_matchingEnd_39 : decode b_X_matchingEnd 39 = .ok (.ireturn, 1) := by decide +kernel
theorem d_X_startOnlyAt_0 : decode b_X_startOnlyAt 0 = .ok (.aload_n 0, 1) := by decide +kernel
theorem d_X_startOnlyAt_1 : decode b_X_startOnlyAt 1 = .ok (.getfield 27, 3) := by decide +kernel
theorem d_X_startOnlyAt_4 : decode b_X_startOnlyAt 4 = .ok (.iload_n 1, 1) := by decide +kernel
theorem d_X_startOnlyAt_5 : decode b_X_startOnlyAt 5 = .ok (.iload_n 1, 1) := by decide +kernel
theorem d_X_startOnlyAt_6 : decode b_X_startOnlyAt 6 = .ok (.iastore, 1) := by decide +kernel
theorem d_X_startOnlyAt_7 : decode b_X_startOnlyAt 7 = .ok (.iload_n 1, 1) := by decide +kernel
theorem d_X_startOnlyAt_8 : decode b_X_startOnlyAt 8 = .ok (.iconst 1, 1) := by decide +kernel
theorem d_X_startOnlyAt_9 : decode b_X_startOnlyAt 9 = .ok (.iadd, 1) := by decide +kernel
theorem d_X_startOnlyAt_10 : decode b_X_startOnlyAt 10 = .ok (.istore_n 3, 1) := by decide +kernel
theorem d_X_startOnlyAt_11 : decode b_X_startOnlyAt 11 = .ok (.iload_n 3, 1) := by decide +kernel
theorem d_X_startOnlyAt_12 : decode b_X_startOnlyAt 12 = .ok (.iload_n 2, 1) := by decide +kernel
theorem d_X_startOnlyAt_13 : decode b_X_startOnlyAt 13 = .ok (.if_icmp .gt 16, 3) := by decide +kernel
theorem d_X_startOnlyAt_16 : decode b_X_startOnlyAt 16 = .ok (.aload_n 0, 1) := by decide +kernel
theorem d_X_startOnlyAt_17 : decode b_X_startOnlyAt 17 = .ok (.getfield 27, 3) := by decide +kernel
theorem d_X_startOnlyAt_20 : decode b_X_startOnlyAt 20 = .ok (.iload_n 3, 1) := by decide +kernel
theorem d_X_startOnlyAt_21 : decode b_X_startOnlyAt 21 = .ok (.iconst (-1), 1) := by decide +kernel
theorem d_X_startOnlyAt_22 : decode b_X_startOnlyAt 22 = .ok (.iastore, 1) := by decide +kernel
theorem d_X_startOnlyAt_23 : decode b_X_startOnlyAt 23 = .ok (.iinc 3 1, 3) := by decide +kernel
theorem d_X_startOnlyAt_26 : decode b_X_startOnlyAt 26 = .ok (.goto (-15), 3) := by decide +kernel
theorem d_X_startOnlyAt_29 : decode b_X_startOnlyAt 29 = .ok (.return_, 1) := by decide +kernel
theorem d_X_startAnywhere_0 : decode b_X_startAnywhere 0 = .ok (.iconst 0, 1) := by decide +kernel
theorem d_X_startAnywhere_1 : decode b_X_startAnywhere 1 = .ok (.istore_n 1, 1) := by decide +kernel
theorem d_X_startAnywhere_2 : decode b_X_startAnywhere 2 = .ok (.iload_n 1, 1) := by decide +kernel
theorem d_X_startAnywhere_3 : decode b_X_startAnywhere 3 = .ok (.aload_n 0, 1) := by decide +kernel
theorem d_X_startAnywhere_4 : decode b_X_startAnywhere 4 = .ok (.getfield 13, 3) := by decide +kernel
theorem d_X_startAnywhere_7 : decode b_X_startAnywhere 7 = .ok (.if_icmp .gt 16, 3) := by decide +kernel
theorem d_X_startAnywhere_10 : decode b_X_startAnywhere 10 = .ok (.aload_n 0, 1) := by decide +kernel
theorem d_X_startAnywhere_11 : decode b_X_startAnywhere 11 = .ok (.getfield 27, 3) := by decide +kernel
theorem d_X_startAnywhere_14 : decode b_X_startAnywhere 14 = .ok (.iload_n 1, 1) := by decide +kernel
theorem d_X_startAnywhere_15 : decode b_X_startAnywhere 15 = .ok (.iload_n 1, 1) := by decide +kernel
theorem d_X_startAnywhere_16 : decode b_X_startAnywhere 16 = .ok (.iastore, 1) := by decide +kernel
theorem d_X_startAnywhere_17 : decode b_X_startAnywhere 17 = .ok (.iinc 1 1, 3) := by decide +kernel
theorem d_X_startAnywhere_20 : decode b_X_startAnywhere 20 = .ok (.goto (-18), 3) := by decide +kernel
theorem d_X_startAnywhere_23 : decode b_X_startAnywhere 23 = .ok (.return_, 1) := by decide +kernel
theorem d_X_readPattern_0 : decode b_X_readPattern 0 = .ok (.iconst 0, 1) := by decide +kernel
theorem d_X_readPattern_1 : decode b_X_readPattern 1 = .ok (.istore 4, 2) := by decide +kernel
theorem d_X_readPattern_3 : decode b_X_readPattern 3 = .ok (.iload 4, 2) := by decide +kernel
theorem d_X_readPattern_5 : decode b_X_readPattern 5 = .ok (.aload_n 0, 1) := by decide +kernel
theorem d_X_readPattern_6 : decode b_X_readPattern 6 = .ok (.getfield 24, 3) := by decide +kernel
theorem d_X_readPattern_9 : decode b_X_readPattern 9 = .ok (.if_icmp .ge 56, 3) := by decide +kernel
theorem d_X_readPattern_12 : decode b_X_readPattern 12 = .ok (.aload_n 0, 1) := by decide +kernel
theorem d_X_readPattern_13 : decode b_X_readPattern 13 = .ok (.iload 4, 2) := by decide +kernel
theorem d_X_readPattern_15 : decode b_X_readPattern 15 = .ok (.invokevirtual 69, 3) := by decide +kernel
theorem d_X_readPattern_18 : decode b_X_readPattern 18 = .ok (.istore 5, 2) := by decide +kernel
theorem d_X_readPattern_20 : decode b_X_readPattern 20 = .ok (.aload_n 0, 1) := by decide +kernel
theorem d_X_readPattern_21 : decode b_X_readPattern 21 = .ok (.iload 4, 2) := by decide +kernel
theorem d_X_readPattern_23 : decode b_X_readPattern 23 = .ok (.bipush 42, 2) := by decide +kernel
theorem d_X_readPattern_25 : decode b_X_readPattern 25 = .ok (.invokevirtual 56, 3) := by decide +kernel
theorem d_X_readPattern_28 : decode b_X_readPattern 28 = .ok (.ifCond .eq 13, 3) := by decide +kernel
theorem d_X_readPattern_31 : decode b_X_readPattern 31 = .ok (.aload_n 0, 1) := by decide +kernel
theorem d_X_readPattern_32 : decode b_X_readPattern 32 = .ok (.iload_n 1, 1) := by decide +kernel
theorem d_X_readPattern_33 : decode b_X_readPattern 33 = .ok (.iload_n 2, 1) := by decide +kernel
theorem d_X_readPattern_34 : decode b_X_readPattern 34 = .ok (.iload_n 3, 1) := by decide +kernel
theorem d_X_readPattern_35 : decode b_X_readPattern 35 = .ok (.invokevirtual 84, 3) := by decide +kernel
theorem d_X_readPattern_38 : decode b_X_readPattern 38 = .ok (.goto 13, 3) := by decide +kernel
theorem d_X_readPattern_41 : decode b_X_readPattern 41 = .ok (.aload_n 0, 1) := by decide +kernel
theorem d_X_readPattern_42 : decode b_X_readPattern 42 = .ok (.iload_n 1, 1) := by decide +kernel
theorem d_X_readPattern_43 : decode b_X_readPattern 43 = .ok (.iload_n 2, 1) := by decide +kernel
theorem d_X_readPattern_44 : decode b_X_readPattern 44 = .ok (.iload 4, 2) := by decide +kernel
theorem d_X_readPattern_46 : decode b_X_readPattern 46 = .ok (.iload 5, 2) := by decide +kernel
theorem d_X_readPattern_48 : decode b_X_readPattern 48 = .ok (.invokevirtual 87, 3) := by decide +kernel
theorem d_X_readPattern_51 : decode b_X_readPattern 51 = .ok (.iload 4, 2) := by decide +kernel
theorem d_X_readPattern_53 : decode b_X_readPattern 53 = .ok (.iload 5, 2) := by decide +kernel
theorem d_X_readPattern_55 : decode b_X_readPattern 55 = .ok (.invokestatic 91, 3) := by decide +kernel
theorem d_X_readPattern_58 : decode b_X_readPattern 58 = .ok (.iconst 1, 1) := by decide +kernel
theorem d_X_readPattern_59 : decode b_X_readPattern 59 = .ok (.iadd, 1) := by decide +kernel
theorem d_X_readPattern_60 : decode b_X_readPattern 60 = .ok (.istore 4, 2) := by decide +kernel
theorem d_X_readPattern_62 : decode b_X_readPattern 62 = .ok (.goto (-59), 3) := by decide +kernel
theorem d_X_readPattern_65 : decode b_X_readPattern 65 = .ok (.return_, 1) := by decide +kernel
theorem d_X_takeAnyRow_0 : decode b_X_takeAnyRow 0 = .ok (.iload_n 1, 1) := by decide +kernel
theorem d_X_takeAnyRow_1 : decode b_X_takeAnyRow 1 = .ok (.iconst 1, 1) := by decide +kernel
theorem d_X_takeAnyRow_2 : decode b_X_takeAnyRow 2 = .ok (.iadd, 1) := by decide +kernel
theorem d_X_takeAnyRow_3 : decode b_X_takeAnyRow 3 = .ok (.istore 4, 2) := by decide +kernel
theorem d_X_takeAnyRow_5 : decode b_X_takeAnyRow 5 = .ok (.iload 4, 2) := by decide +kernel
theorem d_X_takeAnyRow_7 : decode b_X_takeAnyRow 7 = .ok (.iload_n 2, 1) := by decide +kernel
theorem d_X_takeAnyRow_8 : decode b_X_takeAnyRow 8 = .ok (.if_icmp .gt 36, 3) := by decide +kernel
theorem d_X_takeAnyRow_11 : decode b_X_takeAnyRow 11 = .ok (.aload_n 0, 1) := by decide +kernel
