theorem d_X_takeAnyRow_12 : decode b_X_takeAnyRow 12 = .ok (.getfield 27, 3) := by decide +kernel
theorem d_X_takeAnyRow_15 : decode b_X_takeAnyRow 15 = .ok (.iload 4, 2) := by decide +kernel
theorem d_X_takeAnyRow_17 : decode b_X_takeAnyRow 17 = .ok (.aload_n 0, 1) := by decide +kernel
theorem d_X_takeAnyRow_18 : decode b_X_takeAnyRow 18 = .ok (.getfield 27, 3) := by decide +kernel
theorem d_X_takeAnyRow_21 : decode b_X_takeAnyRow 21 = .ok (.iload 4, 2) := by decide +kernel
theorem d_X_takeAnyRow_23 : decode b_X_takeAnyRow 23 = .ok (.iconst 1, 1) := by decide +kernel
theorem d_X_takeAnyRow_24 : decode b_X_takeAnyRow 24 = .ok (.isub, 1) := by decide +kernel
theorem d_X_takeAnyRow_25 : decode b_X_takeAnyRow 25 = .ok (.iaload, 1) := by decide +kernel
theorem d_X_takeAnyRow_26 : decode b_X_takeAnyRow 26 = .ok (.aload_n 0, 1) := by decide +kernel
theorem d_X_takeAnyRow_27 : decode b_X_takeAnyRow 27 = .ok (.getfield 27, 3) := by decide +kernel
theorem d_X_takeAnyRow_30 : decode b_X_takeAnyRow 30 = .ok (.iload 4, 2) := by decide +kernel
theorem d_X_takeAnyRow_32 : decode b_X_takeAnyRow 32 = .ok (.iaload, 1) := by decide +kernel
theorem d_X_takeAnyRow_33 : decode b_X_takeAnyRow 33 = .ok (.iload_n 3, 1) := by decide +kernel
theorem d_X_takeAnyRow_34 : decode b_X_takeAnyRow 34 = .ok (.invokestatic 97, 3) := by decide +kernel
theorem d_X_takeAnyRow_37 : decode b_X_takeAnyRow 37 = .ok (.iastore, 1) := by decide +kernel
theorem d_X_takeAnyRow_38 : decode b_X_takeAnyRow 38 = .ok (.iinc 4 1, 3) := by decide +kernel
theorem d_X_takeAnyRow_41 : decode b_X_takeAnyRow 41 = .ok (.goto (-36), 3) := by decide +kernel
theorem d_X_takeAnyRow_44 : decode b_X_takeAnyRow 44 = .ok (.return_, 1) := by decide +kernel
theorem d_X_better_0 : decode b_X_better 0 = .ok (.iload_n 0, 1) := by decide +kernel
theorem d_X_better_1 : decode b_X_better 1 = .ok (.iconst (-1), 1) := by decide +kernel
theorem d_X_better_2 : decode b_X_better 2 = .ok (.if_icmp .eq 8, 3) := by decide +kernel
theorem d_X_better_5 : decode b_X_better 5 = .ok (.iload_n 1, 1) := by decide +kernel
theorem d_X_better_6 : decode b_X_better 6 = .ok (.iconst (-1), 1) := by decide +kernel
theorem d_X_better_7 : decode b_X_better 7 = .ok (.if_icmp .ne 14, 3) := by decide +kernel
theorem d_X_better_10 : decode b_X_better 10 = .ok (.iload_n 0, 1) := by decide +kernel
theorem d_X_better_11 : decode b_X_better 11 = .ok (.iconst (-1), 1) := by decide +kernel
theorem d_X_better_12 : decode b_X_better 12 = .ok (.if_icmp .ne 7, 3) := by decide +kernel
theorem d_X_better_15 : decode b_X_better 15 = .ok (.iload_n 1, 1) := by decide +kernel
theorem d_X_better_16 : decode b_X_better 16 = .ok (.goto 4, 3) := by decide +kernel
theorem d_X_better_19 : decode b_X_better 19 = .ok (.iload_n 0, 1) := by decide +kernel
theorem d_X_better_20 : decode b_X_better 20 = .ok (.ireturn, 1) := by decide +kernel
theorem d_X_better_21 : decode b_X_better 21 = .ok (.iload_n 2, 1) := by decide +kernel
theorem d_X_better_22 : decode b_X_better 22 = .ok (.ifCond .eq 11, 3) := by decide +kernel
theorem d_X_better_25 : decode b_X_better 25 = .ok (.iload_n 0, 1) := by decide +kernel
theorem d_X_better_26 : decode b_X_better 26 = .ok (.iload_n 1, 1) := by decide +kernel
theorem d_X_better_27 : decode b_X_better 27 = .ok (.invokestatic 101, 3) := by decide +kernel
theorem d_X_better_30 : decode b_X_better 30 = .ok (.goto 8, 3) := by decide +kernel
theorem d_X_better_33 : decode b_X_better 33 = .ok (.iload_n 0, 1) := by decide +kernel
theorem d_X_better_34 : decode b_X_better 34 = .ok (.iload_n 1, 1) := by decide +kernel
theorem d_X_better_35 : decode b_X_better 35 = .ok (.invokestatic 91, 3) := by decide +kernel
theorem d_X_better_38 : decode b_X_better 38 = .ok (.ireturn, 1) := by decide +kernel
theorem d_X_takeOne_0 : decode b_X_takeOne 0 = .ok (.iload_n 2, 1) := by decide +kernel
theorem d_X_takeOne_1 : decode b_X_takeOne 1 = .ok (.istore 5, 2) := by decide +kernel
theorem d_X_takeOne_3 : decode b_X_takeOne 3 = .ok (.iload 5, 2) := by decide +kernel
theorem d_X_takeOne_5 : decode b_X_takeOne 5 = .ok (.iload_n 1, 1) := by decide +kernel
theorem d_X_takeOne_6 : decode b_X_takeOne 6 = .ok (.if_icmp .le 73, 3) := by decide +kernel
theorem d_X_takeOne_9 : decode b_X_takeOne 9 = .ok (.aload_n 0, 1) := by decide +kernel
theorem d_X_takeOne_10 : decode b_X_takeOne 10 = .ok (.getfield 27, 3) := by decide +kernel
theorem d_X_takeOne_13 : decode b_X_takeOne 13 = .ok (.iload 5, 2) := by decide +kernel
theorem d_X_takeOne_15 : decode b_X_takeOne 15 = .ok (.iconst 1, 1) := by decide +kernel
theorem d_X_takeOne_16 : decode b_X_takeOne 16 = .ok (.isub, 1) := by decide +kernel
theorem d_X_takeOne_17 : decode b_X_takeOne 17 = .ok (.iaload, 1) := by decide +kernel
theorem d_X_takeOne_18 : decode b_X_takeOne 18 = .ok (.iconst (-1), 1) := by decide +kernel
theorem d_X_takeOne_19 : decode b_X_takeOne 19 = .ok (.if_icmp .eq 26, 3) := by decide +kernel
theorem d_X_takeOne_22 : decode b_X_takeOne 22 = .ok (.aload_n 0, 1) := by decide +kernel
theorem d_X_takeOne_23 : decode b_X_takeOne 23 = .ok (.aload_n 0, 1) := by decide +kernel
theorem d_X_takeOne_24 : decode b_X_takeOne 24 = .ok (.getfield 9, 3) := by decide +kernel
theorem d_X_takeOne_27 : decode b_X_takeOne 27 = .ok (.iload 5, 2) := by decide +kernel
theorem d_X_takeOne_29 : decode b_X_takeOne 29 = .ok (.iconst 1, 1) := by decide +kernel
theorem d_X_takeOne_30 : decode b_X_takeOne 30 = .ok (.isub, 1) := by decide +kernel
theorem d_X_takeOne_31 : decode b_X_takeOne 31 = .ok (.iaload, 1) := by decide +kernel
theorem d_X_takeOne_32 : decode b_X_takeOne 32 = .ok (.iload_n 3, 1) := by decide +kernel
theorem d_X_takeOne_33 : decode b_X_takeOne 33 = .ok (.iload 4, 2) := by decide +kernel
theorem d_X_takeOne_35 : decode b_X_takeOne 35 = .ok (.invokevirtual 104, 3) := by decide +kernel
theorem d_X_takeOne_38 : decode b_X_takeOne 38 = .ok (.ifCond .eq 7, 3) := by decide +kernel
theorem d_X_takeOne_41 : decode b_X_takeOne 41 = .ok (.iconst 1, 1) := by decide +kernel
theorem d_X_takeOne_42 : decode b_X_takeOne 42 = .ok (.goto 4, 3) := by decide +kernel
theorem d_X_takeOne_45 : decode b_X_takeOne 45 = .ok (.iconst 0, 1) := by decide +kernel
theorem d_X_takeOne_46 : decode b_X_takeOne 46 = .ok (.istore 6, 2) := by decide +kernel
theorem d_X_takeOne_48 : decode b_X_takeOne 48 = .ok (.aload_n 0, 1) := by decide +kernel
theorem d_X_takeOne_49 : decode b_X_takeOne 49 = .ok (.getfield 27, 3) := by decide +kernel
theorem d_X_takeOne_52 : decode b_X_takeOne 52 = .ok (.iload 5, 2) := by decide +kernel
theorem d_X_takeOne_54 : decode b_X_takeOne 54 = .ok (.iload 6, 2) := by decide +kernel
theorem d_X_takeOne_56 : decode b_X_takeOne 56 = .ok (.ifCond .eq 15, 3) := by decide +kernel
theorem d_X_takeOne_59 : decode b_X_takeOne 59 = .ok (.aload_n 0, 1) := by decide +kernel
theorem d_X_takeOne_60 : decode b_X_takeOne 60 = .ok (.getfield 27, 3) := by decide +kernel
theorem d_X_takeOne_63 : decode b_X_takeOne 63 = .ok (.iload 5, 2) := by decide +kernel
theorem d_X_takeOne_65 : decode b_X_takeOne 65 = .ok (.iconst 1, 1) := by decide +kernel
theorem d_X_takeOne_66 : decode b_X_takeOne 66 = .ok (.isub, 1) := by decide +kernel
theorem d_X_takeOne_67 : decode b_X_takeOne 67 = .ok (.iaload, 1) := by decide +kernel
theorem d_X_takeOne_68 : decode b_X_takeOne 68 = .ok (.goto 4, 3) := by decide +kernel
theorem d_X_takeOne_71 : decode b_X_takeOne 71 = .ok (.iconst (-1), 1) := by decide +kernel
theorem d_X_takeOne_72 : decode b_X_takeOne 72 = .ok (.iastore, 1) := by decide +kernel
theorem d_X_takeOne_73 : decode b_X_takeOne 73 = .ok (.iinc 5 (-1), 3) := by decide +kernel
theorem d_X_takeOne_76 : decode b_X_takeOne 76 = .ok (.goto (-73), 3) := by decide +kernel
theorem d_X_takeOne_79 : decode b_X_takeOne 79 = .ok (.aload_n 0, 1) := by decide +kernel
theorem d_X_takeOne_80 : decode b_X_takeOne 80 = .ok (.getfield 27, 3) := by decide +kernel
theorem d_X_takeOne_83 : decode b_X_takeOne 83 = .ok (.iload_n 1, 1) := by decide +kernel
theorem d_X_takeOne_84 : decode b_X_takeOne 84 = .ok (.iconst (-1), 1) := by decide +kernel
theorem d_X_takeOne_85 : decode b_X_takeOne 85 = .ok (.iastore, 1) := by decide +kernel
theorem d_X_takeOne_86 : decode b_X_takeOne 86 = .ok (.return_, 1) := by decide +kernel
theorem d_X_fits_0 : decode b_X_fits 0 = .ok (.iload_n 3, 1) := by decide +kernel
theorem d_X_fits_1 : decode b_X_fits 1 = .ok (.iconst (-1), 1) := by decide +kernel
theorem d_X_fits_2 : decode b_X_fits 2 = .ok (.if_icmp .eq 36, 3) := by decide +kernel
theorem d_X_fits_5 : decode b_X_fits 5 = .ok (.aload_n 0, 1) := by decide +kernel
theorem d_X_fits_6 : decode b_X_fits 6 = .ok (.iload_n 2, 1) := by decide +kernel
theorem d_X_fits_7 : decode b_X_fits 7 = .ok (.iconst 1, 1) := by decide +kernel
theorem d_X_fits_8 : decode b_X_fits 8 = .ok (.iadd, 1) := by decide +kernel
theorem d_X_fits_9 : decode b_X_fits 9 = .ok (.bipush 33, 2) := by decide +kernel
theorem d_X_fits_11 : decode b_X_fits 11 = .ok (.invokevirtual 56, 3) := by decide +kernel
theorem d_X_fits_14 : decode b_X_fits 14 = .ok (.istore 4, 2) := by decide +kernel
theorem d_X_fits_16 : decode b_X_fits 16 = .ok (.aload_n 0, 1) := by decide +kernel
theorem d_X_fits_17 : decode b_X_fits 17 = .ok (.iload_n 1, 1) := by decide +kernel
theorem d_X_fits_18 : decode b_X_fits 18 = .ok (.aload_n 0, 1) := by decide +kernel
theorem d_X_fits_19 : decode b_X_fits 19 = .ok (.iload_n 2, 1) := by decide +kernel
theorem d_X_fits_20 : decode b_X_fits 20 = .ok (.invokevirtual 107, 3) := by decide +kernel
theorem d_X_fits_23 : decode b_X_fits 23 = .ok (.iload_n 3, 1) := by decide +kernel
theorem d_X_fits_24 : decode b_X_fits 24 = .ok (.invokevirtual 110, 3) := by decide +kernel
theorem d_X_fits_27 : decode b_X_fits 27 = .ok (.iload 4, 2) := by decide +kernel
theorem d_X_fits_29 : decode b_X_fits 29 = .ok (.if_icmp .eq 7, 3) := by decide +kernel
theorem d_X_fits_32 : decode b_X_fits 32 = .ok (.iconst 1, 1) := by decide +kernel
theorem d_X_fits_33 : decode b_X_fits 33 = .ok (.goto 4, 3) := by decide +kernel
theorem d_X_fits_36 : decode b_X_fits 36 = .ok (.iconst 0, 1) := by decide +kernel
theorem d_X_fits_37 : decode b_X_fits 37 = .ok (.ireturn, 1) := by decide +kernel
theorem d_X_fits_38 : decode b_X_fits 38 = .ok (.aload_n 0, 1) := by decide +kernel
theorem d_X_fits_39 : decode b_X_fits 39 = .ok (.iload_n 2, 1) := by decide +kernel
theorem d_X_fits_40 : decode b_X_fits 40 = .ok (.bipush 63, 2) := by decide +kernel
theorem d_X_fits_42 : decode b_X_fits 42 = .ok (.invokevirtual 56, 3) := by decide +kernel
theorem d_X_fits_45 : decode b_X_fits 45 = .ok (.ifCond .ne 13, 3) := by decide +kernel
theorem d_X_fits_48 : decode b_X_fits 48 = .ok (.aload_n 0, 1) := by decide +kernel
theorem d_X_fits_49 : decode b_X_fits 49 = .ok (.getfield 17, 3) := by decide +kernel
theorem d_X_fits_52 : decode b_X_fits 52 = .ok (.iload_n 2, 1) := by decide +kernel
theorem d_X_fits_53 : decode b_X_fits 53 = .ok (.iaload, 1) := by decide +kernel
theorem d_X_fits_54 : decode b_X_fits 54 = .ok (.iload_n 1, 1) := by decide +kernel
theorem d_X_fits_55 : decode b_X_fits 55 = .ok (.if_icmp .ne 7, 3) := by decide +kernel
theorem d_X_fits_58 : decode b_X_fits 58 = .ok (.iconst 1, 1) := by decide +kernel
theorem d_X_fits_59 : decode b_X_fits 59 = .ok (.goto 4, 3) := by decide +kernel
theorem d_X_fits_62 : decode b_X_fits 62 = .ok (.iconst 0, 1) := by decide +kernel
theorem d_X_fits_63 : decode b_X_fits 63 = .ok (.ireturn, 1) := by decide +kernel
theorem d_X_closeOf_0 : decode b_X_closeOf 0 = .ok (.aload_n 0, 1) := by decide +kernel
theorem d_X_closeOf_1 : decode b_X_closeOf 1 = .ok (.iload_n 1, 1) := by decide +kernel
theorem d_X_closeOf_2 : decode b_X_closeOf 2 = .ok (.bipush 91, 2) := by decide +kernel
theorem d_X_closeOf_4 : decode b_X_closeOf 4 = .ok (.invokevirtual 56, 3) := by decide +kernel
theorem d_X_closeOf_7 : decode b_X_closeOf 7 = .ok (.ifCond .ne 5, 3) := by decide +kernel
theorem d_X_closeOf_10 : decode b_X_closeOf 10 = .ok (.iconst (-1), 1) := by decide +kernel
theorem d_X_closeOf_11 : decode b_X_closeOf 11 = .ok (.ireturn, 1) := by decide +kernel
theorem d_X_closeOf_12 : decode b_X_closeOf 12 = .ok (.aload_n 0, 1) := by decide +kernel
theorem d_X_closeOf_13 : decode b_X_closeOf 13 = .ok (.iload_n 1, 1) := by decide +kernel
theorem d_X_closeOf_14 : decode b_X_closeOf 14 = .ok (.invokevirtual 107, 3) := by decide +kernel
theorem d_X_closeOf_17 : decode b_X_closeOf 17 = .ok (.iconst 1, 1) := by decide +kernel
theorem d_X_closeOf_18 : decode b_X_closeOf 18 = .ok (.iadd, 1) := by decide +kernel
theorem d_X_closeOf_19 : decode b_X_closeOf 19 = .ok (.istore_n 2, 1) := by decide +kernel
theorem d_X_closeOf_20 : decode b_X_closeOf 20 = .ok (.iload_n 2, 1) := by decide +kernel
theorem d_X_closeOf_21 : decode b_X_closeOf 21 = .ok (.aload_n 0, 1) := by decide +kernel
theorem d_X_closeOf_22 : decode b_X_closeOf 22 = .ok (.getfield 24, 3) := by decide +kernel
theorem d_X_closeOf_25 : decode b_X_closeOf 25 = .ok (.if_icmp .ge 21, 3) := by decide +kernel
theorem d_X_closeOf_28 : decode b_X_closeOf 28 = .ok (.aload_n 0, 1) := by decide +kernel
theorem d_X_closeOf_29 : decode b_X_closeOf 29 = .ok (.iload_n 2, 1) := by decide +kernel
theorem d_X_closeOf_30 : decode b_X_closeOf 30 = .ok (.bipush 93, 2) := by decide +kernel
theorem d_X_closeOf_32 : decode b_X_closeOf 32 = .ok (.invokevirtual 56, 3) := by decide +kernel
theorem d_X_closeOf_35 : decode b_X_closeOf 35 = .ok (.ifCond .eq 5, 3) := by decide +kernel
theorem d_X_closeOf_38 : decode b_X_closeOf 38 = .ok (.iload_n 2, 1) := by decide +kernel
theorem d_X_closeOf_39 : decode b_X_closeOf 39 = .ok (.ireturn, 1) := by decide +kernel
theorem d_X_closeOf_40 : decode b_X_closeOf 40 = .ok (.iinc 2 1, 3) := by decide +kernel
theorem d_X_closeOf_43 : decode b_X_closeOf 43 = .ok (.goto (-23), 3) := by decide +kernel
theorem d_X_closeOf_46 : decode b_X_closeOf 46 = .ok (.iconst (-1), 1) := by decide +kernel
theorem d_X_closeOf_47 : decode b_X_closeOf 47 = .ok (.ireturn, 1) := by decide +kernel
theorem d_X_firstMember_0 : decode b_X_firstMember 0 = .ok (.aload_n 0, 1) := by decide +kernel
theorem d_X_firstMember_1 : decode b_X_firstMember 1 = .ok (.iload_n 1, 1) := by decide +kernel
theorem d_X_firstMember_2 : decode b_X_firstMember 2 = .ok (.iconst 1, 1) := by decide +kernel
theorem d_X_firstMember_3 : decode b_X_firstMember 3 = .ok (.iadd, 1) := by decide +kernel
theorem d_X_firstMember_4 : decode b_X_firstMember 4 = .ok (.bipush 33, 2) := by decide +kernel
theorem d_X_firstMember_6 : decode b_X_firstMember 6 = .ok (.invokevirtual 56, 3) := by decide +kernel
theorem d_X_firstMember_9 : decode b_X_firstMember 9 = .ok (.ifCond .eq 9, 3) := by decide +kernel
theorem d_X_firstMember_12 : decode b_X_firstMember 12 = .ok (.iload_n 1, 1) := by decide +kernel
theorem d_X_firstMember_13 : decode b_X_firstMember 13 = .ok (.iconst 2, 1) := by decide +kernel
theorem d_X_firstMember_14 : decode b_X_firstMember 14 = .ok (.iadd, 1) := by decide +kernel
theorem d_X_firstMember_15 : decode b_X_firstMember 15 = .ok (.goto 6, 3) := by decide +kernel
theorem d_X_firstMember_18 : decode b_X_firstMember 18 = .ok (.iload_n 1, 1) := by decide +kernel
theorem d_X_firstMember_19 : decode b_X_firstMember 19 = .ok (.iconst 1, 1) := by decide +kernel
theorem d_X_firstMember_20 : decode b_X_firstMember 20 = .ok (.iadd, 1) := by decide +kernel
theorem d_X_firstMember_21 : decode b_X_firstMember 21 = .ok (.ireturn, 1) := by decide +kernel
theorem d_X_isMember_0 : decode b_X_isMember 0 = .ok (.iload_n 2, 1) := by decide +kernel
theorem d_X_isMember_1 : decode b_X_isMember 1 = .ok (.istore 4, 2) := by decide +kernel
theorem d_X_isMember_3 : decode b_X_isMember 3 = .ok (.iload 4, 2) := by decide +kernel
theorem d_X_isMember_5 : decode b_X_isMember 5 = .ok (.iload_n 3, 1) := by decide +kernel
theorem d_X_isMember_6 : decode b_X_isMember 6 = .ok (.if_icmp .ge 80, 3) := by decide +kernel
theorem d_X_isMember_9 : decode b_X_isMember 9 = .ok (.iload 4, 2) := by decide +kernel
theorem d_X_isMember_11 : decode b_X_isMember 11 = .ok (.iconst 2, 1) := by decide +kernel
theorem d_X_isMember_12 : decode b_X_isMember 12 = .ok (.iadd, 1) := by decide +kernel
theorem d_X_isMember_13 : decode b_X_isMember 13 = .ok (.iload_n 3, 1) := by decide +kernel
theorem d_X_isMember_14 : decode b_X_isMember 14 = .ok (.if_icmp .ge 20, 3) := by decide +kernel
theorem d_X_isMember_17 : decode b_X_isMember 17 = .ok (.aload_n 0, 1) := by decide +kernel
theorem d_X_isMember_18 : decode b_X_isMember 18 = .ok (.iload 4, 2) := by decide +kernel
theorem d_X_isMember_20 : decode b_X_isMember 20 = .ok (.iconst 1, 1) := by decide +kernel
theorem d_X_isMember_21 : decode b_X_isMember 21 = .ok (.iadd, 1) := by decide +kernel
theorem d_X_isMember_22 : decode b_X_isMember 22 = .ok (.bipush 45, 2) := by decide +kernel
theorem d_X_isMember_24 : decode b_X_isMember 24 = .ok (.invokevirtual 56, 3) := by decide +kernel
theorem d_X_isMember_27 : decode b_X_isMember 27 = .ok (.ifCond .eq 7, 3) := by decide +kernel
theorem d_X_isMember_30 : decode b_X_isMember 30 = .ok (.iconst 1, 1) := by decide +kernel
theorem d_X_isMember_31 : decode b_X_isMember 31 = .ok (.goto 4, 3) := by decide +kernel
theorem d_X_isMember_34 : decode b_X_isMember 34 = .ok (.iconst 0, 1) := by decide +kernel
theorem d_X_isMember_35 : decode b_X_isMember 35 = .ok (.istore 5, 2) := by decide +kernel
theorem d_X_isMember_37 : decode b_X_isMember 37 = .ok (.iload 5, 2) := by decide +kernel
theorem d_X_isMember_39 : decode b_X_isMember 39 = .ok (.ifCond .eq 10, 3) := by decide +kernel
theorem d_X_isMember_42 : decode b_X_isMember 42 = .ok (.iload 4, 2) := by decide +kernel
theorem d_X_isMember_44 : decode b_X_isMember 44 = .ok (.iconst 2, 1) := by decide +kernel
theorem d_X_isMember_45 : decode b_X_isMember 45 = .ok (.iadd, 1) := by decide +kernel
theorem d_X_isMember_46 : decode b_X_isMember 46 = .ok (.goto 5, 3) := by decide +kernel
theorem d_X_isMember_49 : decode b_X_isMember 49 = .ok (.iload 4, 2) := by decide +kernel
theorem d_X_isMember_51 : decode b_X_isMember 51 = .ok (.istore 6, 2) := by decide +kernel
theorem d_X_isMember_53 : decode b_X_isMember 53 = .ok (.iload_n 1, 1) := by decide +kernel
theorem d_X_isMember_54 : decode b_X_isMember 54 = .ok (.aload_n 0, 1) := by decide +kernel
theorem d_X_isMember_55 : decode b_X_isMember 55 = .ok (.getfield 17, 3) := by decide +kernel
theorem d_X_isMember_58 : decode b_X_isMember 58 = .ok (.iload 4, 2) := by decide +kernel
theorem d_X_isMember_60 : decode b_X_isMember 60 = .ok (.iaload, 1) := by decide +kernel
theorem d_X_isMember_61 : decode b_X_isMember 61 = .ok (.if_icmp .lt 16, 3) := by decide +kernel
theorem d_X_isMember_64 : decode b_X_isMember 64 = .ok (.iload_n 1, 1) := by decide +kernel
theorem d_X_isMember_65 : decode b_X_isMember 65 = .ok (.aload_n 0, 1) := by decide +kernel
theorem d_X_isMember_66 : decode b_X_isMember 66 = .ok (.getfield 17, 3) := by decide +kernel
theorem d_X_isMember_69 : decode b_X_isMember 69 = .ok (.iload 6, 2) := by decide +kernel
theorem d_X_isMember_71 : decode b_X_isMember 71 = .ok (.iaload, 1) := by decide +kernel
theorem d_X_isMember_72 : decode b_X_isMember 72 = .ok (.if_icmp .gt 5, 3) := by decide +kernel
theorem d_X_isMember_75 : decode b_X_isMember 75 = .ok (.iconst 1, 1) := by decide +kernel
theorem d_X_isMember_76 : decode b_X_isMember 76 = .ok (.ireturn, 1) := by decide +kernel
theorem d_X_isMember_77 : decode b_X_isMember 77 = .ok (.iload 6, 2) := by decide +kernel
theorem d_X_isMember_79 : decode b_X_isMember 79 = .ok (.iconst 1, 1) := by decide +kernel
theorem d_X_isMember_80 : decode b_X_isMember 80 = .ok (.iadd, 1) := by decide +kernel
theorem d_X_isMember_81 : decode b_X_isMember 81 = .ok (.istore 4, 2) := by decide +kernel
theorem d_X_isMember_83 : decode b_X_isMember 83 = .ok (.goto (-80), 3) := by decide +kernel
theorem d_X_isMember_86 : decode b_X_isMember 86 = .ok (.iconst 0, 1) := by decide +kernel
theorem d_X_isMember_87 : decode b_X_isMember 87 = .ok (.ireturn, 1) := by decide +kernel
theorem d_X_isUnquoted_0 : decode b_X_isUnquoted 0 = .ok (.iload_n 1, 1) := by decide +kernel
theorem d_X_isUnquoted_1 : decode b_X_isUnquoted 1 = .ok (.ifCond .lt 34, 3) := by decide +kernel
theorem d_X_isUnquoted_4 : decode b_X_isUnquoted 4 = .ok (.iload_n 1, 1) := by decide +kernel
theorem d_X_isUnquoted_5 : decode b_X_isUnquoted 5 = .ok (.aload_n 0, 1) := by decide +kernel
theorem d_X_isUnquoted_6 : decode b_X_isUnquoted 6 = .ok (.getfield 24, 3) := by decide +kernel
theorem d_X_isUnquoted_9 : decode b_X_isUnquoted 9 = .ok (.if_icmp .ge 26, 3) := by decide +kernel
theorem d_X_isUnquoted_12 : decode b_X_isUnquoted 12 = .ok (.aload_n 0, 1) := by decide +kernel
theorem d_X_isUnquoted_13 : decode b_X_isUnquoted 13 = .ok (.getfield 20, 3) := by decide +kernel
theorem d_X_isUnquoted_16 : decode b_X_isUnquoted 16 = .ok (.iload_n 1, 1) := by decide +kernel
theorem d_X_isUnquoted_17 : decode b_X_isUnquoted 17 = .ok (.baload, 1) := by decide +kernel
theorem d_X_isUnquoted_18 : decode b_X_isUnquoted 18 = .ok (.ifCond .ne 17, 3) := by decide +kernel
theorem d_X_isUnquoted_21 : decode b_X_isUnquoted 21 = .ok (.aload_n 0, 1) := by decide +kernel
theorem d_X_isUnquoted_22 : decode b_X_isUnquoted 22 = .ok (.getfield 17, 3) := by decide +kernel
theorem d_X_isUnquoted_25 : decode b_X_isUnquoted 25 = .ok (.iload_n 1, 1) := by decide +kernel
theorem d_X_isUnquoted_26 : decode b_X_isUnquoted 26 = .ok (.iaload, 1) := by decide +kernel
theorem d_X_isUnquoted_27 : decode b_X_isUnquoted 27 = .ok (.iload_n 2, 1) := by decide +kernel
theorem d_X_isUnquoted_28 : decode b_X_isUnquoted 28 = .ok (.if_icmp .ne 7, 3) := by decide +kernel
theorem d_X_isUnquoted_31 : decode b_X_isUnquoted 31 = .ok (.iconst 1, 1) := by decide +kernel
theorem d_X_isUnquoted_32 : decode b_X_isUnquoted 32 = .ok (.goto 4, 3) := by decide +kernel
theorem d_X_isUnquoted_35 : decode b_X_isUnquoted 35 = .ok (.iconst 0, 1) := by decide +kernel
theorem d_X_isUnquoted_36 : decode b_X_isUnquoted 36 = .ok (.ireturn, 1) := by decide +kernel
theorem d_M_init_0 : decode b_M_init 0 = .ok (.aload_n 0, 1) := by decide +kernel
theorem d_M_init_1 : decode b_M_init 1 = .ok (.invokespecial 1, 3) := by decide +kernel
theorem d_M_init_4 : decode b_M_init 4 = .ok (.aload_n 0, 1) := by decide +kernel
theorem d_M_init_5 : decode b_M_init 5 = .ok (.sipush 400, 3) := by decide +kernel
theorem d_M_init_8 : decode b_M_init 8 = .ok (.newarray .int, 2) := by decide +kernel
theorem d_M_init_10 : decode b_M_init 10 = .ok (.putfield 7, 3) := by decide +kernel
theorem d_M_init_13 : decode b_M_init 13 = .ok (.aload_n 0, 1) := by decide +kernel
theorem d_M_init_14 : decode b_M_init 14 = .ok (.sipush 200, 3) := by decide +kernel
theorem d_M_init_17 : decode b_M_init 17 = .ok (.newarray .int, 2) := by decide +kernel
theorem d_M_init_19 : decode b_M_init 19 = .ok (.putfield 13, 3) := by decide +kernel
theorem d_M_init_22 : decode b_M_init 22 = .ok (.aload_n 0, 1) := by decide +kernel
theorem d_M_init_23 : decode b_M_init 23 = .ok (.sipush 200, 3) := by decide +kernel
theorem d_M_init_26 : decode b_M_init 26 = .ok (.newarray .boolean, 2) := by decide +kernel
theorem d_M_init_28 : decode b_M_init 28 = .ok (.putfield 16, 3) := by decide +kernel
theorem d_M_init_31 : decode b_M_init 31 = .ok (.aload_n 0, 1) := by decide +kernel
theorem d_M_init_32 : decode b_M_init 32 = .ok (.sipush 401, 3) := by decide +kernel
theorem d_M_init_35 : decode b_M_init 35 = .ok (.newarray .boolean, 2) := by decide +kernel
theorem d_M_init_37 : decode b_M_init 37 = .ok (.putfield 20, 3) := by decide +kernel
theorem d_M_init_40 : decode b_M_init 40 = .ok (.aload_n 0, 1) := by decide +kernel
theorem d_M_init_41 : decode b_M_init 41 = .ok (.sipush 401, 3) := by decide +kernel
theorem d_M_init_44 : decode b_M_init 44 = .ok (.newarray .boolean, 2) := by decide +kernel
theorem d_M_init_46 : decode b_M_init 46 = .ok (.putfield 23, 3) := by decide +kernel
theorem d_M_init_49 : decode b_M_init 49 = .ok (.return_, 1) := by decide +kernel
theorem d_M_thrown_0 : decode b_M_thrown 0 = .ok (.aload_n 0, 1) := by decide +kernel
theorem d_M_thrown_1 : decode b_M_thrown 1 = .ok (.getfield 26, 3) := by decide +kernel
theorem d_M_thrown_4 : decode b_M_thrown 4 = .ok (.ireturn, 1) := by decide +kernel
theorem d_M_text_0 : decode b_M_text 0 = .ok (.aload_n 0, 1) := by decide +kernel
theorem d_M_text_1 : decode b_M_text 1 = .ok (.iconst 0, 1) := by decide +kernel
theorem d_M_text_2 : decode b_M_text 2 = .ok (.putfield 26, 3) := by decide +kernel
theorem d_M_text_5 : decode b_M_text 5 = .ok (.iload_n 3, 1) := by decide +kernel
theorem d_M_text_6 : decode b_M_text 6 = .ok (.ifCond .lt 21, 3) := by decide +kernel
theorem d_M_text_9 : decode b_M_text 9 = .ok (.iload_n 3, 1) := by decide +kernel
theorem d_M_text_10 : decode b_M_text 10 = .ok (.bipush 8, 2) := by decide +kernel
theorem d_M_text_12 : decode b_M_text 12 = .ok (.if_icmp .gt 15, 3) := by decide +kernel
theorem d_M_text_15 : decode b_M_text 15 = .ok (.aload_n 0, 1) := by decide +kernel
theorem d_M_text_16 : decode b_M_text 16 = .ok (.getfield 30, 3) := by decide +kernel
theorem d_M_text_19 : decode b_M_text 19 = .ok (.iload_n 3, 1) := by decide +kernel
theorem d_M_text_20 : decode b_M_text 20 = .ok (.iadd, 1) := by decide +kernel
theorem d_M_text_21 : decode b_M_text 21 = .ok (.sipush 400, 3) := by decide +kernel
theorem d_M_text_24 : decode b_M_text 24 = .ok (.if_icmp .le 5, 3) := by decide +kernel
theorem d_M_text_27 : decode b_M_text 27 = .ok (.iconst (-1), 1) := by decide +kernel
theorem d_M_text_28 : decode b_M_text 28 = .ok (.ireturn, 1) := by decide +kernel
theorem d_M_text_29 : decode b_M_text 29 = .ok (.iconst 0, 1) := by decide +kernel
theorem d_M_text_30 : decode b_M_text 30 = .ok (.istore 4, 2) := by decide +kernel
theorem d_M_text_32 : decode b_M_text 32 = .ok (.iload 4, 2) := by decide +kernel
theorem d_M_text_34 : decode b_M_text 34 = .ok (.iload_n 3, 1) := by decide +kernel
theorem d_M_text_35 : decode b_M_text 35 = .ok (.if_icmp .ge 37, 3) := by decide +kernel
theorem d_M_text_38 : decode b_M_text 38 = .ok (.aload_n 0, 1) := by decide +kernel
theorem d_M_text_39 : decode b_M_text 39 = .ok (.getfield 7, 3) := by decide +kernel
theorem d_M_text_42 : decode b_M_text 42 = .ok (.aload_n 0, 1) := by decide +kernel
theorem d_M_text_43 : decode b_M_text 43 = .ok (.getfield 30, 3) := by decide +kernel
theorem d_M_text_46 : decode b_M_text 46 = .ok (.iload 4, 2) := by decide +kernel
theorem d_M_text_48 : decode b_M_text 48 = .ok (.iadd, 1) := by decide +kernel
theorem d_M_text_49 : decode b_M_text 49 = .ok (.lload_n 1, 1) := by decide +kernel
theorem d_M_text_50 : decode b_M_text 50 = .ok (.bipush 8, 2) := by decide +kernel
theorem d_M_text_52 : decode b_M_text 52 = .ok (.iload_n 3, 1) := by decide +kernel
theorem d_M_text_53 : decode b_M_text 53 = .ok (.iconst 1, 1) := by decide +kernel
theorem d_M_text_54 : decode b_M_text 54 = .ok (.isub, 1) := by decide +kernel
theorem d_M_text_55 : decode b_M_text 55 = .ok (.iload 4, 2) := by decide +kernel
theorem d_M_text_57 : decode b_M_text 57 = .ok (.isub, 1) := by decide +kernel
theorem d_M_text_58 : decode b_M_text 58 = .ok (.imul, 1) := by decide +kernel
theorem d_M_text_59 : decode b_M_text 59 = .ok (.lshr, 1) := by decide +kernel
theorem d_M_text_60 : decode b_M_text 60 = .ok (.ldc2_w 33, 3) := by decide +kernel
theorem d_M_text_63 : decode b_M_text 63 = .ok (.land, 1) := by decide +kernel
theorem d_M_text_64 : decode b_M_text 64 = .ok (.l2i, 1) := by decide +kernel
theorem d_M_text_65 : decode b_M_text 65 = .ok (.iastore, 1) := by decide +kernel
theorem d_M_text_66 : decode b_M_text 66 = .ok (.iinc 4 1, 3) := by decide +kernel
theorem d_M_text_69 : decode b_M_text 69 = .ok (.goto (-37), 3) := by decide +kernel
theorem d_M_text_72 : decode b_M_text 72 = .ok (.aload_n 0, 1) := by decide +kernel
theorem d_M_text_73 : decode b_M_text 73 = .ok (.dup, 1) := by decide +kernel
theorem d_M_text_74 : decode b_M_text 74 = .ok (.getfield 30, 3) := by decide +kernel
theorem d_M_text_77 : decode b_M_text 77 = .ok (.iload_n 3, 1) := by decide +kernel
theorem d_M_text_78 : decode b_M_text 78 = .ok (.iadd, 1) := by decide +kernel
theorem d_M_text_79 : decode b_M_text 79 = .ok (.putfield 30, 3) := by decide +kernel
theorem d_M_text_82 : decode b_M_text 82 = .ok (.aload_n 0, 1) := by decide +kernel
theorem d_M_text_83 : decode b_M_text 83 = .ok (.getfield 30, 3) := by decide +kernel
theorem d_M_text_86 : decode b_M_text 86 = .ok (.ireturn, 1) := by decide +kernel
theorem d_M_pattern_0 : decode b_M_pattern 0 = .ok (.aload_n 0, 1) := by decide +kernel
theorem d_M_pattern_1 : decode b_M_pattern 1 = .ok (.iconst 0, 1) := by decide +kernel
theorem d_M_pattern_2 : decode b_M_pattern 2 = .ok (.putfield 26, 3) := by decide +kernel
theorem d_M_pattern_5 : decode b_M_pattern 5 = .ok (.iload_n 3, 1) := by decide +kernel
theorem d_M_pattern_6 : decode b_M_pattern 6 = .ok (.ifCond .lt 21, 3) := by decide +kernel
theorem d_M_pattern_9 : decode b_M_pattern 9 = .ok (.iload_n 3, 1) := by decide +kernel
theorem d_M_pattern_10 : decode b_M_pattern 10 = .ok (.bipush 8, 2) := by decide +kernel
theorem d_M_pattern_12 : decode b_M_pattern 12 = .ok (.if_icmp .gt 15, 3) := by decide +kernel
theorem d_M_pattern_15 : decode b_M_pattern 15 = .ok (.aload_n 0, 1) := by decide +kernel
theorem d_M_pattern_16 : decode b_M_pattern 16 = .ok (.getfield 35, 3) := by decide +kernel
theorem d_M_pattern_19 : decode b_M_pattern 19 = .ok (.iload_n 3, 1) := by decide +kernel
theorem d_M_pattern_20 : decode b_M_pattern 20 = .ok (.iadd, 1) := by decide +kernel
theorem d_M_pattern_21 : decode b_M_pattern 21 = .ok (.sipush 200, 3) := by decide +kernel
theorem d_M_pattern_24 : decode b_M_pattern 24 = .ok (.if_icmp .le 5, 3) := by decide +kernel
theorem d_M_pattern_27 : decode b_M_pattern 27 = .ok (.iconst (-1), 1) := by decide +kernel
theorem d_M_pattern_28 : decode b_M_pattern 28 = .ok (.ireturn, 1) := by decide +kernel
theorem d_M_pattern_29 : decode b_M_pattern 29 = .ok (.iconst 0, 1) := by decide +kernel
theorem d_M_pattern_30 : decode b_M_pattern 30 = .ok (.istore 5, 2) := by decide +kernel
theorem d_M_pattern_32 : decode b_M_pattern 32 = .ok (.iload 5, 2) := by decide +kernel
theorem d_M_pattern_34 : decode b_M_pattern 34 = .ok (.iload_n 3, 1) := by decide +kernel
theorem d_M_pattern_35 : decode b_M_pattern 35 = .ok (.if_icmp .ge 65, 3) := by decide +kernel
theorem d_M_pattern_38 : decode b_M_pattern 38 = .ok (.aload_n 0, 1) := by decide +kernel
theorem d_M_pattern_39 : decode b_M_pattern 39 = .ok (.getfield 13, 3) := by decide +kernel
theorem d_M_pattern_42 : decode b_M_pattern 42 = .ok (.aload_n 0, 1) := by decide +kernel
theorem d_M_pattern_43 : decode b_M_pattern 43 = .ok (.getfield 35, 3) := by decide +kernel
theorem d_M_pattern_46 : decode b_M_pattern 46 = .ok (.iload 5, 2) := by decide +kernel
theorem d_M_pattern_48 : decode b_M_pattern 48 = .ok (.iadd, 1) := by decide +kernel
theorem d_M_pattern_49 : decode b_M_pattern 49 = .ok (.lload_n 1, 1) := by decide +kernel
theorem d_M_pattern_50 : decode b_M_pattern 50 = .ok (.bipush 8, 2) := by decide +kernel
theorem d_M_pattern_52 : decode b_M_pattern 52 = .ok (.iload_n 3, 1) := by decide +kernel
theorem d_M_pattern_53 : decode b_M_pattern 53 = .ok (.iconst 1, 1) := by decide +kernel
theorem d_M_pattern_54 : decode b_M_pattern 54 = .ok (.isub, 1) := by decide +kernel
theorem d_M_pattern_55 : decode b_M_pattern 55 = .ok (.iload 5, 2) := by decide +kernel
theorem d_M_pattern_57 : decode b_M_pattern 57 = .ok (.isub, 1) := by decide +kernel
theorem d_M_pattern_58 : decode b_M_pattern 58 = .ok (.imul, 1) := by decide +kernel
theorem d_M_pattern_59 : decode b_M_pattern 59 = .ok (.lshr, 1) := by decide +kernel
theorem d_M_pattern_60 : decode b_M_pattern 60 = .ok (.ldc2_w 33, 3) := by decide +kernel
theorem d_M_pattern_63 : decode b_M_pattern 63 = .ok (.land, 1) := by decide +kernel
theorem d_M_pattern_64 : decode b_M_pattern 64 = .ok (.l2i, 1) := by decide +kernel
theorem d_M_pattern_65 : decode b_M_pattern 65 = .ok (.iastore, 1) := by decide +kernel
theorem d_M_pattern_66 : decode b_M_pattern 66 = .ok (.aload_n 0, 1) := by decide +kernel
theorem d_M_pattern_67 : decode b_M_pattern 67 = .ok (.getfield 16, 3) := by decide +kernel
theorem d_M_pattern_70 : decode b_M_pattern 70 = .ok (.aload_n 0, 1) := by decide +kernel
theorem d_M_pattern_71 : decode b_M_pattern 71 = .ok (.getfield 35, 3) := by decide +kernel
theorem d_M_pattern_74 : decode b_M_pattern 74 = .ok (.iload 5, 2) := by decide +kernel
theorem d_M_pattern_76 : decode b_M_pattern 76 = .ok (.iadd, 1) := by decide +kernel
theorem d_M_pattern_77 : decode b_M_pattern 77 = .ok (.iload 4, 2) := by decide +kernel
theorem d_M_pattern_79 : decode b_M_pattern 79 = .ok (.iload 5, 2) := by decide +kernel
theorem d_M_pattern_81 : decode b_M_pattern 81 = .ok (.ishr, 1) := by decide +kernel
theorem d_M_pattern_82 : decode b_M_pattern 82 = .ok (.iconst 1, 1) := by decide +kernel
theorem d_M_pattern_83 : decode b_M_pattern 83 = .ok (.iand, 1) := by decide +kernel
theorem d_M_pattern_84 : decode b_M_pattern 84 = .ok (.iconst 1, 1) := by decide +kernel
theorem d_M_pattern_85 : decode b_M_pattern 85 = .ok (.if_icmp .ne 7, 3) := by decide +kernel
theorem d_M_pattern_88 : decode b_M_pattern 88 = .ok (.iconst 1, 1) := by decide +kernel
theorem d_M_pattern_89 : decode b_M_pattern 89 = .ok (.goto 4, 3) := by decide +kernel
theorem d_M_pattern_92 : decode b_M_pattern 92 = .ok (.iconst 0, 1) := by decide +kernel
theorem d_M_pattern_93 : decode b_M_pattern 93 = .ok (.bastore, 1) := by decide +kernel
theorem d_M_pattern_94 : decode b_M_pattern 94 = .ok (.iinc 5 1, 3) := by decide +kernel
theorem d_M_pattern_97 : decode b_M_pattern 97 = .ok (.goto (-65), 3) := by decide +kernel
theorem d_M_pattern_100 : decode b_M_pattern 100 = .ok (.aload_n 0, 1) := by decide +kernel
theorem d_M_pattern_101 : decode b_M_pattern 101 = .ok (.dup, 1) := by decide +kernel
theorem d_M_pattern_102 : decode b_M_pattern 102 = .ok (.getfield 35, 3) := by decide +kernel
theorem d_M_pattern_105 : decode b_M_pattern 105 = .ok (.iload_n 3, 1) := by decide +kernel
theorem d_M_pattern_106 : decode b_M_pattern 106 = .ok (.iadd, 1) := by decide +kernel
theorem d_M_pattern_107 : decode b_M_pattern 107 = .ok (.putfield 35, 3) := by decide +kernel
theorem d_M_pattern_110 : decode b_M_pattern 110 = .ok (.aload_n 0, 1) := by decide +kernel
theorem d_M_pattern_111 : decode b_M_pattern 111 = .ok (.getfield 35, 3) := by decide +kernel
theorem d_M_pattern_114 : decode b_M_pattern 114 = .ok (.ireturn, 1) := by decide +kernel
theorem d_M_clear_0 : decode b_M_clear 0 = .ok (.aload_n 0, 1) := by decide +kernel
theorem d_M_clear_1 : decode b_M_clear 1 = .ok (.iconst 0, 1) := by decide +kernel
theorem d_M_clear_2 : decode b_M_clear 2 = .ok (.putfield 26, 3) := by decide +kernel
theorem d_M_clear_5 : decode b_M_clear 5 = .ok (.aload_n 0, 1) := by decide +kernel
theorem d_M_clear_6 : decode b_M_clear 6 = .ok (.getfield 30, 3) := by decide +kernel
theorem d_M_clear_9 : decode b_M_clear 9 = .ok (.istore_n 1, 1) := by decide +kernel
theorem d_M_clear_10 : decode b_M_clear 10 = .ok (.aload_n 0, 1) := by decide +kernel
theorem d_M_clear_11 : decode b_M_clear 11 = .ok (.iconst 0, 1) := by decide +kernel
theorem d_M_clear_12 : decode b_M_clear 12 = .ok (.putfield 30, 3) := by decide +kernel
theorem d_M_clear_15 : decode b_M_clear 15 = .ok (.aload_n 0, 1) := by decide +kernel
theorem d_M_clear_16 : decode b_M_clear 16 = .ok (.iconst 0, 1) := by decide +kernel
theorem d_M_clear_17 : decode b_M_clear 17 = .ok (.putfield 35, 3) := by decide +kernel
theorem d_M_clear_20 : decode b_M_clear 20 = .ok (.iload_n 1, 1) := by decide +kernel
theorem d_M_clear_21 : decode b_M_clear 21 = .ok (.ireturn, 1) := by decide +kernel
theorem d_M_is_0 : decode b_M_is 0 = .ok (.iload_n 1, 1) := by decide +kernel
theorem d_M_is_1 : decode b_M_is 1 = .ok (.aload_n 0, 1) := by decide +kernel
theorem d_M_is_2 : decode b_M_is 2 = .ok (.getfield 35, 3) := by decide +kernel
theorem d_M_is_5 : decode b_M_is 5 = .ok (.if_icmp .ge 26, 3) := by decide +kernel
theorem d_M_is_8 : decode b_M_is 8 = .ok (.aload_n 0, 1) := by decide +kernel
theorem d_M_is_9 : decode b_M_is 9 = .ok (.getfield 16, 3) := by decide +kernel
theorem d_M_is_12 : decode b_M_is 12 = .ok (.iload_n 1, 1) := by decide +kernel
theorem d_M_is_13 : decode b_M_is 13 = .ok (.baload, 1) := by decide +kernel
theorem d_M_is_14 : decode b_M_is 14 = .ok (.ifCond .ne 17, 3) := by decide +kernel
theorem d_M_is_17 : decode b_M_is 17 = .ok (.aload_n 0, 1) := by decide +kernel
theorem d_M_is_18 : decode b_M_is 18 = .ok (.getfield 13, 3) := by decide +kernel
theorem d_M_is_21 : decode b_M_is 21 = .ok (.iload_n 1, 1) := by decide +kernel
theorem d_M_is_22 : decode b_M_is 22 = .ok (.iaload, 1) := by decide +kernel
theorem d_M_is_23 : decode b_M_is 23 = .ok (.iload_n 2, 1) := by decide +kernel
theorem d_M_is_24 : decode b_M_is 24 = .ok (.if_icmp .ne 7, 3) := by decide +kernel
theorem d_M_is_27 : decode b_M_is 27 = .ok (.iconst 1, 1) := by decide +kernel
theorem d_M_is_28 : decode b_M_is 28 = .ok (.goto 4, 3) := by decide +kernel
theorem d_M_is_31 : decode b_M_is 31 = .ok (.iconst 0, 1) := by decide +kernel
