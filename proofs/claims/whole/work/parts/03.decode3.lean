theorem d_M_is_32 : decode b_M_is 32 = .ok (.ireturn, 1) := by decide +kernel
theorem d_M_closed_0 : decode b_M_closed 0 = .ok (.aload_n 0, 1) := by decide +kernel
theorem d_M_closed_1 : decode b_M_closed 1 = .ok (.iload_n 1, 1) := by decide +kernel
theorem d_M_closed_2 : decode b_M_closed 2 = .ok (.bipush 91, 2) := by decide +kernel
theorem d_M_closed_4 : decode b_M_closed 4 = .ok (.invokevirtual 38, 3) := by decide +kernel
theorem d_M_closed_7 : decode b_M_closed 7 = .ok (.ifCond .ne 5, 3) := by decide +kernel
theorem d_M_closed_10 : decode b_M_closed 10 = .ok (.iconst (-1), 1) := by decide +kernel
theorem d_M_closed_11 : decode b_M_closed 11 = .ok (.ireturn, 1) := by decide +kernel
theorem d_M_closed_12 : decode b_M_closed 12 = .ok (.aload_n 0, 1) := by decide +kernel
theorem d_M_closed_13 : decode b_M_closed 13 = .ok (.iload_n 1, 1) := by decide +kernel
theorem d_M_closed_14 : decode b_M_closed 14 = .ok (.iconst 1, 1) := by decide +kernel
theorem d_M_closed_15 : decode b_M_closed 15 = .ok (.iadd, 1) := by decide +kernel
theorem d_M_closed_16 : decode b_M_closed 16 = .ok (.bipush 33, 2) := by decide +kernel
theorem d_M_closed_18 : decode b_M_closed 18 = .ok (.invokevirtual 38, 3) := by decide +kernel
theorem d_M_closed_21 : decode b_M_closed 21 = .ok (.ifCond .eq 9, 3) := by decide +kernel
theorem d_M_closed_24 : decode b_M_closed 24 = .ok (.iload_n 1, 1) := by decide +kernel
theorem d_M_closed_25 : decode b_M_closed 25 = .ok (.iconst 3, 1) := by decide +kernel
theorem d_M_closed_26 : decode b_M_closed 26 = .ok (.iadd, 1) := by decide +kernel
theorem d_M_closed_27 : decode b_M_closed 27 = .ok (.goto 6, 3) := by decide +kernel
theorem d_M_closed_30 : decode b_M_closed 30 = .ok (.iload_n 1, 1) := by decide +kernel
theorem d_M_closed_31 : decode b_M_closed 31 = .ok (.iconst 2, 1) := by decide +kernel
theorem d_M_closed_32 : decode b_M_closed 32 = .ok (.iadd, 1) := by decide +kernel
theorem d_M_closed_33 : decode b_M_closed 33 = .ok (.istore_n 2, 1) := by decide +kernel
theorem d_M_closed_34 : decode b_M_closed 34 = .ok (.iload_n 2, 1) := by decide +kernel
theorem d_M_closed_35 : decode b_M_closed 35 = .ok (.aload_n 0, 1) := by decide +kernel
theorem d_M_closed_36 : decode b_M_closed 36 = .ok (.getfield 35, 3) := by decide +kernel
theorem d_M_closed_39 : decode b_M_closed 39 = .ok (.if_icmp .ge 19, 3) := by decide +kernel
theorem d_M_closed_42 : decode b_M_closed 42 = .ok (.aload_n 0, 1) := by decide +kernel
theorem d_M_closed_43 : decode b_M_closed 43 = .ok (.iload_n 2, 1) := by decide +kernel
theorem d_M_closed_44 : decode b_M_closed 44 = .ok (.bipush 93, 2) := by decide +kernel
theorem d_M_closed_46 : decode b_M_closed 46 = .ok (.invokevirtual 38, 3) := by decide +kernel
theorem d_M_closed_49 : decode b_M_closed 49 = .ok (.ifCond .ne 9, 3) := by decide +kernel
theorem d_M_closed_52 : decode b_M_closed 52 = .ok (.iinc 2 1, 3) := by decide +kernel
theorem d_M_closed_55 : decode b_M_closed 55 = .ok (.goto (-21), 3) := by decide +kernel
theorem d_M_closed_58 : decode b_M_closed 58 = .ok (.iload_n 2, 1) := by decide +kernel
theorem d_M_closed_59 : decode b_M_closed 59 = .ok (.aload_n 0, 1) := by decide +kernel
theorem d_M_closed_60 : decode b_M_closed 60 = .ok (.getfield 35, 3) := by decide +kernel
theorem d_M_closed_63 : decode b_M_closed 63 = .ok (.if_icmp .ge 7, 3) := by decide +kernel
theorem d_M_closed_66 : decode b_M_closed 66 = .ok (.iload_n 2, 1) := by decide +kernel
theorem d_M_closed_67 : decode b_M_closed 67 = .ok (.goto 4, 3) := by decide +kernel
theorem d_M_closed_70 : decode b_M_closed 70 = .ok (.iconst (-1), 1) := by decide +kernel
theorem d_M_closed_71 : decode b_M_closed 71 = .ok (.ireturn, 1) := by decide +kernel
theorem d_M_isMember_0 : decode b_M_isMember 0 = .ok (.iconst 0, 1) := by decide +kernel
theorem d_M_isMember_1 : decode b_M_isMember 1 = .ok (.istore 4, 2) := by decide +kernel
theorem d_M_isMember_3 : decode b_M_isMember 3 = .ok (.iload_n 1, 1) := by decide +kernel
theorem d_M_isMember_4 : decode b_M_isMember 4 = .ok (.istore 5, 2) := by decide +kernel
theorem d_M_isMember_6 : decode b_M_isMember 6 = .ok (.iload 5, 2) := by decide +kernel
theorem d_M_isMember_8 : decode b_M_isMember 8 = .ok (.iload_n 2, 1) := by decide +kernel
theorem d_M_isMember_9 : decode b_M_isMember 9 = .ok (.if_icmp .ge 104, 3) := by decide +kernel
theorem d_M_isMember_12 : decode b_M_isMember 12 = .ok (.iload 5, 2) := by decide +kernel
theorem d_M_isMember_14 : decode b_M_isMember 14 = .ok (.iconst 2, 1) := by decide +kernel
theorem d_M_isMember_15 : decode b_M_isMember 15 = .ok (.iadd, 1) := by decide +kernel
theorem d_M_isMember_16 : decode b_M_isMember 16 = .ok (.iload_n 2, 1) := by decide +kernel
theorem d_M_isMember_17 : decode b_M_isMember 17 = .ok (.if_icmp .ge 20, 3) := by decide +kernel
theorem d_M_isMember_20 : decode b_M_isMember 20 = .ok (.aload_n 0, 1) := by decide +kernel
theorem d_M_isMember_21 : decode b_M_isMember 21 = .ok (.iload 5, 2) := by decide +kernel
theorem d_M_isMember_23 : decode b_M_isMember 23 = .ok (.iconst 1, 1) := by decide +kernel
theorem d_M_isMember_24 : decode b_M_isMember 24 = .ok (.iadd, 1) := by decide +kernel
theorem d_M_isMember_25 : decode b_M_isMember 25 = .ok (.bipush 45, 2) := by decide +kernel
theorem d_M_isMember_27 : decode b_M_isMember 27 = .ok (.invokevirtual 38, 3) := by decide +kernel
theorem d_M_isMember_30 : decode b_M_isMember 30 = .ok (.ifCond .eq 7, 3) := by decide +kernel
theorem d_M_isMember_33 : decode b_M_isMember 33 = .ok (.iconst 1, 1) := by decide +kernel
theorem d_M_isMember_34 : decode b_M_isMember 34 = .ok (.goto 4, 3) := by decide +kernel
theorem d_M_isMember_37 : decode b_M_isMember 37 = .ok (.iconst 0, 1) := by decide +kernel
theorem d_M_isMember_38 : decode b_M_isMember 38 = .ok (.istore 6, 2) := by decide +kernel
theorem d_M_isMember_40 : decode b_M_isMember 40 = .ok (.iload 4, 2) := by decide +kernel
theorem d_M_isMember_42 : decode b_M_isMember 42 = .ok (.ifCond .ne 46, 3) := by decide +kernel
theorem d_M_isMember_45 : decode b_M_isMember 45 = .ok (.iload 6, 2) := by decide +kernel
theorem d_M_isMember_47 : decode b_M_isMember 47 = .ok (.ifCond .eq 30, 3) := by decide +kernel
theorem d_M_isMember_50 : decode b_M_isMember 50 = .ok (.iload_n 3, 1) := by decide +kernel
theorem d_M_isMember_51 : decode b_M_isMember 51 = .ok (.aload_n 0, 1) := by decide +kernel
theorem d_M_isMember_52 : decode b_M_isMember 52 = .ok (.getfield 13, 3) := by decide +kernel
theorem d_M_isMember_55 : decode b_M_isMember 55 = .ok (.iload 5, 2) := by decide +kernel
theorem d_M_isMember_57 : decode b_M_isMember 57 = .ok (.iaload, 1) := by decide +kernel
theorem d_M_isMember_58 : decode b_M_isMember 58 = .ok (.if_icmp .lt 34, 3) := by decide +kernel
theorem d_M_isMember_61 : decode b_M_isMember 61 = .ok (.iload_n 3, 1) := by decide +kernel
theorem d_M_isMember_62 : decode b_M_isMember 62 = .ok (.aload_n 0, 1) := by decide +kernel
theorem d_M_isMember_63 : decode b_M_isMember 63 = .ok (.getfield 13, 3) := by decide +kernel
theorem d_M_isMember_66 : decode b_M_isMember 66 = .ok (.iload 5, 2) := by decide +kernel
theorem d_M_isMember_68 : decode b_M_isMember 68 = .ok (.iconst 2, 1) := by decide +kernel
theorem d_M_isMember_69 : decode b_M_isMember 69 = .ok (.iadd, 1) := by decide +kernel
theorem d_M_isMember_70 : decode b_M_isMember 70 = .ok (.iaload, 1) := by decide +kernel
theorem d_M_isMember_71 : decode b_M_isMember 71 = .ok (.if_icmp .gt 21, 3) := by decide +kernel
theorem d_M_isMember_74 : decode b_M_isMember 74 = .ok (.goto 14, 3) := by decide +kernel
theorem d_M_isMember_77 : decode b_M_isMember 77 = .ok (.iload_n 3, 1) := by decide +kernel
theorem d_M_isMember_78 : decode b_M_isMember 78 = .ok (.aload_n 0, 1) := by decide +kernel
theorem d_M_isMember_79 : decode b_M_isMember 79 = .ok (.getfield 13, 3) := by decide +kernel
theorem d_M_isMember_82 : decode b_M_isMember 82 = .ok (.iload 5, 2) := by decide +kernel
theorem d_M_isMember_84 : decode b_M_isMember 84 = .ok (.iaload, 1) := by decide +kernel
theorem d_M_isMember_85 : decode b_M_isMember 85 = .ok (.if_icmp .ne 7, 3) := by decide +kernel
theorem d_M_isMember_88 : decode b_M_isMember 88 = .ok (.iconst 1, 1) := by decide +kernel
theorem d_M_isMember_89 : decode b_M_isMember 89 = .ok (.goto 4, 3) := by decide +kernel
theorem d_M_isMember_92 : decode b_M_isMember 92 = .ok (.iconst 0, 1) := by decide +kernel
theorem d_M_isMember_93 : decode b_M_isMember 93 = .ok (.istore 4, 2) := by decide +kernel
theorem d_M_isMember_95 : decode b_M_isMember 95 = .ok (.iload 5, 2) := by decide +kernel
theorem d_M_isMember_97 : decode b_M_isMember 97 = .ok (.iload 6, 2) := by decide +kernel
theorem d_M_isMember_99 : decode b_M_isMember 99 = .ok (.ifCond .eq 7, 3) := by decide +kernel
theorem d_M_isMember_102 : decode b_M_isMember 102 = .ok (.iconst 3, 1) := by decide +kernel
theorem d_M_isMember_103 : decode b_M_isMember 103 = .ok (.goto 4, 3) := by decide +kernel
theorem d_M_isMember_106 : decode b_M_isMember 106 = .ok (.iconst 1, 1) := by decide +kernel
theorem d_M_isMember_107 : decode b_M_isMember 107 = .ok (.iadd, 1) := by decide +kernel
theorem d_M_isMember_108 : decode b_M_isMember 108 = .ok (.istore 5, 2) := by decide +kernel
theorem d_M_isMember_110 : decode b_M_isMember 110 = .ok (.goto (-104), 3) := by decide +kernel
theorem d_M_isMember_113 : decode b_M_isMember 113 = .ok (.iload 4, 2) := by decide +kernel
theorem d_M_isMember_115 : decode b_M_isMember 115 = .ok (.ireturn, 1) := by decide +kernel
theorem d_M_takes_0 : decode b_M_takes 0 = .ok (.iload_n 2, 1) := by decide +kernel
theorem d_M_takes_1 : decode b_M_takes 1 = .ok (.iconst (-1), 1) := by decide +kernel
theorem d_M_takes_2 : decode b_M_takes 2 = .ok (.if_icmp .eq 45, 3) := by decide +kernel
theorem d_M_takes_5 : decode b_M_takes 5 = .ok (.aload_n 0, 1) := by decide +kernel
theorem d_M_takes_6 : decode b_M_takes 6 = .ok (.iload_n 1, 1) := by decide +kernel
theorem d_M_takes_7 : decode b_M_takes 7 = .ok (.iconst 1, 1) := by decide +kernel
theorem d_M_takes_8 : decode b_M_takes 8 = .ok (.iadd, 1) := by decide +kernel
theorem d_M_takes_9 : decode b_M_takes 9 = .ok (.bipush 33, 2) := by decide +kernel
theorem d_M_takes_11 : decode b_M_takes 11 = .ok (.invokevirtual 38, 3) := by decide +kernel
theorem d_M_takes_14 : decode b_M_takes 14 = .ok (.istore 4, 2) := by decide +kernel
theorem d_M_takes_16 : decode b_M_takes 16 = .ok (.aload_n 0, 1) := by decide +kernel
theorem d_M_takes_17 : decode b_M_takes 17 = .ok (.iload 4, 2) := by decide +kernel
theorem d_M_takes_19 : decode b_M_takes 19 = .ok (.ifCond .eq 9, 3) := by decide +kernel
theorem d_M_takes_22 : decode b_M_takes 22 = .ok (.iload_n 1, 1) := by decide +kernel
theorem d_M_takes_23 : decode b_M_takes 23 = .ok (.iconst 2, 1) := by decide +kernel
theorem d_M_takes_24 : decode b_M_takes 24 = .ok (.iadd, 1) := by decide +kernel
theorem d_M_takes_25 : decode b_M_takes 25 = .ok (.goto 6, 3) := by decide +kernel
theorem d_M_takes_28 : decode b_M_takes 28 = .ok (.iload_n 1, 1) := by decide +kernel
theorem d_M_takes_29 : decode b_M_takes 29 = .ok (.iconst 1, 1) := by decide +kernel
theorem d_M_takes_30 : decode b_M_takes 30 = .ok (.iadd, 1) := by decide +kernel
theorem d_M_takes_31 : decode b_M_takes 31 = .ok (.iload_n 2, 1) := by decide +kernel
theorem d_M_takes_32 : decode b_M_takes 32 = .ok (.iload_n 3, 1) := by decide +kernel
theorem d_M_takes_33 : decode b_M_takes 33 = .ok (.invokevirtual 42, 3) := by decide +kernel
theorem d_M_takes_36 : decode b_M_takes 36 = .ok (.iload 4, 2) := by decide +kernel
theorem d_M_takes_38 : decode b_M_takes 38 = .ok (.if_icmp .eq 7, 3) := by decide +kernel
theorem d_M_takes_41 : decode b_M_takes 41 = .ok (.iconst 1, 1) := by decide +kernel
theorem d_M_takes_42 : decode b_M_takes 42 = .ok (.goto 4, 3) := by decide +kernel
theorem d_M_takes_45 : decode b_M_takes 45 = .ok (.iconst 0, 1) := by decide +kernel
theorem d_M_takes_46 : decode b_M_takes 46 = .ok (.ireturn, 1) := by decide +kernel
theorem d_M_takes_47 : decode b_M_takes 47 = .ok (.aload_n 0, 1) := by decide +kernel
theorem d_M_takes_48 : decode b_M_takes 48 = .ok (.iload_n 1, 1) := by decide +kernel
theorem d_M_takes_49 : decode b_M_takes 49 = .ok (.bipush 63, 2) := by decide +kernel
theorem d_M_takes_51 : decode b_M_takes 51 = .ok (.invokevirtual 38, 3) := by decide +kernel
theorem d_M_takes_54 : decode b_M_takes 54 = .ok (.ifCond .ne 13, 3) := by decide +kernel
theorem d_M_takes_57 : decode b_M_takes 57 = .ok (.aload_n 0, 1) := by decide +kernel
theorem d_M_takes_58 : decode b_M_takes 58 = .ok (.getfield 13, 3) := by decide +kernel
theorem d_M_takes_61 : decode b_M_takes 61 = .ok (.iload_n 1, 1) := by decide +kernel
theorem d_M_takes_62 : decode b_M_takes 62 = .ok (.iaload, 1) := by decide +kernel
theorem d_M_takes_63 : decode b_M_takes 63 = .ok (.iload_n 3, 1) := by decide +kernel
theorem d_M_takes_64 : decode b_M_takes 64 = .ok (.if_icmp .ne 7, 3) := by decide +kernel
theorem d_M_takes_67 : decode b_M_takes 67 = .ok (.iconst 1, 1) := by decide +kernel
theorem d_M_takes_68 : decode b_M_takes 68 = .ok (.goto 4, 3) := by decide +kernel
theorem d_M_takes_71 : decode b_M_takes 71 = .ok (.iconst 0, 1) := by decide +kernel
theorem d_M_takes_72 : decode b_M_takes 72 = .ok (.ireturn, 1) := by decide +kernel
theorem d_M_go_0 : decode b_M_go 0 = .ok (.iconst 0, 1) := by decide +kernel
theorem d_M_go_1 : decode b_M_go 1 = .ok (.istore_n 3, 1) := by decide +kernel
theorem d_M_go_2 : decode b_M_go 2 = .ok (.iload_n 3, 1) := by decide +kernel
theorem d_M_go_3 : decode b_M_go 3 = .ok (.sipush 400, 3) := by decide +kernel
theorem d_M_go_6 : decode b_M_go 6 = .ok (.if_icmp .gt 25, 3) := by decide +kernel
theorem d_M_go_9 : decode b_M_go 9 = .ok (.aload_n 0, 1) := by decide +kernel
theorem d_M_go_10 : decode b_M_go 10 = .ok (.getfield 20, 3) := by decide +kernel
theorem d_M_go_13 : decode b_M_go 13 = .ok (.iload_n 3, 1) := by decide +kernel
theorem d_M_go_14 : decode b_M_go 14 = .ok (.iload_n 3, 1) := by decide +kernel
theorem d_M_go_15 : decode b_M_go 15 = .ok (.iload_n 1, 1) := by decide +kernel
theorem d_M_go_16 : decode b_M_go 16 = .ok (.if_icmp .ne 7, 3) := by decide +kernel
theorem d_M_go_19 : decode b_M_go 19 = .ok (.iconst 1, 1) := by decide +kernel
theorem d_M_go_20 : decode b_M_go 20 = .ok (.goto 4, 3) := by decide +kernel
theorem d_M_go_23 : decode b_M_go 23 = .ok (.iconst 0, 1) := by decide +kernel
theorem d_M_go_24 : decode b_M_go 24 = .ok (.bastore, 1) := by decide +kernel
theorem d_M_go_25 : decode b_M_go 25 = .ok (.iinc 3 1, 3) := by decide +kernel
theorem d_M_go_28 : decode b_M_go 28 = .ok (.goto (-26), 3) := by decide +kernel
theorem d_M_go_31 : decode b_M_go 31 = .ok (.iconst 0, 1) := by decide +kernel
theorem d_M_go_32 : decode b_M_go 32 = .ok (.istore_n 3, 1) := by decide +kernel
theorem d_M_go_33 : decode b_M_go 33 = .ok (.iload_n 3, 1) := by decide +kernel
theorem d_M_go_34 : decode b_M_go 34 = .ok (.aload_n 0, 1) := by decide +kernel
theorem d_M_go_35 : decode b_M_go 35 = .ok (.getfield 35, 3) := by decide +kernel
theorem d_M_go_38 : decode b_M_go 38 = .ok (.if_icmp .ge 195, 3) := by decide +kernel
theorem d_M_go_41 : decode b_M_go 41 = .ok (.aload_n 0, 1) := by decide +kernel
theorem d_M_go_42 : decode b_M_go 42 = .ok (.iload_n 3, 1) := by decide +kernel
theorem d_M_go_43 : decode b_M_go 43 = .ok (.invokevirtual 46, 3) := by decide +kernel
theorem d_M_go_46 : decode b_M_go 46 = .ok (.istore 4, 2) := by decide +kernel
theorem d_M_go_48 : decode b_M_go 48 = .ok (.aload_n 0, 1) := by decide +kernel
theorem d_M_go_49 : decode b_M_go 49 = .ok (.iload_n 3, 1) := by decide +kernel
theorem d_M_go_50 : decode b_M_go 50 = .ok (.bipush 42, 2) := by decide +kernel
theorem d_M_go_52 : decode b_M_go 52 = .ok (.invokevirtual 38, 3) := by decide +kernel
theorem d_M_go_55 : decode b_M_go 55 = .ok (.istore 5, 2) := by decide +kernel
theorem d_M_go_57 : decode b_M_go 57 = .ok (.iconst 0, 1) := by decide +kernel
theorem d_M_go_58 : decode b_M_go 58 = .ok (.istore 6, 2) := by decide +kernel
theorem d_M_go_60 : decode b_M_go 60 = .ok (.iload 6, 2) := by decide +kernel
theorem d_M_go_62 : decode b_M_go 62 = .ok (.sipush 400, 3) := by decide +kernel
theorem d_M_go_65 : decode b_M_go 65 = .ok (.if_icmp .gt 17, 3) := by decide +kernel
theorem d_M_go_68 : decode b_M_go 68 = .ok (.aload_n 0, 1) := by decide +kernel
theorem d_M_go_69 : decode b_M_go 69 = .ok (.getfield 23, 3) := by decide +kernel
theorem d_M_go_72 : decode b_M_go 72 = .ok (.iload 6, 2) := by decide +kernel
theorem d_M_go_74 : decode b_M_go 74 = .ok (.iconst 0, 1) := by decide +kernel
theorem d_M_go_75 : decode b_M_go 75 = .ok (.bastore, 1) := by decide +kernel
theorem d_M_go_76 : decode b_M_go 76 = .ok (.iinc 6 1, 3) := by decide +kernel
theorem d_M_go_79 : decode b_M_go 79 = .ok (.goto (-19), 3) := by decide +kernel
theorem d_M_go_82 : decode b_M_go 82 = .ok (.iconst 0, 1) := by decide +kernel
theorem d_M_go_83 : decode b_M_go 83 = .ok (.istore 6, 2) := by decide +kernel
theorem d_M_go_85 : decode b_M_go 85 = .ok (.iload_n 1, 1) := by decide +kernel
theorem d_M_go_86 : decode b_M_go 86 = .ok (.istore 7, 2) := by decide +kernel
theorem d_M_go_88 : decode b_M_go 88 = .ok (.iload 7, 2) := by decide +kernel
theorem d_M_go_90 : decode b_M_go 90 = .ok (.iload_n 2, 1) := by decide +kernel
theorem d_M_go_91 : decode b_M_go 91 = .ok (.if_icmp .gt 91, 3) := by decide +kernel
theorem d_M_go_94 : decode b_M_go 94 = .ok (.iload 6, 2) := by decide +kernel
theorem d_M_go_96 : decode b_M_go 96 = .ok (.ifCond .ne 13, 3) := by decide +kernel
theorem d_M_go_99 : decode b_M_go 99 = .ok (.aload_n 0, 1) := by decide +kernel
theorem d_M_go_100 : decode b_M_go 100 = .ok (.getfield 20, 3) := by decide +kernel
theorem d_M_go_103 : decode b_M_go 103 = .ok (.iload 7, 2) := by decide +kernel
theorem d_M_go_105 : decode b_M_go 105 = .ok (.baload, 1) := by decide +kernel
theorem d_M_go_106 : decode b_M_go 106 = .ok (.ifCond .eq 7, 3) := by decide +kernel
theorem d_M_go_109 : decode b_M_go 109 = .ok (.iconst 1, 1) := by decide +kernel
theorem d_M_go_110 : decode b_M_go 110 = .ok (.goto 4, 3) := by decide +kernel
theorem d_M_go_113 : decode b_M_go 113 = .ok (.iconst 0, 1) := by decide +kernel
theorem d_M_go_114 : decode b_M_go 114 = .ok (.istore 6, 2) := by decide +kernel
theorem d_M_go_116 : decode b_M_go 116 = .ok (.iload 5, 2) := by decide +kernel
theorem d_M_go_118 : decode b_M_go 118 = .ok (.ifCond .eq 15, 3) := by decide +kernel
theorem d_M_go_121 : decode b_M_go 121 = .ok (.aload_n 0, 1) := by decide +kernel
theorem d_M_go_122 : decode b_M_go 122 = .ok (.getfield 23, 3) := by decide +kernel
theorem d_M_go_125 : decode b_M_go 125 = .ok (.iload 7, 2) := by decide +kernel
theorem d_M_go_127 : decode b_M_go 127 = .ok (.iload 6, 2) := by decide +kernel
theorem d_M_go_129 : decode b_M_go 129 = .ok (.bastore, 1) := by decide +kernel
theorem d_M_go_130 : decode b_M_go 130 = .ok (.goto 46, 3) := by decide +kernel
theorem d_M_go_133 : decode b_M_go 133 = .ok (.aload_n 0, 1) := by decide +kernel
theorem d_M_go_134 : decode b_M_go 134 = .ok (.getfield 20, 3) := by decide +kernel
theorem d_M_go_137 : decode b_M_go 137 = .ok (.iload 7, 2) := by decide +kernel
theorem d_M_go_139 : decode b_M_go 139 = .ok (.baload, 1) := by decide +kernel
theorem d_M_go_140 : decode b_M_go 140 = .ok (.ifCond .eq 36, 3) := by decide +kernel
theorem d_M_go_143 : decode b_M_go 143 = .ok (.iload 7, 2) := by decide +kernel
theorem d_M_go_145 : decode b_M_go 145 = .ok (.iload_n 2, 1) := by decide +kernel
theorem d_M_go_146 : decode b_M_go 146 = .ok (.if_icmp .ge 30, 3) := by decide +kernel
theorem d_M_go_149 : decode b_M_go 149 = .ok (.aload_n 0, 1) := by decide +kernel
theorem d_M_go_150 : decode b_M_go 150 = .ok (.iload_n 3, 1) := by decide +kernel
theorem d_M_go_151 : decode b_M_go 151 = .ok (.iload 4, 2) := by decide +kernel
theorem d_M_go_153 : decode b_M_go 153 = .ok (.aload_n 0, 1) := by decide +kernel
theorem d_M_go_154 : decode b_M_go 154 = .ok (.getfield 7, 3) := by decide +kernel
theorem d_M_go_157 : decode b_M_go 157 = .ok (.iload 7, 2) := by decide +kernel
theorem d_M_go_159 : decode b_M_go 159 = .ok (.iaload, 1) := by decide +kernel
theorem d_M_go_160 : decode b_M_go 160 = .ok (.invokevirtual 50, 3) := by decide +kernel
theorem d_M_go_163 : decode b_M_go 163 = .ok (.ifCond .eq 13, 3) := by decide +kernel
theorem d_M_go_166 : decode b_M_go 166 = .ok (.aload_n 0, 1) := by decide +kernel
theorem d_M_go_167 : decode b_M_go 167 = .ok (.getfield 23, 3) := by decide +kernel
theorem d_M_go_170 : decode b_M_go 170 = .ok (.iload 7, 2) := by decide +kernel
theorem d_M_go_172 : decode b_M_go 172 = .ok (.iconst 1, 1) := by decide +kernel
theorem d_M_go_173 : decode b_M_go 173 = .ok (.iadd, 1) := by decide +kernel
theorem d_M_go_174 : decode b_M_go 174 = .ok (.iconst 1, 1) := by decide +kernel
theorem d_M_go_175 : decode b_M_go 175 = .ok (.bastore, 1) := by decide +kernel
theorem d_M_go_176 : decode b_M_go 176 = .ok (.iinc 7 1, 3) := by decide +kernel
theorem d_M_go_179 : decode b_M_go 179 = .ok (.goto (-91), 3) := by decide +kernel
theorem d_M_go_182 : decode b_M_go 182 = .ok (.iconst 0, 1) := by decide +kernel
theorem d_M_go_183 : decode b_M_go 183 = .ok (.istore 7, 2) := by decide +kernel
theorem d_M_go_185 : decode b_M_go 185 = .ok (.iload 7, 2) := by decide +kernel
theorem d_M_go_187 : decode b_M_go 187 = .ok (.sipush 400, 3) := by decide +kernel
theorem d_M_go_190 : decode b_M_go 190 = .ok (.if_icmp .gt 23, 3) := by decide +kernel
theorem d_M_go_193 : decode b_M_go 193 = .ok (.aload_n 0, 1) := by decide +kernel
theorem d_M_go_194 : decode b_M_go 194 = .ok (.getfield 20, 3) := by decide +kernel
theorem d_M_go_197 : decode b_M_go 197 = .ok (.iload 7, 2) := by decide +kernel
theorem d_M_go_199 : decode b_M_go 199 = .ok (.aload_n 0, 1) := by decide +kernel
theorem d_M_go_200 : decode b_M_go 200 = .ok (.getfield 23, 3) := by decide +kernel
theorem d_M_go_203 : decode b_M_go 203 = .ok (.iload 7, 2) := by decide +kernel
theorem d_M_go_205 : decode b_M_go 205 = .ok (.baload, 1) := by decide +kernel
theorem d_M_go_206 : decode b_M_go 206 = .ok (.bastore, 1) := by decide +kernel
theorem d_M_go_207 : decode b_M_go 207 = .ok (.iinc 7 1, 3) := by decide +kernel
theorem d_M_go_210 : decode b_M_go 210 = .ok (.goto (-25), 3) := by decide +kernel
theorem d_M_go_213 : decode b_M_go 213 = .ok (.iload 4, 2) := by decide +kernel
theorem d_M_go_215 : decode b_M_go 215 = .ok (.iconst (-1), 1) := by decide +kernel
theorem d_M_go_216 : decode b_M_go 216 = .ok (.if_icmp .eq 10, 3) := by decide +kernel
theorem d_M_go_219 : decode b_M_go 219 = .ok (.iload 4, 2) := by decide +kernel
theorem d_M_go_221 : decode b_M_go 221 = .ok (.iconst 1, 1) := by decide +kernel
theorem d_M_go_222 : decode b_M_go 222 = .ok (.iadd, 1) := by decide +kernel
theorem d_M_go_223 : decode b_M_go 223 = .ok (.goto 6, 3) := by decide +kernel
theorem d_M_go_226 : decode b_M_go 226 = .ok (.iload_n 3, 1) := by decide +kernel
theorem d_M_go_227 : decode b_M_go 227 = .ok (.iconst 1, 1) := by decide +kernel
theorem d_M_go_228 : decode b_M_go 228 = .ok (.iadd, 1) := by decide +kernel
theorem d_M_go_229 : decode b_M_go 229 = .ok (.istore_n 3, 1) := by decide +kernel
theorem d_M_go_230 : decode b_M_go 230 = .ok (.goto (-197), 3) := by decide +kernel
theorem d_M_go_233 : decode b_M_go 233 = .ok (.return_, 1) := by decide +kernel
theorem d_M_matches_0 : decode b_M_matches 0 = .ok (.aload_n 0, 1) := by decide +kernel
theorem d_M_matches_1 : decode b_M_matches 1 = .ok (.iconst 0, 1) := by decide +kernel
theorem d_M_matches_2 : decode b_M_matches 2 = .ok (.putfield 26, 3) := by decide +kernel
theorem d_M_matches_5 : decode b_M_matches 5 = .ok (.aload_n 0, 1) := by decide +kernel
theorem d_M_matches_6 : decode b_M_matches 6 = .ok (.iconst 0, 1) := by decide +kernel
theorem d_M_matches_7 : decode b_M_matches 7 = .ok (.aload_n 0, 1) := by decide +kernel
theorem d_M_matches_8 : decode b_M_matches 8 = .ok (.getfield 30, 3) := by decide +kernel
theorem d_M_matches_11 : decode b_M_matches 11 = .ok (.invokevirtual 53, 3) := by decide +kernel
theorem d_M_matches_14 : decode b_M_matches 14 = .ok (.aload_n 0, 1) := by decide +kernel
theorem d_M_matches_15 : decode b_M_matches 15 = .ok (.getfield 20, 3) := by decide +kernel
theorem d_M_matches_18 : decode b_M_matches 18 = .ok (.aload_n 0, 1) := by decide +kernel
theorem d_M_matches_19 : decode b_M_matches 19 = .ok (.getfield 30, 3) := by decide +kernel
theorem d_M_matches_22 : decode b_M_matches 22 = .ok (.baload, 1) := by decide +kernel
theorem d_M_matches_23 : decode b_M_matches 23 = .ok (.ireturn, 1) := by decide +kernel
theorem d_M_part_0 : decode b_M_part 0 = .ok (.aload_n 0, 1) := by decide +kernel
theorem d_M_part_1 : decode b_M_part 1 = .ok (.iload_n 1, 1) := by decide +kernel
theorem d_M_part_2 : decode b_M_part 2 = .ok (.ifCond .lt 16, 3) := by decide +kernel
theorem d_M_part_5 : decode b_M_part 5 = .ok (.iload_n 2, 1) := by decide +kernel
theorem d_M_part_6 : decode b_M_part 6 = .ok (.iload_n 1, 1) := by decide +kernel
theorem d_M_part_7 : decode b_M_part 7 = .ok (.if_icmp .lt 11, 3) := by decide +kernel
theorem d_M_part_10 : decode b_M_part 10 = .ok (.iload_n 2, 1) := by decide +kernel
theorem d_M_part_11 : decode b_M_part 11 = .ok (.aload_n 0, 1) := by decide +kernel
theorem d_M_part_12 : decode b_M_part 12 = .ok (.getfield 30, 3) := by decide +kernel
theorem d_M_part_15 : decode b_M_part 15 = .ok (.if_icmp .le 7, 3) := by decide +kernel
theorem d_M_part_18 : decode b_M_part 18 = .ok (.iconst 1, 1) := by decide +kernel
theorem d_M_part_19 : decode b_M_part 19 = .ok (.goto 4, 3) := by decide +kernel
theorem d_M_part_22 : decode b_M_part 22 = .ok (.iconst 0, 1) := by decide +kernel
theorem d_M_part_23 : decode b_M_part 23 = .ok (.putfield 26, 3) := by decide +kernel
theorem d_M_part_26 : decode b_M_part 26 = .ok (.aload_n 0, 1) := by decide +kernel
theorem d_M_part_27 : decode b_M_part 27 = .ok (.getfield 26, 3) := by decide +kernel
theorem d_M_part_30 : decode b_M_part 30 = .ok (.ifCond .le 5, 3) := by decide +kernel
theorem d_M_part_33 : decode b_M_part 33 = .ok (.iconst 0, 1) := by decide +kernel
theorem d_M_part_34 : decode b_M_part 34 = .ok (.ireturn, 1) := by decide +kernel
theorem d_M_part_35 : decode b_M_part 35 = .ok (.aload_n 0, 1) := by decide +kernel
theorem d_M_part_36 : decode b_M_part 36 = .ok (.iload_n 1, 1) := by decide +kernel
theorem d_M_part_37 : decode b_M_part 37 = .ok (.iload_n 2, 1) := by decide +kernel
theorem d_M_part_38 : decode b_M_part 38 = .ok (.invokevirtual 53, 3) := by decide +kernel
theorem d_M_part_41 : decode b_M_part 41 = .ok (.aload_n 0, 1) := by decide +kernel
theorem d_M_part_42 : decode b_M_part 42 = .ok (.getfield 20, 3) := by decide +kernel
theorem d_M_part_45 : decode b_M_part 45 = .ok (.iload_n 2, 1) := by decide +kernel
theorem d_M_part_46 : decode b_M_part 46 = .ok (.baload, 1) := by decide +kernel
theorem d_M_part_47 : decode b_M_part 47 = .ok (.ireturn, 1) := by decide +kernel
theorem d_M_cut_0 : decode b_M_cut 0 = .ok (.aload_n 0, 1) := by decide +kernel
theorem d_M_cut_1 : decode b_M_cut 1 = .ok (.iconst 0, 1) := by decide +kernel
theorem d_M_cut_2 : decode b_M_cut 2 = .ok (.putfield 26, 3) := by decide +kernel
theorem d_M_cut_5 : decode b_M_cut 5 = .ok (.iconst (-1), 1) := by decide +kernel
theorem d_M_cut_6 : decode b_M_cut 6 = .ok (.istore_n 3, 1) := by decide +kernel
theorem d_M_cut_7 : decode b_M_cut 7 = .ok (.iload_n 1, 1) := by decide +kernel
theorem d_M_cut_8 : decode b_M_cut 8 = .ok (.ifCond .ne 58, 3) := by decide +kernel
theorem d_M_cut_11 : decode b_M_cut 11 = .ok (.aload_n 0, 1) := by decide +kernel
theorem d_M_cut_12 : decode b_M_cut 12 = .ok (.iconst 0, 1) := by decide +kernel
theorem d_M_cut_13 : decode b_M_cut 13 = .ok (.aload_n 0, 1) := by decide +kernel
theorem d_M_cut_14 : decode b_M_cut 14 = .ok (.getfield 30, 3) := by decide +kernel
theorem d_M_cut_17 : decode b_M_cut 17 = .ok (.invokevirtual 53, 3) := by decide +kernel
theorem d_M_cut_20 : decode b_M_cut 20 = .ok (.iconst 0, 1) := by decide +kernel
theorem d_M_cut_21 : decode b_M_cut 21 = .ok (.istore 4, 2) := by decide +kernel
theorem d_M_cut_23 : decode b_M_cut 23 = .ok (.iload 4, 2) := by decide +kernel
theorem d_M_cut_25 : decode b_M_cut 25 = .ok (.aload_n 0, 1) := by decide +kernel
theorem d_M_cut_26 : decode b_M_cut 26 = .ok (.getfield 30, 3) := by decide +kernel
theorem d_M_cut_29 : decode b_M_cut 29 = .ok (.if_icmp .gt 35, 3) := by decide +kernel
theorem d_M_cut_32 : decode b_M_cut 32 = .ok (.aload_n 0, 1) := by decide +kernel
theorem d_M_cut_33 : decode b_M_cut 33 = .ok (.getfield 20, 3) := by decide +kernel
theorem d_M_cut_36 : decode b_M_cut 36 = .ok (.iload 4, 2) := by decide +kernel
theorem d_M_cut_38 : decode b_M_cut 38 = .ok (.baload, 1) := by decide +kernel
theorem d_M_cut_39 : decode b_M_cut 39 = .ok (.ifCond .eq 17, 3) := by decide +kernel
theorem d_M_cut_42 : decode b_M_cut 42 = .ok (.iload_n 2, 1) := by decide +kernel
theorem d_M_cut_43 : decode b_M_cut 43 = .ok (.ifCond .ne 8, 3) := by decide +kernel
theorem d_M_cut_46 : decode b_M_cut 46 = .ok (.iload_n 3, 1) := by decide +kernel
theorem d_M_cut_47 : decode b_M_cut 47 = .ok (.iconst (-1), 1) := by decide +kernel
theorem d_M_cut_48 : decode b_M_cut 48 = .ok (.if_icmp .ne 8, 3) := by decide +kernel
theorem d_M_cut_51 : decode b_M_cut 51 = .ok (.iload 4, 2) := by decide +kernel
theorem d_M_cut_53 : decode b_M_cut 53 = .ok (.goto 4, 3) := by decide +kernel
theorem d_M_cut_56 : decode b_M_cut 56 = .ok (.iload_n 3, 1) := by decide +kernel
theorem d_M_cut_57 : decode b_M_cut 57 = .ok (.istore_n 3, 1) := by decide +kernel
theorem d_M_cut_58 : decode b_M_cut 58 = .ok (.iinc 4 1, 3) := by decide +kernel
theorem d_M_cut_61 : decode b_M_cut 61 = .ok (.goto (-38), 3) := by decide +kernel
theorem d_M_cut_64 : decode b_M_cut 64 = .ok (.iload_n 3, 1) := by decide +kernel
theorem d_M_cut_65 : decode b_M_cut 65 = .ok (.ireturn, 1) := by decide +kernel
theorem d_M_cut_66 : decode b_M_cut 66 = .ok (.aload_n 0, 1) := by decide +kernel
theorem d_M_cut_67 : decode b_M_cut 67 = .ok (.getfield 30, 3) := by decide +kernel
theorem d_M_cut_70 : decode b_M_cut 70 = .ok (.istore 4, 2) := by decide +kernel
theorem d_M_cut_72 : decode b_M_cut 72 = .ok (.iload 4, 2) := by decide +kernel
theorem d_M_cut_74 : decode b_M_cut 74 = .ok (.ifCond .lt 55, 3) := by decide +kernel
theorem d_M_cut_77 : decode b_M_cut 77 = .ok (.iload_n 3, 1) := by decide +kernel
theorem d_M_cut_78 : decode b_M_cut 78 = .ok (.iconst (-1), 1) := by decide +kernel
theorem d_M_cut_79 : decode b_M_cut 79 = .ok (.if_icmp .eq 10, 3) := by decide +kernel
theorem d_M_cut_82 : decode b_M_cut 82 = .ok (.iload_n 2, 1) := by decide +kernel
theorem d_M_cut_83 : decode b_M_cut 83 = .ok (.ifCond .ne 6, 3) := by decide +kernel
theorem d_M_cut_86 : decode b_M_cut 86 = .ok (.goto 37, 3) := by decide +kernel
theorem d_M_cut_89 : decode b_M_cut 89 = .ok (.aload_n 0, 1) := by decide +kernel
theorem d_M_cut_90 : decode b_M_cut 90 = .ok (.iload 4, 2) := by decide +kernel
theorem d_M_cut_92 : decode b_M_cut 92 = .ok (.aload_n 0, 1) := by decide +kernel
theorem d_M_cut_93 : decode b_M_cut 93 = .ok (.getfield 30, 3) := by decide +kernel
theorem d_M_cut_96 : decode b_M_cut 96 = .ok (.invokevirtual 53, 3) := by decide +kernel
theorem d_M_cut_99 : decode b_M_cut 99 = .ok (.aload_n 0, 1) := by decide +kernel
theorem d_M_cut_100 : decode b_M_cut 100 = .ok (.getfield 20, 3) := by decide +kernel
theorem d_M_cut_103 : decode b_M_cut 103 = .ok (.aload_n 0, 1) := by decide +kernel
theorem d_M_cut_104 : decode b_M_cut 104 = .ok (.getfield 30, 3) := by decide +kernel
theorem d_M_cut_107 : decode b_M_cut 107 = .ok (.baload, 1) := by decide +kernel
theorem d_M_cut_108 : decode b_M_cut 108 = .ok (.ifCond .eq 13, 3) := by decide +kernel
theorem d_M_cut_111 : decode b_M_cut 111 = .ok (.aload_n 0, 1) := by decide +kernel
theorem d_M_cut_112 : decode b_M_cut 112 = .ok (.getfield 30, 3) := by decide +kernel
theorem d_M_cut_115 : decode b_M_cut 115 = .ok (.iload 4, 2) := by decide +kernel
theorem d_M_cut_117 : decode b_M_cut 117 = .ok (.isub, 1) := by decide +kernel
theorem d_M_cut_118 : decode b_M_cut 118 = .ok (.goto 4, 3) := by decide +kernel
theorem d_M_cut_121 : decode b_M_cut 121 = .ok (.iload_n 3, 1) := by decide +kernel
theorem d_M_cut_122 : decode b_M_cut 122 = .ok (.istore_n 3, 1) := by decide +kernel
theorem d_M_cut_123 : decode b_M_cut 123 = .ok (.iinc 4 (-1), 3) := by decide +kernel
theorem d_M_cut_126 : decode b_M_cut 126 = .ok (.goto (-54), 3) := by decide +kernel
theorem d_M_cut_129 : decode b_M_cut 129 = .ok (.iload_n 3, 1) := by decide +kernel
theorem d_M_cut_130 : decode b_M_cut 130 = .ok (.ireturn, 1) := by decide +kernel
theorem d_M_isSpecial_0 : decode b_M_isSpecial 0 = .ok (.aload_n 0, 1) := by decide +kernel
theorem d_M_isSpecial_1 : decode b_M_isSpecial 1 = .ok (.iconst 0, 1) := by decide +kernel
theorem d_M_isSpecial_2 : decode b_M_isSpecial 2 = .ok (.putfield 26, 3) := by decide +kernel
theorem d_M_isSpecial_5 : decode b_M_isSpecial 5 = .ok (.iconst 0, 1) := by decide +kernel
theorem d_M_isSpecial_6 : decode b_M_isSpecial 6 = .ok (.istore_n 1, 1) := by decide +kernel
theorem d_M_isSpecial_7 : decode b_M_isSpecial 7 = .ok (.iconst 0, 1) := by decide +kernel
theorem d_M_isSpecial_8 : decode b_M_isSpecial 8 = .ok (.istore_n 2, 1) := by decide +kernel
theorem d_M_isSpecial_9 : decode b_M_isSpecial 9 = .ok (.iload_n 2, 1) := by decide +kernel
theorem d_M_isSpecial_10 : decode b_M_isSpecial 10 = .ok (.aload_n 0, 1) := by decide +kernel
theorem d_M_isSpecial_11 : decode b_M_isSpecial 11 = .ok (.getfield 35, 3) := by decide +kernel
theorem d_M_isSpecial_14 : decode b_M_isSpecial 14 = .ok (.if_icmp .ge 49, 3) := by decide +kernel
theorem d_M_isSpecial_17 : decode b_M_isSpecial 17 = .ok (.iload_n 1, 1) := by decide +kernel
theorem d_M_isSpecial_18 : decode b_M_isSpecial 18 = .ok (.ifCond .ne 33, 3) := by decide +kernel
theorem d_M_isSpecial_21 : decode b_M_isSpecial 21 = .ok (.aload_n 0, 1) := by decide +kernel
theorem d_M_isSpecial_22 : decode b_M_isSpecial 22 = .ok (.iload_n 2, 1) := by decide +kernel
theorem d_M_isSpecial_23 : decode b_M_isSpecial 23 = .ok (.bipush 42, 2) := by decide +kernel
theorem d_M_isSpecial_25 : decode b_M_isSpecial 25 = .ok (.invokevirtual 38, 3) := by decide +kernel
theorem d_M_isSpecial_28 : decode b_M_isSpecial 28 = .ok (.ifCond .ne 23, 3) := by decide +kernel
theorem d_M_isSpecial_31 : decode b_M_isSpecial 31 = .ok (.aload_n 0, 1) := by decide +kernel
theorem d_M_isSpecial_32 : decode b_M_isSpecial 32 = .ok (.iload_n 2, 1) := by decide +kernel
theorem d_M_isSpecial_33 : decode b_M_isSpecial 33 = .ok (.bipush 63, 2) := by decide +kernel
theorem d_M_isSpecial_35 : decode b_M_isSpecial 35 = .ok (.invokevirtual 38, 3) := by decide +kernel
theorem d_M_isSpecial_38 : decode b_M_isSpecial 38 = .ok (.ifCond .ne 13, 3) := by decide +kernel
theorem d_M_isSpecial_41 : decode b_M_isSpecial 41 = .ok (.aload_n 0, 1) := by decide +kernel
theorem d_M_isSpecial_42 : decode b_M_isSpecial 42 = .ok (.iload_n 2, 1) := by decide +kernel
theorem d_M_isSpecial_43 : decode b_M_isSpecial 43 = .ok (.bipush 91, 2) := by decide +kernel
theorem d_M_isSpecial_45 : decode b_M_isSpecial 45 = .ok (.invokevirtual 38, 3) := by decide +kernel
theorem d_M_isSpecial_48 : decode b_M_isSpecial 48 = .ok (.ifCond .eq 7, 3) := by decide +kernel
theorem d_M_isSpecial_51 : decode b_M_isSpecial 51 = .ok (.iconst 1, 1) := by decide +kernel
theorem d_M_isSpecial_52 : decode b_M_isSpecial 52 = .ok (.goto 4, 3) := by decide +kernel
theorem d_M_isSpecial_55 : decode b_M_isSpecial 55 = .ok (.iconst 0, 1) := by decide +kernel
theorem d_M_isSpecial_56 : decode b_M_isSpecial 56 = .ok (.istore_n 1, 1) := by decide +kernel
theorem d_M_isSpecial_57 : decode b_M_isSpecial 57 = .ok (.iinc 2 1, 3) := by decide +kernel
theorem d_M_isSpecial_60 : decode b_M_isSpecial 60 = .ok (.goto (-51), 3) := by decide +kernel
theorem d_M_isSpecial_63 : decode b_M_isSpecial 63 = .ok (.iload_n 1, 1) := by decide +kernel
theorem d_M_isSpecial_64 : decode b_M_isSpecial 64 = .ok (.ireturn, 1) := by decide +kernel
