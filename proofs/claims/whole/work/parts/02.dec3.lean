theorem d_M_at_0 : decode b_M_at 0 = .ok (.aload_n 0, 1) := by decide +kernel
theorem d_M_at_1 : decode b_M_at 1 = .ok (.getfield 44, 3) := by decide +kernel
theorem d_M_at_4 : decode b_M_at 4 = .ok (.bipush 60, 2) := by decide +kernel
theorem d_M_at_6 : decode b_M_at 6 = .ok (.iload_n 1, 1) := by decide +kernel
theorem d_M_at_7 : decode b_M_at 7 = .ok (.imul, 1) := by decide +kernel
theorem d_M_at_8 : decode b_M_at 8 = .ok (.iload_n 2, 1) := by decide +kernel
theorem d_M_at_9 : decode b_M_at 9 = .ok (.iadd, 1) := by decide +kernel
theorem d_M_at_10 : decode b_M_at 10 = .ok (.iaload, 1) := by decide +kernel
theorem d_M_at_11 : decode b_M_at 11 = .ok (.ireturn, 1) := by decide +kernel
theorem d_M_goal_0 : decode b_M_goal 0 = .ok (.iconst (-1), 1) := by decide +kernel
theorem d_M_goal_1 : decode b_M_goal 1 = .ok (.iload_n 0, 1) := by decide +kernel
theorem d_M_goal_2 : decode b_M_goal 2 = .ok (.isub, 1) := by decide +kernel
theorem d_M_goal_3 : decode b_M_goal 3 = .ok (.ireturn, 1) := by decide +kernel
theorem d_M_leads_0 : decode b_M_leads 0 = .ok (.aload_n 0, 1) := by decide +kernel
theorem d_M_leads_1 : decode b_M_leads 1 = .ok (.iload_n 1, 1) := by decide +kernel
theorem d_M_leads_2 : decode b_M_leads 2 = .ok (.iload_n 2, 1) := by decide +kernel
theorem d_M_leads_3 : decode b_M_leads 3 = .ok (.invokevirtual 99, 3) := by decide +kernel
theorem d_M_leads_6 : decode b_M_leads 6 = .ok (.istore_n 3, 1) := by decide +kernel
theorem d_M_leads_7 : decode b_M_leads 7 = .ok (.iconst 0, 1) := by decide +kernel
theorem d_M_leads_8 : decode b_M_leads 8 = .ok (.istore 4, 2) := by decide +kernel
theorem d_M_leads_10 : decode b_M_leads 10 = .ok (.iload_n 3, 1) := by decide +kernel
theorem d_M_leads_11 : decode b_M_leads 11 = .ok (.ifCond .ge 25, 3) := by decide +kernel
theorem d_M_leads_14 : decode b_M_leads 14 = .ok (.iload 4, 2) := by decide +kernel
theorem d_M_leads_16 : decode b_M_leads 16 = .ok (.iconst 4, 1) := by decide +kernel
theorem d_M_leads_17 : decode b_M_leads 17 = .ok (.if_icmp .ge 19, 3) := by decide +kernel
theorem d_M_leads_20 : decode b_M_leads 20 = .ok (.aload_n 0, 1) := by decide +kernel
theorem d_M_leads_21 : decode b_M_leads 21 = .ok (.iload_n 1, 1) := by decide +kernel
theorem d_M_leads_22 : decode b_M_leads 22 = .ok (.iload_n 3, 1) := by decide +kernel
theorem d_M_leads_23 : decode b_M_leads 23 = .ok (.invokestatic 102, 3) := by decide +kernel
theorem d_M_leads_26 : decode b_M_leads 26 = .ok (.invokevirtual 99, 3) := by decide +kernel
theorem d_M_leads_29 : decode b_M_leads 29 = .ok (.istore_n 3, 1) := by decide +kernel
theorem d_M_leads_30 : decode b_M_leads 30 = .ok (.iinc 4 1, 3) := by decide +kernel
theorem d_M_leads_33 : decode b_M_leads 33 = .ok (.goto (-23), 3) := by decide +kernel
theorem d_M_leads_36 : decode b_M_leads 36 = .ok (.iload_n 3, 1) := by decide +kernel
theorem d_M_leads_37 : decode b_M_leads 37 = .ok (.ifCond .le 7, 3) := by decide +kernel
theorem d_M_leads_40 : decode b_M_leads 40 = .ok (.iload_n 3, 1) := by decide +kernel
theorem d_M_leads_41 : decode b_M_leads 41 = .ok (.goto 4, 3) := by decide +kernel
theorem d_M_leads_44 : decode b_M_leads 44 = .ok (.iconst 0, 1) := by decide +kernel
theorem d_M_leads_45 : decode b_M_leads 45 = .ok (.ireturn, 1) := by decide +kernel
theorem d_M_may_0 : decode b_M_may 0 = .ok (.aload_n 0, 1) := by decide +kernel
theorem d_M_may_1 : decode b_M_may 1 = .ok (.iload_n 1, 1) := by decide +kernel
theorem d_M_may_2 : decode b_M_may 2 = .ok (.invokevirtual 88, 3) := by decide +kernel
theorem d_M_may_5 : decode b_M_may 5 = .ok (.ifCond .eq 28, 3) := by decide +kernel
theorem d_M_may_8 : decode b_M_may 8 = .ok (.aload_n 0, 1) := by decide +kernel
theorem d_M_may_9 : decode b_M_may 9 = .ok (.getfield 51, 3) := by decide +kernel
theorem d_M_may_12 : decode b_M_may 12 = .ok (.iload_n 1, 1) := by decide +kernel
theorem d_M_may_13 : decode b_M_may 13 = .ok (.baload, 1) := by decide +kernel
theorem d_M_may_14 : decode b_M_may 14 = .ok (.ifCond .eq 19, 3) := by decide +kernel
theorem d_M_may_17 : decode b_M_may 17 = .ok (.aload_n 0, 1) := by decide +kernel
theorem d_M_may_18 : decode b_M_may 18 = .ok (.iload_n 2, 1) := by decide +kernel
theorem d_M_may_19 : decode b_M_may 19 = .ok (.invokevirtual 72, 3) := by decide +kernel
theorem d_M_may_22 : decode b_M_may 22 = .ok (.ifCond .eq 11, 3) := by decide +kernel
theorem d_M_may_25 : decode b_M_may 25 = .ok (.aload_n 0, 1) := by decide +kernel
theorem d_M_may_26 : decode b_M_may 26 = .ok (.iload_n 3, 1) := by decide +kernel
theorem d_M_may_27 : decode b_M_may 27 = .ok (.invokevirtual 72, 3) := by decide +kernel
theorem d_M_may_30 : decode b_M_may 30 = .ok (.ifCond .ne 5, 3) := by decide +kernel
theorem d_M_may_33 : decode b_M_may 33 = .ok (.iconst (-1), 1) := by decide +kernel
theorem d_M_may_34 : decode b_M_may 34 = .ok (.ireturn, 1) := by decide +kernel
theorem d_M_may_35 : decode b_M_may 35 = .ok (.aload_n 0, 1) := by decide +kernel
theorem d_M_may_36 : decode b_M_may 36 = .ok (.getfield 32, 3) := by decide +kernel
theorem d_M_may_39 : decode b_M_may 39 = .ok (.iload_n 1, 1) := by decide +kernel
theorem d_M_may_40 : decode b_M_may 40 = .ok (.iaload, 1) := by decide +kernel
theorem d_M_may_41 : decode b_M_may 41 = .ok (.aload_n 0, 1) := by decide +kernel
theorem d_M_may_42 : decode b_M_may 42 = .ok (.getfield 63, 3) := by decide +kernel
theorem d_M_may_45 : decode b_M_may 45 = .ok (.if_icmp .ne 13, 3) := by decide +kernel
theorem d_M_may_48 : decode b_M_may 48 = .ok (.aload_n 0, 1) := by decide +kernel
theorem d_M_may_49 : decode b_M_may 49 = .ok (.getfield 54, 3) := by decide +kernel
theorem d_M_may_52 : decode b_M_may 52 = .ok (.iload_n 1, 1) := by decide +kernel
theorem d_M_may_53 : decode b_M_may 53 = .ok (.iconst 1, 1) := by decide +kernel
theorem d_M_may_54 : decode b_M_may 54 = .ok (.bastore, 1) := by decide +kernel
theorem d_M_may_55 : decode b_M_may 55 = .ok (.bipush (-9), 2) := by decide +kernel
theorem d_M_may_57 : decode b_M_may 57 = .ok (.ireturn, 1) := by decide +kernel
theorem d_M_may_58 : decode b_M_may 58 = .ok (.aload_n 0, 1) := by decide +kernel
theorem d_M_may_59 : decode b_M_may 59 = .ok (.getfield 32, 3) := by decide +kernel
theorem d_M_may_62 : decode b_M_may 62 = .ok (.iload_n 1, 1) := by decide +kernel
theorem d_M_may_63 : decode b_M_may 63 = .ok (.dup2, 1) := by decide +kernel
theorem d_M_may_64 : decode b_M_may 64 = .ok (.iaload, 1) := by decide +kernel
theorem d_M_may_65 : decode b_M_may 65 = .ok (.iconst 1, 1) := by decide +kernel
theorem d_M_may_66 : decode b_M_may 66 = .ok (.iadd, 1) := by decide +kernel
theorem d_M_may_67 : decode b_M_may 67 = .ok (.iastore, 1) := by decide +kernel
theorem d_M_may_68 : decode b_M_may 68 = .ok (.iconst 0, 1) := by decide +kernel
theorem d_M_may_69 : decode b_M_may 69 = .ok (.ireturn, 1) := by decide +kernel
theorem d_M_isInWay_0 : decode b_M_isInWay 0 = .ok (.iconst 0, 1) := by decide +kernel
theorem d_M_isInWay_1 : decode b_M_isInWay 1 = .ok (.istore_n 3, 1) := by decide +kernel
theorem d_M_isInWay_2 : decode b_M_isInWay 2 = .ok (.iconst 1, 1) := by decide +kernel
theorem d_M_isInWay_3 : decode b_M_isInWay 3 = .ok (.istore 4, 2) := by decide +kernel
theorem d_M_isInWay_5 : decode b_M_isInWay 5 = .ok (.iload 4, 2) := by decide +kernel
theorem d_M_isInWay_7 : decode b_M_isInWay 7 = .ok (.aload_n 0, 1) := by decide +kernel
theorem d_M_isInWay_8 : decode b_M_isInWay 8 = .ok (.getfield 7, 3) := by decide +kernel
theorem d_M_isInWay_11 : decode b_M_isInWay 11 = .ok (.if_icmp .ge 55, 3) := by decide +kernel
theorem d_M_isInWay_14 : decode b_M_isInWay 14 = .ok (.iload_n 3, 1) := by decide +kernel
theorem d_M_isInWay_15 : decode b_M_isInWay 15 = .ok (.ifCond .ne 39, 3) := by decide +kernel
theorem d_M_isInWay_18 : decode b_M_isInWay 18 = .ok (.iload 4, 2) := by decide +kernel
theorem d_M_isInWay_20 : decode b_M_isInWay 20 = .ok (.iload_n 2, 1) := by decide +kernel
theorem d_M_isInWay_21 : decode b_M_isInWay 21 = .ok (.if_icmp .eq 37, 3) := by decide +kernel
theorem d_M_isInWay_24 : decode b_M_isInWay 24 = .ok (.aload_n 0, 1) := by decide +kernel
theorem d_M_isInWay_25 : decode b_M_isInWay 25 = .ok (.iload_n 1, 1) := by decide +kernel
theorem d_M_isInWay_26 : decode b_M_isInWay 26 = .ok (.iload 4, 2) := by decide +kernel
theorem d_M_isInWay_28 : decode b_M_isInWay 28 = .ok (.invokevirtual 99, 3) := by decide +kernel
theorem d_M_isInWay_31 : decode b_M_isInWay 31 = .ok (.ifCond .eq 27, 3) := by decide +kernel
theorem d_M_isInWay_34 : decode b_M_isInWay 34 = .ok (.aload_n 0, 1) := by decide +kernel
theorem d_M_isInWay_35 : decode b_M_isInWay 35 = .ok (.iload 4, 2) := by decide +kernel
theorem d_M_isInWay_37 : decode b_M_isInWay 37 = .ok (.iload_n 2, 1) := by decide +kernel
theorem d_M_isInWay_38 : decode b_M_isInWay 38 = .ok (.invokevirtual 84, 3) := by decide +kernel
theorem d_M_isInWay_41 : decode b_M_isInWay 41 = .ok (.ifCond .ne 13, 3) := by decide +kernel
theorem d_M_isInWay_44 : decode b_M_isInWay 44 = .ok (.aload_n 0, 1) := by decide +kernel
theorem d_M_isInWay_45 : decode b_M_isInWay 45 = .ok (.iload_n 2, 1) := by decide +kernel
theorem d_M_isInWay_46 : decode b_M_isInWay 46 = .ok (.iload 4, 2) := by decide +kernel
theorem d_M_isInWay_48 : decode b_M_isInWay 48 = .ok (.invokevirtual 84, 3) := by decide +kernel
theorem d_M_isInWay_51 : decode b_M_isInWay 51 = .ok (.ifCond .eq 7, 3) := by decide +kernel
theorem d_M_isInWay_54 : decode b_M_isInWay 54 = .ok (.iconst 1, 1) := by decide +kernel
theorem d_M_isInWay_55 : decode b_M_isInWay 55 = .ok (.goto 4, 3) := by decide +kernel
theorem d_M_isInWay_58 : decode b_M_isInWay 58 = .ok (.iconst 0, 1) := by decide +kernel
theorem d_M_isInWay_59 : decode b_M_isInWay 59 = .ok (.istore_n 3, 1) := by decide +kernel
theorem d_M_isInWay_60 : decode b_M_isInWay 60 = .ok (.iinc 4 1, 3) := by decide +kernel
theorem d_M_isInWay_63 : decode b_M_isInWay 63 = .ok (.goto (-58), 3) := by decide +kernel
theorem d_M_isInWay_66 : decode b_M_isInWay 66 = .ok (.iload_n 3, 1) := by decide +kernel
theorem d_M_isInWay_67 : decode b_M_isInWay 67 = .ok (.ireturn, 1) := by decide +kernel
theorem d_M_refuse_0 : decode b_M_refuse 0 = .ok (.aload_n 0, 1) := by decide +kernel
theorem d_M_refuse_1 : decode b_M_refuse 1 = .ok (.getfield 35, 3) := by decide +kernel
theorem d_M_refuse_4 : decode b_M_refuse 4 = .ok (.iload_n 1, 1) := by decide +kernel
theorem d_M_refuse_5 : decode b_M_refuse 5 = .ok (.dup2, 1) := by decide +kernel
theorem d_M_refuse_6 : decode b_M_refuse 6 = .ok (.iaload, 1) := by decide +kernel
theorem d_M_refuse_7 : decode b_M_refuse 7 = .ok (.iconst 1, 1) := by decide +kernel
theorem d_M_refuse_8 : decode b_M_refuse 8 = .ok (.iadd, 1) := by decide +kernel
theorem d_M_refuse_9 : decode b_M_refuse 9 = .ok (.iastore, 1) := by decide +kernel
theorem d_M_refuse_10 : decode b_M_refuse 10 = .ok (.aload_n 0, 1) := by decide +kernel
theorem d_M_refuse_11 : decode b_M_refuse 11 = .ok (.getfield 54, 3) := by decide +kernel
theorem d_M_refuse_14 : decode b_M_refuse 14 = .ok (.iload_n 1, 1) := by decide +kernel
theorem d_M_refuse_15 : decode b_M_refuse 15 = .ok (.aload_n 0, 1) := by decide +kernel
theorem d_M_refuse_16 : decode b_M_refuse 16 = .ok (.getfield 54, 3) := by decide +kernel
theorem d_M_refuse_19 : decode b_M_refuse 19 = .ok (.iload_n 1, 1) := by decide +kernel
theorem d_M_refuse_20 : decode b_M_refuse 20 = .ok (.baload, 1) := by decide +kernel
theorem d_M_refuse_21 : decode b_M_refuse 21 = .ok (.ifCond .ne 10, 3) := by decide +kernel
theorem d_M_refuse_24 : decode b_M_refuse 24 = .ok (.aload_n 0, 1) := by decide +kernel
theorem d_M_refuse_25 : decode b_M_refuse 25 = .ok (.getfield 91, 3) := by decide +kernel
theorem d_M_refuse_28 : decode b_M_refuse 28 = .ok (.ifCond .eq 7, 3) := by decide +kernel
theorem d_M_refuse_31 : decode b_M_refuse 31 = .ok (.iconst 1, 1) := by decide +kernel
theorem d_M_refuse_32 : decode b_M_refuse 32 = .ok (.goto 4, 3) := by decide +kernel
theorem d_M_refuse_35 : decode b_M_refuse 35 = .ok (.iconst 0, 1) := by decide +kernel
theorem d_M_refuse_36 : decode b_M_refuse 36 = .ok (.bastore, 1) := by decide +kernel
theorem d_M_refuse_37 : decode b_M_refuse 37 = .ok (.iconst 0, 1) := by decide +kernel
theorem d_M_refuse_38 : decode b_M_refuse 38 = .ok (.ireturn, 1) := by decide +kernel
theorem d_M_open_0 : decode b_M_open 0 = .ok (.aload_n 0, 1) := by decide +kernel
theorem d_M_open_1 : decode b_M_open 1 = .ok (.iconst 0, 1) := by decide +kernel
theorem d_M_open_2 : decode b_M_open 2 = .ok (.putfield 66, 3) := by decide +kernel
theorem d_M_open_5 : decode b_M_open 5 = .ok (.aload_n 0, 1) := by decide +kernel
theorem d_M_open_6 : decode b_M_open 6 = .ok (.iload_n 1, 1) := by decide +kernel
theorem d_M_open_7 : decode b_M_open 7 = .ok (.iload_n 2, 1) := by decide +kernel
theorem d_M_open_8 : decode b_M_open 8 = .ok (.iconst 0, 1) := by decide +kernel
theorem d_M_open_9 : decode b_M_open 9 = .ok (.invokevirtual 105, 3) := by decide +kernel
theorem d_M_open_12 : decode b_M_open 12 = .ok (.istore_n 3, 1) := by decide +kernel
theorem d_M_open_13 : decode b_M_open 13 = .ok (.iload_n 3, 1) := by decide +kernel
theorem d_M_open_14 : decode b_M_open 14 = .ok (.ifCond .eq 5, 3) := by decide +kernel
theorem d_M_open_17 : decode b_M_open 17 = .ok (.iload_n 3, 1) := by decide +kernel
theorem d_M_open_18 : decode b_M_open 18 = .ok (.ireturn, 1) := by decide +kernel
theorem d_M_open_19 : decode b_M_open 19 = .ok (.aload_n 0, 1) := by decide +kernel
theorem d_M_open_20 : decode b_M_open 20 = .ok (.iload_n 1, 1) := by decide +kernel
theorem d_M_open_21 : decode b_M_open 21 = .ok (.iload_n 2, 1) := by decide +kernel
theorem d_M_open_22 : decode b_M_open 22 = .ok (.invokevirtual 109, 3) := by decide +kernel
theorem d_M_open_25 : decode b_M_open 25 = .ok (.istore 4, 2) := by decide +kernel
theorem d_M_open_27 : decode b_M_open 27 = .ok (.iload 4, 2) := by decide +kernel
theorem d_M_open_29 : decode b_M_open 29 = .ok (.ifCond .le 7, 3) := by decide +kernel
theorem d_M_open_32 : decode b_M_open 32 = .ok (.iconst 1, 1) := by decide +kernel
theorem d_M_open_33 : decode b_M_open 33 = .ok (.goto 4, 3) := by decide +kernel
theorem d_M_open_36 : decode b_M_open 36 = .ok (.iconst 0, 1) := by decide +kernel
theorem d_M_open_37 : decode b_M_open 37 = .ok (.istore 5, 2) := by decide +kernel
theorem d_M_open_39 : decode b_M_open 39 = .ok (.iconst 0, 1) := by decide +kernel
theorem d_M_open_40 : decode b_M_open 40 = .ok (.istore 6, 2) := by decide +kernel
theorem d_M_open_42 : decode b_M_open 42 = .ok (.iload 6, 2) := by decide +kernel
theorem d_M_open_44 : decode b_M_open 44 = .ok (.aload_n 0, 1) := by decide +kernel
theorem d_M_open_45 : decode b_M_open 45 = .ok (.getfield 38, 3) := by decide +kernel
theorem d_M_open_48 : decode b_M_open 48 = .ok (.iload_n 1, 1) := by decide +kernel
theorem d_M_open_49 : decode b_M_open 49 = .ok (.iaload, 1) := by decide +kernel
theorem d_M_open_50 : decode b_M_open 50 = .ok (.if_icmp .ge 37, 3) := by decide +kernel
theorem d_M_open_53 : decode b_M_open 53 = .ok (.iload 5, 2) := by decide +kernel
theorem d_M_open_55 : decode b_M_open 55 = .ok (.ifCond .ne 19, 3) := by decide +kernel
theorem d_M_open_58 : decode b_M_open 58 = .ok (.aload_n 0, 1) := by decide +kernel
theorem d_M_open_59 : decode b_M_open 59 = .ok (.getfield 41, 3) := by decide +kernel
theorem d_M_open_62 : decode b_M_open 62 = .ok (.bipush 60, 2) := by decide +kernel
theorem d_M_open_64 : decode b_M_open 64 = .ok (.iload_n 1, 1) := by decide +kernel
theorem d_M_open_65 : decode b_M_open 65 = .ok (.imul, 1) := by decide +kernel
theorem d_M_open_66 : decode b_M_open 66 = .ok (.iload 6, 2) := by decide +kernel
theorem d_M_open_68 : decode b_M_open 68 = .ok (.iadd, 1) := by decide +kernel
theorem d_M_open_69 : decode b_M_open 69 = .ok (.iaload, 1) := by decide +kernel
theorem d_M_open_70 : decode b_M_open 70 = .ok (.iload_n 2, 1) := by decide +kernel
theorem d_M_open_71 : decode b_M_open 71 = .ok (.if_icmp .ne 7, 3) := by decide +kernel
theorem d_M_open_74 : decode b_M_open 74 = .ok (.iconst 1, 1) := by decide +kernel
theorem d_M_open_75 : decode b_M_open 75 = .ok (.goto 4, 3) := by decide +kernel
theorem d_M_open_78 : decode b_M_open 78 = .ok (.iconst 0, 1) := by decide +kernel
theorem d_M_open_79 : decode b_M_open 79 = .ok (.istore 5, 2) := by decide +kernel
theorem d_M_open_81 : decode b_M_open 81 = .ok (.iinc 6 1, 3) := by decide +kernel
theorem d_M_open_84 : decode b_M_open 84 = .ok (.goto (-42), 3) := by decide +kernel
theorem d_M_open_87 : decode b_M_open 87 = .ok (.iload 5, 2) := by decide +kernel
theorem d_M_open_89 : decode b_M_open 89 = .ok (.ifCond .ne 30, 3) := by decide +kernel
theorem d_M_open_92 : decode b_M_open 92 = .ok (.aload_n 0, 1) := by decide +kernel
theorem d_M_open_93 : decode b_M_open 93 = .ok (.getfield 41, 3) := by decide +kernel
theorem d_M_open_96 : decode b_M_open 96 = .ok (.bipush 60, 2) := by decide +kernel
theorem d_M_open_98 : decode b_M_open 98 = .ok (.iload_n 1, 1) := by decide +kernel
theorem d_M_open_99 : decode b_M_open 99 = .ok (.imul, 1) := by decide +kernel
theorem d_M_open_100 : decode b_M_open 100 = .ok (.aload_n 0, 1) := by decide +kernel
theorem d_M_open_101 : decode b_M_open 101 = .ok (.getfield 38, 3) := by decide +kernel
theorem d_M_open_104 : decode b_M_open 104 = .ok (.iload_n 1, 1) := by decide +kernel
theorem d_M_open_105 : decode b_M_open 105 = .ok (.iaload, 1) := by decide +kernel
theorem d_M_open_106 : decode b_M_open 106 = .ok (.iadd, 1) := by decide +kernel
theorem d_M_open_107 : decode b_M_open 107 = .ok (.iload_n 2, 1) := by decide +kernel
theorem d_M_open_108 : decode b_M_open 108 = .ok (.iastore, 1) := by decide +kernel
theorem d_M_open_109 : decode b_M_open 109 = .ok (.aload_n 0, 1) := by decide +kernel
theorem d_M_open_110 : decode b_M_open 110 = .ok (.getfield 38, 3) := by decide +kernel
theorem d_M_open_113 : decode b_M_open 113 = .ok (.iload_n 1, 1) := by decide +kernel
theorem d_M_open_114 : decode b_M_open 114 = .ok (.dup2, 1) := by decide +kernel
theorem d_M_open_115 : decode b_M_open 115 = .ok (.iaload, 1) := by decide +kernel
theorem d_M_open_116 : decode b_M_open 116 = .ok (.iconst 1, 1) := by decide +kernel
theorem d_M_open_117 : decode b_M_open 117 = .ok (.iadd, 1) := by decide +kernel
theorem d_M_open_118 : decode b_M_open 118 = .ok (.iastore, 1) := by decide +kernel
theorem d_M_open_119 : decode b_M_open 119 = .ok (.iload 4, 2) := by decide +kernel
theorem d_M_open_121 : decode b_M_open 121 = .ok (.ireturn, 1) := by decide +kernel
theorem d_M_write_0 : decode b_M_write 0 = .ok (.aload_n 0, 1) := by decide +kernel
theorem d_M_write_1 : decode b_M_write 1 = .ok (.iconst 0, 1) := by decide +kernel
theorem d_M_write_2 : decode b_M_write 2 = .ok (.putfield 66, 3) := by decide +kernel
theorem d_M_write_5 : decode b_M_write 5 = .ok (.aload_n 0, 1) := by decide +kernel
theorem d_M_write_6 : decode b_M_write 6 = .ok (.iload_n 1, 1) := by decide +kernel
theorem d_M_write_7 : decode b_M_write 7 = .ok (.iload_n 2, 1) := by decide +kernel
theorem d_M_write_8 : decode b_M_write 8 = .ok (.iconst 0, 1) := by decide +kernel
theorem d_M_write_9 : decode b_M_write 9 = .ok (.invokevirtual 105, 3) := by decide +kernel
theorem d_M_write_12 : decode b_M_write 12 = .ok (.istore 4, 2) := by decide +kernel
theorem d_M_write_14 : decode b_M_write 14 = .ok (.iload 4, 2) := by decide +kernel
theorem d_M_write_16 : decode b_M_write 16 = .ok (.ifCond .eq 6, 3) := by decide +kernel
theorem d_M_write_19 : decode b_M_write 19 = .ok (.iload 4, 2) := by decide +kernel
theorem d_M_write_21 : decode b_M_write 21 = .ok (.ireturn, 1) := by decide +kernel
theorem d_M_write_22 : decode b_M_write 22 = .ok (.aload_n 0, 1) := by decide +kernel
theorem d_M_write_23 : decode b_M_write 23 = .ok (.iload_n 1, 1) := by decide +kernel
theorem d_M_write_24 : decode b_M_write 24 = .ok (.iload_n 2, 1) := by decide +kernel
theorem d_M_write_25 : decode b_M_write 25 = .ok (.invokevirtual 112, 3) := by decide +kernel
theorem d_M_write_28 : decode b_M_write 28 = .ok (.ifCond .eq 17, 3) := by decide +kernel
theorem d_M_write_31 : decode b_M_write 31 = .ok (.aload_n 0, 1) := by decide +kernel
theorem d_M_write_32 : decode b_M_write 32 = .ok (.iload_n 1, 1) := by decide +kernel
theorem d_M_write_33 : decode b_M_write 33 = .ok (.iload_n 2, 1) := by decide +kernel
theorem d_M_write_34 : decode b_M_write 34 = .ok (.invokevirtual 115, 3) := by decide +kernel
theorem d_M_write_37 : decode b_M_write 37 = .ok (.ifCond .ne 8, 3) := by decide +kernel
theorem d_M_write_40 : decode b_M_write 40 = .ok (.iload_n 3, 1) := by decide +kernel
theorem d_M_write_41 : decode b_M_write 41 = .ok (.iconst 1, 1) := by decide +kernel
theorem d_M_write_42 : decode b_M_write 42 = .ok (.if_icmp .ge 9, 3) := by decide +kernel
theorem d_M_write_45 : decode b_M_write 45 = .ok (.aload_n 0, 1) := by decide +kernel
theorem d_M_write_46 : decode b_M_write 46 = .ok (.iload_n 1, 1) := by decide +kernel
theorem d_M_write_47 : decode b_M_write 47 = .ok (.invokevirtual 118, 3) := by decide +kernel
theorem d_M_write_50 : decode b_M_write 50 = .ok (.ireturn, 1) := by decide +kernel
theorem d_M_write_51 : decode b_M_write 51 = .ok (.aload_n 0, 1) := by decide +kernel
theorem d_M_write_52 : decode b_M_write 52 = .ok (.getfield 44, 3) := by decide +kernel
theorem d_M_write_55 : decode b_M_write 55 = .ok (.bipush 60, 2) := by decide +kernel
theorem d_M_write_57 : decode b_M_write 57 = .ok (.iload_n 1, 1) := by decide +kernel
theorem d_M_write_58 : decode b_M_write 58 = .ok (.imul, 1) := by decide +kernel
theorem d_M_write_59 : decode b_M_write 59 = .ok (.iload_n 2, 1) := by decide +kernel
theorem d_M_write_60 : decode b_M_write 60 = .ok (.iadd, 1) := by decide +kernel
theorem d_M_write_61 : decode b_M_write 61 = .ok (.iload_n 3, 1) := by decide +kernel
theorem d_M_write_62 : decode b_M_write 62 = .ok (.iastore, 1) := by decide +kernel
theorem d_M_write_63 : decode b_M_write 63 = .ok (.iconst 1, 1) := by decide +kernel
theorem d_M_write_64 : decode b_M_write 64 = .ok (.ireturn, 1) := by decide +kernel
theorem d_M_link_0 : decode b_M_link 0 = .ok (.aload_n 0, 1) := by decide +kernel
theorem d_M_link_1 : decode b_M_link 1 = .ok (.iconst 0, 1) := by decide +kernel
theorem d_M_link_2 : decode b_M_link 2 = .ok (.putfield 66, 3) := by decide +kernel
theorem d_M_link_5 : decode b_M_link 5 = .ok (.aload_n 0, 1) := by decide +kernel
theorem d_M_link_6 : decode b_M_link 6 = .ok (.iload_n 1, 1) := by decide +kernel
theorem d_M_link_7 : decode b_M_link 7 = .ok (.iload_n 2, 1) := by decide +kernel
theorem d_M_link_8 : decode b_M_link 8 = .ok (.iload_n 3, 1) := by decide +kernel
theorem d_M_link_9 : decode b_M_link 9 = .ok (.invokevirtual 105, 3) := by decide +kernel
theorem d_M_link_12 : decode b_M_link 12 = .ok (.istore 4, 2) := by decide +kernel
theorem d_M_link_14 : decode b_M_link 14 = .ok (.iload 4, 2) := by decide +kernel
theorem d_M_link_16 : decode b_M_link 16 = .ok (.ifCond .eq 6, 3) := by decide +kernel
theorem d_M_link_19 : decode b_M_link 19 = .ok (.iload 4, 2) := by decide +kernel
theorem d_M_link_21 : decode b_M_link 21 = .ok (.ireturn, 1) := by decide +kernel
theorem d_M_link_22 : decode b_M_link 22 = .ok (.aload_n 0, 1) := by decide +kernel
theorem d_M_link_23 : decode b_M_link 23 = .ok (.iload_n 1, 1) := by decide +kernel
theorem d_M_link_24 : decode b_M_link 24 = .ok (.iload_n 2, 1) := by decide +kernel
theorem d_M_link_25 : decode b_M_link 25 = .ok (.invokevirtual 112, 3) := by decide +kernel
theorem d_M_link_28 : decode b_M_link 28 = .ok (.ifCond .eq 31, 3) := by decide +kernel
theorem d_M_link_31 : decode b_M_link 31 = .ok (.aload_n 0, 1) := by decide +kernel
theorem d_M_link_32 : decode b_M_link 32 = .ok (.iload_n 1, 1) := by decide +kernel
theorem d_M_link_33 : decode b_M_link 33 = .ok (.iload_n 2, 1) := by decide +kernel
theorem d_M_link_34 : decode b_M_link 34 = .ok (.invokevirtual 115, 3) := by decide +kernel
theorem d_M_link_37 : decode b_M_link 37 = .ok (.ifCond .ne 22, 3) := by decide +kernel
theorem d_M_link_40 : decode b_M_link 40 = .ok (.aload_n 0, 1) := by decide +kernel
theorem d_M_link_41 : decode b_M_link 41 = .ok (.iload_n 1, 1) := by decide +kernel
theorem d_M_link_42 : decode b_M_link 42 = .ok (.iload_n 3, 1) := by decide +kernel
theorem d_M_link_43 : decode b_M_link 43 = .ok (.invokevirtual 112, 3) := by decide +kernel
theorem d_M_link_46 : decode b_M_link 46 = .ok (.ifCond .ne 19, 3) := by decide +kernel
theorem d_M_link_49 : decode b_M_link 49 = .ok (.aload_n 0, 1) := by decide +kernel
theorem d_M_link_50 : decode b_M_link 50 = .ok (.iload_n 1, 1) := by decide +kernel
theorem d_M_link_51 : decode b_M_link 51 = .ok (.iload_n 3, 1) := by decide +kernel
theorem d_M_link_52 : decode b_M_link 52 = .ok (.iconst 0, 1) := by decide +kernel
theorem d_M_link_53 : decode b_M_link 53 = .ok (.invokevirtual 95, 3) := by decide +kernel
theorem d_M_link_56 : decode b_M_link 56 = .ok (.ifCond .ne 9, 3) := by decide +kernel
theorem d_M_link_59 : decode b_M_link 59 = .ok (.aload_n 0, 1) := by decide +kernel
theorem d_M_link_60 : decode b_M_link 60 = .ok (.iload_n 1, 1) := by decide +kernel
theorem d_M_link_61 : decode b_M_link 61 = .ok (.invokevirtual 118, 3) := by decide +kernel
theorem d_M_link_64 : decode b_M_link 64 = .ok (.ireturn, 1) := by decide +kernel
theorem d_M_link_65 : decode b_M_link 65 = .ok (.aload_n 0, 1) := by decide +kernel
theorem d_M_link_66 : decode b_M_link 66 = .ok (.getfield 44, 3) := by decide +kernel
theorem d_M_link_69 : decode b_M_link 69 = .ok (.bipush 60, 2) := by decide +kernel
theorem d_M_link_71 : decode b_M_link 71 = .ok (.iload_n 1, 1) := by decide +kernel
theorem d_M_link_72 : decode b_M_link 72 = .ok (.imul, 1) := by decide +kernel
theorem d_M_link_73 : decode b_M_link 73 = .ok (.iload_n 2, 1) := by decide +kernel
theorem d_M_link_74 : decode b_M_link 74 = .ok (.iadd, 1) := by decide +kernel
theorem d_M_link_75 : decode b_M_link 75 = .ok (.iconst (-1), 1) := by decide +kernel
theorem d_M_link_76 : decode b_M_link 76 = .ok (.iload_n 3, 1) := by decide +kernel
theorem d_M_link_77 : decode b_M_link 77 = .ok (.isub, 1) := by decide +kernel
theorem d_M_link_78 : decode b_M_link 78 = .ok (.iastore, 1) := by decide +kernel
theorem d_M_link_79 : decode b_M_link 79 = .ok (.iconst 1, 1) := by decide +kernel
theorem d_M_link_80 : decode b_M_link 80 = .ok (.ireturn, 1) := by decide +kernel
theorem d_M_remove_0 : decode b_M_remove 0 = .ok (.aload_n 0, 1) := by decide +kernel
theorem d_M_remove_1 : decode b_M_remove 1 = .ok (.iconst 0, 1) := by decide +kernel
theorem d_M_remove_2 : decode b_M_remove 2 = .ok (.putfield 66, 3) := by decide +kernel
theorem d_M_remove_5 : decode b_M_remove 5 = .ok (.aload_n 0, 1) := by decide +kernel
theorem d_M_remove_6 : decode b_M_remove 6 = .ok (.iload_n 1, 1) := by decide +kernel
theorem d_M_remove_7 : decode b_M_remove 7 = .ok (.iload_n 2, 1) := by decide +kernel
theorem d_M_remove_8 : decode b_M_remove 8 = .ok (.iconst 0, 1) := by decide +kernel
theorem d_M_remove_9 : decode b_M_remove 9 = .ok (.invokevirtual 105, 3) := by decide +kernel
theorem d_M_remove_12 : decode b_M_remove 12 = .ok (.istore_n 3, 1) := by decide +kernel
theorem d_M_remove_13 : decode b_M_remove 13 = .ok (.iload_n 3, 1) := by decide +kernel
theorem d_M_remove_14 : decode b_M_remove 14 = .ok (.ifCond .eq 5, 3) := by decide +kernel
theorem d_M_remove_17 : decode b_M_remove 17 = .ok (.iload_n 3, 1) := by decide +kernel
theorem d_M_remove_18 : decode b_M_remove 18 = .ok (.ireturn, 1) := by decide +kernel
theorem d_M_remove_19 : decode b_M_remove 19 = .ok (.aload_n 0, 1) := by decide +kernel
theorem d_M_remove_20 : decode b_M_remove 20 = .ok (.iload_n 1, 1) := by decide +kernel
theorem d_M_remove_21 : decode b_M_remove 21 = .ok (.iload_n 2, 1) := by decide +kernel
theorem d_M_remove_22 : decode b_M_remove 22 = .ok (.invokevirtual 112, 3) := by decide +kernel
theorem d_M_remove_25 : decode b_M_remove 25 = .ok (.ifCond .eq 12, 3) := by decide +kernel
theorem d_M_remove_28 : decode b_M_remove 28 = .ok (.aload_n 0, 1) := by decide +kernel
theorem d_M_remove_29 : decode b_M_remove 29 = .ok (.iload_n 1, 1) := by decide +kernel
theorem d_M_remove_30 : decode b_M_remove 30 = .ok (.iload_n 2, 1) := by decide +kernel
theorem d_M_remove_31 : decode b_M_remove 31 = .ok (.invokevirtual 99, 3) := by decide +kernel
theorem d_M_remove_34 : decode b_M_remove 34 = .ok (.ifCond .ne 9, 3) := by decide +kernel
theorem d_M_remove_37 : decode b_M_remove 37 = .ok (.aload_n 0, 1) := by decide +kernel
theorem d_M_remove_38 : decode b_M_remove 38 = .ok (.iload_n 1, 1) := by decide +kernel
theorem d_M_remove_39 : decode b_M_remove 39 = .ok (.invokevirtual 118, 3) := by decide +kernel
theorem d_M_remove_42 : decode b_M_remove 42 = .ok (.ireturn, 1) := by decide +kernel
theorem d_M_remove_43 : decode b_M_remove 43 = .ok (.aload_n 0, 1) := by decide +kernel
theorem d_M_remove_44 : decode b_M_remove 44 = .ok (.getfield 44, 3) := by decide +kernel
theorem d_M_remove_47 : decode b_M_remove 47 = .ok (.bipush 60, 2) := by decide +kernel
theorem d_M_remove_49 : decode b_M_remove 49 = .ok (.iload_n 1, 1) := by decide +kernel
theorem d_M_remove_50 : decode b_M_remove 50 = .ok (.imul, 1) := by decide +kernel
theorem d_M_remove_51 : decode b_M_remove 51 = .ok (.iload_n 2, 1) := by decide +kernel
theorem d_M_remove_52 : decode b_M_remove 52 = .ok (.iadd, 1) := by decide +kernel
theorem d_M_remove_53 : decode b_M_remove 53 = .ok (.iconst 0, 1) := by decide +kernel
theorem d_M_remove_54 : decode b_M_remove 54 = .ok (.iastore, 1) := by decide +kernel
theorem d_M_remove_55 : decode b_M_remove 55 = .ok (.iconst 1, 1) := by decide +kernel
theorem d_M_remove_56 : decode b_M_remove 56 = .ok (.ireturn, 1) := by decide +kernel
theorem d_M_hasUnder_0 : decode b_M_hasUnder 0 = .ok (.iconst 0, 1) := by decide +kernel
theorem d_M_hasUnder_1 : decode b_M_hasUnder 1 = .ok (.istore_n 3, 1) := by decide +kernel
theorem d_M_hasUnder_2 : decode b_M_hasUnder 2 = .ok (.iconst 1, 1) := by decide +kernel
theorem d_M_hasUnder_3 : decode b_M_hasUnder 3 = .ok (.istore 4, 2) := by decide +kernel
theorem d_M_hasUnder_5 : decode b_M_hasUnder 5 = .ok (.iload 4, 2) := by decide +kernel
theorem d_M_hasUnder_7 : decode b_M_hasUnder 7 = .ok (.aload_n 0, 1) := by decide +kernel
theorem d_M_hasUnder_8 : decode b_M_hasUnder 8 = .ok (.getfield 7, 3) := by decide +kernel
theorem d_M_hasUnder_11 : decode b_M_hasUnder 11 = .ok (.if_icmp .ge 39, 3) := by decide +kernel
theorem d_M_hasUnder_14 : decode b_M_hasUnder 14 = .ok (.iload_n 3, 1) := by decide +kernel
theorem d_M_hasUnder_15 : decode b_M_hasUnder 15 = .ok (.ifCond .ne 23, 3) := by decide +kernel
theorem d_M_hasUnder_18 : decode b_M_hasUnder 18 = .ok (.aload_n 0, 1) := by decide +kernel
theorem d_M_hasUnder_19 : decode b_M_hasUnder 19 = .ok (.iload_n 1, 1) := by decide +kernel
theorem d_M_hasUnder_20 : decode b_M_hasUnder 20 = .ok (.iload 4, 2) := by decide +kernel
theorem d_M_hasUnder_22 : decode b_M_hasUnder 22 = .ok (.invokevirtual 99, 3) := by decide +kernel
theorem d_M_hasUnder_25 : decode b_M_hasUnder 25 = .ok (.ifCond .eq 17, 3) := by decide +kernel
theorem d_M_hasUnder_28 : decode b_M_hasUnder 28 = .ok (.aload_n 0, 1) := by decide +kernel
theorem d_M_hasUnder_29 : decode b_M_hasUnder 29 = .ok (.iload 4, 2) := by decide +kernel
theorem d_M_hasUnder_31 : decode b_M_hasUnder 31 = .ok (.iload_n 2, 1) := by decide +kernel
theorem d_M_hasUnder_32 : decode b_M_hasUnder 32 = .ok (.invokevirtual 84, 3) := by decide +kernel
theorem d_M_hasUnder_35 : decode b_M_hasUnder 35 = .ok (.ifCond .eq 7, 3) := by decide +kernel
theorem d_M_hasUnder_38 : decode b_M_hasUnder 38 = .ok (.iconst 1, 1) := by decide +kernel
theorem d_M_hasUnder_39 : decode b_M_hasUnder 39 = .ok (.goto 4, 3) := by decide +kernel
theorem d_M_hasUnder_42 : decode b_M_hasUnder 42 = .ok (.iconst 0, 1) := by decide +kernel
theorem d_M_hasUnder_43 : decode b_M_hasUnder 43 = .ok (.istore_n 3, 1) := by decide +kernel
theorem d_M_hasUnder_44 : decode b_M_hasUnder 44 = .ok (.iinc 4 1, 3) := by decide +kernel
theorem d_M_hasUnder_47 : decode b_M_hasUnder 47 = .ok (.goto (-42), 3) := by decide +kernel
theorem d_M_hasUnder_50 : decode b_M_hasUnder 50 = .ok (.iload_n 3, 1) := by decide +kernel
theorem d_M_hasUnder_51 : decode b_M_hasUnder 51 = .ok (.ireturn, 1) := by decide +kernel
theorem d_M_list_0 : decode b_M_list 0 = .ok (.aload_n 0, 1) := by decide +kernel
theorem d_M_list_1 : decode b_M_list 1 = .ok (.iconst 0, 1) := by decide +kernel
theorem d_M_list_2 : decode b_M_list 2 = .ok (.putfield 66, 3) := by decide +kernel
theorem d_M_list_5 : decode b_M_list 5 = .ok (.aload_n 0, 1) := by decide +kernel
theorem d_M_list_6 : decode b_M_list 6 = .ok (.iload_n 1, 1) := by decide +kernel
theorem d_M_list_7 : decode b_M_list 7 = .ok (.iload_n 2, 1) := by decide +kernel
theorem d_M_list_8 : decode b_M_list 8 = .ok (.iconst 0, 1) := by decide +kernel
theorem d_M_list_9 : decode b_M_list 9 = .ok (.invokevirtual 105, 3) := by decide +kernel
theorem d_M_list_12 : decode b_M_list 12 = .ok (.istore 4, 2) := by decide +kernel
theorem d_M_list_14 : decode b_M_list 14 = .ok (.iload 4, 2) := by decide +kernel
theorem d_M_list_16 : decode b_M_list 16 = .ok (.ifCond .eq 6, 3) := by decide +kernel
theorem d_M_list_19 : decode b_M_list 19 = .ok (.iload 4, 2) := by decide +kernel
theorem d_M_list_21 : decode b_M_list 21 = .ok (.ireturn, 1) := by decide +kernel
theorem d_M_list_22 : decode b_M_list 22 = .ok (.iload_n 3, 1) := by decide +kernel
theorem d_M_list_23 : decode b_M_list 23 = .ok (.istore 5, 2) := by decide +kernel
theorem d_M_list_25 : decode b_M_list 25 = .ok (.bipush 65, 2) := by decide +kernel
theorem d_M_list_27 : decode b_M_list 27 = .ok (.istore 6, 2) := by decide +kernel
theorem d_M_list_29 : decode b_M_list 29 = .ok (.iload 6, 2) := by decide +kernel
theorem d_M_list_31 : decode b_M_list 31 = .ok (.bipush 122, 2) := by decide +kernel
theorem d_M_list_33 : decode b_M_list 33 = .ok (.if_icmp .gt 48, 3) := by decide +kernel
theorem d_M_list_36 : decode b_M_list 36 = .ok (.aload_n 0, 1) := by decide +kernel
theorem d_M_list_37 : decode b_M_list 37 = .ok (.iload_n 2, 1) := by decide +kernel
theorem d_M_list_38 : decode b_M_list 38 = .ok (.iload 6, 2) := by decide +kernel
theorem d_M_list_40 : decode b_M_list 40 = .ok (.invokevirtual 80, 3) := by decide +kernel
theorem d_M_list_43 : decode b_M_list 43 = .ok (.istore 7, 2) := by decide +kernel
theorem d_M_list_45 : decode b_M_list 45 = .ok (.iload 7, 2) := by decide +kernel
theorem d_M_list_47 : decode b_M_list 47 = .ok (.iconst (-1), 1) := by decide +kernel
theorem d_M_list_48 : decode b_M_list 48 = .ok (.if_icmp .eq 27, 3) := by decide +kernel
theorem d_M_list_51 : decode b_M_list 51 = .ok (.aload_n 0, 1) := by decide +kernel
theorem d_M_list_52 : decode b_M_list 52 = .ok (.iload_n 1, 1) := by decide +kernel
theorem d_M_list_53 : decode b_M_list 53 = .ok (.iload 7, 2) := by decide +kernel
theorem d_M_list_55 : decode b_M_list 55 = .ok (.invokevirtual 121, 3) := by decide +kernel
theorem d_M_list_58 : decode b_M_list 58 = .ok (.ifCond .ne 6, 3) := by decide +kernel
theorem d_M_list_61 : decode b_M_list 61 = .ok (.goto 14, 3) := by decide +kernel
theorem d_M_list_64 : decode b_M_list 64 = .ok (.iload 5, 2) := by decide +kernel
theorem d_M_list_66 : decode b_M_list 66 = .ok (.ifCond .ne 6, 3) := by decide +kernel
theorem d_M_list_69 : decode b_M_list 69 = .ok (.iload 6, 2) := by decide +kernel
theorem d_M_list_71 : decode b_M_list 71 = .ok (.ireturn, 1) := by decide +kernel
theorem d_M_list_72 : decode b_M_list 72 = .ok (.iinc 5 (-1), 3) := by decide +kernel
theorem d_M_list_75 : decode b_M_list 75 = .ok (.iinc 6 1, 3) := by decide +kernel
theorem d_M_list_78 : decode b_M_list 78 = .ok (.goto (-49), 3) := by decide +kernel
theorem d_M_list_81 : decode b_M_list 81 = .ok (.iconst 0, 1) := by decide +kernel
theorem d_M_list_82 : decode b_M_list 82 = .ok (.ireturn, 1) := by decide +kernel
theorem d_M_isLoose_0 : decode b_M_isLoose 0 = .ok (.iconst 0, 1) := by decide +kernel
theorem d_M_isLoose_1 : decode b_M_isLoose 1 = .ok (.istore_n 3, 1) := by decide +kernel
theorem d_M_isLoose_2 : decode b_M_isLoose 2 = .ok (.iconst 1, 1) := by decide +kernel
theorem d_M_isLoose_3 : decode b_M_isLoose 3 = .ok (.istore 4, 2) := by decide +kernel
theorem d_M_isLoose_5 : decode b_M_isLoose 5 = .ok (.iload 4, 2) := by decide +kernel
theorem d_M_isLoose_7 : decode b_M_isLoose 7 = .ok (.aload_n 0, 1) := by decide +kernel
theorem d_M_isLoose_8 : decode b_M_isLoose 8 = .ok (.getfield 7, 3) := by decide +kernel
theorem d_M_isLoose_11 : decode b_M_isLoose 11 = .ok (.if_icmp .ge 49, 3) := by decide +kernel
theorem d_M_isLoose_14 : decode b_M_isLoose 14 = .ok (.iload_n 3, 1) := by decide +kernel
theorem d_M_isLoose_15 : decode b_M_isLoose 15 = .ok (.ifCond .ne 33, 3) := by decide +kernel
theorem d_M_isLoose_18 : decode b_M_isLoose 18 = .ok (.aload_n 0, 1) := by decide +kernel
theorem d_M_isLoose_19 : decode b_M_isLoose 19 = .ok (.iload_n 1, 1) := by decide +kernel
theorem d_M_isLoose_20 : decode b_M_isLoose 20 = .ok (.iload 4, 2) := by decide +kernel
theorem d_M_isLoose_22 : decode b_M_isLoose 22 = .ok (.invokevirtual 99, 3) := by decide +kernel
theorem d_M_isLoose_25 : decode b_M_isLoose 25 = .ok (.ifCond .ge 27, 3) := by decide +kernel
theorem d_M_isLoose_28 : decode b_M_isLoose 28 = .ok (.aload_n 0, 1) := by decide +kernel
theorem d_M_isLoose_29 : decode b_M_isLoose 29 = .ok (.iload 4, 2) := by decide +kernel
theorem d_M_isLoose_31 : decode b_M_isLoose 31 = .ok (.iload_n 2, 1) := by decide +kernel
theorem d_M_isLoose_32 : decode b_M_isLoose 32 = .ok (.invokevirtual 84, 3) := by decide +kernel
theorem d_M_isLoose_35 : decode b_M_isLoose 35 = .ok (.ifCond .eq 17, 3) := by decide +kernel
theorem d_M_isLoose_38 : decode b_M_isLoose 38 = .ok (.aload_n 0, 1) := by decide +kernel
theorem d_M_isLoose_39 : decode b_M_isLoose 39 = .ok (.iload_n 1, 1) := by decide +kernel
theorem d_M_isLoose_40 : decode b_M_isLoose 40 = .ok (.iload 4, 2) := by decide +kernel
theorem d_M_isLoose_42 : decode b_M_isLoose 42 = .ok (.invokevirtual 109, 3) := by decide +kernel
theorem d_M_isLoose_45 : decode b_M_isLoose 45 = .ok (.ifCond .ne 7, 3) := by decide +kernel
theorem d_M_isLoose_48 : decode b_M_isLoose 48 = .ok (.iconst 1, 1) := by decide +kernel
theorem d_M_isLoose_49 : decode b_M_isLoose 49 = .ok (.goto 4, 3) := by decide +kernel
theorem d_M_isLoose_52 : decode b_M_isLoose 52 = .ok (.iconst 0, 1) := by decide +kernel
theorem d_M_isLoose_53 : decode b_M_isLoose 53 = .ok (.istore_n 3, 1) := by decide +kernel
theorem d_M_isLoose_54 : decode b_M_isLoose 54 = .ok (.iinc 4 1, 3) := by decide +kernel
theorem d_M_isLoose_57 : decode b_M_isLoose 57 = .ok (.goto (-52), 3) := by decide +kernel
theorem d_M_isLoose_60 : decode b_M_isLoose 60 = .ok (.iload_n 3, 1) := by decide +kernel
theorem d_M_isLoose_61 : decode b_M_isLoose 61 = .ok (.ireturn, 1) := by decide +kernel
