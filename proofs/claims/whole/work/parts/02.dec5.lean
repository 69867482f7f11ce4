theorem d_P_init_0 : decode b_P_init 0 = .ok (.aload_n 0, 1) := by decide +kernel
theorem d_P_init_1 : decode b_P_init 1 = .ok (.invokespecial 3, 3) := by decide +kernel
theorem d_P_init_4 : decode b_P_init 4 = .ok (.aload_n 0, 1) := by decide +kernel
theorem d_P_init_5 : decode b_P_init 5 = .ok (.bipush 60, 2) := by decide +kernel
theorem d_P_init_7 : decode b_P_init 7 = .ok (.newarray .int, 2) := by decide +kernel
theorem d_P_init_9 : decode b_P_init 9 = .ok (.putfield 9, 3) := by decide +kernel
theorem d_P_init_12 : decode b_P_init 12 = .ok (.aload_n 0, 1) := by decide +kernel
theorem d_P_init_13 : decode b_P_init 13 = .ok (.bipush 60, 2) := by decide +kernel
theorem d_P_init_15 : decode b_P_init 15 = .ok (.newarray .char, 2) := by decide +kernel
theorem d_P_init_17 : decode b_P_init 17 = .ok (.putfield 15, 3) := by decide +kernel
theorem d_P_init_20 : decode b_P_init 20 = .ok (.aload_n 0, 1) := by decide +kernel
theorem d_P_init_21 : decode b_P_init 21 = .ok (.bipush 60, 2) := by decide +kernel
theorem d_P_init_23 : decode b_P_init 23 = .ok (.newarray .long, 2) := by decide +kernel
theorem d_P_init_25 : decode b_P_init 25 = .ok (.putfield 19, 3) := by decide +kernel
theorem d_P_init_28 : decode b_P_init 28 = .ok (.aload_n 0, 1) := by decide +kernel
theorem d_P_init_29 : decode b_P_init 29 = .ok (.bipush 60, 2) := by decide +kernel
theorem d_P_init_31 : decode b_P_init 31 = .ok (.newarray .long, 2) := by decide +kernel
theorem d_P_init_33 : decode b_P_init 33 = .ok (.putfield 23, 3) := by decide +kernel
theorem d_P_init_36 : decode b_P_init 36 = .ok (.aload_n 0, 1) := by decide +kernel
theorem d_P_init_37 : decode b_P_init 37 = .ok (.iconst 1, 1) := by decide +kernel
theorem d_P_init_38 : decode b_P_init 38 = .ok (.putfield 26, 3) := by decide +kernel
theorem d_P_init_41 : decode b_P_init 41 = .ok (.aload_n 0, 1) := by decide +kernel
theorem d_P_init_42 : decode b_P_init 42 = .ok (.getfield 9, 3) := by decide +kernel
theorem d_P_init_45 : decode b_P_init 45 = .ok (.iconst 0, 1) := by decide +kernel
theorem d_P_init_46 : decode b_P_init 46 = .ok (.iconst (-1), 1) := by decide +kernel
theorem d_P_init_47 : decode b_P_init 47 = .ok (.iastore, 1) := by decide +kernel
theorem d_P_init_48 : decode b_P_init 48 = .ok (.aload_n 0, 1) := by decide +kernel
theorem d_P_init_49 : decode b_P_init 49 = .ok (.getfield 19, 3) := by decide +kernel
theorem d_P_init_52 : decode b_P_init 52 = .ok (.iconst 0, 1) := by decide +kernel
theorem d_P_init_53 : decode b_P_init 53 = .ok (.iconst 0, 1) := by decide +kernel
theorem d_P_init_54 : decode b_P_init 54 = .ok (.invokestatic 30, 3) := by decide +kernel
theorem d_P_init_57 : decode b_P_init 57 = .ok (.lastore, 1) := by decide +kernel
theorem d_P_init_58 : decode b_P_init 58 = .ok (.aload_n 0, 1) := by decide +kernel
theorem d_P_init_59 : decode b_P_init 59 = .ok (.getfield 23, 3) := by decide +kernel
theorem d_P_init_62 : decode b_P_init 62 = .ok (.iconst 0, 1) := by decide +kernel
theorem d_P_init_63 : decode b_P_init 63 = .ok (.iconst 0, 1) := by decide +kernel
theorem d_P_init_64 : decode b_P_init 64 = .ok (.invokestatic 30, 3) := by decide +kernel
theorem d_P_init_67 : decode b_P_init 67 = .ok (.lastore, 1) := by decide +kernel
theorem d_P_init_68 : decode b_P_init 68 = .ok (.return_, 1) := by decide +kernel
theorem d_P_has_0 : decode b_P_has 0 = .ok (.iload_n 1, 1) := by decide +kernel
theorem d_P_has_1 : decode b_P_has 1 = .ok (.ifCond .lt 15, 3) := by decide +kernel
theorem d_P_has_4 : decode b_P_has 4 = .ok (.iload_n 1, 1) := by decide +kernel
theorem d_P_has_5 : decode b_P_has 5 = .ok (.aload_n 0, 1) := by decide +kernel
theorem d_P_has_6 : decode b_P_has 6 = .ok (.getfield 26, 3) := by decide +kernel
theorem d_P_has_9 : decode b_P_has 9 = .ok (.if_icmp .ge 7, 3) := by decide +kernel
theorem d_P_has_12 : decode b_P_has 12 = .ok (.iconst 1, 1) := by decide +kernel
theorem d_P_has_13 : decode b_P_has 13 = .ok (.goto 4, 3) := by decide +kernel
theorem d_P_has_16 : decode b_P_has 16 = .ok (.iconst 0, 1) := by decide +kernel
theorem d_P_has_17 : decode b_P_has 17 = .ok (.ireturn, 1) := by decide +kernel
theorem d_P_find_0 : decode b_P_find 0 = .ok (.iconst 1, 1) := by decide +kernel
theorem d_P_find_1 : decode b_P_find 1 = .ok (.istore_n 3, 1) := by decide +kernel
theorem d_P_find_2 : decode b_P_find 2 = .ok (.iload_n 3, 1) := by decide +kernel
theorem d_P_find_3 : decode b_P_find 3 = .ok (.aload_n 0, 1) := by decide +kernel
theorem d_P_find_4 : decode b_P_find 4 = .ok (.getfield 26, 3) := by decide +kernel
theorem d_P_find_7 : decode b_P_find 7 = .ok (.if_icmp .ge 31, 3) := by decide +kernel
theorem d_P_find_10 : decode b_P_find 10 = .ok (.aload_n 0, 1) := by decide +kernel
theorem d_P_find_11 : decode b_P_find 11 = .ok (.getfield 9, 3) := by decide +kernel
theorem d_P_find_14 : decode b_P_find 14 = .ok (.iload_n 3, 1) := by decide +kernel
theorem d_P_find_15 : decode b_P_find 15 = .ok (.iaload, 1) := by decide +kernel
theorem d_P_find_16 : decode b_P_find 16 = .ok (.iload_n 1, 1) := by decide +kernel
theorem d_P_find_17 : decode b_P_find 17 = .ok (.if_icmp .ne 15, 3) := by decide +kernel
theorem d_P_find_20 : decode b_P_find 20 = .ok (.aload_n 0, 1) := by decide +kernel
theorem d_P_find_21 : decode b_P_find 21 = .ok (.getfield 15, 3) := by decide +kernel
theorem d_P_find_24 : decode b_P_find 24 = .ok (.iload_n 3, 1) := by decide +kernel
theorem d_P_find_25 : decode b_P_find 25 = .ok (.caload, 1) := by decide +kernel
theorem d_P_find_26 : decode b_P_find 26 = .ok (.iload_n 2, 1) := by decide +kernel
theorem d_P_find_27 : decode b_P_find 27 = .ok (.if_icmp .ne 5, 3) := by decide +kernel
theorem d_P_find_30 : decode b_P_find 30 = .ok (.iload_n 3, 1) := by decide +kernel
theorem d_P_find_31 : decode b_P_find 31 = .ok (.ireturn, 1) := by decide +kernel
theorem d_P_find_32 : decode b_P_find 32 = .ok (.iinc 3 1, 3) := by decide +kernel
theorem d_P_find_35 : decode b_P_find 35 = .ok (.goto (-33), 3) := by decide +kernel
theorem d_P_find_38 : decode b_P_find 38 = .ok (.iconst (-1), 1) := by decide +kernel
theorem d_P_find_39 : decode b_P_find 39 = .ok (.ireturn, 1) := by decide +kernel
theorem d_P_add_0 : decode b_P_add 0 = .ok (.aload_n 0, 1) := by decide +kernel
theorem d_P_add_1 : decode b_P_add 1 = .ok (.iload_n 1, 1) := by decide +kernel
theorem d_P_add_2 : decode b_P_add 2 = .ok (.invokevirtual 34, 3) := by decide +kernel
theorem d_P_add_5 : decode b_P_add 5 = .ok (.ifCond .eq 12, 3) := by decide +kernel
theorem d_P_add_8 : decode b_P_add 8 = .ok (.aload_n 0, 1) := by decide +kernel
theorem d_P_add_9 : decode b_P_add 9 = .ok (.getfield 26, 3) := by decide +kernel
theorem d_P_add_12 : decode b_P_add 12 = .ok (.bipush 60, 2) := by decide +kernel
theorem d_P_add_14 : decode b_P_add 14 = .ok (.if_icmp .lt 5, 3) := by decide +kernel
theorem d_P_add_17 : decode b_P_add 17 = .ok (.iconst (-1), 1) := by decide +kernel
theorem d_P_add_18 : decode b_P_add 18 = .ok (.ireturn, 1) := by decide +kernel
theorem d_P_add_19 : decode b_P_add 19 = .ok (.aload_n 0, 1) := by decide +kernel
theorem d_P_add_20 : decode b_P_add 20 = .ok (.getfield 26, 3) := by decide +kernel
theorem d_P_add_23 : decode b_P_add 23 = .ok (.istore_n 3, 1) := by decide +kernel
theorem d_P_add_24 : decode b_P_add 24 = .ok (.aload_n 0, 1) := by decide +kernel
theorem d_P_add_25 : decode b_P_add 25 = .ok (.dup, 1) := by decide +kernel
theorem d_P_add_26 : decode b_P_add 26 = .ok (.getfield 26, 3) := by decide +kernel
theorem d_P_add_29 : decode b_P_add 29 = .ok (.iconst 1, 1) := by decide +kernel
theorem d_P_add_30 : decode b_P_add 30 = .ok (.iadd, 1) := by decide +kernel
theorem d_P_add_31 : decode b_P_add 31 = .ok (.putfield 26, 3) := by decide +kernel
theorem d_P_add_34 : decode b_P_add 34 = .ok (.aload_n 0, 1) := by decide +kernel
theorem d_P_add_35 : decode b_P_add 35 = .ok (.getfield 9, 3) := by decide +kernel
theorem d_P_add_38 : decode b_P_add 38 = .ok (.iload_n 3, 1) := by decide +kernel
theorem d_P_add_39 : decode b_P_add 39 = .ok (.iload_n 1, 1) := by decide +kernel
theorem d_P_add_40 : decode b_P_add 40 = .ok (.iastore, 1) := by decide +kernel
theorem d_P_add_41 : decode b_P_add 41 = .ok (.aload_n 0, 1) := by decide +kernel
theorem d_P_add_42 : decode b_P_add 42 = .ok (.getfield 15, 3) := by decide +kernel
theorem d_P_add_45 : decode b_P_add 45 = .ok (.iload_n 3, 1) := by decide +kernel
theorem d_P_add_46 : decode b_P_add 46 = .ok (.iload_n 2, 1) := by decide +kernel
theorem d_P_add_47 : decode b_P_add 47 = .ok (.castore, 1) := by decide +kernel
theorem d_P_add_48 : decode b_P_add 48 = .ok (.aload_n 0, 1) := by decide +kernel
theorem d_P_add_49 : decode b_P_add 49 = .ok (.getfield 19, 3) := by decide +kernel
theorem d_P_add_52 : decode b_P_add 52 = .ok (.iload_n 3, 1) := by decide +kernel
theorem d_P_add_53 : decode b_P_add 53 = .ok (.aload_n 0, 1) := by decide +kernel
theorem d_P_add_54 : decode b_P_add 54 = .ok (.getfield 19, 3) := by decide +kernel
theorem d_P_add_57 : decode b_P_add 57 = .ok (.iload_n 1, 1) := by decide +kernel
theorem d_P_add_58 : decode b_P_add 58 = .ok (.laload, 1) := by decide +kernel
theorem d_P_add_59 : decode b_P_add 59 = .ok (.iload_n 3, 1) := by decide +kernel
theorem d_P_add_60 : decode b_P_add 60 = .ok (.invokestatic 30, 3) := by decide +kernel
theorem d_P_add_63 : decode b_P_add 63 = .ok (.lor, 1) := by decide +kernel
theorem d_P_add_64 : decode b_P_add 64 = .ok (.lastore, 1) := by decide +kernel
theorem d_P_add_65 : decode b_P_add 65 = .ok (.iconst 0, 1) := by decide +kernel
theorem d_P_add_66 : decode b_P_add 66 = .ok (.istore 4, 2) := by decide +kernel
theorem d_P_add_68 : decode b_P_add 68 = .ok (.iload 4, 2) := by decide +kernel
theorem d_P_add_70 : decode b_P_add 70 = .ok (.aload_n 0, 1) := by decide +kernel
theorem d_P_add_71 : decode b_P_add 71 = .ok (.getfield 26, 3) := by decide +kernel
theorem d_P_add_74 : decode b_P_add 74 = .ok (.if_icmp .ge 37, 3) := by decide +kernel
theorem d_P_add_77 : decode b_P_add 77 = .ok (.aload_n 0, 1) := by decide +kernel
theorem d_P_add_78 : decode b_P_add 78 = .ok (.getfield 19, 3) := by decide +kernel
theorem d_P_add_81 : decode b_P_add 81 = .ok (.iload_n 3, 1) := by decide +kernel
theorem d_P_add_82 : decode b_P_add 82 = .ok (.laload, 1) := by decide +kernel
theorem d_P_add_83 : decode b_P_add 83 = .ok (.iload 4, 2) := by decide +kernel
theorem d_P_add_85 : decode b_P_add 85 = .ok (.invokestatic 38, 3) := by decide +kernel
theorem d_P_add_88 : decode b_P_add 88 = .ok (.ifCond .eq 17, 3) := by decide +kernel
theorem d_P_add_91 : decode b_P_add 91 = .ok (.aload_n 0, 1) := by decide +kernel
theorem d_P_add_92 : decode b_P_add 92 = .ok (.getfield 23, 3) := by decide +kernel
theorem d_P_add_95 : decode b_P_add 95 = .ok (.iload 4, 2) := by decide +kernel
theorem d_P_add_97 : decode b_P_add 97 = .ok (.dup2, 1) := by decide +kernel
theorem d_P_add_98 : decode b_P_add 98 = .ok (.laload, 1) := by decide +kernel
theorem d_P_add_99 : decode b_P_add 99 = .ok (.iload_n 3, 1) := by decide +kernel
theorem d_P_add_100 : decode b_P_add 100 = .ok (.invokestatic 30, 3) := by decide +kernel
theorem d_P_add_103 : decode b_P_add 103 = .ok (.lor, 1) := by decide +kernel
theorem d_P_add_104 : decode b_P_add 104 = .ok (.lastore, 1) := by decide +kernel
theorem d_P_add_105 : decode b_P_add 105 = .ok (.iinc 4 1, 3) := by decide +kernel
theorem d_P_add_108 : decode b_P_add 108 = .ok (.goto (-40), 3) := by decide +kernel
theorem d_P_add_111 : decode b_P_add 111 = .ok (.iload_n 3, 1) := by decide +kernel
theorem d_P_add_112 : decode b_P_add 112 = .ok (.ireturn, 1) := by decide +kernel
theorem d_P_under_0 : decode b_P_under 0 = .ok (.aload_n 0, 1) := by decide +kernel
theorem d_P_under_1 : decode b_P_under 1 = .ok (.iload_n 1, 1) := by decide +kernel
theorem d_P_under_2 : decode b_P_under 2 = .ok (.invokevirtual 34, 3) := by decide +kernel
theorem d_P_under_5 : decode b_P_under 5 = .ok (.ifCond .eq 12, 3) := by decide +kernel
theorem d_P_under_8 : decode b_P_under 8 = .ok (.aload_n 0, 1) := by decide +kernel
theorem d_P_under_9 : decode b_P_under 9 = .ok (.getfield 23, 3) := by decide +kernel
theorem d_P_under_12 : decode b_P_under 12 = .ok (.iload_n 1, 1) := by decide +kernel
theorem d_P_under_13 : decode b_P_under 13 = .ok (.laload, 1) := by decide +kernel
theorem d_P_under_14 : decode b_P_under 14 = .ok (.goto 4, 3) := by decide +kernel
theorem d_P_under_17 : decode b_P_under 17 = .ok (.lconst 0, 1) := by decide +kernel
theorem d_P_under_18 : decode b_P_under 18 = .ok (.lreturn, 1) := by decide +kernel
theorem d_P_inTheWayOf_0 : decode b_P_inTheWayOf 0 = .ok (.aload_n 0, 1) := by decide +kernel
theorem d_P_inTheWayOf_1 : decode b_P_inTheWayOf 1 = .ok (.iload_n 1, 1) := by decide +kernel
theorem d_P_inTheWayOf_2 : decode b_P_inTheWayOf 2 = .ok (.invokevirtual 34, 3) := by decide +kernel
theorem d_P_inTheWayOf_5 : decode b_P_inTheWayOf 5 = .ok (.ifCond .eq 28, 3) := by decide +kernel
theorem d_P_inTheWayOf_8 : decode b_P_inTheWayOf 8 = .ok (.aload_n 0, 1) := by decide +kernel
theorem d_P_inTheWayOf_9 : decode b_P_inTheWayOf 9 = .ok (.getfield 19, 3) := by decide +kernel
theorem d_P_inTheWayOf_12 : decode b_P_inTheWayOf 12 = .ok (.iload_n 1, 1) := by decide +kernel
theorem d_P_inTheWayOf_13 : decode b_P_inTheWayOf 13 = .ok (.laload, 1) := by decide +kernel
theorem d_P_inTheWayOf_14 : decode b_P_inTheWayOf 14 = .ok (.aload_n 0, 1) := by decide +kernel
theorem d_P_inTheWayOf_15 : decode b_P_inTheWayOf 15 = .ok (.getfield 23, 3) := by decide +kernel
theorem d_P_inTheWayOf_18 : decode b_P_inTheWayOf 18 = .ok (.iload_n 1, 1) := by decide +kernel
theorem d_P_inTheWayOf_19 : decode b_P_inTheWayOf 19 = .ok (.laload, 1) := by decide +kernel
theorem d_P_inTheWayOf_20 : decode b_P_inTheWayOf 20 = .ok (.lor, 1) := by decide +kernel
theorem d_P_inTheWayOf_21 : decode b_P_inTheWayOf 21 = .ok (.iload_n 1, 1) := by decide +kernel
theorem d_P_inTheWayOf_22 : decode b_P_inTheWayOf 22 = .ok (.invokestatic 30, 3) := by decide +kernel
theorem d_P_inTheWayOf_25 : decode b_P_inTheWayOf 25 = .ok (.ldc2_w 42, 3) := by decide +kernel
theorem d_P_inTheWayOf_28 : decode b_P_inTheWayOf 28 = .ok (.lxor, 1) := by decide +kernel
theorem d_P_inTheWayOf_29 : decode b_P_inTheWayOf 29 = .ok (.land, 1) := by decide +kernel
theorem d_P_inTheWayOf_30 : decode b_P_inTheWayOf 30 = .ok (.goto 4, 3) := by decide +kernel
theorem d_P_inTheWayOf_33 : decode b_P_inTheWayOf 33 = .ok (.lconst 0, 1) := by decide +kernel
theorem d_P_inTheWayOf_34 : decode b_P_inTheWayOf 34 = .ok (.lreturn, 1) := by decide +kernel
theorem d_P_withAbove_0 : decode b_P_withAbove 0 = .ok (.lconst 0, 1) := by decide +kernel
theorem d_P_withAbove_1 : decode b_P_withAbove 1 = .ok (.lstore_n 3, 1) := by decide +kernel
theorem d_P_withAbove_2 : decode b_P_withAbove 2 = .ok (.iconst 0, 1) := by decide +kernel
theorem d_P_withAbove_3 : decode b_P_withAbove 3 = .ok (.istore 5, 2) := by decide +kernel
theorem d_P_withAbove_5 : decode b_P_withAbove 5 = .ok (.iload 5, 2) := by decide +kernel
theorem d_P_withAbove_7 : decode b_P_withAbove 7 = .ok (.aload_n 0, 1) := by decide +kernel
theorem d_P_withAbove_8 : decode b_P_withAbove 8 = .ok (.getfield 26, 3) := by decide +kernel
theorem d_P_withAbove_11 : decode b_P_withAbove 11 = .ok (.if_icmp .ge 28, 3) := by decide +kernel
theorem d_P_withAbove_14 : decode b_P_withAbove 14 = .ok (.lload_n 1, 1) := by decide +kernel
theorem d_P_withAbove_15 : decode b_P_withAbove 15 = .ok (.iload 5, 2) := by decide +kernel
theorem d_P_withAbove_17 : decode b_P_withAbove 17 = .ok (.invokestatic 38, 3) := by decide +kernel
theorem d_P_withAbove_20 : decode b_P_withAbove 20 = .ok (.ifCond .eq 13, 3) := by decide +kernel
theorem d_P_withAbove_23 : decode b_P_withAbove 23 = .ok (.lload_n 3, 1) := by decide +kernel
theorem d_P_withAbove_24 : decode b_P_withAbove 24 = .ok (.aload_n 0, 1) := by decide +kernel
theorem d_P_withAbove_25 : decode b_P_withAbove 25 = .ok (.getfield 19, 3) := by decide +kernel
theorem d_P_withAbove_28 : decode b_P_withAbove 28 = .ok (.iload 5, 2) := by decide +kernel
theorem d_P_withAbove_30 : decode b_P_withAbove 30 = .ok (.laload, 1) := by decide +kernel
theorem d_P_withAbove_31 : decode b_P_withAbove 31 = .ok (.lor, 1) := by decide +kernel
theorem d_P_withAbove_32 : decode b_P_withAbove 32 = .ok (.lstore_n 3, 1) := by decide +kernel
theorem d_P_withAbove_33 : decode b_P_withAbove 33 = .ok (.iinc 5 1, 3) := by decide +kernel
theorem d_P_withAbove_36 : decode b_P_withAbove 36 = .ok (.goto (-31), 3) := by decide +kernel
theorem d_P_withAbove_39 : decode b_P_withAbove 39 = .ok (.lload_n 3, 1) := by decide +kernel
theorem d_P_withAbove_40 : decode b_P_withAbove 40 = .ok (.lreturn, 1) := by decide +kernel
theorem d_P_hasClash_0 : decode b_P_hasClash 0 = .ok (.iconst 1, 1) := by decide +kernel
theorem d_P_hasClash_1 : decode b_P_hasClash 1 = .ok (.istore_n 3, 1) := by decide +kernel
theorem d_P_hasClash_2 : decode b_P_hasClash 2 = .ok (.iload_n 3, 1) := by decide +kernel
theorem d_P_hasClash_3 : decode b_P_hasClash 3 = .ok (.aload_n 0, 1) := by decide +kernel
theorem d_P_hasClash_4 : decode b_P_hasClash 4 = .ok (.getfield 26, 3) := by decide +kernel
theorem d_P_hasClash_7 : decode b_P_hasClash 7 = .ok (.if_icmp .ge 56, 3) := by decide +kernel
theorem d_P_hasClash_10 : decode b_P_hasClash 10 = .ok (.lload_n 1, 1) := by decide +kernel
theorem d_P_hasClash_11 : decode b_P_hasClash 11 = .ok (.iload_n 3, 1) := by decide +kernel
theorem d_P_hasClash_12 : decode b_P_hasClash 12 = .ok (.invokestatic 38, 3) := by decide +kernel
theorem d_P_hasClash_15 : decode b_P_hasClash 15 = .ok (.ifCond .eq 42, 3) := by decide +kernel
theorem d_P_hasClash_18 : decode b_P_hasClash 18 = .ok (.aload_n 0, 1) := by decide +kernel
theorem d_P_hasClash_19 : decode b_P_hasClash 19 = .ok (.aload_n 0, 1) := by decide +kernel
theorem d_P_hasClash_20 : decode b_P_hasClash 20 = .ok (.getfield 9, 3) := by decide +kernel
theorem d_P_hasClash_23 : decode b_P_hasClash 23 = .ok (.iload_n 3, 1) := by decide +kernel
theorem d_P_hasClash_24 : decode b_P_hasClash 24 = .ok (.iaload, 1) := by decide +kernel
theorem d_P_hasClash_25 : decode b_P_hasClash 25 = .ok (.aload_n 0, 1) := by decide +kernel
theorem d_P_hasClash_26 : decode b_P_hasClash 26 = .ok (.getfield 15, 3) := by decide +kernel
theorem d_P_hasClash_29 : decode b_P_hasClash 29 = .ok (.iload_n 3, 1) := by decide +kernel
theorem d_P_hasClash_30 : decode b_P_hasClash 30 = .ok (.caload, 1) := by decide +kernel
theorem d_P_hasClash_31 : decode b_P_hasClash 31 = .ok (.bipush 32, 2) := by decide +kernel
theorem d_P_hasClash_33 : decode b_P_hasClash 33 = .ok (.ixor, 1) := by decide +kernel
theorem d_P_hasClash_34 : decode b_P_hasClash 34 = .ok (.i2c, 1) := by decide +kernel
theorem d_P_hasClash_35 : decode b_P_hasClash 35 = .ok (.invokevirtual 44, 3) := by decide +kernel
theorem d_P_hasClash_38 : decode b_P_hasClash 38 = .ok (.istore 4, 2) := by decide +kernel
theorem d_P_hasClash_40 : decode b_P_hasClash 40 = .ok (.iload 4, 2) := by decide +kernel
theorem d_P_hasClash_42 : decode b_P_hasClash 42 = .ok (.iconst (-1), 1) := by decide +kernel
theorem d_P_hasClash_43 : decode b_P_hasClash 43 = .ok (.if_icmp .eq 14, 3) := by decide +kernel
theorem d_P_hasClash_46 : decode b_P_hasClash 46 = .ok (.lload_n 1, 1) := by decide +kernel
theorem d_P_hasClash_47 : decode b_P_hasClash 47 = .ok (.iload 4, 2) := by decide +kernel
theorem d_P_hasClash_49 : decode b_P_hasClash 49 = .ok (.invokestatic 38, 3) := by decide +kernel
theorem d_P_hasClash_52 : decode b_P_hasClash 52 = .ok (.ifCond .eq 5, 3) := by decide +kernel
theorem d_P_hasClash_55 : decode b_P_hasClash 55 = .ok (.iconst 1, 1) := by decide +kernel
theorem d_P_hasClash_56 : decode b_P_hasClash 56 = .ok (.ireturn, 1) := by decide +kernel
theorem d_P_hasClash_57 : decode b_P_hasClash 57 = .ok (.iinc 3 1, 3) := by decide +kernel
theorem d_P_hasClash_60 : decode b_P_hasClash 60 = .ok (.goto (-58), 3) := by decide +kernel
theorem d_P_hasClash_63 : decode b_P_hasClash 63 = .ok (.iconst 0, 1) := by decide +kernel
theorem d_P_hasClash_64 : decode b_P_hasClash 64 = .ok (.ireturn, 1) := by decide +kernel
theorem d_P_letterInFolder_0 : decode b_P_letterInFolder 0 = .ok (.lconst 0, 1) := by decide +kernel
theorem d_P_letterInFolder_1 : decode b_P_letterInFolder 1 = .ok (.lstore 5, 2) := by decide +kernel
theorem d_P_letterInFolder_3 : decode b_P_letterInFolder 3 = .ok (.iconst 1, 1) := by decide +kernel
theorem d_P_letterInFolder_4 : decode b_P_letterInFolder 4 = .ok (.istore 7, 2) := by decide +kernel
theorem d_P_letterInFolder_6 : decode b_P_letterInFolder 6 = .ok (.iload 7, 2) := by decide +kernel
theorem d_P_letterInFolder_8 : decode b_P_letterInFolder 8 = .ok (.aload_n 0, 1) := by decide +kernel
theorem d_P_letterInFolder_9 : decode b_P_letterInFolder 9 = .ok (.getfield 26, 3) := by decide +kernel
theorem d_P_letterInFolder_12 : decode b_P_letterInFolder 12 = .ok (.if_icmp .ge 51, 3) := by decide +kernel
theorem d_P_letterInFolder_15 : decode b_P_letterInFolder 15 = .ok (.aload_n 0, 1) := by decide +kernel
theorem d_P_letterInFolder_16 : decode b_P_letterInFolder 16 = .ok (.getfield 9, 3) := by decide +kernel
theorem d_P_letterInFolder_19 : decode b_P_letterInFolder 19 = .ok (.iload 7, 2) := by decide +kernel
theorem d_P_letterInFolder_21 : decode b_P_letterInFolder 21 = .ok (.iaload, 1) := by decide +kernel
theorem d_P_letterInFolder_22 : decode b_P_letterInFolder 22 = .ok (.iload_n 1, 1) := by decide +kernel
theorem d_P_letterInFolder_23 : decode b_P_letterInFolder 23 = .ok (.if_icmp .ne 34, 3) := by decide +kernel
theorem d_P_letterInFolder_26 : decode b_P_letterInFolder 26 = .ok (.aload_n 0, 1) := by decide +kernel
theorem d_P_letterInFolder_27 : decode b_P_letterInFolder 27 = .ok (.getfield 23, 3) := by decide +kernel
theorem d_P_letterInFolder_30 : decode b_P_letterInFolder 30 = .ok (.iload 7, 2) := by decide +kernel
theorem d_P_letterInFolder_32 : decode b_P_letterInFolder 32 = .ok (.laload, 1) := by decide +kernel
theorem d_P_letterInFolder_33 : decode b_P_letterInFolder 33 = .ok (.lload_n 2, 1) := by decide +kernel
theorem d_P_letterInFolder_34 : decode b_P_letterInFolder 34 = .ok (.land, 1) := by decide +kernel
theorem d_P_letterInFolder_35 : decode b_P_letterInFolder 35 = .ok (.lconst 0, 1) := by decide +kernel
theorem d_P_letterInFolder_36 : decode b_P_letterInFolder 36 = .ok (.lcmp, 1) := by decide +kernel
theorem d_P_letterInFolder_37 : decode b_P_letterInFolder 37 = .ok (.ifCond .eq 20, 3) := by decide +kernel
theorem d_P_letterInFolder_40 : decode b_P_letterInFolder 40 = .ok (.lload 5, 2) := by decide +kernel
theorem d_P_letterInFolder_42 : decode b_P_letterInFolder 42 = .ok (.lconst 1, 1) := by decide +kernel
theorem d_P_letterInFolder_43 : decode b_P_letterInFolder 43 = .ok (.aload_n 0, 1) := by decide +kernel
theorem d_P_letterInFolder_44 : decode b_P_letterInFolder 44 = .ok (.getfield 15, 3) := by decide +kernel
theorem d_P_letterInFolder_47 : decode b_P_letterInFolder 47 = .ok (.iload 7, 2) := by decide +kernel
theorem d_P_letterInFolder_49 : decode b_P_letterInFolder 49 = .ok (.caload, 1) := by decide +kernel
theorem d_P_letterInFolder_50 : decode b_P_letterInFolder 50 = .ok (.bipush 65, 2) := by decide +kernel
theorem d_P_letterInFolder_52 : decode b_P_letterInFolder 52 = .ok (.isub, 1) := by decide +kernel
theorem d_P_letterInFolder_53 : decode b_P_letterInFolder 53 = .ok (.lshl, 1) := by decide +kernel
theorem d_P_letterInFolder_54 : decode b_P_letterInFolder 54 = .ok (.lor, 1) := by decide +kernel
theorem d_P_letterInFolder_55 : decode b_P_letterInFolder 55 = .ok (.lstore 5, 2) := by decide +kernel
theorem d_P_letterInFolder_57 : decode b_P_letterInFolder 57 = .ok (.iinc 7 1, 3) := by decide +kernel
theorem d_P_letterInFolder_60 : decode b_P_letterInFolder 60 = .ok (.goto (-54), 3) := by decide +kernel
theorem d_P_letterInFolder_63 : decode b_P_letterInFolder 63 = .ok (.iconst 0, 1) := by decide +kernel
theorem d_P_letterInFolder_64 : decode b_P_letterInFolder 64 = .ok (.istore 7, 2) := by decide +kernel
theorem d_P_letterInFolder_66 : decode b_P_letterInFolder 66 = .ok (.iconst 0, 1) := by decide +kernel
theorem d_P_letterInFolder_67 : decode b_P_letterInFolder 67 = .ok (.istore 8, 2) := by decide +kernel
theorem d_P_letterInFolder_69 : decode b_P_letterInFolder 69 = .ok (.iload 8, 2) := by decide +kernel
theorem d_P_letterInFolder_71 : decode b_P_letterInFolder 71 = .ok (.bipush 58, 2) := by decide +kernel
theorem d_P_letterInFolder_73 : decode b_P_letterInFolder 73 = .ok (.if_icmp .ge 37, 3) := by decide +kernel
theorem d_P_letterInFolder_76 : decode b_P_letterInFolder 76 = .ok (.lload 5, 2) := by decide +kernel
theorem d_P_letterInFolder_78 : decode b_P_letterInFolder 78 = .ok (.lconst 1, 1) := by decide +kernel
theorem d_P_letterInFolder_79 : decode b_P_letterInFolder 79 = .ok (.iload 8, 2) := by decide +kernel
theorem d_P_letterInFolder_81 : decode b_P_letterInFolder 81 = .ok (.lshl, 1) := by decide +kernel
theorem d_P_letterInFolder_82 : decode b_P_letterInFolder 82 = .ok (.land, 1) := by decide +kernel
theorem d_P_letterInFolder_83 : decode b_P_letterInFolder 83 = .ok (.lconst 0, 1) := by decide +kernel
theorem d_P_letterInFolder_84 : decode b_P_letterInFolder 84 = .ok (.lcmp, 1) := by decide +kernel
theorem d_P_letterInFolder_85 : decode b_P_letterInFolder 85 = .ok (.ifCond .eq 19, 3) := by decide +kernel
theorem d_P_letterInFolder_88 : decode b_P_letterInFolder 88 = .ok (.iload 7, 2) := by decide +kernel
theorem d_P_letterInFolder_90 : decode b_P_letterInFolder 90 = .ok (.iload 4, 2) := by decide +kernel
theorem d_P_letterInFolder_92 : decode b_P_letterInFolder 92 = .ok (.if_icmp .ne 9, 3) := by decide +kernel
theorem d_P_letterInFolder_95 : decode b_P_letterInFolder 95 = .ok (.bipush 65, 2) := by decide +kernel
theorem d_P_letterInFolder_97 : decode b_P_letterInFolder 97 = .ok (.iload 8, 2) := by decide +kernel
theorem d_P_letterInFolder_99 : decode b_P_letterInFolder 99 = .ok (.iadd, 1) := by decide +kernel
theorem d_P_letterInFolder_100 : decode b_P_letterInFolder 100 = .ok (.ireturn, 1) := by decide +kernel
theorem d_P_letterInFolder_101 : decode b_P_letterInFolder 101 = .ok (.iinc 7 1, 3) := by decide +kernel
theorem d_P_letterInFolder_104 : decode b_P_letterInFolder 104 = .ok (.iinc 8 1, 3) := by decide +kernel
theorem d_P_letterInFolder_107 : decode b_P_letterInFolder 107 = .ok (.goto (-38), 3) := by decide +kernel
theorem d_P_letterInFolder_110 : decode b_P_letterInFolder 110 = .ok (.iconst 0, 1) := by decide +kernel
theorem d_P_letterInFolder_111 : decode b_P_letterInFolder 111 = .ok (.ireturn, 1) := by decide +kernel
theorem d_S_init_0 : decode b_S_init 0 = .ok (.aload_n 0, 1) := by decide +kernel
theorem d_S_init_1 : decode b_S_init 1 = .ok (.invokespecial 3, 3) := by decide +kernel
theorem d_S_init_4 : decode b_S_init 4 = .ok (.aload_n 0, 1) := by decide +kernel
theorem d_S_init_5 : decode b_S_init 5 = .ok (.bipush 60, 2) := by decide +kernel
theorem d_S_init_7 : decode b_S_init 7 = .ok (.newarray .int, 2) := by decide +kernel
theorem d_S_init_9 : decode b_S_init 9 = .ok (.putfield 9, 3) := by decide +kernel
theorem d_S_init_12 : decode b_S_init 12 = .ok (.return_, 1) := by decide +kernel
theorem d_S_taken_0 : decode b_S_taken 0 = .ok (.aload_n 0, 1) := by decide +kernel
theorem d_S_taken_1 : decode b_S_taken 1 = .ok (.getfield 15, 3) := by decide +kernel
theorem d_S_taken_4 : decode b_S_taken 4 = .ok (.aload_n 0, 1) := by decide +kernel
theorem d_S_taken_5 : decode b_S_taken 5 = .ok (.getfield 19, 3) := by decide +kernel
theorem d_S_taken_8 : decode b_S_taken 8 = .ok (.lor, 1) := by decide +kernel
theorem d_S_taken_9 : decode b_S_taken 9 = .ok (.lreturn, 1) := by decide +kernel
theorem d_S_putFile_0 : decode b_S_putFile 0 = .ok (.iload_n 1, 1) := by decide +kernel
theorem d_S_putFile_1 : decode b_S_putFile 1 = .ok (.invokestatic 22, 3) := by decide +kernel
theorem d_S_putFile_4 : decode b_S_putFile 4 = .ok (.ifCond .eq 28, 3) := by decide +kernel
theorem d_S_putFile_7 : decode b_S_putFile 7 = .ok (.aload_n 0, 1) := by decide +kernel
theorem d_S_putFile_8 : decode b_S_putFile 8 = .ok (.iload_n 1, 1) := by decide +kernel
theorem d_S_putFile_9 : decode b_S_putFile 9 = .ok (.invokevirtual 26, 3) := by decide +kernel
theorem d_S_putFile_12 : decode b_S_putFile 12 = .ok (.aload_n 0, 1) := by decide +kernel
theorem d_S_putFile_13 : decode b_S_putFile 13 = .ok (.dup, 1) := by decide +kernel
theorem d_S_putFile_14 : decode b_S_putFile 14 = .ok (.getfield 15, 3) := by decide +kernel
theorem d_S_putFile_17 : decode b_S_putFile 17 = .ok (.iload_n 1, 1) := by decide +kernel
theorem d_S_putFile_18 : decode b_S_putFile 18 = .ok (.invokestatic 30, 3) := by decide +kernel
theorem d_S_putFile_21 : decode b_S_putFile 21 = .ok (.lor, 1) := by decide +kernel
theorem d_S_putFile_22 : decode b_S_putFile 22 = .ok (.putfield 15, 3) := by decide +kernel
theorem d_S_putFile_25 : decode b_S_putFile 25 = .ok (.aload_n 0, 1) := by decide +kernel
theorem d_S_putFile_26 : decode b_S_putFile 26 = .ok (.getfield 9, 3) := by decide +kernel
theorem d_S_putFile_29 : decode b_S_putFile 29 = .ok (.iload_n 1, 1) := by decide +kernel
theorem d_S_putFile_30 : decode b_S_putFile 30 = .ok (.iload_n 2, 1) := by decide +kernel
theorem d_S_putFile_31 : decode b_S_putFile 31 = .ok (.iastore, 1) := by decide +kernel
theorem d_S_putFile_32 : decode b_S_putFile 32 = .ok (.return_, 1) := by decide +kernel
theorem d_S_putLink_0 : decode b_S_putLink 0 = .ok (.iload_n 1, 1) := by decide +kernel
theorem d_S_putLink_1 : decode b_S_putLink 1 = .ok (.invokestatic 22, 3) := by decide +kernel
theorem d_S_putLink_4 : decode b_S_putLink 4 = .ok (.ifCond .eq 35, 3) := by decide +kernel
theorem d_S_putLink_7 : decode b_S_putLink 7 = .ok (.iload_n 2, 1) := by decide +kernel
theorem d_S_putLink_8 : decode b_S_putLink 8 = .ok (.invokestatic 22, 3) := by decide +kernel
theorem d_S_putLink_11 : decode b_S_putLink 11 = .ok (.ifCond .eq 28, 3) := by decide +kernel
theorem d_S_putLink_14 : decode b_S_putLink 14 = .ok (.aload_n 0, 1) := by decide +kernel
theorem d_S_putLink_15 : decode b_S_putLink 15 = .ok (.iload_n 1, 1) := by decide +kernel
theorem d_S_putLink_16 : decode b_S_putLink 16 = .ok (.invokevirtual 26, 3) := by decide +kernel
theorem d_S_putLink_19 : decode b_S_putLink 19 = .ok (.aload_n 0, 1) := by decide +kernel
theorem d_S_putLink_20 : decode b_S_putLink 20 = .ok (.dup, 1) := by decide +kernel
theorem d_S_putLink_21 : decode b_S_putLink 21 = .ok (.getfield 19, 3) := by decide +kernel
theorem d_S_putLink_24 : decode b_S_putLink 24 = .ok (.iload_n 1, 1) := by decide +kernel
theorem d_S_putLink_25 : decode b_S_putLink 25 = .ok (.invokestatic 30, 3) := by decide +kernel
theorem d_S_putLink_28 : decode b_S_putLink 28 = .ok (.lor, 1) := by decide +kernel
theorem d_S_putLink_29 : decode b_S_putLink 29 = .ok (.putfield 19, 3) := by decide +kernel
theorem d_S_putLink_32 : decode b_S_putLink 32 = .ok (.aload_n 0, 1) := by decide +kernel
theorem d_S_putLink_33 : decode b_S_putLink 33 = .ok (.getfield 9, 3) := by decide +kernel
theorem d_S_putLink_36 : decode b_S_putLink 36 = .ok (.iload_n 1, 1) := by decide +kernel
theorem d_S_putLink_37 : decode b_S_putLink 37 = .ok (.iload_n 2, 1) := by decide +kernel
theorem d_S_putLink_38 : decode b_S_putLink 38 = .ok (.iastore, 1) := by decide +kernel
theorem d_S_putLink_39 : decode b_S_putLink 39 = .ok (.return_, 1) := by decide +kernel
theorem d_S_takeAway_0 : decode b_S_takeAway 0 = .ok (.aload_n 0, 1) := by decide +kernel
theorem d_S_takeAway_1 : decode b_S_takeAway 1 = .ok (.dup, 1) := by decide +kernel
theorem d_S_takeAway_2 : decode b_S_takeAway 2 = .ok (.getfield 15, 3) := by decide +kernel
theorem d_S_takeAway_5 : decode b_S_takeAway 5 = .ok (.iload_n 1, 1) := by decide +kernel
theorem d_S_takeAway_6 : decode b_S_takeAway 6 = .ok (.invokestatic 30, 3) := by decide +kernel
theorem d_S_takeAway_9 : decode b_S_takeAway 9 = .ok (.ldc2_w 34, 3) := by decide +kernel
theorem d_S_takeAway_12 : decode b_S_takeAway 12 = .ok (.lxor, 1) := by decide +kernel
theorem d_S_takeAway_13 : decode b_S_takeAway 13 = .ok (.land, 1) := by decide +kernel
theorem d_S_takeAway_14 : decode b_S_takeAway 14 = .ok (.putfield 15, 3) := by decide +kernel
theorem d_S_takeAway_17 : decode b_S_takeAway 17 = .ok (.aload_n 0, 1) := by decide +kernel
theorem d_S_takeAway_18 : decode b_S_takeAway 18 = .ok (.dup, 1) := by decide +kernel
theorem d_S_takeAway_19 : decode b_S_takeAway 19 = .ok (.getfield 19, 3) := by decide +kernel
theorem d_S_takeAway_22 : decode b_S_takeAway 22 = .ok (.iload_n 1, 1) := by decide +kernel
theorem d_S_takeAway_23 : decode b_S_takeAway 23 = .ok (.invokestatic 30, 3) := by decide +kernel
theorem d_S_takeAway_26 : decode b_S_takeAway 26 = .ok (.ldc2_w 34, 3) := by decide +kernel
theorem d_S_takeAway_29 : decode b_S_takeAway 29 = .ok (.lxor, 1) := by decide +kernel
theorem d_S_takeAway_30 : decode b_S_takeAway 30 = .ok (.land, 1) := by decide +kernel
theorem d_S_takeAway_31 : decode b_S_takeAway 31 = .ok (.putfield 19, 3) := by decide +kernel
theorem d_S_takeAway_34 : decode b_S_takeAway 34 = .ok (.return_, 1) := by decide +kernel
theorem d_S_copyFiles_0 : decode b_S_copyFiles 0 = .ok (.aload_n 0, 1) := by decide +kernel
theorem d_S_copyFiles_1 : decode b_S_copyFiles 1 = .ok (.aload_n 1, 1) := by decide +kernel
theorem d_S_copyFiles_2 : decode b_S_copyFiles 2 = .ok (.getfield 15, 3) := by decide +kernel
theorem d_S_copyFiles_5 : decode b_S_copyFiles 5 = .ok (.lload_n 2, 1) := by decide +kernel
theorem d_S_copyFiles_6 : decode b_S_copyFiles 6 = .ok (.land, 1) := by decide +kernel
theorem d_S_copyFiles_7 : decode b_S_copyFiles 7 = .ok (.putfield 15, 3) := by decide +kernel
theorem d_S_copyFiles_10 : decode b_S_copyFiles 10 = .ok (.aload_n 0, 1) := by decide +kernel
theorem d_S_copyFiles_11 : decode b_S_copyFiles 11 = .ok (.lconst 0, 1) := by decide +kernel
theorem d_S_copyFiles_12 : decode b_S_copyFiles 12 = .ok (.putfield 19, 3) := by decide +kernel
theorem d_S_copyFiles_15 : decode b_S_copyFiles 15 = .ok (.aload_n 1, 1) := by decide +kernel
theorem d_S_copyFiles_16 : decode b_S_copyFiles 16 = .ok (.getfield 9, 3) := by decide +kernel
theorem d_S_copyFiles_19 : decode b_S_copyFiles 19 = .ok (.iconst 0, 1) := by decide +kernel
theorem d_S_copyFiles_20 : decode b_S_copyFiles 20 = .ok (.aload_n 0, 1) := by decide +kernel
theorem d_S_copyFiles_21 : decode b_S_copyFiles 21 = .ok (.getfield 9, 3) := by decide +kernel
theorem d_S_copyFiles_24 : decode b_S_copyFiles 24 = .ok (.iconst 0, 1) := by decide +kernel
theorem d_S_copyFiles_25 : decode b_S_copyFiles 25 = .ok (.bipush 60, 2) := by decide +kernel
theorem d_S_copyFiles_27 : decode b_S_copyFiles 27 = .ok (.invokestatic 36, 3) := by decide +kernel
theorem d_S_copyFiles_30 : decode b_S_copyFiles 30 = .ok (.return_, 1) := by decide +kernel
theorem d_S_leadsTo_0 : decode b_S_leadsTo 0 = .ok (.iload_n 1, 1) := by decide +kernel
theorem d_S_leadsTo_1 : decode b_S_leadsTo 1 = .ok (.istore_n 2, 1) := by decide +kernel
theorem d_S_leadsTo_2 : decode b_S_leadsTo 2 = .ok (.iconst 0, 1) := by decide +kernel
theorem d_S_leadsTo_3 : decode b_S_leadsTo 3 = .ok (.istore_n 3, 1) := by decide +kernel
theorem d_S_leadsTo_4 : decode b_S_leadsTo 4 = .ok (.iload_n 3, 1) := by decide +kernel
theorem d_S_leadsTo_5 : decode b_S_leadsTo 5 = .ok (.iconst 4, 1) := by decide +kernel
theorem d_S_leadsTo_6 : decode b_S_leadsTo 6 = .ok (.if_icmp .gt 56, 3) := by decide +kernel
theorem d_S_leadsTo_9 : decode b_S_leadsTo 9 = .ok (.iload_n 2, 1) := by decide +kernel
theorem d_S_leadsTo_10 : decode b_S_leadsTo 10 = .ok (.invokestatic 22, 3) := by decide +kernel
theorem d_S_leadsTo_13 : decode b_S_leadsTo 13 = .ok (.ifCond .ne 5, 3) := by decide +kernel
theorem d_S_leadsTo_16 : decode b_S_leadsTo 16 = .ok (.iconst 0, 1) := by decide +kernel
theorem d_S_leadsTo_17 : decode b_S_leadsTo 17 = .ok (.ireturn, 1) := by decide +kernel
theorem d_S_leadsTo_18 : decode b_S_leadsTo 18 = .ok (.aload_n 0, 1) := by decide +kernel
theorem d_S_leadsTo_19 : decode b_S_leadsTo 19 = .ok (.getfield 15, 3) := by decide +kernel
theorem d_S_leadsTo_22 : decode b_S_leadsTo 22 = .ok (.iload_n 2, 1) := by decide +kernel
theorem d_S_leadsTo_23 : decode b_S_leadsTo 23 = .ok (.invokestatic 42, 3) := by decide +kernel
theorem d_S_leadsTo_26 : decode b_S_leadsTo 26 = .ok (.ifCond .eq 10, 3) := by decide +kernel
theorem d_S_leadsTo_29 : decode b_S_leadsTo 29 = .ok (.aload_n 0, 1) := by decide +kernel
theorem d_S_leadsTo_30 : decode b_S_leadsTo 30 = .ok (.getfield 9, 3) := by decide +kernel
theorem d_S_leadsTo_33 : decode b_S_leadsTo 33 = .ok (.iload_n 2, 1) := by decide +kernel
theorem d_S_leadsTo_34 : decode b_S_leadsTo 34 = .ok (.iaload, 1) := by decide +kernel
theorem d_S_leadsTo_35 : decode b_S_leadsTo 35 = .ok (.ireturn, 1) := by decide +kernel
theorem d_S_leadsTo_36 : decode b_S_leadsTo 36 = .ok (.aload_n 0, 1) := by decide +kernel
theorem d_S_leadsTo_37 : decode b_S_leadsTo 37 = .ok (.getfield 19, 3) := by decide +kernel
theorem d_S_leadsTo_40 : decode b_S_leadsTo 40 = .ok (.iload_n 2, 1) := by decide +kernel
theorem d_S_leadsTo_41 : decode b_S_leadsTo 41 = .ok (.invokestatic 42, 3) := by decide +kernel
theorem d_S_leadsTo_44 : decode b_S_leadsTo 44 = .ok (.ifCond .ne 5, 3) := by decide +kernel
theorem d_S_leadsTo_47 : decode b_S_leadsTo 47 = .ok (.iconst 0, 1) := by decide +kernel
theorem d_S_leadsTo_48 : decode b_S_leadsTo 48 = .ok (.ireturn, 1) := by decide +kernel
theorem d_S_leadsTo_49 : decode b_S_leadsTo 49 = .ok (.aload_n 0, 1) := by decide +kernel
theorem d_S_leadsTo_50 : decode b_S_leadsTo 50 = .ok (.getfield 9, 3) := by decide +kernel
theorem d_S_leadsTo_53 : decode b_S_leadsTo 53 = .ok (.iload_n 2, 1) := by decide +kernel
theorem d_S_leadsTo_54 : decode b_S_leadsTo 54 = .ok (.iaload, 1) := by decide +kernel
theorem d_S_leadsTo_55 : decode b_S_leadsTo 55 = .ok (.istore_n 2, 1) := by decide +kernel
theorem d_S_leadsTo_56 : decode b_S_leadsTo 56 = .ok (.iinc 3 1, 3) := by decide +kernel
theorem d_S_leadsTo_59 : decode b_S_leadsTo 59 = .ok (.goto (-55), 3) := by decide +kernel
theorem d_S_leadsTo_62 : decode b_S_leadsTo 62 = .ok (.iconst 0, 1) := by decide +kernel
theorem d_S_leadsTo_63 : decode b_S_leadsTo 63 = .ok (.ireturn, 1) := by decide +kernel
theorem d_S_hasLooseLink_0 : decode b_S_hasLooseLink 0 = .ok (.iconst 0, 1) := by decide +kernel
theorem d_S_hasLooseLink_1 : decode b_S_hasLooseLink 1 = .ok (.istore_n 3, 1) := by decide +kernel
theorem d_S_hasLooseLink_2 : decode b_S_hasLooseLink 2 = .ok (.iload_n 3, 1) := by decide +kernel
theorem d_S_hasLooseLink_3 : decode b_S_hasLooseLink 3 = .ok (.bipush 60, 2) := by decide +kernel
theorem d_S_hasLooseLink_5 : decode b_S_hasLooseLink 5 = .ok (.if_icmp .ge 32, 3) := by decide +kernel
theorem d_S_hasLooseLink_8 : decode b_S_hasLooseLink 8 = .ok (.aload_n 0, 1) := by decide +kernel
theorem d_S_hasLooseLink_9 : decode b_S_hasLooseLink 9 = .ok (.getfield 19, 3) := by decide +kernel
theorem d_S_hasLooseLink_12 : decode b_S_hasLooseLink 12 = .ok (.lload_n 1, 1) := by decide +kernel
theorem d_S_hasLooseLink_13 : decode b_S_hasLooseLink 13 = .ok (.land, 1) := by decide +kernel
theorem d_S_hasLooseLink_14 : decode b_S_hasLooseLink 14 = .ok (.iload_n 3, 1) := by decide +kernel
theorem d_S_hasLooseLink_15 : decode b_S_hasLooseLink 15 = .ok (.invokestatic 42, 3) := by decide +kernel
theorem d_S_hasLooseLink_18 : decode b_S_hasLooseLink 18 = .ok (.ifCond .eq 13, 3) := by decide +kernel
theorem d_S_hasLooseLink_21 : decode b_S_hasLooseLink 21 = .ok (.aload_n 0, 1) := by decide +kernel
theorem d_S_hasLooseLink_22 : decode b_S_hasLooseLink 22 = .ok (.iload_n 3, 1) := by decide +kernel
theorem d_S_hasLooseLink_23 : decode b_S_hasLooseLink 23 = .ok (.invokevirtual 46, 3) := by decide +kernel
theorem d_S_hasLooseLink_26 : decode b_S_hasLooseLink 26 = .ok (.ifCond .ne 5, 3) := by decide +kernel
theorem d_S_hasLooseLink_29 : decode b_S_hasLooseLink 29 = .ok (.iconst 1, 1) := by decide +kernel
theorem d_S_hasLooseLink_30 : decode b_S_hasLooseLink 30 = .ok (.ireturn, 1) := by decide +kernel
theorem d_S_hasLooseLink_31 : decode b_S_hasLooseLink 31 = .ok (.iinc 3 1, 3) := by decide +kernel
theorem d_S_hasLooseLink_34 : decode b_S_hasLooseLink 34 = .ok (.goto (-32), 3) := by decide +kernel
theorem d_S_hasLooseLink_37 : decode b_S_hasLooseLink 37 = .ok (.iconst 0, 1) := by decide +kernel
theorem d_S_hasLooseLink_38 : decode b_S_hasLooseLink 38 = .ok (.ireturn, 1) := by decide +kernel
theorem d_S_canHold_0 : decode b_S_canHold 0 = .ok (.iload_n 0, 1) := by decide +kernel
theorem d_S_canHold_1 : decode b_S_canHold 1 = .ok (.ifCond .lt 13, 3) := by decide +kernel
theorem d_S_canHold_4 : decode b_S_canHold 4 = .ok (.iload_n 0, 1) := by decide +kernel
theorem d_S_canHold_5 : decode b_S_canHold 5 = .ok (.bipush 60, 2) := by decide +kernel
theorem d_S_canHold_7 : decode b_S_canHold 7 = .ok (.if_icmp .ge 7, 3) := by decide +kernel
theorem d_S_canHold_10 : decode b_S_canHold 10 = .ok (.iconst 1, 1) := by decide +kernel
theorem d_S_canHold_11 : decode b_S_canHold 11 = .ok (.goto 4, 3) := by decide +kernel
theorem d_S_canHold_14 : decode b_S_canHold 14 = .ok (.iconst 0, 1) := by decide +kernel
theorem d_S_canHold_15 : decode b_S_canHold 15 = .ok (.ireturn, 1) := by decide +kernel
