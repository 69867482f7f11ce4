theorem d_M_child_0 : decode b_M_child 0 = .ok (.iconst (-1), 1) := by decide +kernel
theorem d_M_child_1 : decode b_M_child 1 = .ok (.istore_n 3, 1) := by decide +kernel
theorem d_M_child_2 : decode b_M_child 2 = .ok (.iconst 1, 1) := by decide +kernel
theorem d_M_child_3 : decode b_M_child 3 = .ok (.istore 4, 2) := by decide +kernel
theorem d_M_child_5 : decode b_M_child 5 = .ok (.iload 4, 2) := by decide +kernel
theorem d_M_child_7 : decode b_M_child 7 = .ok (.aload_n 0, 1) := by decide +kernel
theorem d_M_child_8 : decode b_M_child 8 = .ok (.getfield 7, 3) := by decide +kernel
theorem d_M_child_11 : decode b_M_child 11 = .ok (.if_icmp .ge 38, 3) := by decide +kernel
theorem d_M_child_14 : decode b_M_child 14 = .ok (.aload_n 0, 1) := by decide +kernel
theorem d_M_child_15 : decode b_M_child 15 = .ok (.getfield 13, 3) := by decide +kernel
theorem d_M_child_18 : decode b_M_child 18 = .ok (.iload 4, 2) := by decide +kernel
theorem d_M_child_20 : decode b_M_child 20 = .ok (.iaload, 1) := by decide +kernel
theorem d_M_child_21 : decode b_M_child 21 = .ok (.iload_n 1, 1) := by decide +kernel
theorem d_M_child_22 : decode b_M_child 22 = .ok (.if_icmp .ne 19, 3) := by decide +kernel
theorem d_M_child_25 : decode b_M_child 25 = .ok (.aload_n 0, 1) := by decide +kernel
theorem d_M_child_26 : decode b_M_child 26 = .ok (.getfield 17, 3) := by decide +kernel
theorem d_M_child_29 : decode b_M_child 29 = .ok (.iload 4, 2) := by decide +kernel
theorem d_M_child_31 : decode b_M_child 31 = .ok (.iaload, 1) := by decide +kernel
theorem d_M_child_32 : decode b_M_child 32 = .ok (.iload_n 2, 1) := by decide +kernel
theorem d_M_child_33 : decode b_M_child 33 = .ok (.if_icmp .ne 8, 3) := by decide +kernel
theorem d_M_child_36 : decode b_M_child 36 = .ok (.iload 4, 2) := by decide +kernel
theorem d_M_child_38 : decode b_M_child 38 = .ok (.goto 4, 3) := by decide +kernel
theorem d_M_child_41 : decode b_M_child 41 = .ok (.iload_n 3, 1) := by decide +kernel
theorem d_M_child_42 : decode b_M_child 42 = .ok (.istore_n 3, 1) := by decide +kernel
theorem d_M_child_43 : decode b_M_child 43 = .ok (.iinc 4 1, 3) := by decide +kernel
theorem d_M_child_46 : decode b_M_child 46 = .ok (.goto (-41), 3) := by decide +kernel
theorem d_M_child_49 : decode b_M_child 49 = .ok (.iload_n 3, 1) := by decide +kernel
theorem d_M_child_50 : decode b_M_child 50 = .ok (.ireturn, 1) := by decide +kernel
theorem d_M_path_0 : decode b_M_path 0 = .ok (.aload_n 0, 1) := by decide +kernel
theorem d_M_path_1 : decode b_M_path 1 = .ok (.iconst 0, 1) := by decide +kernel
theorem d_M_path_2 : decode b_M_path 2 = .ok (.putfield 66, 3) := by decide +kernel
theorem d_M_path_5 : decode b_M_path 5 = .ok (.aload_n 0, 1) := by decide +kernel
theorem d_M_path_6 : decode b_M_path 6 = .ok (.iload_n 1, 1) := by decide +kernel
theorem d_M_path_7 : decode b_M_path 7 = .ok (.invokevirtual 72, 3) := by decide +kernel
theorem d_M_path_10 : decode b_M_path 10 = .ok (.ifCond .eq 21, 3) := by decide +kernel
theorem d_M_path_13 : decode b_M_path 13 = .ok (.iload_n 2, 1) := by decide +kernel
theorem d_M_path_14 : decode b_M_path 14 = .ok (.invokestatic 76, 3) := by decide +kernel
theorem d_M_path_17 : decode b_M_path 17 = .ok (.bipush 97, 2) := by decide +kernel
theorem d_M_path_19 : decode b_M_path 19 = .ok (.if_icmp .lt 12, 3) := by decide +kernel
theorem d_M_path_22 : decode b_M_path 22 = .ok (.iload_n 2, 1) := by decide +kernel
theorem d_M_path_23 : decode b_M_path 23 = .ok (.invokestatic 76, 3) := by decide +kernel
theorem d_M_path_26 : decode b_M_path 26 = .ok (.bipush 122, 2) := by decide +kernel
theorem d_M_path_28 : decode b_M_path 28 = .ok (.if_icmp .le 5, 3) := by decide +kernel
theorem d_M_path_31 : decode b_M_path 31 = .ok (.iconst (-1), 1) := by decide +kernel
theorem d_M_path_32 : decode b_M_path 32 = .ok (.ireturn, 1) := by decide +kernel
theorem d_M_path_33 : decode b_M_path 33 = .ok (.aload_n 0, 1) := by decide +kernel
theorem d_M_path_34 : decode b_M_path 34 = .ok (.iload_n 1, 1) := by decide +kernel
theorem d_M_path_35 : decode b_M_path 35 = .ok (.iload_n 2, 1) := by decide +kernel
theorem d_M_path_36 : decode b_M_path 36 = .ok (.invokevirtual 80, 3) := by decide +kernel
theorem d_M_path_39 : decode b_M_path 39 = .ok (.istore_n 3, 1) := by decide +kernel
theorem d_M_path_40 : decode b_M_path 40 = .ok (.iload_n 3, 1) := by decide +kernel
theorem d_M_path_41 : decode b_M_path 41 = .ok (.iconst (-1), 1) := by decide +kernel
theorem d_M_path_42 : decode b_M_path 42 = .ok (.if_icmp .ne 12, 3) := by decide +kernel
theorem d_M_path_45 : decode b_M_path 45 = .ok (.aload_n 0, 1) := by decide +kernel
theorem d_M_path_46 : decode b_M_path 46 = .ok (.getfield 7, 3) := by decide +kernel
theorem d_M_path_49 : decode b_M_path 49 = .ok (.bipush 60, 2) := by decide +kernel
theorem d_M_path_51 : decode b_M_path 51 = .ok (.if_icmp .ne 5, 3) := by decide +kernel
theorem d_M_path_54 : decode b_M_path 54 = .ok (.iload_n 3, 1) := by decide +kernel
theorem d_M_path_55 : decode b_M_path 55 = .ok (.ireturn, 1) := by decide +kernel
theorem d_M_path_56 : decode b_M_path 56 = .ok (.aload_n 0, 1) := by decide +kernel
theorem d_M_path_57 : decode b_M_path 57 = .ok (.getfield 13, 3) := by decide +kernel
theorem d_M_path_60 : decode b_M_path 60 = .ok (.aload_n 0, 1) := by decide +kernel
theorem d_M_path_61 : decode b_M_path 61 = .ok (.getfield 7, 3) := by decide +kernel
theorem d_M_path_64 : decode b_M_path 64 = .ok (.iload_n 1, 1) := by decide +kernel
theorem d_M_path_65 : decode b_M_path 65 = .ok (.iastore, 1) := by decide +kernel
theorem d_M_path_66 : decode b_M_path 66 = .ok (.aload_n 0, 1) := by decide +kernel
theorem d_M_path_67 : decode b_M_path 67 = .ok (.getfield 17, 3) := by decide +kernel
theorem d_M_path_70 : decode b_M_path 70 = .ok (.aload_n 0, 1) := by decide +kernel
theorem d_M_path_71 : decode b_M_path 71 = .ok (.getfield 7, 3) := by decide +kernel
theorem d_M_path_74 : decode b_M_path 74 = .ok (.iload_n 2, 1) := by decide +kernel
theorem d_M_path_75 : decode b_M_path 75 = .ok (.iastore, 1) := by decide +kernel
theorem d_M_path_76 : decode b_M_path 76 = .ok (.aload_n 0, 1) := by decide +kernel
theorem d_M_path_77 : decode b_M_path 77 = .ok (.dup, 1) := by decide +kernel
theorem d_M_path_78 : decode b_M_path 78 = .ok (.getfield 7, 3) := by decide +kernel
theorem d_M_path_81 : decode b_M_path 81 = .ok (.iconst 1, 1) := by decide +kernel
theorem d_M_path_82 : decode b_M_path 82 = .ok (.iadd, 1) := by decide +kernel
theorem d_M_path_83 : decode b_M_path 83 = .ok (.putfield 7, 3) := by decide +kernel
theorem d_M_path_86 : decode b_M_path 86 = .ok (.aload_n 0, 1) := by decide +kernel
theorem d_M_path_87 : decode b_M_path 87 = .ok (.getfield 7, 3) := by decide +kernel
theorem d_M_path_90 : decode b_M_path 90 = .ok (.iconst 1, 1) := by decide +kernel
theorem d_M_path_91 : decode b_M_path 91 = .ok (.isub, 1) := by decide +kernel
theorem d_M_path_92 : decode b_M_path 92 = .ok (.ireturn, 1) := by decide +kernel
theorem d_M_isUnder_0 : decode b_M_isUnder 0 = .ok (.iload_n 1, 1) := by decide +kernel
theorem d_M_isUnder_1 : decode b_M_isUnder 1 = .ok (.istore_n 3, 1) := by decide +kernel
theorem d_M_isUnder_2 : decode b_M_isUnder 2 = .ok (.iload_n 3, 1) := by decide +kernel
theorem d_M_isUnder_3 : decode b_M_isUnder 3 = .ok (.iconst (-1), 1) := by decide +kernel
theorem d_M_isUnder_4 : decode b_M_isUnder 4 = .ok (.if_icmp .eq 18, 3) := by decide +kernel
theorem d_M_isUnder_7 : decode b_M_isUnder 7 = .ok (.iload_n 3, 1) := by decide +kernel
theorem d_M_isUnder_8 : decode b_M_isUnder 8 = .ok (.iload_n 2, 1) := by decide +kernel
theorem d_M_isUnder_9 : decode b_M_isUnder 9 = .ok (.if_icmp .eq 13, 3) := by decide +kernel
theorem d_M_isUnder_12 : decode b_M_isUnder 12 = .ok (.aload_n 0, 1) := by decide +kernel
theorem d_M_isUnder_13 : decode b_M_isUnder 13 = .ok (.getfield 13, 3) := by decide +kernel
theorem d_M_isUnder_16 : decode b_M_isUnder 16 = .ok (.iload_n 3, 1) := by decide +kernel
theorem d_M_isUnder_17 : decode b_M_isUnder 17 = .ok (.iaload, 1) := by decide +kernel
theorem d_M_isUnder_18 : decode b_M_isUnder 18 = .ok (.istore_n 3, 1) := by decide +kernel
theorem d_M_isUnder_19 : decode b_M_isUnder 19 = .ok (.goto (-17), 3) := by decide +kernel
theorem d_M_isUnder_22 : decode b_M_isUnder 22 = .ok (.iload_n 3, 1) := by decide +kernel
theorem d_M_isUnder_23 : decode b_M_isUnder 23 = .ok (.iload_n 2, 1) := by decide +kernel
theorem d_M_isUnder_24 : decode b_M_isUnder 24 = .ok (.if_icmp .ne 7, 3) := by decide +kernel
theorem d_M_isUnder_27 : decode b_M_isUnder 27 = .ok (.iconst 1, 1) := by decide +kernel
theorem d_M_isUnder_28 : decode b_M_isUnder 28 = .ok (.goto 4, 3) := by decide +kernel
theorem d_M_isUnder_31 : decode b_M_isUnder 31 = .ok (.iconst 0, 1) := by decide +kernel
theorem d_M_isUnder_32 : decode b_M_isUnder 32 = .ok (.ireturn, 1) := by decide +kernel
theorem d_M_file_0 : decode b_M_file 0 = .ok (.aload_n 0, 1) := by decide +kernel
theorem d_M_file_1 : decode b_M_file 1 = .ok (.iconst 0, 1) := by decide +kernel
theorem d_M_file_2 : decode b_M_file 2 = .ok (.putfield 66, 3) := by decide +kernel
theorem d_M_file_5 : decode b_M_file 5 = .ok (.aload_n 0, 1) := by decide +kernel
theorem d_M_file_6 : decode b_M_file 6 = .ok (.iload_n 1, 1) := by decide +kernel
theorem d_M_file_7 : decode b_M_file 7 = .ok (.invokevirtual 72, 3) := by decide +kernel
theorem d_M_file_10 : decode b_M_file 10 = .ok (.ifCond .eq 11, 3) := by decide +kernel
theorem d_M_file_13 : decode b_M_file 13 = .ok (.iload_n 1, 1) := by decide +kernel
theorem d_M_file_14 : decode b_M_file 14 = .ok (.ifCond .eq 7, 3) := by decide +kernel
theorem d_M_file_17 : decode b_M_file 17 = .ok (.iload_n 2, 1) := by decide +kernel
theorem d_M_file_18 : decode b_M_file 18 = .ok (.ifCond .ge 5, 3) := by decide +kernel
theorem d_M_file_21 : decode b_M_file 21 = .ok (.iconst 0, 1) := by decide +kernel
theorem d_M_file_22 : decode b_M_file 22 = .ok (.ireturn, 1) := by decide +kernel
theorem d_M_file_23 : decode b_M_file 23 = .ok (.iconst 1, 1) := by decide +kernel
theorem d_M_file_24 : decode b_M_file 24 = .ok (.istore_n 3, 1) := by decide +kernel
theorem d_M_file_25 : decode b_M_file 25 = .ok (.iload_n 3, 1) := by decide +kernel
theorem d_M_file_26 : decode b_M_file 26 = .ok (.aload_n 0, 1) := by decide +kernel
theorem d_M_file_27 : decode b_M_file 27 = .ok (.getfield 7, 3) := by decide +kernel
theorem d_M_file_30 : decode b_M_file 30 = .ok (.if_icmp .ge 43, 3) := by decide +kernel
theorem d_M_file_33 : decode b_M_file 33 = .ok (.iload_n 3, 1) := by decide +kernel
theorem d_M_file_34 : decode b_M_file 34 = .ok (.iload_n 1, 1) := by decide +kernel
theorem d_M_file_35 : decode b_M_file 35 = .ok (.if_icmp .eq 32, 3) := by decide +kernel
theorem d_M_file_38 : decode b_M_file 38 = .ok (.aload_n 0, 1) := by decide +kernel
theorem d_M_file_39 : decode b_M_file 39 = .ok (.getfield 20, 3) := by decide +kernel
theorem d_M_file_42 : decode b_M_file 42 = .ok (.iload_n 3, 1) := by decide +kernel
theorem d_M_file_43 : decode b_M_file 43 = .ok (.iaload, 1) := by decide +kernel
theorem d_M_file_44 : decode b_M_file 44 = .ok (.ifCond .le 23, 3) := by decide +kernel
theorem d_M_file_47 : decode b_M_file 47 = .ok (.aload_n 0, 1) := by decide +kernel
theorem d_M_file_48 : decode b_M_file 48 = .ok (.iload_n 3, 1) := by decide +kernel
theorem d_M_file_49 : decode b_M_file 49 = .ok (.iload_n 1, 1) := by decide +kernel
theorem d_M_file_50 : decode b_M_file 50 = .ok (.invokevirtual 84, 3) := by decide +kernel
theorem d_M_file_53 : decode b_M_file 53 = .ok (.ifCond .ne 12, 3) := by decide +kernel
theorem d_M_file_56 : decode b_M_file 56 = .ok (.aload_n 0, 1) := by decide +kernel
theorem d_M_file_57 : decode b_M_file 57 = .ok (.iload_n 1, 1) := by decide +kernel
theorem d_M_file_58 : decode b_M_file 58 = .ok (.iload_n 3, 1) := by decide +kernel
theorem d_M_file_59 : decode b_M_file 59 = .ok (.invokevirtual 84, 3) := by decide +kernel
theorem d_M_file_62 : decode b_M_file 62 = .ok (.ifCond .eq 5, 3) := by decide +kernel
theorem d_M_file_65 : decode b_M_file 65 = .ok (.iconst 0, 1) := by decide +kernel
theorem d_M_file_66 : decode b_M_file 66 = .ok (.ireturn, 1) := by decide +kernel
theorem d_M_file_67 : decode b_M_file 67 = .ok (.iinc 3 1, 3) := by decide +kernel
theorem d_M_file_70 : decode b_M_file 70 = .ok (.goto (-45), 3) := by decide +kernel
theorem d_M_file_73 : decode b_M_file 73 = .ok (.aload_n 0, 1) := by decide +kernel
theorem d_M_file_74 : decode b_M_file 74 = .ok (.getfield 20, 3) := by decide +kernel
theorem d_M_file_77 : decode b_M_file 77 = .ok (.iload_n 1, 1) := by decide +kernel
theorem d_M_file_78 : decode b_M_file 78 = .ok (.iload_n 2, 1) := by decide +kernel
theorem d_M_file_79 : decode b_M_file 79 = .ok (.iastore, 1) := by decide +kernel
theorem d_M_file_80 : decode b_M_file 80 = .ok (.iconst 1, 1) := by decide +kernel
theorem d_M_file_81 : decode b_M_file 81 = .ok (.ireturn, 1) := by decide +kernel
theorem d_M_source_0 : decode b_M_source 0 = .ok (.aload_n 0, 1) := by decide +kernel
theorem d_M_source_1 : decode b_M_source 1 = .ok (.iconst 0, 1) := by decide +kernel
theorem d_M_source_2 : decode b_M_source 2 = .ok (.putfield 66, 3) := by decide +kernel
theorem d_M_source_5 : decode b_M_source 5 = .ok (.aload_n 0, 1) := by decide +kernel
theorem d_M_source_6 : decode b_M_source 6 = .ok (.iload_n 1, 1) := by decide +kernel
theorem d_M_source_7 : decode b_M_source 7 = .ok (.invokevirtual 72, 3) := by decide +kernel
theorem d_M_source_10 : decode b_M_source 10 = .ok (.ifCond .eq 12, 3) := by decide +kernel
theorem d_M_source_13 : decode b_M_source 13 = .ok (.aload_n 0, 1) := by decide +kernel
theorem d_M_source_14 : decode b_M_source 14 = .ok (.getfield 20, 3) := by decide +kernel
theorem d_M_source_17 : decode b_M_source 17 = .ok (.iload_n 1, 1) := by decide +kernel
theorem d_M_source_18 : decode b_M_source 18 = .ok (.iaload, 1) := by decide +kernel
theorem d_M_source_19 : decode b_M_source 19 = .ok (.goto 4, 3) := by decide +kernel
theorem d_M_source_22 : decode b_M_source 22 = .ok (.iconst 0, 1) := by decide +kernel
theorem d_M_source_23 : decode b_M_source 23 = .ok (.ireturn, 1) := by decide +kernel
theorem d_M_action_0 : decode b_M_action 0 = .ok (.aload_n 0, 1) := by decide +kernel
theorem d_M_action_1 : decode b_M_action 1 = .ok (.iconst 0, 1) := by decide +kernel
theorem d_M_action_2 : decode b_M_action 2 = .ok (.putfield 66, 3) := by decide +kernel
theorem d_M_action_5 : decode b_M_action 5 = .ok (.aload_n 0, 1) := by decide +kernel
theorem d_M_action_6 : decode b_M_action 6 = .ok (.getfield 69, 3) := by decide +kernel
theorem d_M_action_9 : decode b_M_action 9 = .ok (.bipush 10, 2) := by decide +kernel
theorem d_M_action_11 : decode b_M_action 11 = .ok (.if_icmp .ne 5, 3) := by decide +kernel
theorem d_M_action_14 : decode b_M_action 14 = .ok (.iconst (-1), 1) := by decide +kernel
theorem d_M_action_15 : decode b_M_action 15 = .ok (.ireturn, 1) := by decide +kernel
theorem d_M_action_16 : decode b_M_action 16 = .ok (.aload_n 0, 1) := by decide +kernel
theorem d_M_action_17 : decode b_M_action 17 = .ok (.dup, 1) := by decide +kernel
theorem d_M_action_18 : decode b_M_action 18 = .ok (.getfield 69, 3) := by decide +kernel
theorem d_M_action_21 : decode b_M_action 21 = .ok (.iconst 1, 1) := by decide +kernel
theorem d_M_action_22 : decode b_M_action 22 = .ok (.iadd, 1) := by decide +kernel
theorem d_M_action_23 : decode b_M_action 23 = .ok (.putfield 69, 3) := by decide +kernel
theorem d_M_action_26 : decode b_M_action 26 = .ok (.aload_n 0, 1) := by decide +kernel
theorem d_M_action_27 : decode b_M_action 27 = .ok (.getfield 69, 3) := by decide +kernel
theorem d_M_action_30 : decode b_M_action 30 = .ok (.iconst 1, 1) := by decide +kernel
theorem d_M_action_31 : decode b_M_action 31 = .ok (.isub, 1) := by decide +kernel
theorem d_M_action_32 : decode b_M_action 32 = .ok (.ireturn, 1) := by decide +kernel
theorem d_M_declare_0 : decode b_M_declare 0 = .ok (.aload_n 0, 1) := by decide +kernel
theorem d_M_declare_1 : decode b_M_declare 1 = .ok (.iconst 0, 1) := by decide +kernel
theorem d_M_declare_2 : decode b_M_declare 2 = .ok (.putfield 66, 3) := by decide +kernel
theorem d_M_declare_5 : decode b_M_declare 5 = .ok (.aload_n 0, 1) := by decide +kernel
theorem d_M_declare_6 : decode b_M_declare 6 = .ok (.iload_n 1, 1) := by decide +kernel
theorem d_M_declare_7 : decode b_M_declare 7 = .ok (.invokevirtual 88, 3) := by decide +kernel
theorem d_M_declare_10 : decode b_M_declare 10 = .ok (.ifCond .eq 35, 3) := by decide +kernel
theorem d_M_declare_13 : decode b_M_declare 13 = .ok (.aload_n 0, 1) := by decide +kernel
theorem d_M_declare_14 : decode b_M_declare 14 = .ok (.iload_n 2, 1) := by decide +kernel
theorem d_M_declare_15 : decode b_M_declare 15 = .ok (.invokevirtual 72, 3) := by decide +kernel
theorem d_M_declare_18 : decode b_M_declare 18 = .ok (.ifCond .eq 27, 3) := by decide +kernel
theorem d_M_declare_21 : decode b_M_declare 21 = .ok (.iload_n 2, 1) := by decide +kernel
theorem d_M_declare_22 : decode b_M_declare 22 = .ok (.ifCond .eq 23, 3) := by decide +kernel
theorem d_M_declare_25 : decode b_M_declare 25 = .ok (.aload_n 0, 1) := by decide +kernel
theorem d_M_declare_26 : decode b_M_declare 26 = .ok (.getfield 26, 3) := by decide +kernel
theorem d_M_declare_29 : decode b_M_declare 29 = .ok (.iload_n 1, 1) := by decide +kernel
theorem d_M_declare_30 : decode b_M_declare 30 = .ok (.iaload, 1) := by decide +kernel
theorem d_M_declare_31 : decode b_M_declare 31 = .ok (.bipush 12, 2) := by decide +kernel
theorem d_M_declare_33 : decode b_M_declare 33 = .ok (.if_icmp .eq 12, 3) := by decide +kernel
theorem d_M_declare_36 : decode b_M_declare 36 = .ok (.aload_n 0, 1) := by decide +kernel
theorem d_M_declare_37 : decode b_M_declare 37 = .ok (.getfield 51, 3) := by decide +kernel
theorem d_M_declare_40 : decode b_M_declare 40 = .ok (.iload_n 1, 1) := by decide +kernel
theorem d_M_declare_41 : decode b_M_declare 41 = .ok (.baload, 1) := by decide +kernel
theorem d_M_declare_42 : decode b_M_declare 42 = .ok (.ifCond .eq 5, 3) := by decide +kernel
theorem d_M_declare_45 : decode b_M_declare 45 = .ok (.iconst (-1), 1) := by decide +kernel
theorem d_M_declare_46 : decode b_M_declare 46 = .ok (.ireturn, 1) := by decide +kernel
theorem d_M_declare_47 : decode b_M_declare 47 = .ok (.iconst 0, 1) := by decide +kernel
theorem d_M_declare_48 : decode b_M_declare 48 = .ok (.istore 4, 2) := by decide +kernel
theorem d_M_declare_50 : decode b_M_declare 50 = .ok (.iload 4, 2) := by decide +kernel
theorem d_M_declare_52 : decode b_M_declare 52 = .ok (.aload_n 0, 1) := by decide +kernel
theorem d_M_declare_53 : decode b_M_declare 53 = .ok (.getfield 26, 3) := by decide +kernel
theorem d_M_declare_56 : decode b_M_declare 56 = .ok (.iload_n 1, 1) := by decide +kernel
theorem d_M_declare_57 : decode b_M_declare 57 = .ok (.iaload, 1) := by decide +kernel
theorem d_M_declare_58 : decode b_M_declare 58 = .ok (.if_icmp .ge 52, 3) := by decide +kernel
theorem d_M_declare_61 : decode b_M_declare 61 = .ok (.aload_n 0, 1) := by decide +kernel
theorem d_M_declare_62 : decode b_M_declare 62 = .ok (.iload_n 2, 1) := by decide +kernel
theorem d_M_declare_63 : decode b_M_declare 63 = .ok (.aload_n 0, 1) := by decide +kernel
theorem d_M_declare_64 : decode b_M_declare 64 = .ok (.getfield 29, 3) := by decide +kernel
theorem d_M_declare_67 : decode b_M_declare 67 = .ok (.bipush 12, 2) := by decide +kernel
theorem d_M_declare_69 : decode b_M_declare 69 = .ok (.iload_n 1, 1) := by decide +kernel
theorem d_M_declare_70 : decode b_M_declare 70 = .ok (.imul, 1) := by decide +kernel
theorem d_M_declare_71 : decode b_M_declare 71 = .ok (.iload 4, 2) := by decide +kernel
theorem d_M_declare_73 : decode b_M_declare 73 = .ok (.iadd, 1) := by decide +kernel
theorem d_M_declare_74 : decode b_M_declare 74 = .ok (.iaload, 1) := by decide +kernel
theorem d_M_declare_75 : decode b_M_declare 75 = .ok (.invokevirtual 84, 3) := by decide +kernel
theorem d_M_declare_78 : decode b_M_declare 78 = .ok (.ifCond .ne 23, 3) := by decide +kernel
theorem d_M_declare_81 : decode b_M_declare 81 = .ok (.aload_n 0, 1) := by decide +kernel
theorem d_M_declare_82 : decode b_M_declare 82 = .ok (.aload_n 0, 1) := by decide +kernel
theorem d_M_declare_83 : decode b_M_declare 83 = .ok (.getfield 29, 3) := by decide +kernel
theorem d_M_declare_86 : decode b_M_declare 86 = .ok (.bipush 12, 2) := by decide +kernel
theorem d_M_declare_88 : decode b_M_declare 88 = .ok (.iload_n 1, 1) := by decide +kernel
theorem d_M_declare_89 : decode b_M_declare 89 = .ok (.imul, 1) := by decide +kernel
theorem d_M_declare_90 : decode b_M_declare 90 = .ok (.iload 4, 2) := by decide +kernel
theorem d_M_declare_92 : decode b_M_declare 92 = .ok (.iadd, 1) := by decide +kernel
theorem d_M_declare_93 : decode b_M_declare 93 = .ok (.iaload, 1) := by decide +kernel
theorem d_M_declare_94 : decode b_M_declare 94 = .ok (.iload_n 2, 1) := by decide +kernel
theorem d_M_declare_95 : decode b_M_declare 95 = .ok (.invokevirtual 84, 3) := by decide +kernel
theorem d_M_declare_98 : decode b_M_declare 98 = .ok (.ifCond .eq 6, 3) := by decide +kernel
theorem d_M_declare_101 : decode b_M_declare 101 = .ok (.bipush (-2), 2) := by decide +kernel
theorem d_M_declare_103 : decode b_M_declare 103 = .ok (.ireturn, 1) := by decide +kernel
theorem d_M_declare_104 : decode b_M_declare 104 = .ok (.iinc 4 1, 3) := by decide +kernel
theorem d_M_declare_107 : decode b_M_declare 107 = .ok (.goto (-57), 3) := by decide +kernel
theorem d_M_declare_110 : decode b_M_declare 110 = .ok (.aload_n 0, 1) := by decide +kernel
theorem d_M_declare_111 : decode b_M_declare 111 = .ok (.getfield 29, 3) := by decide +kernel
theorem d_M_declare_114 : decode b_M_declare 114 = .ok (.bipush 12, 2) := by decide +kernel
theorem d_M_declare_116 : decode b_M_declare 116 = .ok (.iload_n 1, 1) := by decide +kernel
theorem d_M_declare_117 : decode b_M_declare 117 = .ok (.imul, 1) := by decide +kernel
theorem d_M_declare_118 : decode b_M_declare 118 = .ok (.aload_n 0, 1) := by decide +kernel
theorem d_M_declare_119 : decode b_M_declare 119 = .ok (.getfield 26, 3) := by decide +kernel
theorem d_M_declare_122 : decode b_M_declare 122 = .ok (.iload_n 1, 1) := by decide +kernel
theorem d_M_declare_123 : decode b_M_declare 123 = .ok (.iaload, 1) := by decide +kernel
theorem d_M_declare_124 : decode b_M_declare 124 = .ok (.iadd, 1) := by decide +kernel
theorem d_M_declare_125 : decode b_M_declare 125 = .ok (.iload_n 2, 1) := by decide +kernel
theorem d_M_declare_126 : decode b_M_declare 126 = .ok (.iastore, 1) := by decide +kernel
theorem d_M_declare_127 : decode b_M_declare 127 = .ok (.aload_n 0, 1) := by decide +kernel
theorem d_M_declare_128 : decode b_M_declare 128 = .ok (.getfield 47, 3) := by decide +kernel
theorem d_M_declare_131 : decode b_M_declare 131 = .ok (.bipush 12, 2) := by decide +kernel
theorem d_M_declare_133 : decode b_M_declare 133 = .ok (.iload_n 1, 1) := by decide +kernel
theorem d_M_declare_134 : decode b_M_declare 134 = .ok (.imul, 1) := by decide +kernel
theorem d_M_declare_135 : decode b_M_declare 135 = .ok (.aload_n 0, 1) := by decide +kernel
theorem d_M_declare_136 : decode b_M_declare 136 = .ok (.getfield 26, 3) := by decide +kernel
theorem d_M_declare_139 : decode b_M_declare 139 = .ok (.iload_n 1, 1) := by decide +kernel
theorem d_M_declare_140 : decode b_M_declare 140 = .ok (.iaload, 1) := by decide +kernel
theorem d_M_declare_141 : decode b_M_declare 141 = .ok (.iadd, 1) := by decide +kernel
theorem d_M_declare_142 : decode b_M_declare 142 = .ok (.iload_n 3, 1) := by decide +kernel
theorem d_M_declare_143 : decode b_M_declare 143 = .ok (.bastore, 1) := by decide +kernel
theorem d_M_declare_144 : decode b_M_declare 144 = .ok (.aload_n 0, 1) := by decide +kernel
theorem d_M_declare_145 : decode b_M_declare 145 = .ok (.getfield 26, 3) := by decide +kernel
theorem d_M_declare_148 : decode b_M_declare 148 = .ok (.iload_n 1, 1) := by decide +kernel
theorem d_M_declare_149 : decode b_M_declare 149 = .ok (.dup2, 1) := by decide +kernel
theorem d_M_declare_150 : decode b_M_declare 150 = .ok (.iaload, 1) := by decide +kernel
theorem d_M_declare_151 : decode b_M_declare 151 = .ok (.iconst 1, 1) := by decide +kernel
theorem d_M_declare_152 : decode b_M_declare 152 = .ok (.iadd, 1) := by decide +kernel
theorem d_M_declare_153 : decode b_M_declare 153 = .ok (.iastore, 1) := by decide +kernel
theorem d_M_declare_154 : decode b_M_declare 154 = .ok (.iconst 1, 1) := by decide +kernel
theorem d_M_declare_155 : decode b_M_declare 155 = .ok (.ireturn, 1) := by decide +kernel
theorem d_M_strict_0 : decode b_M_strict 0 = .ok (.aload_n 0, 1) := by decide +kernel
theorem d_M_strict_1 : decode b_M_strict 1 = .ok (.iconst 0, 1) := by decide +kernel
theorem d_M_strict_2 : decode b_M_strict 2 = .ok (.putfield 66, 3) := by decide +kernel
theorem d_M_strict_5 : decode b_M_strict 5 = .ok (.aload_n 0, 1) := by decide +kernel
theorem d_M_strict_6 : decode b_M_strict 6 = .ok (.iload_n 1, 1) := by decide +kernel
theorem d_M_strict_7 : decode b_M_strict 7 = .ok (.putfield 91, 3) := by decide +kernel
theorem d_M_strict_10 : decode b_M_strict 10 = .ok (.return_, 1) := by decide +kernel
theorem d_M_isDeclared_0 : decode b_M_isDeclared 0 = .ok (.iconst 0, 1) := by decide +kernel
theorem d_M_isDeclared_1 : decode b_M_isDeclared 1 = .ok (.istore 4, 2) := by decide +kernel
theorem d_M_isDeclared_3 : decode b_M_isDeclared 3 = .ok (.iconst 0, 1) := by decide +kernel
theorem d_M_isDeclared_4 : decode b_M_isDeclared 4 = .ok (.istore 5, 2) := by decide +kernel
theorem d_M_isDeclared_6 : decode b_M_isDeclared 6 = .ok (.iload 5, 2) := by decide +kernel
theorem d_M_isDeclared_8 : decode b_M_isDeclared 8 = .ok (.aload_n 0, 1) := by decide +kernel
theorem d_M_isDeclared_9 : decode b_M_isDeclared 9 = .ok (.getfield 26, 3) := by decide +kernel
theorem d_M_isDeclared_12 : decode b_M_isDeclared 12 = .ok (.iload_n 1, 1) := by decide +kernel
theorem d_M_isDeclared_13 : decode b_M_isDeclared 13 = .ok (.iaload, 1) := by decide +kernel
theorem d_M_isDeclared_14 : decode b_M_isDeclared 14 = .ok (.if_icmp .ge 57, 3) := by decide +kernel
theorem d_M_isDeclared_17 : decode b_M_isDeclared 17 = .ok (.iload 4, 2) := by decide +kernel
theorem d_M_isDeclared_19 : decode b_M_isDeclared 19 = .ok (.ifCond .ne 39, 3) := by decide +kernel
theorem d_M_isDeclared_22 : decode b_M_isDeclared 22 = .ok (.aload_n 0, 1) := by decide +kernel
theorem d_M_isDeclared_23 : decode b_M_isDeclared 23 = .ok (.getfield 47, 3) := by decide +kernel
theorem d_M_isDeclared_26 : decode b_M_isDeclared 26 = .ok (.bipush 12, 2) := by decide +kernel
theorem d_M_isDeclared_28 : decode b_M_isDeclared 28 = .ok (.iload_n 1, 1) := by decide +kernel
theorem d_M_isDeclared_29 : decode b_M_isDeclared 29 = .ok (.imul, 1) := by decide +kernel
theorem d_M_isDeclared_30 : decode b_M_isDeclared 30 = .ok (.iload 5, 2) := by decide +kernel
theorem d_M_isDeclared_32 : decode b_M_isDeclared 32 = .ok (.iadd, 1) := by decide +kernel
theorem d_M_isDeclared_33 : decode b_M_isDeclared 33 = .ok (.baload, 1) := by decide +kernel
theorem d_M_isDeclared_34 : decode b_M_isDeclared 34 = .ok (.iload_n 3, 1) := by decide +kernel
theorem d_M_isDeclared_35 : decode b_M_isDeclared 35 = .ok (.if_icmp .ne 27, 3) := by decide +kernel
theorem d_M_isDeclared_38 : decode b_M_isDeclared 38 = .ok (.aload_n 0, 1) := by decide +kernel
theorem d_M_isDeclared_39 : decode b_M_isDeclared 39 = .ok (.iload_n 2, 1) := by decide +kernel
theorem d_M_isDeclared_40 : decode b_M_isDeclared 40 = .ok (.aload_n 0, 1) := by decide +kernel
theorem d_M_isDeclared_41 : decode b_M_isDeclared 41 = .ok (.getfield 29, 3) := by decide +kernel
theorem d_M_isDeclared_44 : decode b_M_isDeclared 44 = .ok (.bipush 12, 2) := by decide +kernel
theorem d_M_isDeclared_46 : decode b_M_isDeclared 46 = .ok (.iload_n 1, 1) := by decide +kernel
theorem d_M_isDeclared_47 : decode b_M_isDeclared 47 = .ok (.imul, 1) := by decide +kernel
theorem d_M_isDeclared_48 : decode b_M_isDeclared 48 = .ok (.iload 5, 2) := by decide +kernel
theorem d_M_isDeclared_50 : decode b_M_isDeclared 50 = .ok (.iadd, 1) := by decide +kernel
theorem d_M_isDeclared_51 : decode b_M_isDeclared 51 = .ok (.iaload, 1) := by decide +kernel
theorem d_M_isDeclared_52 : decode b_M_isDeclared 52 = .ok (.invokevirtual 84, 3) := by decide +kernel
theorem d_M_isDeclared_55 : decode b_M_isDeclared 55 = .ok (.ifCond .eq 7, 3) := by decide +kernel
theorem d_M_isDeclared_58 : decode b_M_isDeclared 58 = .ok (.iconst 1, 1) := by decide +kernel
theorem d_M_isDeclared_59 : decode b_M_isDeclared 59 = .ok (.goto 4, 3) := by decide +kernel
theorem d_M_isDeclared_62 : decode b_M_isDeclared 62 = .ok (.iconst 0, 1) := by decide +kernel
theorem d_M_isDeclared_63 : decode b_M_isDeclared 63 = .ok (.istore 4, 2) := by decide +kernel
theorem d_M_isDeclared_65 : decode b_M_isDeclared 65 = .ok (.iinc 5 1, 3) := by decide +kernel
theorem d_M_isDeclared_68 : decode b_M_isDeclared 68 = .ok (.goto (-62), 3) := by decide +kernel
theorem d_M_isDeclared_71 : decode b_M_isDeclared 71 = .ok (.iload 4, 2) := by decide +kernel
theorem d_M_isDeclared_73 : decode b_M_isDeclared 73 = .ok (.ireturn, 1) := by decide +kernel
theorem d_M_isWritable_0 : decode b_M_isWritable 0 = .ok (.aload_n 0, 1) := by decide +kernel
theorem d_M_isWritable_1 : decode b_M_isWritable 1 = .ok (.iload_n 1, 1) := by decide +kernel
theorem d_M_isWritable_2 : decode b_M_isWritable 2 = .ok (.iload_n 2, 1) := by decide +kernel
theorem d_M_isWritable_3 : decode b_M_isWritable 3 = .ok (.iconst 1, 1) := by decide +kernel
theorem d_M_isWritable_4 : decode b_M_isWritable 4 = .ok (.invokevirtual 95, 3) := by decide +kernel
theorem d_M_isWritable_7 : decode b_M_isWritable 7 = .ok (.ifCond .eq 5, 3) := by decide +kernel
theorem d_M_isWritable_10 : decode b_M_isWritable 10 = .ok (.iconst 1, 1) := by decide +kernel
theorem d_M_isWritable_11 : decode b_M_isWritable 11 = .ok (.ireturn, 1) := by decide +kernel
theorem d_M_isWritable_12 : decode b_M_isWritable 12 = .ok (.aload_n 0, 1) := by decide +kernel
theorem d_M_isWritable_13 : decode b_M_isWritable 13 = .ok (.iconst 0, 1) := by decide +kernel
theorem d_M_isWritable_14 : decode b_M_isWritable 14 = .ok (.bipush 122, 2) := by decide +kernel
theorem d_M_isWritable_16 : decode b_M_isWritable 16 = .ok (.invokevirtual 80, 3) := by decide +kernel
theorem d_M_isWritable_19 : decode b_M_isWritable 19 = .ok (.istore_n 3, 1) := by decide +kernel
theorem d_M_isWritable_20 : decode b_M_isWritable 20 = .ok (.iload_n 3, 1) := by decide +kernel
theorem d_M_isWritable_21 : decode b_M_isWritable 21 = .ok (.iconst (-1), 1) := by decide +kernel
theorem d_M_isWritable_22 : decode b_M_isWritable 22 = .ok (.if_icmp .eq 31, 3) := by decide +kernel
theorem d_M_isWritable_25 : decode b_M_isWritable 25 = .ok (.iload_n 2, 1) := by decide +kernel
theorem d_M_isWritable_26 : decode b_M_isWritable 26 = .ok (.iload_n 3, 1) := by decide +kernel
theorem d_M_isWritable_27 : decode b_M_isWritable 27 = .ok (.if_icmp .eq 26, 3) := by decide +kernel
theorem d_M_isWritable_30 : decode b_M_isWritable 30 = .ok (.aload_n 0, 1) := by decide +kernel
theorem d_M_isWritable_31 : decode b_M_isWritable 31 = .ok (.iload_n 2, 1) := by decide +kernel
theorem d_M_isWritable_32 : decode b_M_isWritable 32 = .ok (.iload_n 3, 1) := by decide +kernel
theorem d_M_isWritable_33 : decode b_M_isWritable 33 = .ok (.invokevirtual 84, 3) := by decide +kernel
theorem d_M_isWritable_36 : decode b_M_isWritable 36 = .ok (.ifCond .eq 17, 3) := by decide +kernel
theorem d_M_isWritable_39 : decode b_M_isWritable 39 = .ok (.aload_n 0, 1) := by decide +kernel
theorem d_M_isWritable_40 : decode b_M_isWritable 40 = .ok (.iload_n 1, 1) := by decide +kernel
theorem d_M_isWritable_41 : decode b_M_isWritable 41 = .ok (.iload_n 2, 1) := by decide +kernel
theorem d_M_isWritable_42 : decode b_M_isWritable 42 = .ok (.iconst 0, 1) := by decide +kernel
theorem d_M_isWritable_43 : decode b_M_isWritable 43 = .ok (.invokevirtual 95, 3) := by decide +kernel
theorem d_M_isWritable_46 : decode b_M_isWritable 46 = .ok (.ifCond .ne 7, 3) := by decide +kernel
theorem d_M_isWritable_49 : decode b_M_isWritable 49 = .ok (.iconst 1, 1) := by decide +kernel
theorem d_M_isWritable_50 : decode b_M_isWritable 50 = .ok (.goto 4, 3) := by decide +kernel
theorem d_M_isWritable_53 : decode b_M_isWritable 53 = .ok (.iconst 0, 1) := by decide +kernel
theorem d_M_isWritable_54 : decode b_M_isWritable 54 = .ok (.ireturn, 1) := by decide +kernel
theorem d_M_begin_0 : decode b_M_begin 0 = .ok (.aload_n 0, 1) := by decide +kernel
theorem d_M_begin_1 : decode b_M_begin 1 = .ok (.iconst 0, 1) := by decide +kernel
theorem d_M_begin_2 : decode b_M_begin 2 = .ok (.putfield 66, 3) := by decide +kernel
theorem d_M_begin_5 : decode b_M_begin 5 = .ok (.aload_n 0, 1) := by decide +kernel
theorem d_M_begin_6 : decode b_M_begin 6 = .ok (.iload_n 1, 1) := by decide +kernel
theorem d_M_begin_7 : decode b_M_begin 7 = .ok (.invokevirtual 88, 3) := by decide +kernel
theorem d_M_begin_10 : decode b_M_begin 10 = .ok (.ifCond .eq 12, 3) := by decide +kernel
theorem d_M_begin_13 : decode b_M_begin 13 = .ok (.aload_n 0, 1) := by decide +kernel
theorem d_M_begin_14 : decode b_M_begin 14 = .ok (.getfield 51, 3) := by decide +kernel
theorem d_M_begin_17 : decode b_M_begin 17 = .ok (.iload_n 1, 1) := by decide +kernel
theorem d_M_begin_18 : decode b_M_begin 18 = .ok (.baload, 1) := by decide +kernel
theorem d_M_begin_19 : decode b_M_begin 19 = .ok (.ifCond .eq 5, 3) := by decide +kernel
theorem d_M_begin_22 : decode b_M_begin 22 = .ok (.iconst (-1), 1) := by decide +kernel
theorem d_M_begin_23 : decode b_M_begin 23 = .ok (.ireturn, 1) := by decide +kernel
theorem d_M_begin_24 : decode b_M_begin 24 = .ok (.iconst 0, 1) := by decide +kernel
theorem d_M_begin_25 : decode b_M_begin 25 = .ok (.istore_n 2, 1) := by decide +kernel
theorem d_M_begin_26 : decode b_M_begin 26 = .ok (.iload_n 2, 1) := by decide +kernel
theorem d_M_begin_27 : decode b_M_begin 27 = .ok (.aload_n 0, 1) := by decide +kernel
theorem d_M_begin_28 : decode b_M_begin 28 = .ok (.getfield 26, 3) := by decide +kernel
theorem d_M_begin_31 : decode b_M_begin 31 = .ok (.iload_n 1, 1) := by decide +kernel
theorem d_M_begin_32 : decode b_M_begin 32 = .ok (.iaload, 1) := by decide +kernel
theorem d_M_begin_33 : decode b_M_begin 33 = .ok (.if_icmp .ge 86, 3) := by decide +kernel
theorem d_M_begin_36 : decode b_M_begin 36 = .ok (.aload_n 0, 1) := by decide +kernel
theorem d_M_begin_37 : decode b_M_begin 37 = .ok (.getfield 47, 3) := by decide +kernel
theorem d_M_begin_40 : decode b_M_begin 40 = .ok (.bipush 12, 2) := by decide +kernel
theorem d_M_begin_42 : decode b_M_begin 42 = .ok (.iload_n 1, 1) := by decide +kernel
theorem d_M_begin_43 : decode b_M_begin 43 = .ok (.imul, 1) := by decide +kernel
theorem d_M_begin_44 : decode b_M_begin 44 = .ok (.iload_n 2, 1) := by decide +kernel
theorem d_M_begin_45 : decode b_M_begin 45 = .ok (.iadd, 1) := by decide +kernel
theorem d_M_begin_46 : decode b_M_begin 46 = .ok (.baload, 1) := by decide +kernel
theorem d_M_begin_47 : decode b_M_begin 47 = .ok (.istore_n 3, 1) := by decide +kernel
theorem d_M_begin_48 : decode b_M_begin 48 = .ok (.iconst 1, 1) := by decide +kernel
theorem d_M_begin_49 : decode b_M_begin 49 = .ok (.istore 4, 2) := by decide +kernel
theorem d_M_begin_51 : decode b_M_begin 51 = .ok (.iload 4, 2) := by decide +kernel
theorem d_M_begin_53 : decode b_M_begin 53 = .ok (.aload_n 0, 1) := by decide +kernel
theorem d_M_begin_54 : decode b_M_begin 54 = .ok (.getfield 7, 3) := by decide +kernel
theorem d_M_begin_57 : decode b_M_begin 57 = .ok (.if_icmp .ge 49, 3) := by decide +kernel
theorem d_M_begin_60 : decode b_M_begin 60 = .ok (.iload_n 3, 1) := by decide +kernel
theorem d_M_begin_61 : decode b_M_begin 61 = .ok (.ifCond .ne 33, 3) := by decide +kernel
theorem d_M_begin_64 : decode b_M_begin 64 = .ok (.aload_n 0, 1) := by decide +kernel
theorem d_M_begin_65 : decode b_M_begin 65 = .ok (.getfield 20, 3) := by decide +kernel
theorem d_M_begin_68 : decode b_M_begin 68 = .ok (.iload 4, 2) := by decide +kernel
theorem d_M_begin_70 : decode b_M_begin 70 = .ok (.iaload, 1) := by decide +kernel
theorem d_M_begin_71 : decode b_M_begin 71 = .ok (.ifCond .le 27, 3) := by decide +kernel
theorem d_M_begin_74 : decode b_M_begin 74 = .ok (.aload_n 0, 1) := by decide +kernel
theorem d_M_begin_75 : decode b_M_begin 75 = .ok (.iload 4, 2) := by decide +kernel
theorem d_M_begin_77 : decode b_M_begin 77 = .ok (.aload_n 0, 1) := by decide +kernel
theorem d_M_begin_78 : decode b_M_begin 78 = .ok (.getfield 29, 3) := by decide +kernel
theorem d_M_begin_81 : decode b_M_begin 81 = .ok (.bipush 12, 2) := by decide +kernel
theorem d_M_begin_83 : decode b_M_begin 83 = .ok (.iload_n 1, 1) := by decide +kernel
theorem d_M_begin_84 : decode b_M_begin 84 = .ok (.imul, 1) := by decide +kernel
theorem d_M_begin_85 : decode b_M_begin 85 = .ok (.iload_n 2, 1) := by decide +kernel
theorem d_M_begin_86 : decode b_M_begin 86 = .ok (.iadd, 1) := by decide +kernel
theorem d_M_begin_87 : decode b_M_begin 87 = .ok (.iaload, 1) := by decide +kernel
theorem d_M_begin_88 : decode b_M_begin 88 = .ok (.invokevirtual 84, 3) := by decide +kernel
theorem d_M_begin_91 : decode b_M_begin 91 = .ok (.ifCond .eq 7, 3) := by decide +kernel
theorem d_M_begin_94 : decode b_M_begin 94 = .ok (.iconst 1, 1) := by decide +kernel
theorem d_M_begin_95 : decode b_M_begin 95 = .ok (.goto 4, 3) := by decide +kernel
theorem d_M_begin_98 : decode b_M_begin 98 = .ok (.iconst 0, 1) := by decide +kernel
theorem d_M_begin_99 : decode b_M_begin 99 = .ok (.istore_n 3, 1) := by decide +kernel
theorem d_M_begin_100 : decode b_M_begin 100 = .ok (.iinc 4 1, 3) := by decide +kernel
theorem d_M_begin_103 : decode b_M_begin 103 = .ok (.goto (-52), 3) := by decide +kernel
theorem d_M_begin_106 : decode b_M_begin 106 = .ok (.iload_n 3, 1) := by decide +kernel
theorem d_M_begin_107 : decode b_M_begin 107 = .ok (.ifCond .ne 6, 3) := by decide +kernel
theorem d_M_begin_110 : decode b_M_begin 110 = .ok (.bipush (-2), 2) := by decide +kernel
theorem d_M_begin_112 : decode b_M_begin 112 = .ok (.ireturn, 1) := by decide +kernel
theorem d_M_begin_113 : decode b_M_begin 113 = .ok (.iinc 2 1, 3) := by decide +kernel
theorem d_M_begin_116 : decode b_M_begin 116 = .ok (.goto (-90), 3) := by decide +kernel
theorem d_M_begin_119 : decode b_M_begin 119 = .ok (.iconst 0, 1) := by decide +kernel
theorem d_M_begin_120 : decode b_M_begin 120 = .ok (.istore_n 2, 1) := by decide +kernel
theorem d_M_begin_121 : decode b_M_begin 121 = .ok (.iconst 0, 1) := by decide +kernel
theorem d_M_begin_122 : decode b_M_begin 122 = .ok (.istore_n 3, 1) := by decide +kernel
theorem d_M_begin_123 : decode b_M_begin 123 = .ok (.iload_n 3, 1) := by decide +kernel
theorem d_M_begin_124 : decode b_M_begin 124 = .ok (.bipush 60, 2) := by decide +kernel
theorem d_M_begin_126 : decode b_M_begin 126 = .ok (.if_icmp .ge 70, 3) := by decide +kernel
theorem d_M_begin_129 : decode b_M_begin 129 = .ok (.aload_n 0, 1) := by decide +kernel
theorem d_M_begin_130 : decode b_M_begin 130 = .ok (.getfield 44, 3) := by decide +kernel
theorem d_M_begin_133 : decode b_M_begin 133 = .ok (.bipush 60, 2) := by decide +kernel
theorem d_M_begin_135 : decode b_M_begin 135 = .ok (.iload_n 1, 1) := by decide +kernel
theorem d_M_begin_136 : decode b_M_begin 136 = .ok (.imul, 1) := by decide +kernel
theorem d_M_begin_137 : decode b_M_begin 137 = .ok (.iload_n 3, 1) := by decide +kernel
theorem d_M_begin_138 : decode b_M_begin 138 = .ok (.iadd, 1) := by decide +kernel
theorem d_M_begin_139 : decode b_M_begin 139 = .ok (.iload_n 3, 1) := by decide +kernel
theorem d_M_begin_140 : decode b_M_begin 140 = .ok (.aload_n 0, 1) := by decide +kernel
theorem d_M_begin_141 : decode b_M_begin 141 = .ok (.getfield 7, 3) := by decide +kernel
theorem d_M_begin_144 : decode b_M_begin 144 = .ok (.if_icmp .ge 22, 3) := by decide +kernel
theorem d_M_begin_147 : decode b_M_begin 147 = .ok (.aload_n 0, 1) := by decide +kernel
theorem d_M_begin_148 : decode b_M_begin 148 = .ok (.iload_n 1, 1) := by decide +kernel
theorem d_M_begin_149 : decode b_M_begin 149 = .ok (.iload_n 3, 1) := by decide +kernel
theorem d_M_begin_150 : decode b_M_begin 150 = .ok (.iconst 0, 1) := by decide +kernel
theorem d_M_begin_151 : decode b_M_begin 151 = .ok (.invokevirtual 95, 3) := by decide +kernel
theorem d_M_begin_154 : decode b_M_begin 154 = .ok (.ifCond .eq 12, 3) := by decide +kernel
theorem d_M_begin_157 : decode b_M_begin 157 = .ok (.aload_n 0, 1) := by decide +kernel
theorem d_M_begin_158 : decode b_M_begin 158 = .ok (.getfield 20, 3) := by decide +kernel
theorem d_M_begin_161 : decode b_M_begin 161 = .ok (.iload_n 3, 1) := by decide +kernel
theorem d_M_begin_162 : decode b_M_begin 162 = .ok (.iaload, 1) := by decide +kernel
theorem d_M_begin_163 : decode b_M_begin 163 = .ok (.goto 4, 3) := by decide +kernel
theorem d_M_begin_166 : decode b_M_begin 166 = .ok (.iconst 0, 1) := by decide +kernel
theorem d_M_begin_167 : decode b_M_begin 167 = .ok (.iastore, 1) := by decide +kernel
theorem d_M_begin_168 : decode b_M_begin 168 = .ok (.iload_n 2, 1) := by decide +kernel
theorem d_M_begin_169 : decode b_M_begin 169 = .ok (.aload_n 0, 1) := by decide +kernel
theorem d_M_begin_170 : decode b_M_begin 170 = .ok (.getfield 44, 3) := by decide +kernel
theorem d_M_begin_173 : decode b_M_begin 173 = .ok (.bipush 60, 2) := by decide +kernel
theorem d_M_begin_175 : decode b_M_begin 175 = .ok (.iload_n 1, 1) := by decide +kernel
theorem d_M_begin_176 : decode b_M_begin 176 = .ok (.imul, 1) := by decide +kernel
theorem d_M_begin_177 : decode b_M_begin 177 = .ok (.iload_n 3, 1) := by decide +kernel
theorem d_M_begin_178 : decode b_M_begin 178 = .ok (.iadd, 1) := by decide +kernel
theorem d_M_begin_179 : decode b_M_begin 179 = .ok (.iaload, 1) := by decide +kernel
theorem d_M_begin_180 : decode b_M_begin 180 = .ok (.ifCond .le 7, 3) := by decide +kernel
theorem d_M_begin_183 : decode b_M_begin 183 = .ok (.iconst 1, 1) := by decide +kernel
theorem d_M_begin_184 : decode b_M_begin 184 = .ok (.goto 4, 3) := by decide +kernel
theorem d_M_begin_187 : decode b_M_begin 187 = .ok (.iconst 0, 1) := by decide +kernel
theorem d_M_begin_188 : decode b_M_begin 188 = .ok (.iadd, 1) := by decide +kernel
theorem d_M_begin_189 : decode b_M_begin 189 = .ok (.istore_n 2, 1) := by decide +kernel
theorem d_M_begin_190 : decode b_M_begin 190 = .ok (.iinc 3 1, 3) := by decide +kernel
theorem d_M_begin_193 : decode b_M_begin 193 = .ok (.goto (-70), 3) := by decide +kernel
theorem d_M_begin_196 : decode b_M_begin 196 = .ok (.aload_n 0, 1) := by decide +kernel
theorem d_M_begin_197 : decode b_M_begin 197 = .ok (.getfield 51, 3) := by decide +kernel
theorem d_M_begin_200 : decode b_M_begin 200 = .ok (.iload_n 1, 1) := by decide +kernel
theorem d_M_begin_201 : decode b_M_begin 201 = .ok (.iconst 1, 1) := by decide +kernel
theorem d_M_begin_202 : decode b_M_begin 202 = .ok (.bastore, 1) := by decide +kernel
theorem d_M_begin_203 : decode b_M_begin 203 = .ok (.aload_n 0, 1) := by decide +kernel
theorem d_M_begin_204 : decode b_M_begin 204 = .ok (.getfield 57, 3) := by decide +kernel
theorem d_M_begin_207 : decode b_M_begin 207 = .ok (.iload_n 1, 1) := by decide +kernel
theorem d_M_begin_208 : decode b_M_begin 208 = .ok (.iconst 1, 1) := by decide +kernel
theorem d_M_begin_209 : decode b_M_begin 209 = .ok (.bastore, 1) := by decide +kernel
theorem d_M_begin_210 : decode b_M_begin 210 = .ok (.aload_n 0, 1) := by decide +kernel
theorem d_M_begin_211 : decode b_M_begin 211 = .ok (.getfield 54, 3) := by decide +kernel
theorem d_M_begin_214 : decode b_M_begin 214 = .ok (.iload_n 1, 1) := by decide +kernel
theorem d_M_begin_215 : decode b_M_begin 215 = .ok (.iconst 0, 1) := by decide +kernel
theorem d_M_begin_216 : decode b_M_begin 216 = .ok (.bastore, 1) := by decide +kernel
theorem d_M_begin_217 : decode b_M_begin 217 = .ok (.aload_n 0, 1) := by decide +kernel
theorem d_M_begin_218 : decode b_M_begin 218 = .ok (.getfield 32, 3) := by decide +kernel
theorem d_M_begin_221 : decode b_M_begin 221 = .ok (.iload_n 1, 1) := by decide +kernel
theorem d_M_begin_222 : decode b_M_begin 222 = .ok (.iconst 0, 1) := by decide +kernel
theorem d_M_begin_223 : decode b_M_begin 223 = .ok (.iastore, 1) := by decide +kernel
theorem d_M_begin_224 : decode b_M_begin 224 = .ok (.aload_n 0, 1) := by decide +kernel
theorem d_M_begin_225 : decode b_M_begin 225 = .ok (.getfield 35, 3) := by decide +kernel
theorem d_M_begin_228 : decode b_M_begin 228 = .ok (.iload_n 1, 1) := by decide +kernel
theorem d_M_begin_229 : decode b_M_begin 229 = .ok (.iconst 0, 1) := by decide +kernel
theorem d_M_begin_230 : decode b_M_begin 230 = .ok (.iastore, 1) := by decide +kernel
theorem d_M_begin_231 : decode b_M_begin 231 = .ok (.aload_n 0, 1) := by decide +kernel
theorem d_M_begin_232 : decode b_M_begin 232 = .ok (.getfield 38, 3) := by decide +kernel
theorem d_M_begin_235 : decode b_M_begin 235 = .ok (.iload_n 1, 1) := by decide +kernel
theorem d_M_begin_236 : decode b_M_begin 236 = .ok (.iconst 0, 1) := by decide +kernel
theorem d_M_begin_237 : decode b_M_begin 237 = .ok (.iastore, 1) := by decide +kernel
theorem d_M_begin_238 : decode b_M_begin 238 = .ok (.iload_n 2, 1) := by decide +kernel
theorem d_M_begin_239 : decode b_M_begin 239 = .ok (.ireturn, 1) := by decide +kernel
