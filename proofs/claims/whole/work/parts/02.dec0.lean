theorem d_X_init_0 : decode b_X_init 0 = .ok (.aload_n 0, 1) := by decide +kernel
theorem d_X_init_1 : decode b_X_init 1 = .ok (.invokespecial 1, 3) := by decide +kernel
theorem d_X_init_4 : decode b_X_init 4 = .ok (.aload_n 0, 1) := by decide +kernel
theorem d_X_init_5 : decode b_X_init 5 = .ok (.iconst 1, 1) := by decide +kernel
theorem d_X_init_6 : decode b_X_init 6 = .ok (.sipush 500, 3) := by decide +kernel
theorem d_X_init_9 : decode b_X_init 9 = .ok (.iload_n 1, 1) := by decide +kernel
theorem d_X_init_10 : decode b_X_init 10 = .ok (.invokestatic 9, 3) := by decide +kernel
theorem d_X_init_13 : decode b_X_init 13 = .ok (.invokestatic 15, 3) := by decide +kernel
theorem d_X_init_16 : decode b_X_init 16 = .ok (.putfield 18, 3) := by decide +kernel
theorem d_X_init_19 : decode b_X_init 19 = .ok (.aload_n 0, 1) := by decide +kernel
theorem d_X_init_20 : decode b_X_init 20 = .ok (.new 22, 3) := by decide +kernel
theorem d_X_init_23 : decode b_X_init 23 = .ok (.dup, 1) := by decide +kernel
theorem d_X_init_24 : decode b_X_init 24 = .ok (.invokespecial 24, 3) := by decide +kernel
theorem d_X_init_27 : decode b_X_init 27 = .ok (.putfield 25, 3) := by decide +kernel
theorem d_X_init_30 : decode b_X_init 30 = .ok (.aload_n 0, 1) := by decide +kernel
theorem d_X_init_31 : decode b_X_init 31 = .ok (.new 29, 3) := by decide +kernel
theorem d_X_init_34 : decode b_X_init 34 = .ok (.dup, 1) := by decide +kernel
theorem d_X_init_35 : decode b_X_init 35 = .ok (.invokespecial 31, 3) := by decide +kernel
theorem d_X_init_38 : decode b_X_init 38 = .ok (.putfield 32, 3) := by decide +kernel
theorem d_X_init_41 : decode b_X_init 41 = .ok (.aload_n 0, 1) := by decide +kernel
theorem d_X_init_42 : decode b_X_init 42 = .ok (.bipush 10, 2) := by decide +kernel
theorem d_X_init_44 : decode b_X_init 44 = .ok (.anewarray 36, 3) := by decide +kernel
theorem d_X_init_47 : decode b_X_init 47 = .ok (.putfield 38, 3) := by decide +kernel
theorem d_X_init_50 : decode b_X_init 50 = .ok (.return_, 1) := by decide +kernel
theorem d_X_path_0 : decode b_X_path 0 = .ok (.aload_n 0, 1) := by decide +kernel
theorem d_X_path_1 : decode b_X_path 1 = .ok (.getfield 25, 3) := by decide +kernel
theorem d_X_path_4 : decode b_X_path 4 = .ok (.iload_n 1, 1) := by decide +kernel
theorem d_X_path_5 : decode b_X_path 5 = .ok (.invokevirtual 42, 3) := by decide +kernel
theorem d_X_path_8 : decode b_X_path 8 = .ok (.ifCond .eq 10, 3) := by decide +kernel
theorem d_X_path_11 : decode b_X_path 11 = .ok (.iload_n 2, 1) := by decide +kernel
theorem d_X_path_12 : decode b_X_path 12 = .ok (.invokestatic 46, 3) := by decide +kernel
theorem d_X_path_15 : decode b_X_path 15 = .ok (.ifCond .ne 5, 3) := by decide +kernel
theorem d_X_path_18 : decode b_X_path 18 = .ok (.iconst (-1), 1) := by decide +kernel
theorem d_X_path_19 : decode b_X_path 19 = .ok (.ireturn, 1) := by decide +kernel
theorem d_X_path_20 : decode b_X_path 20 = .ok (.aload_n 0, 1) := by decide +kernel
theorem d_X_path_21 : decode b_X_path 21 = .ok (.getfield 25, 3) := by decide +kernel
theorem d_X_path_24 : decode b_X_path 24 = .ok (.iload_n 1, 1) := by decide +kernel
theorem d_X_path_25 : decode b_X_path 25 = .ok (.iload_n 2, 1) := by decide +kernel
theorem d_X_path_26 : decode b_X_path 26 = .ok (.invokevirtual 50, 3) := by decide +kernel
theorem d_X_path_29 : decode b_X_path 29 = .ok (.istore_n 3, 1) := by decide +kernel
theorem d_X_path_30 : decode b_X_path 30 = .ok (.iload_n 3, 1) := by decide +kernel
theorem d_X_path_31 : decode b_X_path 31 = .ok (.iconst (-1), 1) := by decide +kernel
theorem d_X_path_32 : decode b_X_path 32 = .ok (.if_icmp .eq 7, 3) := by decide +kernel
theorem d_X_path_35 : decode b_X_path 35 = .ok (.iload_n 3, 1) := by decide +kernel
theorem d_X_path_36 : decode b_X_path 36 = .ok (.goto 12, 3) := by decide +kernel
theorem d_X_path_39 : decode b_X_path 39 = .ok (.aload_n 0, 1) := by decide +kernel
theorem d_X_path_40 : decode b_X_path 40 = .ok (.getfield 25, 3) := by decide +kernel
theorem d_X_path_43 : decode b_X_path 43 = .ok (.iload_n 1, 1) := by decide +kernel
theorem d_X_path_44 : decode b_X_path 44 = .ok (.iload_n 2, 1) := by decide +kernel
theorem d_X_path_45 : decode b_X_path 45 = .ok (.invokevirtual 54, 3) := by decide +kernel
theorem d_X_path_48 : decode b_X_path 48 = .ok (.ireturn, 1) := by decide +kernel
theorem d_X_file_0 : decode b_X_file 0 = .ok (.aload_n 0, 1) := by decide +kernel
theorem d_X_file_1 : decode b_X_file 1 = .ok (.getfield 25, 3) := by decide +kernel
theorem d_X_file_4 : decode b_X_file 4 = .ok (.iload_n 1, 1) := by decide +kernel
theorem d_X_file_5 : decode b_X_file 5 = .ok (.invokevirtual 42, 3) := by decide +kernel
theorem d_X_file_8 : decode b_X_file 8 = .ok (.ifCond .eq 11, 3) := by decide +kernel
theorem d_X_file_11 : decode b_X_file 11 = .ok (.iload_n 1, 1) := by decide +kernel
theorem d_X_file_12 : decode b_X_file 12 = .ok (.ifCond .eq 7, 3) := by decide +kernel
theorem d_X_file_15 : decode b_X_file 15 = .ok (.iload_n 2, 1) := by decide +kernel
theorem d_X_file_16 : decode b_X_file 16 = .ok (.ifCond .ge 5, 3) := by decide +kernel
theorem d_X_file_19 : decode b_X_file 19 = .ok (.iconst 0, 1) := by decide +kernel
theorem d_X_file_20 : decode b_X_file 20 = .ok (.ireturn, 1) := by decide +kernel
theorem d_X_file_21 : decode b_X_file 21 = .ok (.aload_n 0, 1) := by decide +kernel
theorem d_X_file_22 : decode b_X_file 22 = .ok (.getfield 25, 3) := by decide +kernel
theorem d_X_file_25 : decode b_X_file 25 = .ok (.iload_n 1, 1) := by decide +kernel
theorem d_X_file_26 : decode b_X_file 26 = .ok (.invokevirtual 57, 3) := by decide +kernel
theorem d_X_file_29 : decode b_X_file 29 = .ok (.aload_n 0, 1) := by decide +kernel
theorem d_X_file_30 : decode b_X_file 30 = .ok (.getfield 32, 3) := by decide +kernel
theorem d_X_file_33 : decode b_X_file 33 = .ok (.invokevirtual 61, 3) := by decide +kernel
theorem d_X_file_36 : decode b_X_file 36 = .ok (.land, 1) := by decide +kernel
theorem d_X_file_37 : decode b_X_file 37 = .ok (.lconst 0, 1) := by decide +kernel
theorem d_X_file_38 : decode b_X_file 38 = .ok (.lcmp, 1) := by decide +kernel
theorem d_X_file_39 : decode b_X_file 39 = .ok (.ifCond .eq 5, 3) := by decide +kernel
theorem d_X_file_42 : decode b_X_file 42 = .ok (.iconst 0, 1) := by decide +kernel
theorem d_X_file_43 : decode b_X_file 43 = .ok (.ireturn, 1) := by decide +kernel
theorem d_X_file_44 : decode b_X_file 44 = .ok (.iload_n 2, 1) := by decide +kernel
theorem d_X_file_45 : decode b_X_file 45 = .ok (.ifCond .ne 14, 3) := by decide +kernel
theorem d_X_file_48 : decode b_X_file 48 = .ok (.aload_n 0, 1) := by decide +kernel
theorem d_X_file_49 : decode b_X_file 49 = .ok (.getfield 32, 3) := by decide +kernel
theorem d_X_file_52 : decode b_X_file 52 = .ok (.iload_n 1, 1) := by decide +kernel
theorem d_X_file_53 : decode b_X_file 53 = .ok (.invokevirtual 65, 3) := by decide +kernel
theorem d_X_file_56 : decode b_X_file 56 = .ok (.goto 12, 3) := by decide +kernel
theorem d_X_file_59 : decode b_X_file 59 = .ok (.aload_n 0, 1) := by decide +kernel
theorem d_X_file_60 : decode b_X_file 60 = .ok (.getfield 32, 3) := by decide +kernel
theorem d_X_file_63 : decode b_X_file 63 = .ok (.iload_n 1, 1) := by decide +kernel
theorem d_X_file_64 : decode b_X_file 64 = .ok (.iload_n 2, 1) := by decide +kernel
theorem d_X_file_65 : decode b_X_file 65 = .ok (.invokevirtual 69, 3) := by decide +kernel
theorem d_X_file_68 : decode b_X_file 68 = .ok (.iconst 1, 1) := by decide +kernel
theorem d_X_file_69 : decode b_X_file 69 = .ok (.ireturn, 1) := by decide +kernel
theorem d_X_source_0 : decode b_X_source 0 = .ok (.aload_n 0, 1) := by decide +kernel
theorem d_X_source_1 : decode b_X_source 1 = .ok (.getfield 25, 3) := by decide +kernel
theorem d_X_source_4 : decode b_X_source 4 = .ok (.iload_n 1, 1) := by decide +kernel
theorem d_X_source_5 : decode b_X_source 5 = .ok (.invokevirtual 42, 3) := by decide +kernel
theorem d_X_source_8 : decode b_X_source 8 = .ok (.ifCond .eq 14, 3) := by decide +kernel
theorem d_X_source_11 : decode b_X_source 11 = .ok (.aload_n 0, 1) := by decide +kernel
theorem d_X_source_12 : decode b_X_source 12 = .ok (.getfield 32, 3) := by decide +kernel
theorem d_X_source_15 : decode b_X_source 15 = .ok (.iload_n 1, 1) := by decide +kernel
theorem d_X_source_16 : decode b_X_source 16 = .ok (.invokevirtual 73, 3) := by decide +kernel
theorem d_X_source_19 : decode b_X_source 19 = .ok (.goto 4, 3) := by decide +kernel
theorem d_X_source_22 : decode b_X_source 22 = .ok (.iconst 0, 1) := by decide +kernel
theorem d_X_source_23 : decode b_X_source 23 = .ok (.ireturn, 1) := by decide +kernel
theorem d_X_action_0 : decode b_X_action 0 = .ok (.aload_n 0, 1) := by decide +kernel
theorem d_X_action_1 : decode b_X_action 1 = .ok (.getfield 77, 3) := by decide +kernel
theorem d_X_action_4 : decode b_X_action 4 = .ok (.bipush 10, 2) := by decide +kernel
theorem d_X_action_6 : decode b_X_action 6 = .ok (.if_icmp .lt 5, 3) := by decide +kernel
theorem d_X_action_9 : decode b_X_action 9 = .ok (.iconst (-1), 1) := by decide +kernel
theorem d_X_action_10 : decode b_X_action 10 = .ok (.ireturn, 1) := by decide +kernel
theorem d_X_action_11 : decode b_X_action 11 = .ok (.aload_n 0, 1) := by decide +kernel
theorem d_X_action_12 : decode b_X_action 12 = .ok (.getfield 77, 3) := by decide +kernel
theorem d_X_action_15 : decode b_X_action 15 = .ok (.istore_n 1, 1) := by decide +kernel
theorem d_X_action_16 : decode b_X_action 16 = .ok (.aload_n 0, 1) := by decide +kernel
theorem d_X_action_17 : decode b_X_action 17 = .ok (.getfield 38, 3) := by decide +kernel
theorem d_X_action_20 : decode b_X_action 20 = .ok (.iload_n 1, 1) := by decide +kernel
theorem d_X_action_21 : decode b_X_action 21 = .ok (.new 36, 3) := by decide +kernel
theorem d_X_action_24 : decode b_X_action 24 = .ok (.dup, 1) := by decide +kernel
theorem d_X_action_25 : decode b_X_action 25 = .ok (.invokespecial 80, 3) := by decide +kernel
theorem d_X_action_28 : decode b_X_action 28 = .ok (.aastore, 1) := by decide +kernel
theorem d_X_action_29 : decode b_X_action 29 = .ok (.aload_n 0, 1) := by decide +kernel
theorem d_X_action_30 : decode b_X_action 30 = .ok (.dup, 1) := by decide +kernel
theorem d_X_action_31 : decode b_X_action 31 = .ok (.getfield 77, 3) := by decide +kernel
theorem d_X_action_34 : decode b_X_action 34 = .ok (.iconst 1, 1) := by decide +kernel
theorem d_X_action_35 : decode b_X_action 35 = .ok (.iadd, 1) := by decide +kernel
theorem d_X_action_36 : decode b_X_action 36 = .ok (.putfield 77, 3) := by decide +kernel
theorem d_X_action_39 : decode b_X_action 39 = .ok (.iload_n 1, 1) := by decide +kernel
theorem d_X_action_40 : decode b_X_action 40 = .ok (.ireturn, 1) := by decide +kernel
theorem d_X_declare_0 : decode b_X_declare 0 = .ok (.aload_n 0, 1) := by decide +kernel
theorem d_X_declare_1 : decode b_X_declare 1 = .ok (.iload_n 1, 1) := by decide +kernel
theorem d_X_declare_2 : decode b_X_declare 2 = .ok (.invokevirtual 81, 3) := by decide +kernel
theorem d_X_declare_5 : decode b_X_declare 5 = .ok (.astore 4, 2) := by decide +kernel
theorem d_X_declare_7 : decode b_X_declare 7 = .ok (.aload 4, 2) := by decide +kernel
theorem d_X_declare_9 : decode b_X_declare 9 = .ok (.ifnull 18, 3) := by decide +kernel
theorem d_X_declare_12 : decode b_X_declare 12 = .ok (.aload_n 0, 1) := by decide +kernel
theorem d_X_declare_13 : decode b_X_declare 13 = .ok (.getfield 25, 3) := by decide +kernel
theorem d_X_declare_16 : decode b_X_declare 16 = .ok (.iload_n 2, 1) := by decide +kernel
theorem d_X_declare_17 : decode b_X_declare 17 = .ok (.invokevirtual 42, 3) := by decide +kernel
theorem d_X_declare_20 : decode b_X_declare 20 = .ok (.ifCond .eq 7, 3) := by decide +kernel
theorem d_X_declare_23 : decode b_X_declare 23 = .ok (.iload_n 2, 1) := by decide +kernel
theorem d_X_declare_24 : decode b_X_declare 24 = .ok (.ifCond .ne 5, 3) := by decide +kernel
theorem d_X_declare_27 : decode b_X_declare 27 = .ok (.iconst (-1), 1) := by decide +kernel
theorem d_X_declare_28 : decode b_X_declare 28 = .ok (.ireturn, 1) := by decide +kernel
theorem d_X_declare_29 : decode b_X_declare 29 = .ok (.aload 4, 2) := by decide +kernel
theorem d_X_declare_31 : decode b_X_declare 31 = .ok (.getfield 85, 3) := by decide +kernel
theorem d_X_declare_34 : decode b_X_declare 34 = .ok (.bipush 12, 2) := by decide +kernel
theorem d_X_declare_36 : decode b_X_declare 36 = .ok (.if_icmp .ge 11, 3) := by decide +kernel
theorem d_X_declare_39 : decode b_X_declare 39 = .ok (.aload 4, 2) := by decide +kernel
theorem d_X_declare_41 : decode b_X_declare 41 = .ok (.getfield 88, 3) := by decide +kernel
theorem d_X_declare_44 : decode b_X_declare 44 = .ok (.ifCond .eq 5, 3) := by decide +kernel
theorem d_X_declare_47 : decode b_X_declare 47 = .ok (.iconst (-1), 1) := by decide +kernel
theorem d_X_declare_48 : decode b_X_declare 48 = .ok (.ireturn, 1) := by decide +kernel
theorem d_X_declare_49 : decode b_X_declare 49 = .ok (.aload_n 0, 1) := by decide +kernel
theorem d_X_declare_50 : decode b_X_declare 50 = .ok (.aload 4, 2) := by decide +kernel
theorem d_X_declare_52 : decode b_X_declare 52 = .ok (.iload_n 2, 1) := by decide +kernel
theorem d_X_declare_53 : decode b_X_declare 53 = .ok (.invokevirtual 92, 3) := by decide +kernel
theorem d_X_declare_56 : decode b_X_declare 56 = .ok (.ifCond .eq 6, 3) := by decide +kernel
theorem d_X_declare_59 : decode b_X_declare 59 = .ok (.bipush (-2), 2) := by decide +kernel
theorem d_X_declare_61 : decode b_X_declare 61 = .ok (.ireturn, 1) := by decide +kernel
theorem d_X_declare_62 : decode b_X_declare 62 = .ok (.aload 4, 2) := by decide +kernel
theorem d_X_declare_64 : decode b_X_declare 64 = .ok (.iload_n 2, 1) := by decide +kernel
theorem d_X_declare_65 : decode b_X_declare 65 = .ok (.iload_n 3, 1) := by decide +kernel
theorem d_X_declare_66 : decode b_X_declare 66 = .ok (.invokevirtual 96, 3) := by decide +kernel
theorem d_X_declare_69 : decode b_X_declare 69 = .ok (.iconst 1, 1) := by decide +kernel
theorem d_X_declare_70 : decode b_X_declare 70 = .ok (.ireturn, 1) := by decide +kernel
theorem d_X_strict_0 : decode b_X_strict 0 = .ok (.aload_n 0, 1) := by decide +kernel
theorem d_X_strict_1 : decode b_X_strict 1 = .ok (.iload_n 1, 1) := by decide +kernel
theorem d_X_strict_2 : decode b_X_strict 2 = .ok (.putfield 100, 3) := by decide +kernel
theorem d_X_strict_5 : decode b_X_strict 5 = .ok (.return_, 1) := by decide +kernel
theorem d_X_begin_0 : decode b_X_begin 0 = .ok (.aload_n 0, 1) := by decide +kernel
theorem d_X_begin_1 : decode b_X_begin 1 = .ok (.iload_n 1, 1) := by decide +kernel
theorem d_X_begin_2 : decode b_X_begin 2 = .ok (.invokevirtual 81, 3) := by decide +kernel
theorem d_X_begin_5 : decode b_X_begin 5 = .ok (.astore_n 2, 1) := by decide +kernel
theorem d_X_begin_6 : decode b_X_begin 6 = .ok (.aload_n 2, 1) := by decide +kernel
theorem d_X_begin_7 : decode b_X_begin 7 = .ok (.ifnull 10, 3) := by decide +kernel
theorem d_X_begin_10 : decode b_X_begin 10 = .ok (.aload_n 2, 1) := by decide +kernel
theorem d_X_begin_11 : decode b_X_begin 11 = .ok (.getfield 88, 3) := by decide +kernel
theorem d_X_begin_14 : decode b_X_begin 14 = .ok (.ifCond .eq 5, 3) := by decide +kernel
theorem d_X_begin_17 : decode b_X_begin 17 = .ok (.iconst (-1), 1) := by decide +kernel
theorem d_X_begin_18 : decode b_X_begin 18 = .ok (.ireturn, 1) := by decide +kernel
theorem d_X_begin_19 : decode b_X_begin 19 = .ok (.aload_n 0, 1) := by decide +kernel
theorem d_X_begin_20 : decode b_X_begin 20 = .ok (.aload_n 2, 1) := by decide +kernel
theorem d_X_begin_21 : decode b_X_begin 21 = .ok (.invokevirtual 103, 3) := by decide +kernel
theorem d_X_begin_24 : decode b_X_begin 24 = .ok (.ifCond .eq 6, 3) := by decide +kernel
theorem d_X_begin_27 : decode b_X_begin 27 = .ok (.bipush (-2), 2) := by decide +kernel
theorem d_X_begin_29 : decode b_X_begin 29 = .ok (.ireturn, 1) := by decide +kernel
theorem d_X_begin_30 : decode b_X_begin 30 = .ok (.aload_n 2, 1) := by decide +kernel
theorem d_X_begin_31 : decode b_X_begin 31 = .ok (.invokevirtual 107, 3) := by decide +kernel
theorem d_X_begin_34 : decode b_X_begin 34 = .ok (.aload_n 2, 1) := by decide +kernel
theorem d_X_begin_35 : decode b_X_begin 35 = .ok (.getfield 110, 3) := by decide +kernel
theorem d_X_begin_38 : decode b_X_begin 38 = .ok (.aload_n 0, 1) := by decide +kernel
theorem d_X_begin_39 : decode b_X_begin 39 = .ok (.getfield 32, 3) := by decide +kernel
theorem d_X_begin_42 : decode b_X_begin 42 = .ok (.aload_n 0, 1) := by decide +kernel
theorem d_X_begin_43 : decode b_X_begin 43 = .ok (.aload_n 2, 1) := by decide +kernel
theorem d_X_begin_44 : decode b_X_begin 44 = .ok (.iconst 0, 1) := by decide +kernel
theorem d_X_begin_45 : decode b_X_begin 45 = .ok (.invokevirtual 113, 3) := by decide +kernel
theorem d_X_begin_48 : decode b_X_begin 48 = .ok (.invokevirtual 117, 3) := by decide +kernel
theorem d_X_begin_51 : decode b_X_begin 51 = .ok (.aload_n 2, 1) := by decide +kernel
theorem d_X_begin_52 : decode b_X_begin 52 = .ok (.getfield 110, 3) := by decide +kernel
theorem d_X_begin_55 : decode b_X_begin 55 = .ok (.invokevirtual 61, 3) := by decide +kernel
theorem d_X_begin_58 : decode b_X_begin 58 = .ok (.invokestatic 121, 3) := by decide +kernel
theorem d_X_begin_61 : decode b_X_begin 61 = .ok (.ireturn, 1) := by decide +kernel
theorem d_X_open_0 : decode b_X_open 0 = .ok (.aload_n 0, 1) := by decide +kernel
theorem d_X_open_1 : decode b_X_open 1 = .ok (.iload_n 1, 1) := by decide +kernel
theorem d_X_open_2 : decode b_X_open 2 = .ok (.invokevirtual 127, 3) := by decide +kernel
theorem d_X_open_5 : decode b_X_open 5 = .ok (.astore_n 3, 1) := by decide +kernel
theorem d_X_open_6 : decode b_X_open 6 = .ok (.aload_n 3, 1) := by decide +kernel
theorem d_X_open_7 : decode b_X_open 7 = .ok (.ifnull 14, 3) := by decide +kernel
theorem d_X_open_10 : decode b_X_open 10 = .ok (.aload_n 0, 1) := by decide +kernel
theorem d_X_open_11 : decode b_X_open 11 = .ok (.getfield 25, 3) := by decide +kernel
theorem d_X_open_14 : decode b_X_open 14 = .ok (.iload_n 2, 1) := by decide +kernel
theorem d_X_open_15 : decode b_X_open 15 = .ok (.invokevirtual 42, 3) := by decide +kernel
theorem d_X_open_18 : decode b_X_open 18 = .ok (.ifCond .ne 5, 3) := by decide +kernel
theorem d_X_open_21 : decode b_X_open 21 = .ok (.iconst (-1), 1) := by decide +kernel
theorem d_X_open_22 : decode b_X_open 22 = .ok (.ireturn, 1) := by decide +kernel
theorem d_X_open_23 : decode b_X_open 23 = .ok (.aload_n 3, 1) := by decide +kernel
theorem d_X_open_24 : decode b_X_open 24 = .ok (.aload_n 0, 1) := by decide +kernel
theorem d_X_open_25 : decode b_X_open 25 = .ok (.getfield 18, 3) := by decide +kernel
theorem d_X_open_28 : decode b_X_open 28 = .ok (.invokevirtual 130, 3) := by decide +kernel
theorem d_X_open_31 : decode b_X_open 31 = .ok (.ifCond .ne 6, 3) := by decide +kernel
theorem d_X_open_34 : decode b_X_open 34 = .ok (.bipush (-9), 2) := by decide +kernel
theorem d_X_open_36 : decode b_X_open 36 = .ok (.ireturn, 1) := by decide +kernel
theorem d_X_open_37 : decode b_X_open 37 = .ok (.aload_n 3, 1) := by decide +kernel
theorem d_X_open_38 : decode b_X_open 38 = .ok (.getfield 110, 3) := by decide +kernel
theorem d_X_open_41 : decode b_X_open 41 = .ok (.iload_n 2, 1) := by decide +kernel
theorem d_X_open_42 : decode b_X_open 42 = .ok (.invokevirtual 73, 3) := by decide +kernel
theorem d_X_open_45 : decode b_X_open 45 = .ok (.istore 4, 2) := by decide +kernel
theorem d_X_open_47 : decode b_X_open 47 = .ok (.iload 4, 2) := by decide +kernel
theorem d_X_open_49 : decode b_X_open 49 = .ok (.ifCond .ne 8, 3) := by decide +kernel
theorem d_X_open_52 : decode b_X_open 52 = .ok (.aload_n 3, 1) := by decide +kernel
theorem d_X_open_53 : decode b_X_open 53 = .ok (.iload_n 2, 1) := by decide +kernel
theorem d_X_open_54 : decode b_X_open 54 = .ok (.invokevirtual 133, 3) := by decide +kernel
theorem d_X_open_57 : decode b_X_open 57 = .ok (.iload 4, 2) := by decide +kernel
theorem d_X_open_59 : decode b_X_open 59 = .ok (.ireturn, 1) := by decide +kernel
theorem d_X_write_0 : decode b_X_write 0 = .ok (.aload_n 0, 1) := by decide +kernel
theorem d_X_write_1 : decode b_X_write 1 = .ok (.iload_n 1, 1) := by decide +kernel
theorem d_X_write_2 : decode b_X_write 2 = .ok (.invokevirtual 127, 3) := by decide +kernel
theorem d_X_write_5 : decode b_X_write 5 = .ok (.astore 4, 2) := by decide +kernel
theorem d_X_write_7 : decode b_X_write 7 = .ok (.aload 4, 2) := by decide +kernel
theorem d_X_write_9 : decode b_X_write 9 = .ok (.ifnull 14, 3) := by decide +kernel
theorem d_X_write_12 : decode b_X_write 12 = .ok (.aload_n 0, 1) := by decide +kernel
theorem d_X_write_13 : decode b_X_write 13 = .ok (.getfield 25, 3) := by decide +kernel
theorem d_X_write_16 : decode b_X_write 16 = .ok (.iload_n 2, 1) := by decide +kernel
theorem d_X_write_17 : decode b_X_write 17 = .ok (.invokevirtual 42, 3) := by decide +kernel
theorem d_X_write_20 : decode b_X_write 20 = .ok (.ifCond .ne 5, 3) := by decide +kernel
theorem d_X_write_23 : decode b_X_write 23 = .ok (.iconst (-1), 1) := by decide +kernel
theorem d_X_write_24 : decode b_X_write 24 = .ok (.ireturn, 1) := by decide +kernel
theorem d_X_write_25 : decode b_X_write 25 = .ok (.aload 4, 2) := by decide +kernel
theorem d_X_write_27 : decode b_X_write 27 = .ok (.aload_n 0, 1) := by decide +kernel
theorem d_X_write_28 : decode b_X_write 28 = .ok (.getfield 18, 3) := by decide +kernel
theorem d_X_write_31 : decode b_X_write 31 = .ok (.invokevirtual 130, 3) := by decide +kernel
theorem d_X_write_34 : decode b_X_write 34 = .ok (.ifCond .ne 6, 3) := by decide +kernel
theorem d_X_write_37 : decode b_X_write 37 = .ok (.bipush (-9), 2) := by decide +kernel
theorem d_X_write_39 : decode b_X_write 39 = .ok (.ireturn, 1) := by decide +kernel
theorem d_X_write_40 : decode b_X_write 40 = .ok (.iload_n 3, 1) := by decide +kernel
theorem d_X_write_41 : decode b_X_write 41 = .ok (.iconst 1, 1) := by decide +kernel
theorem d_X_write_42 : decode b_X_write 42 = .ok (.if_icmp .lt 13, 3) := by decide +kernel
theorem d_X_write_45 : decode b_X_write 45 = .ok (.aload_n 0, 1) := by decide +kernel
theorem d_X_write_46 : decode b_X_write 46 = .ok (.aload 4, 2) := by decide +kernel
theorem d_X_write_48 : decode b_X_write 48 = .ok (.iload_n 2, 1) := by decide +kernel
theorem d_X_write_49 : decode b_X_write 49 = .ok (.invokevirtual 136, 3) := by decide +kernel
theorem d_X_write_52 : decode b_X_write 52 = .ok (.ifCond .ne 10, 3) := by decide +kernel
theorem d_X_write_55 : decode b_X_write 55 = .ok (.aload_n 0, 1) := by decide +kernel
theorem d_X_write_56 : decode b_X_write 56 = .ok (.aload 4, 2) := by decide +kernel
theorem d_X_write_58 : decode b_X_write 58 = .ok (.invokevirtual 139, 3) := by decide +kernel
theorem d_X_write_61 : decode b_X_write 61 = .ok (.ireturn, 1) := by decide +kernel
theorem d_X_write_62 : decode b_X_write 62 = .ok (.aload 4, 2) := by decide +kernel
theorem d_X_write_64 : decode b_X_write 64 = .ok (.getfield 110, 3) := by decide +kernel
theorem d_X_write_67 : decode b_X_write 67 = .ok (.iload_n 2, 1) := by decide +kernel
theorem d_X_write_68 : decode b_X_write 68 = .ok (.iload_n 3, 1) := by decide +kernel
theorem d_X_write_69 : decode b_X_write 69 = .ok (.invokevirtual 69, 3) := by decide +kernel
theorem d_X_write_72 : decode b_X_write 72 = .ok (.iconst 1, 1) := by decide +kernel
theorem d_X_write_73 : decode b_X_write 73 = .ok (.ireturn, 1) := by decide +kernel
theorem d_X_link_0 : decode b_X_link 0 = .ok (.aload_n 0, 1) := by decide +kernel
theorem d_X_link_1 : decode b_X_link 1 = .ok (.iload_n 1, 1) := by decide +kernel
theorem d_X_link_2 : decode b_X_link 2 = .ok (.invokevirtual 127, 3) := by decide +kernel
theorem d_X_link_5 : decode b_X_link 5 = .ok (.astore 4, 2) := by decide +kernel
theorem d_X_link_7 : decode b_X_link 7 = .ok (.aload 4, 2) := by decide +kernel
theorem d_X_link_9 : decode b_X_link 9 = .ok (.ifnull 25, 3) := by decide +kernel
theorem d_X_link_12 : decode b_X_link 12 = .ok (.aload_n 0, 1) := by decide +kernel
theorem d_X_link_13 : decode b_X_link 13 = .ok (.getfield 25, 3) := by decide +kernel
theorem d_X_link_16 : decode b_X_link 16 = .ok (.iload_n 2, 1) := by decide +kernel
theorem d_X_link_17 : decode b_X_link 17 = .ok (.invokevirtual 42, 3) := by decide +kernel
theorem d_X_link_20 : decode b_X_link 20 = .ok (.ifCond .eq 14, 3) := by decide +kernel
theorem d_X_link_23 : decode b_X_link 23 = .ok (.aload_n 0, 1) := by decide +kernel
theorem d_X_link_24 : decode b_X_link 24 = .ok (.getfield 25, 3) := by decide +kernel
theorem d_X_link_27 : decode b_X_link 27 = .ok (.iload_n 3, 1) := by decide +kernel
theorem d_X_link_28 : decode b_X_link 28 = .ok (.invokevirtual 42, 3) := by decide +kernel
theorem d_X_link_31 : decode b_X_link 31 = .ok (.ifCond .ne 5, 3) := by decide +kernel
theorem d_X_link_34 : decode b_X_link 34 = .ok (.iconst (-1), 1) := by decide +kernel
theorem d_X_link_35 : decode b_X_link 35 = .ok (.ireturn, 1) := by decide +kernel
theorem d_X_link_36 : decode b_X_link 36 = .ok (.aload 4, 2) := by decide +kernel
theorem d_X_link_38 : decode b_X_link 38 = .ok (.aload_n 0, 1) := by decide +kernel
theorem d_X_link_39 : decode b_X_link 39 = .ok (.getfield 18, 3) := by decide +kernel
theorem d_X_link_42 : decode b_X_link 42 = .ok (.invokevirtual 130, 3) := by decide +kernel
theorem d_X_link_45 : decode b_X_link 45 = .ok (.ifCond .ne 6, 3) := by decide +kernel
theorem d_X_link_48 : decode b_X_link 48 = .ok (.bipush (-9), 2) := by decide +kernel
theorem d_X_link_50 : decode b_X_link 50 = .ok (.ireturn, 1) := by decide +kernel
theorem d_X_link_51 : decode b_X_link 51 = .ok (.aload_n 0, 1) := by decide +kernel
theorem d_X_link_52 : decode b_X_link 52 = .ok (.aload 4, 2) := by decide +kernel
theorem d_X_link_54 : decode b_X_link 54 = .ok (.invokevirtual 143, 3) := by decide +kernel
theorem d_X_link_57 : decode b_X_link 57 = .ok (.aload_n 0, 1) := by decide +kernel
theorem d_X_link_58 : decode b_X_link 58 = .ok (.aload 4, 2) := by decide +kernel
theorem d_X_link_60 : decode b_X_link 60 = .ok (.iconst 0, 1) := by decide +kernel
theorem d_X_link_61 : decode b_X_link 61 = .ok (.invokevirtual 113, 3) := by decide +kernel
theorem d_X_link_64 : decode b_X_link 64 = .ok (.lor, 1) := by decide +kernel
theorem d_X_link_65 : decode b_X_link 65 = .ok (.lstore 5, 2) := by decide +kernel
theorem d_X_link_67 : decode b_X_link 67 = .ok (.lload 5, 2) := by decide +kernel
theorem d_X_link_69 : decode b_X_link 69 = .ok (.iload_n 3, 1) := by decide +kernel
theorem d_X_link_70 : decode b_X_link 70 = .ok (.invokestatic 147, 3) := by decide +kernel
theorem d_X_link_73 : decode b_X_link 73 = .ok (.ifCond .eq 13, 3) := by decide +kernel
theorem d_X_link_76 : decode b_X_link 76 = .ok (.aload_n 0, 1) := by decide +kernel
theorem d_X_link_77 : decode b_X_link 77 = .ok (.aload 4, 2) := by decide +kernel
theorem d_X_link_79 : decode b_X_link 79 = .ok (.iload_n 2, 1) := by decide +kernel
theorem d_X_link_80 : decode b_X_link 80 = .ok (.invokevirtual 136, 3) := by decide +kernel
theorem d_X_link_83 : decode b_X_link 83 = .ok (.ifCond .ne 10, 3) := by decide +kernel
theorem d_X_link_86 : decode b_X_link 86 = .ok (.aload_n 0, 1) := by decide +kernel
theorem d_X_link_87 : decode b_X_link 87 = .ok (.aload 4, 2) := by decide +kernel
theorem d_X_link_89 : decode b_X_link 89 = .ok (.invokevirtual 139, 3) := by decide +kernel
theorem d_X_link_92 : decode b_X_link 92 = .ok (.ireturn, 1) := by decide +kernel
theorem d_X_link_93 : decode b_X_link 93 = .ok (.aload 4, 2) := by decide +kernel
theorem d_X_link_95 : decode b_X_link 95 = .ok (.getfield 110, 3) := by decide +kernel
theorem d_X_link_98 : decode b_X_link 98 = .ok (.iload_n 2, 1) := by decide +kernel
theorem d_X_link_99 : decode b_X_link 99 = .ok (.iload_n 3, 1) := by decide +kernel
theorem d_X_link_100 : decode b_X_link 100 = .ok (.invokevirtual 151, 3) := by decide +kernel
theorem d_X_link_103 : decode b_X_link 103 = .ok (.iconst 1, 1) := by decide +kernel
theorem d_X_link_104 : decode b_X_link 104 = .ok (.ireturn, 1) := by decide +kernel
theorem d_X_remove_0 : decode b_X_remove 0 = .ok (.aload_n 0, 1) := by decide +kernel
theorem d_X_remove_1 : decode b_X_remove 1 = .ok (.iload_n 1, 1) := by decide +kernel
theorem d_X_remove_2 : decode b_X_remove 2 = .ok (.invokevirtual 127, 3) := by decide +kernel
theorem d_X_remove_5 : decode b_X_remove 5 = .ok (.astore_n 3, 1) := by decide +kernel
theorem d_X_remove_6 : decode b_X_remove 6 = .ok (.aload_n 3, 1) := by decide +kernel
theorem d_X_remove_7 : decode b_X_remove 7 = .ok (.ifnull 14, 3) := by decide +kernel
theorem d_X_remove_10 : decode b_X_remove 10 = .ok (.aload_n 0, 1) := by decide +kernel
theorem d_X_remove_11 : decode b_X_remove 11 = .ok (.getfield 25, 3) := by decide +kernel
theorem d_X_remove_14 : decode b_X_remove 14 = .ok (.iload_n 2, 1) := by decide +kernel
theorem d_X_remove_15 : decode b_X_remove 15 = .ok (.invokevirtual 42, 3) := by decide +kernel
theorem d_X_remove_18 : decode b_X_remove 18 = .ok (.ifCond .ne 5, 3) := by decide +kernel
theorem d_X_remove_21 : decode b_X_remove 21 = .ok (.iconst (-1), 1) := by decide +kernel
theorem d_X_remove_22 : decode b_X_remove 22 = .ok (.ireturn, 1) := by decide +kernel
theorem d_X_remove_23 : decode b_X_remove 23 = .ok (.aload_n 3, 1) := by decide +kernel
theorem d_X_remove_24 : decode b_X_remove 24 = .ok (.aload_n 0, 1) := by decide +kernel
theorem d_X_remove_25 : decode b_X_remove 25 = .ok (.getfield 18, 3) := by decide +kernel
theorem d_X_remove_28 : decode b_X_remove 28 = .ok (.invokevirtual 130, 3) := by decide +kernel
theorem d_X_remove_31 : decode b_X_remove 31 = .ok (.ifCond .ne 6, 3) := by decide +kernel
theorem d_X_remove_34 : decode b_X_remove 34 = .ok (.bipush (-9), 2) := by decide +kernel
theorem d_X_remove_36 : decode b_X_remove 36 = .ok (.ireturn, 1) := by decide +kernel
theorem d_X_remove_37 : decode b_X_remove 37 = .ok (.aload_n 0, 1) := by decide +kernel
theorem d_X_remove_38 : decode b_X_remove 38 = .ok (.aload_n 3, 1) := by decide +kernel
theorem d_X_remove_39 : decode b_X_remove 39 = .ok (.invokevirtual 143, 3) := by decide +kernel
theorem d_X_remove_42 : decode b_X_remove 42 = .ok (.aload_n 3, 1) := by decide +kernel
theorem d_X_remove_43 : decode b_X_remove 43 = .ok (.getfield 110, 3) := by decide +kernel
theorem d_X_remove_46 : decode b_X_remove 46 = .ok (.invokevirtual 61, 3) := by decide +kernel
theorem d_X_remove_49 : decode b_X_remove 49 = .ok (.land, 1) := by decide +kernel
theorem d_X_remove_50 : decode b_X_remove 50 = .ok (.iload_n 2, 1) := by decide +kernel
theorem d_X_remove_51 : decode b_X_remove 51 = .ok (.invokestatic 147, 3) := by decide +kernel
theorem d_X_remove_54 : decode b_X_remove 54 = .ok (.ifCond .ne 9, 3) := by decide +kernel
theorem d_X_remove_57 : decode b_X_remove 57 = .ok (.aload_n 0, 1) := by decide +kernel
theorem d_X_remove_58 : decode b_X_remove 58 = .ok (.aload_n 3, 1) := by decide +kernel
theorem d_X_remove_59 : decode b_X_remove 59 = .ok (.invokevirtual 139, 3) := by decide +kernel
theorem d_X_remove_62 : decode b_X_remove 62 = .ok (.ireturn, 1) := by decide +kernel
theorem d_X_remove_63 : decode b_X_remove 63 = .ok (.aload_n 3, 1) := by decide +kernel
theorem d_X_remove_64 : decode b_X_remove 64 = .ok (.getfield 110, 3) := by decide +kernel
theorem d_X_remove_67 : decode b_X_remove 67 = .ok (.iload_n 2, 1) := by decide +kernel
theorem d_X_remove_68 : decode b_X_remove 68 = .ok (.invokevirtual 65, 3) := by decide +kernel
theorem d_X_remove_71 : decode b_X_remove 71 = .ok (.iconst 1, 1) := by decide +kernel
theorem d_X_remove_72 : decode b_X_remove 72 = .ok (.ireturn, 1) := by decide +kernel
theorem d_X_list_0 : decode b_X_list 0 = .ok (.aload_n 0, 1) := by decide +kernel
theorem d_X_list_1 : decode b_X_list 1 = .ok (.iload_n 1, 1) := by decide +kernel
theorem d_X_list_2 : decode b_X_list 2 = .ok (.invokevirtual 127, 3) := by decide +kernel
theorem d_X_list_5 : decode b_X_list 5 = .ok (.astore 4, 2) := by decide +kernel
theorem d_X_list_7 : decode b_X_list 7 = .ok (.aload 4, 2) := by decide +kernel
theorem d_X_list_9 : decode b_X_list 9 = .ok (.ifnull 14, 3) := by decide +kernel
theorem d_X_list_12 : decode b_X_list 12 = .ok (.aload_n 0, 1) := by decide +kernel
theorem d_X_list_13 : decode b_X_list 13 = .ok (.getfield 25, 3) := by decide +kernel
theorem d_X_list_16 : decode b_X_list 16 = .ok (.iload_n 2, 1) := by decide +kernel
theorem d_X_list_17 : decode b_X_list 17 = .ok (.invokevirtual 42, 3) := by decide +kernel
theorem d_X_list_20 : decode b_X_list 20 = .ok (.ifCond .ne 5, 3) := by decide +kernel
theorem d_X_list_23 : decode b_X_list 23 = .ok (.iconst (-1), 1) := by decide +kernel
theorem d_X_list_24 : decode b_X_list 24 = .ok (.ireturn, 1) := by decide +kernel
theorem d_X_list_25 : decode b_X_list 25 = .ok (.aload 4, 2) := by decide +kernel
theorem d_X_list_27 : decode b_X_list 27 = .ok (.aload_n 0, 1) := by decide +kernel
theorem d_X_list_28 : decode b_X_list 28 = .ok (.getfield 18, 3) := by decide +kernel
theorem d_X_list_31 : decode b_X_list 31 = .ok (.invokevirtual 130, 3) := by decide +kernel
theorem d_X_list_34 : decode b_X_list 34 = .ok (.ifCond .ne 6, 3) := by decide +kernel
theorem d_X_list_37 : decode b_X_list 37 = .ok (.bipush (-9), 2) := by decide +kernel
theorem d_X_list_39 : decode b_X_list 39 = .ok (.ireturn, 1) := by decide +kernel
theorem d_X_list_40 : decode b_X_list 40 = .ok (.aload_n 0, 1) := by decide +kernel
theorem d_X_list_41 : decode b_X_list 41 = .ok (.getfield 25, 3) := by decide +kernel
theorem d_X_list_44 : decode b_X_list 44 = .ok (.iload_n 2, 1) := by decide +kernel
theorem d_X_list_45 : decode b_X_list 45 = .ok (.aload 4, 2) := by decide +kernel
theorem d_X_list_47 : decode b_X_list 47 = .ok (.getfield 110, 3) := by decide +kernel
theorem d_X_list_50 : decode b_X_list 50 = .ok (.invokevirtual 61, 3) := by decide +kernel
theorem d_X_list_53 : decode b_X_list 53 = .ok (.iload_n 3, 1) := by decide +kernel
theorem d_X_list_54 : decode b_X_list 54 = .ok (.invokevirtual 154, 3) := by decide +kernel
theorem d_X_list_57 : decode b_X_list 57 = .ok (.ireturn, 1) := by decide +kernel
theorem d_X_finish_0 : decode b_X_finish 0 = .ok (.aload_n 0, 1) := by decide +kernel
theorem d_X_finish_1 : decode b_X_finish 1 = .ok (.iload_n 1, 1) := by decide +kernel
theorem d_X_finish_2 : decode b_X_finish 2 = .ok (.invokevirtual 127, 3) := by decide +kernel
theorem d_X_finish_5 : decode b_X_finish 5 = .ok (.astore_n 3, 1) := by decide +kernel
theorem d_X_finish_6 : decode b_X_finish 6 = .ok (.aload_n 3, 1) := by decide +kernel
theorem d_X_finish_7 : decode b_X_finish 7 = .ok (.ifnonnull 5, 3) := by decide +kernel
theorem d_X_finish_10 : decode b_X_finish 10 = .ok (.iconst (-1), 1) := by decide +kernel
theorem d_X_finish_11 : decode b_X_finish 11 = .ok (.ireturn, 1) := by decide +kernel
theorem d_X_finish_12 : decode b_X_finish 12 = .ok (.aload_n 3, 1) := by decide +kernel
theorem d_X_finish_13 : decode b_X_finish 13 = .ok (.iconst 0, 1) := by decide +kernel
theorem d_X_finish_14 : decode b_X_finish 14 = .ok (.putfield 88, 3) := by decide +kernel
theorem d_X_finish_17 : decode b_X_finish 17 = .ok (.iload_n 2, 1) := by decide +kernel
theorem d_X_finish_18 : decode b_X_finish 18 = .ok (.ifCond .eq 5, 3) := by decide +kernel
theorem d_X_finish_21 : decode b_X_finish 21 = .ok (.iconst 0, 1) := by decide +kernel
theorem d_X_finish_22 : decode b_X_finish 22 = .ok (.ireturn, 1) := by decide +kernel
theorem d_X_finish_23 : decode b_X_finish 23 = .ok (.aload_n 3, 1) := by decide +kernel
theorem d_X_finish_24 : decode b_X_finish 24 = .ok (.getfield 158, 3) := by decide +kernel
theorem d_X_finish_27 : decode b_X_finish 27 = .ok (.ifCond .eq 6, 3) := by decide +kernel
theorem d_X_finish_30 : decode b_X_finish 30 = .ok (.bipush (-2), 2) := by decide +kernel
theorem d_X_finish_32 : decode b_X_finish 32 = .ok (.ireturn, 1) := by decide +kernel
theorem d_X_finish_33 : decode b_X_finish 33 = .ok (.aload_n 0, 1) := by decide +kernel
theorem d_X_finish_34 : decode b_X_finish 34 = .ok (.aload_n 3, 1) := by decide +kernel
theorem d_X_finish_35 : decode b_X_finish 35 = .ok (.invokevirtual 161, 3) := by decide +kernel
theorem d_X_finish_38 : decode b_X_finish 38 = .ok (.istore 4, 2) := by decide +kernel
theorem d_X_finish_40 : decode b_X_finish 40 = .ok (.iload 4, 2) := by decide +kernel
theorem d_X_finish_42 : decode b_X_finish 42 = .ok (.ifCond .eq 8, 3) := by decide +kernel
theorem d_X_finish_45 : decode b_X_finish 45 = .ok (.iload 4, 2) := by decide +kernel
theorem d_X_finish_47 : decode b_X_finish 47 = .ok (.goto 8, 3) := by decide +kernel
theorem d_X_finish_50 : decode b_X_finish 50 = .ok (.aload_n 0, 1) := by decide +kernel
theorem d_X_finish_51 : decode b_X_finish 51 = .ok (.aload_n 3, 1) := by decide +kernel
theorem d_X_finish_52 : decode b_X_finish 52 = .ok (.invokevirtual 164, 3) := by decide +kernel
theorem d_X_finish_55 : decode b_X_finish 55 = .ok (.ireturn, 1) := by decide +kernel
theorem d_X_tried_0 : decode b_X_tried 0 = .ok (.aload_n 0, 1) := by decide +kernel
theorem d_X_tried_1 : decode b_X_tried 1 = .ok (.iload_n 1, 1) := by decide +kernel
theorem d_X_tried_2 : decode b_X_tried 2 = .ok (.invokevirtual 81, 3) := by decide +kernel
theorem d_X_tried_5 : decode b_X_tried 5 = .ok (.astore_n 3, 1) := by decide +kernel
theorem d_X_tried_6 : decode b_X_tried 6 = .ok (.aload_n 3, 1) := by decide +kernel
theorem d_X_tried_7 : decode b_X_tried 7 = .ok (.ifnull 15, 3) := by decide +kernel
theorem d_X_tried_10 : decode b_X_tried 10 = .ok (.iload_n 2, 1) := by decide +kernel
theorem d_X_tried_11 : decode b_X_tried 11 = .ok (.ifCond .lt 11, 3) := by decide +kernel
theorem d_X_tried_14 : decode b_X_tried 14 = .ok (.iload_n 2, 1) := by decide +kernel
theorem d_X_tried_15 : decode b_X_tried 15 = .ok (.aload_n 3, 1) := by decide +kernel
theorem d_X_tried_16 : decode b_X_tried 16 = .ok (.getfield 167, 3) := by decide +kernel
theorem d_X_tried_19 : decode b_X_tried 19 = .ok (.if_icmp .lt 5, 3) := by decide +kernel
theorem d_X_tried_22 : decode b_X_tried 22 = .ok (.iconst (-1), 1) := by decide +kernel
theorem d_X_tried_23 : decode b_X_tried 23 = .ok (.ireturn, 1) := by decide +kernel
theorem d_X_tried_24 : decode b_X_tried 24 = .ok (.aload_n 3, 1) := by decide +kernel
theorem d_X_tried_25 : decode b_X_tried 25 = .ok (.getfield 170, 3) := by decide +kernel
theorem d_X_tried_28 : decode b_X_tried 28 = .ok (.iload_n 2, 1) := by decide +kernel
theorem d_X_tried_29 : decode b_X_tried 29 = .ok (.iaload, 1) := by decide +kernel
theorem d_X_tried_30 : decode b_X_tried 30 = .ok (.ireturn, 1) := by decide +kernel
theorem d_X_about_0 : decode b_X_about 0 = .ok (.aload_n 0, 1) := by decide +kernel
theorem d_X_about_1 : decode b_X_about 1 = .ok (.iload_n 1, 1) := by decide +kernel
theorem d_X_about_2 : decode b_X_about 2 = .ok (.invokevirtual 81, 3) := by decide +kernel
theorem d_X_about_5 : decode b_X_about 5 = .ok (.astore_n 3, 1) := by decide +kernel
theorem d_X_about_6 : decode b_X_about 6 = .ok (.aload_n 3, 1) := by decide +kernel
theorem d_X_about_7 : decode b_X_about 7 = .ok (.ifnonnull 5, 3) := by decide +kernel
theorem d_X_about_10 : decode b_X_about 10 = .ok (.iconst (-1), 1) := by decide +kernel
theorem d_X_about_11 : decode b_X_about 11 = .ok (.ireturn, 1) := by decide +kernel
theorem d_X_about_12 : decode b_X_about 12 = .ok (.iload_n 2, 1) := by decide +kernel
theorem d_X_about_13 : decode b_X_about 13 = .ok (.ifCond .ne 16, 3) := by decide +kernel
theorem d_X_about_16 : decode b_X_about 16 = .ok (.aload_n 3, 1) := by decide +kernel
theorem d_X_about_17 : decode b_X_about 17 = .ok (.getfield 88, 3) := by decide +kernel
theorem d_X_about_20 : decode b_X_about 20 = .ok (.ifCond .eq 7, 3) := by decide +kernel
theorem d_X_about_23 : decode b_X_about 23 = .ok (.iconst 1, 1) := by decide +kernel
theorem d_X_about_24 : decode b_X_about 24 = .ok (.goto 4, 3) := by decide +kernel
theorem d_X_about_27 : decode b_X_about 27 = .ok (.iconst 0, 1) := by decide +kernel
theorem d_X_about_28 : decode b_X_about 28 = .ok (.ireturn, 1) := by decide +kernel
theorem d_X_about_29 : decode b_X_about 29 = .ok (.aload_n 3, 1) := by decide +kernel
theorem d_X_about_30 : decode b_X_about 30 = .ok (.getfield 174, 3) := by decide +kernel
theorem d_X_about_33 : decode b_X_about 33 = .ok (.ifCond .ne 5, 3) := by decide +kernel
theorem d_X_about_36 : decode b_X_about 36 = .ok (.iconst (-1), 1) := by decide +kernel
theorem d_X_about_37 : decode b_X_about 37 = .ok (.ireturn, 1) := by decide +kernel
theorem d_X_about_38 : decode b_X_about 38 = .ok (.iload_n 2, 1) := by decide +kernel
theorem d_X_about_39 : decode b_X_about 39 = .ok (.tableswitch 48 1 3 #[25, 30, 35], 25) := by decide +kernel
theorem d_X_about_64 : decode b_X_about 64 = .ok (.aload_n 3, 1) := by decide +kernel
theorem d_X_about_65 : decode b_X_about 65 = .ok (.getfield 177, 3) := by decide +kernel
theorem d_X_about_68 : decode b_X_about 68 = .ok (.ireturn, 1) := by decide +kernel
theorem d_X_about_69 : decode b_X_about 69 = .ok (.aload_n 3, 1) := by decide +kernel
theorem d_X_about_70 : decode b_X_about 70 = .ok (.getfield 180, 3) := by decide +kernel
theorem d_X_about_73 : decode b_X_about 73 = .ok (.ireturn, 1) := by decide +kernel
theorem d_X_about_74 : decode b_X_about 74 = .ok (.aload_n 3, 1) := by decide +kernel
theorem d_X_about_75 : decode b_X_about 75 = .ok (.getfield 158, 3) := by decide +kernel
theorem d_X_about_78 : decode b_X_about 78 = .ok (.ifCond .eq 7, 3) := by decide +kernel
theorem d_X_about_81 : decode b_X_about 81 = .ok (.iconst 1, 1) := by decide +kernel
theorem d_X_about_82 : decode b_X_about 82 = .ok (.goto 4, 3) := by decide +kernel
theorem d_X_about_85 : decode b_X_about 85 = .ok (.iconst 0, 1) := by decide +kernel
theorem d_X_about_86 : decode b_X_about 86 = .ok (.ireturn, 1) := by decide +kernel
theorem d_X_about_87 : decode b_X_about 87 = .ok (.iconst (-1), 1) := by decide +kernel
theorem d_X_about_88 : decode b_X_about 88 = .ok (.ireturn, 1) := by decide +kernel
