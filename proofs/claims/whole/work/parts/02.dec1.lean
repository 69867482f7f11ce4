theorem d_X_actionAt_0 : decode b_X_actionAt 0 = .ok (.iload_n 1, 1) := by decide +kernel
theorem d_X_actionAt_1 : decode b_X_actionAt 1 = .ok (.ifCond .lt 20, 3) := by decide +kernel
theorem d_X_actionAt_4 : decode b_X_actionAt 4 = .ok (.iload_n 1, 1) := by decide +kernel
theorem d_X_actionAt_5 : decode b_X_actionAt 5 = .ok (.aload_n 0, 1) := by decide +kernel
theorem d_X_actionAt_6 : decode b_X_actionAt 6 = .ok (.getfield 77, 3) := by decide +kernel
theorem d_X_actionAt_9 : decode b_X_actionAt 9 = .ok (.if_icmp .ge 12, 3) := by decide +kernel
theorem d_X_actionAt_12 : decode b_X_actionAt 12 = .ok (.aload_n 0, 1) := by decide +kernel
theorem d_X_actionAt_13 : decode b_X_actionAt 13 = .ok (.getfield 38, 3) := by decide +kernel
theorem d_X_actionAt_16 : decode b_X_actionAt 16 = .ok (.iload_n 1, 1) := by decide +kernel
theorem d_X_actionAt_17 : decode b_X_actionAt 17 = .ok (.aaload, 1) := by decide +kernel
theorem d_X_actionAt_18 : decode b_X_actionAt 18 = .ok (.goto 4, 3) := by decide +kernel
theorem d_X_actionAt_21 : decode b_X_actionAt 21 = .ok (.aconst_null, 1) := by decide +kernel
theorem d_X_actionAt_22 : decode b_X_actionAt 22 = .ok (.areturn, 1) := by decide +kernel
theorem d_X_runningAt_0 : decode b_X_runningAt 0 = .ok (.aload_n 0, 1) := by decide +kernel
theorem d_X_runningAt_1 : decode b_X_runningAt 1 = .ok (.iload_n 1, 1) := by decide +kernel
theorem d_X_runningAt_2 : decode b_X_runningAt 2 = .ok (.invokevirtual 81, 3) := by decide +kernel
theorem d_X_runningAt_5 : decode b_X_runningAt 5 = .ok (.astore_n 2, 1) := by decide +kernel
theorem d_X_runningAt_6 : decode b_X_runningAt 6 = .ok (.aload_n 2, 1) := by decide +kernel
theorem d_X_runningAt_7 : decode b_X_runningAt 7 = .ok (.ifnull 14, 3) := by decide +kernel
theorem d_X_runningAt_10 : decode b_X_runningAt 10 = .ok (.aload_n 2, 1) := by decide +kernel
theorem d_X_runningAt_11 : decode b_X_runningAt 11 = .ok (.getfield 88, 3) := by decide +kernel
theorem d_X_runningAt_14 : decode b_X_runningAt 14 = .ok (.ifCond .eq 7, 3) := by decide +kernel
theorem d_X_runningAt_17 : decode b_X_runningAt 17 = .ok (.aload_n 2, 1) := by decide +kernel
theorem d_X_runningAt_18 : decode b_X_runningAt 18 = .ok (.goto 4, 3) := by decide +kernel
theorem d_X_runningAt_21 : decode b_X_runningAt 21 = .ok (.aconst_null, 1) := by decide +kernel
theorem d_X_runningAt_22 : decode b_X_runningAt 22 = .ok (.areturn, 1) := by decide +kernel
theorem d_X_touchesDeclared_0 : decode b_X_touchesDeclared 0 = .ok (.aload_n 0, 1) := by decide +kernel
theorem d_X_touchesDeclared_1 : decode b_X_touchesDeclared 1 = .ok (.getfield 25, 3) := by decide +kernel
theorem d_X_touchesDeclared_4 : decode b_X_touchesDeclared 4 = .ok (.iload_n 2, 1) := by decide +kernel
theorem d_X_touchesDeclared_5 : decode b_X_touchesDeclared 5 = .ok (.invokevirtual 57, 3) := by decide +kernel
theorem d_X_touchesDeclared_8 : decode b_X_touchesDeclared 8 = .ok (.iload_n 2, 1) := by decide +kernel
theorem d_X_touchesDeclared_9 : decode b_X_touchesDeclared 9 = .ok (.invokestatic 183, 3) := by decide +kernel
theorem d_X_touchesDeclared_12 : decode b_X_touchesDeclared 12 = .ok (.lor, 1) := by decide +kernel
theorem d_X_touchesDeclared_13 : decode b_X_touchesDeclared 13 = .ok (.lstore_n 3, 1) := by decide +kernel
theorem d_X_touchesDeclared_14 : decode b_X_touchesDeclared 14 = .ok (.iconst 0, 1) := by decide +kernel
theorem d_X_touchesDeclared_15 : decode b_X_touchesDeclared 15 = .ok (.istore 5, 2) := by decide +kernel
theorem d_X_touchesDeclared_17 : decode b_X_touchesDeclared 17 = .ok (.iload 5, 2) := by decide +kernel
theorem d_X_touchesDeclared_19 : decode b_X_touchesDeclared 19 = .ok (.aload_n 1, 1) := by decide +kernel
theorem d_X_touchesDeclared_20 : decode b_X_touchesDeclared 20 = .ok (.getfield 85, 3) := by decide +kernel
theorem d_X_touchesDeclared_23 : decode b_X_touchesDeclared 23 = .ok (.if_icmp .ge 25, 3) := by decide +kernel
theorem d_X_touchesDeclared_26 : decode b_X_touchesDeclared 26 = .ok (.lload_n 3, 1) := by decide +kernel
theorem d_X_touchesDeclared_27 : decode b_X_touchesDeclared 27 = .ok (.aload_n 1, 1) := by decide +kernel
theorem d_X_touchesDeclared_28 : decode b_X_touchesDeclared 28 = .ok (.getfield 186, 3) := by decide +kernel
theorem d_X_touchesDeclared_31 : decode b_X_touchesDeclared 31 = .ok (.iload 5, 2) := by decide +kernel
theorem d_X_touchesDeclared_33 : decode b_X_touchesDeclared 33 = .ok (.iaload, 1) := by decide +kernel
theorem d_X_touchesDeclared_34 : decode b_X_touchesDeclared 34 = .ok (.invokestatic 147, 3) := by decide +kernel
theorem d_X_touchesDeclared_37 : decode b_X_touchesDeclared 37 = .ok (.ifCond .eq 5, 3) := by decide +kernel
theorem d_X_touchesDeclared_40 : decode b_X_touchesDeclared 40 = .ok (.iconst 1, 1) := by decide +kernel
theorem d_X_touchesDeclared_41 : decode b_X_touchesDeclared 41 = .ok (.ireturn, 1) := by decide +kernel
theorem d_X_touchesDeclared_42 : decode b_X_touchesDeclared 42 = .ok (.iinc 5 1, 3) := by decide +kernel
theorem d_X_touchesDeclared_45 : decode b_X_touchesDeclared 45 = .ok (.goto (-28), 3) := by decide +kernel
theorem d_X_touchesDeclared_48 : decode b_X_touchesDeclared 48 = .ok (.iconst 0, 1) := by decide +kernel
theorem d_X_touchesDeclared_49 : decode b_X_touchesDeclared 49 = .ok (.ireturn, 1) := by decide +kernel
theorem d_X_lacksInput_0 : decode b_X_lacksInput 0 = .ok (.iconst 0, 1) := by decide +kernel
theorem d_X_lacksInput_1 : decode b_X_lacksInput 1 = .ok (.istore_n 2, 1) := by decide +kernel
theorem d_X_lacksInput_2 : decode b_X_lacksInput 2 = .ok (.iload_n 2, 1) := by decide +kernel
theorem d_X_lacksInput_3 : decode b_X_lacksInput 3 = .ok (.aload_n 1, 1) := by decide +kernel
theorem d_X_lacksInput_4 : decode b_X_lacksInput 4 = .ok (.getfield 85, 3) := by decide +kernel
theorem d_X_lacksInput_7 : decode b_X_lacksInput 7 = .ok (.if_icmp .ge 48, 3) := by decide +kernel
theorem d_X_lacksInput_10 : decode b_X_lacksInput 10 = .ok (.aload_n 1, 1) := by decide +kernel
theorem d_X_lacksInput_11 : decode b_X_lacksInput 11 = .ok (.getfield 189, 3) := by decide +kernel
theorem d_X_lacksInput_14 : decode b_X_lacksInput 14 = .ok (.iload_n 2, 1) := by decide +kernel
theorem d_X_lacksInput_15 : decode b_X_lacksInput 15 = .ok (.baload, 1) := by decide +kernel
theorem d_X_lacksInput_16 : decode b_X_lacksInput 16 = .ok (.ifCond .ne 33, 3) := by decide +kernel
theorem d_X_lacksInput_19 : decode b_X_lacksInput 19 = .ok (.aload_n 0, 1) := by decide +kernel
theorem d_X_lacksInput_20 : decode b_X_lacksInput 20 = .ok (.getfield 25, 3) := by decide +kernel
theorem d_X_lacksInput_23 : decode b_X_lacksInput 23 = .ok (.aload_n 1, 1) := by decide +kernel
theorem d_X_lacksInput_24 : decode b_X_lacksInput 24 = .ok (.getfield 186, 3) := by decide +kernel
theorem d_X_lacksInput_27 : decode b_X_lacksInput 27 = .ok (.iload_n 2, 1) := by decide +kernel
theorem d_X_lacksInput_28 : decode b_X_lacksInput 28 = .ok (.iaload, 1) := by decide +kernel
theorem d_X_lacksInput_29 : decode b_X_lacksInput 29 = .ok (.invokevirtual 193, 3) := by decide +kernel
theorem d_X_lacksInput_32 : decode b_X_lacksInput 32 = .ok (.lstore_n 3, 1) := by decide +kernel
theorem d_X_lacksInput_33 : decode b_X_lacksInput 33 = .ok (.lload_n 3, 1) := by decide +kernel
theorem d_X_lacksInput_34 : decode b_X_lacksInput 34 = .ok (.aload_n 0, 1) := by decide +kernel
theorem d_X_lacksInput_35 : decode b_X_lacksInput 35 = .ok (.getfield 32, 3) := by decide +kernel
theorem d_X_lacksInput_38 : decode b_X_lacksInput 38 = .ok (.invokevirtual 61, 3) := by decide +kernel
theorem d_X_lacksInput_41 : decode b_X_lacksInput 41 = .ok (.land, 1) := by decide +kernel
theorem d_X_lacksInput_42 : decode b_X_lacksInput 42 = .ok (.lconst 0, 1) := by decide +kernel
theorem d_X_lacksInput_43 : decode b_X_lacksInput 43 = .ok (.lcmp, 1) := by decide +kernel
theorem d_X_lacksInput_44 : decode b_X_lacksInput 44 = .ok (.ifCond .ne 5, 3) := by decide +kernel
theorem d_X_lacksInput_47 : decode b_X_lacksInput 47 = .ok (.iconst 1, 1) := by decide +kernel
theorem d_X_lacksInput_48 : decode b_X_lacksInput 48 = .ok (.ireturn, 1) := by decide +kernel
theorem d_X_lacksInput_49 : decode b_X_lacksInput 49 = .ok (.iinc 2 1, 3) := by decide +kernel
theorem d_X_lacksInput_52 : decode b_X_lacksInput 52 = .ok (.goto (-50), 3) := by decide +kernel
theorem d_X_lacksInput_55 : decode b_X_lacksInput 55 = .ok (.iconst 0, 1) := by decide +kernel
theorem d_X_lacksInput_56 : decode b_X_lacksInput 56 = .ok (.ireturn, 1) := by decide +kernel
theorem d_X_underDeclared_0 : decode b_X_underDeclared 0 = .ok (.lconst 0, 1) := by decide +kernel
theorem d_X_underDeclared_1 : decode b_X_underDeclared 1 = .ok (.lstore_n 3, 1) := by decide +kernel
theorem d_X_underDeclared_2 : decode b_X_underDeclared 2 = .ok (.iconst 0, 1) := by decide +kernel
theorem d_X_underDeclared_3 : decode b_X_underDeclared 3 = .ok (.istore 5, 2) := by decide +kernel
theorem d_X_underDeclared_5 : decode b_X_underDeclared 5 = .ok (.iload 5, 2) := by decide +kernel
theorem d_X_underDeclared_7 : decode b_X_underDeclared 7 = .ok (.aload_n 1, 1) := by decide +kernel
theorem d_X_underDeclared_8 : decode b_X_underDeclared 8 = .ok (.getfield 85, 3) := by decide +kernel
theorem d_X_underDeclared_11 : decode b_X_underDeclared 11 = .ok (.if_icmp .ge 37, 3) := by decide +kernel
theorem d_X_underDeclared_14 : decode b_X_underDeclared 14 = .ok (.aload_n 1, 1) := by decide +kernel
theorem d_X_underDeclared_15 : decode b_X_underDeclared 15 = .ok (.getfield 189, 3) := by decide +kernel
theorem d_X_underDeclared_18 : decode b_X_underDeclared 18 = .ok (.iload 5, 2) := by decide +kernel
theorem d_X_underDeclared_20 : decode b_X_underDeclared 20 = .ok (.baload, 1) := by decide +kernel
theorem d_X_underDeclared_21 : decode b_X_underDeclared 21 = .ok (.iload_n 2, 1) := by decide +kernel
theorem d_X_underDeclared_22 : decode b_X_underDeclared 22 = .ok (.if_icmp .ne 20, 3) := by decide +kernel
theorem d_X_underDeclared_25 : decode b_X_underDeclared 25 = .ok (.lload_n 3, 1) := by decide +kernel
theorem d_X_underDeclared_26 : decode b_X_underDeclared 26 = .ok (.aload_n 0, 1) := by decide +kernel
theorem d_X_underDeclared_27 : decode b_X_underDeclared 27 = .ok (.getfield 25, 3) := by decide +kernel
theorem d_X_underDeclared_30 : decode b_X_underDeclared 30 = .ok (.aload_n 1, 1) := by decide +kernel
theorem d_X_underDeclared_31 : decode b_X_underDeclared 31 = .ok (.getfield 186, 3) := by decide +kernel
theorem d_X_underDeclared_34 : decode b_X_underDeclared 34 = .ok (.iload 5, 2) := by decide +kernel
theorem d_X_underDeclared_36 : decode b_X_underDeclared 36 = .ok (.iaload, 1) := by decide +kernel
theorem d_X_underDeclared_37 : decode b_X_underDeclared 37 = .ok (.invokevirtual 193, 3) := by decide +kernel
theorem d_X_underDeclared_40 : decode b_X_underDeclared 40 = .ok (.lor, 1) := by decide +kernel
theorem d_X_underDeclared_41 : decode b_X_underDeclared 41 = .ok (.lstore_n 3, 1) := by decide +kernel
theorem d_X_underDeclared_42 : decode b_X_underDeclared 42 = .ok (.iinc 5 1, 3) := by decide +kernel
theorem d_X_underDeclared_45 : decode b_X_underDeclared 45 = .ok (.goto (-40), 3) := by decide +kernel
theorem d_X_underDeclared_48 : decode b_X_underDeclared 48 = .ok (.lload_n 3, 1) := by decide +kernel
theorem d_X_underDeclared_49 : decode b_X_underDeclared 49 = .ok (.lreturn, 1) := by decide +kernel
theorem d_X_writable_0 : decode b_X_writable 0 = .ok (.aload_n 0, 1) := by decide +kernel
theorem d_X_writable_1 : decode b_X_writable 1 = .ok (.aload_n 1, 1) := by decide +kernel
theorem d_X_writable_2 : decode b_X_writable 2 = .ok (.iconst 1, 1) := by decide +kernel
theorem d_X_writable_3 : decode b_X_writable 3 = .ok (.invokevirtual 113, 3) := by decide +kernel
theorem d_X_writable_6 : decode b_X_writable 6 = .ok (.aload_n 0, 1) := by decide +kernel
theorem d_X_writable_7 : decode b_X_writable 7 = .ok (.aload_n 1, 1) := by decide +kernel
theorem d_X_writable_8 : decode b_X_writable 8 = .ok (.invokevirtual 196, 3) := by decide +kernel
theorem d_X_writable_11 : decode b_X_writable 11 = .ok (.lor, 1) := by decide +kernel
theorem d_X_writable_12 : decode b_X_writable 12 = .ok (.lreturn, 1) := by decide +kernel
theorem d_X_scratch_0 : decode b_X_scratch 0 = .ok (.aload_n 0, 1) := by decide +kernel
theorem d_X_scratch_1 : decode b_X_scratch 1 = .ok (.getfield 25, 3) := by decide +kernel
theorem d_X_scratch_4 : decode b_X_scratch 4 = .ok (.iconst 0, 1) := by decide +kernel
theorem d_X_scratch_5 : decode b_X_scratch 5 = .ok (.bipush 122, 2) := by decide +kernel
theorem d_X_scratch_7 : decode b_X_scratch 7 = .ok (.invokevirtual 50, 3) := by decide +kernel
theorem d_X_scratch_10 : decode b_X_scratch 10 = .ok (.istore_n 2, 1) := by decide +kernel
theorem d_X_scratch_11 : decode b_X_scratch 11 = .ok (.iload_n 2, 1) := by decide +kernel
theorem d_X_scratch_12 : decode b_X_scratch 12 = .ok (.iconst (-1), 1) := by decide +kernel
theorem d_X_scratch_13 : decode b_X_scratch 13 = .ok (.if_icmp .ne 5, 3) := by decide +kernel
theorem d_X_scratch_16 : decode b_X_scratch 16 = .ok (.lconst 0, 1) := by decide +kernel
theorem d_X_scratch_17 : decode b_X_scratch 17 = .ok (.lreturn, 1) := by decide +kernel
theorem d_X_scratch_18 : decode b_X_scratch 18 = .ok (.aload_n 0, 1) := by decide +kernel
theorem d_X_scratch_19 : decode b_X_scratch 19 = .ok (.getfield 25, 3) := by decide +kernel
theorem d_X_scratch_22 : decode b_X_scratch 22 = .ok (.iload_n 2, 1) := by decide +kernel
theorem d_X_scratch_23 : decode b_X_scratch 23 = .ok (.invokevirtual 193, 3) := by decide +kernel
theorem d_X_scratch_26 : decode b_X_scratch 26 = .ok (.iload_n 2, 1) := by decide +kernel
theorem d_X_scratch_27 : decode b_X_scratch 27 = .ok (.invokestatic 183, 3) := by decide +kernel
theorem d_X_scratch_30 : decode b_X_scratch 30 = .ok (.ldc2_w 199, 3) := by decide +kernel
theorem d_X_scratch_33 : decode b_X_scratch 33 = .ok (.lxor, 1) := by decide +kernel
theorem d_X_scratch_34 : decode b_X_scratch 34 = .ok (.land, 1) := by decide +kernel
theorem d_X_scratch_35 : decode b_X_scratch 35 = .ok (.aload_n 0, 1) := by decide +kernel
theorem d_X_scratch_36 : decode b_X_scratch 36 = .ok (.aload_n 1, 1) := by decide +kernel
theorem d_X_scratch_37 : decode b_X_scratch 37 = .ok (.iconst 0, 1) := by decide +kernel
theorem d_X_scratch_38 : decode b_X_scratch 38 = .ok (.invokevirtual 113, 3) := by decide +kernel
theorem d_X_scratch_41 : decode b_X_scratch 41 = .ok (.ldc2_w 199, 3) := by decide +kernel
theorem d_X_scratch_44 : decode b_X_scratch 44 = .ok (.lxor, 1) := by decide +kernel
theorem d_X_scratch_45 : decode b_X_scratch 45 = .ok (.land, 1) := by decide +kernel
theorem d_X_scratch_46 : decode b_X_scratch 46 = .ok (.lreturn, 1) := by decide +kernel
theorem d_X_canPut_0 : decode b_X_canPut 0 = .ok (.aload_n 0, 1) := by decide +kernel
theorem d_X_canPut_1 : decode b_X_canPut 1 = .ok (.aload_n 1, 1) := by decide +kernel
theorem d_X_canPut_2 : decode b_X_canPut 2 = .ok (.invokevirtual 143, 3) := by decide +kernel
theorem d_X_canPut_5 : decode b_X_canPut 5 = .ok (.iload_n 2, 1) := by decide +kernel
theorem d_X_canPut_6 : decode b_X_canPut 6 = .ok (.invokestatic 147, 3) := by decide +kernel
theorem d_X_canPut_9 : decode b_X_canPut 9 = .ok (.ifCond .eq 28, 3) := by decide +kernel
theorem d_X_canPut_12 : decode b_X_canPut 12 = .ok (.aload_n 0, 1) := by decide +kernel
theorem d_X_canPut_13 : decode b_X_canPut 13 = .ok (.getfield 25, 3) := by decide +kernel
theorem d_X_canPut_16 : decode b_X_canPut 16 = .ok (.iload_n 2, 1) := by decide +kernel
theorem d_X_canPut_17 : decode b_X_canPut 17 = .ok (.invokevirtual 57, 3) := by decide +kernel
theorem d_X_canPut_20 : decode b_X_canPut 20 = .ok (.aload_n 1, 1) := by decide +kernel
theorem d_X_canPut_21 : decode b_X_canPut 21 = .ok (.getfield 110, 3) := by decide +kernel
theorem d_X_canPut_24 : decode b_X_canPut 24 = .ok (.invokevirtual 61, 3) := by decide +kernel
theorem d_X_canPut_27 : decode b_X_canPut 27 = .ok (.land, 1) := by decide +kernel
theorem d_X_canPut_28 : decode b_X_canPut 28 = .ok (.lconst 0, 1) := by decide +kernel
theorem d_X_canPut_29 : decode b_X_canPut 29 = .ok (.lcmp, 1) := by decide +kernel
theorem d_X_canPut_30 : decode b_X_canPut 30 = .ok (.ifCond .ne 7, 3) := by decide +kernel
theorem d_X_canPut_33 : decode b_X_canPut 33 = .ok (.iconst 1, 1) := by decide +kernel
theorem d_X_canPut_34 : decode b_X_canPut 34 = .ok (.goto 4, 3) := by decide +kernel
theorem d_X_canPut_37 : decode b_X_canPut 37 = .ok (.iconst 0, 1) := by decide +kernel
theorem d_X_canPut_38 : decode b_X_canPut 38 = .ok (.ireturn, 1) := by decide +kernel
theorem d_X_refuse_0 : decode b_X_refuse 0 = .ok (.aload_n 1, 1) := by decide +kernel
theorem d_X_refuse_1 : decode b_X_refuse 1 = .ok (.dup, 1) := by decide +kernel
theorem d_X_refuse_2 : decode b_X_refuse 2 = .ok (.getfield 180, 3) := by decide +kernel
theorem d_X_refuse_5 : decode b_X_refuse 5 = .ok (.iconst 1, 1) := by decide +kernel
theorem d_X_refuse_6 : decode b_X_refuse 6 = .ok (.iadd, 1) := by decide +kernel
theorem d_X_refuse_7 : decode b_X_refuse 7 = .ok (.putfield 180, 3) := by decide +kernel
theorem d_X_refuse_10 : decode b_X_refuse 10 = .ok (.aload_n 0, 1) := by decide +kernel
theorem d_X_refuse_11 : decode b_X_refuse 11 = .ok (.getfield 100, 3) := by decide +kernel
theorem d_X_refuse_14 : decode b_X_refuse 14 = .ok (.ifCond .eq 8, 3) := by decide +kernel
theorem d_X_refuse_17 : decode b_X_refuse 17 = .ok (.aload_n 1, 1) := by decide +kernel
theorem d_X_refuse_18 : decode b_X_refuse 18 = .ok (.iconst 1, 1) := by decide +kernel
theorem d_X_refuse_19 : decode b_X_refuse 19 = .ok (.putfield 158, 3) := by decide +kernel
theorem d_X_refuse_22 : decode b_X_refuse 22 = .ok (.iconst 0, 1) := by decide +kernel
theorem d_X_refuse_23 : decode b_X_refuse 23 = .ok (.ireturn, 1) := by decide +kernel
theorem d_X_firstOutputFault_0 : decode b_X_firstOutputFault 0 = .ok (.iconst 0, 1) := by decide +kernel
theorem d_X_firstOutputFault_1 : decode b_X_firstOutputFault 1 = .ok (.istore_n 2, 1) := by decide +kernel
theorem d_X_firstOutputFault_2 : decode b_X_firstOutputFault 2 = .ok (.iconst 0, 1) := by decide +kernel
theorem d_X_firstOutputFault_3 : decode b_X_firstOutputFault 3 = .ok (.istore_n 3, 1) := by decide +kernel
theorem d_X_firstOutputFault_4 : decode b_X_firstOutputFault 4 = .ok (.iload_n 3, 1) := by decide +kernel
theorem d_X_firstOutputFault_5 : decode b_X_firstOutputFault 5 = .ok (.aload_n 1, 1) := by decide +kernel
theorem d_X_firstOutputFault_6 : decode b_X_firstOutputFault 6 = .ok (.getfield 85, 3) := by decide +kernel
theorem d_X_firstOutputFault_9 : decode b_X_firstOutputFault 9 = .ok (.if_icmp .ge 77, 3) := by decide +kernel
theorem d_X_firstOutputFault_12 : decode b_X_firstOutputFault 12 = .ok (.aload_n 1, 1) := by decide +kernel
theorem d_X_firstOutputFault_13 : decode b_X_firstOutputFault 13 = .ok (.getfield 189, 3) := by decide +kernel
theorem d_X_firstOutputFault_16 : decode b_X_firstOutputFault 16 = .ok (.iload_n 3, 1) := by decide +kernel
theorem d_X_firstOutputFault_17 : decode b_X_firstOutputFault 17 = .ok (.baload, 1) := by decide +kernel
theorem d_X_firstOutputFault_18 : decode b_X_firstOutputFault 18 = .ok (.ifCond .eq 62, 3) := by decide +kernel
theorem d_X_firstOutputFault_21 : decode b_X_firstOutputFault 21 = .ok (.aload_n 0, 1) := by decide +kernel
theorem d_X_firstOutputFault_22 : decode b_X_firstOutputFault 22 = .ok (.getfield 25, 3) := by decide +kernel
theorem d_X_firstOutputFault_25 : decode b_X_firstOutputFault 25 = .ok (.aload_n 1, 1) := by decide +kernel
theorem d_X_firstOutputFault_26 : decode b_X_firstOutputFault 26 = .ok (.getfield 186, 3) := by decide +kernel
theorem d_X_firstOutputFault_29 : decode b_X_firstOutputFault 29 = .ok (.iload_n 3, 1) := by decide +kernel
theorem d_X_firstOutputFault_30 : decode b_X_firstOutputFault 30 = .ok (.iaload, 1) := by decide +kernel
theorem d_X_firstOutputFault_31 : decode b_X_firstOutputFault 31 = .ok (.invokevirtual 193, 3) := by decide +kernel
theorem d_X_firstOutputFault_34 : decode b_X_firstOutputFault 34 = .ok (.lstore 4, 2) := by decide +kernel
theorem d_X_firstOutputFault_36 : decode b_X_firstOutputFault 36 = .ok (.lload 4, 2) := by decide +kernel
theorem d_X_firstOutputFault_38 : decode b_X_firstOutputFault 38 = .ok (.aload_n 1, 1) := by decide +kernel
theorem d_X_firstOutputFault_39 : decode b_X_firstOutputFault 39 = .ok (.getfield 110, 3) := by decide +kernel
theorem d_X_firstOutputFault_42 : decode b_X_firstOutputFault 42 = .ok (.invokevirtual 61, 3) := by decide +kernel
theorem d_X_firstOutputFault_45 : decode b_X_firstOutputFault 45 = .ok (.land, 1) := by decide +kernel
theorem d_X_firstOutputFault_46 : decode b_X_firstOutputFault 46 = .ok (.lconst 0, 1) := by decide +kernel
theorem d_X_firstOutputFault_47 : decode b_X_firstOutputFault 47 = .ok (.lcmp, 1) := by decide +kernel
theorem d_X_firstOutputFault_48 : decode b_X_firstOutputFault 48 = .ok (.ifCond .ne 10, 3) := by decide +kernel
theorem d_X_firstOutputFault_51 : decode b_X_firstOutputFault 51 = .ok (.bipush (-10), 2) := by decide +kernel
theorem d_X_firstOutputFault_53 : decode b_X_firstOutputFault 53 = .ok (.iconst 2, 1) := by decide +kernel
theorem d_X_firstOutputFault_54 : decode b_X_firstOutputFault 54 = .ok (.iload_n 2, 1) := by decide +kernel
theorem d_X_firstOutputFault_55 : decode b_X_firstOutputFault 55 = .ok (.imul, 1) := by decide +kernel
theorem d_X_firstOutputFault_56 : decode b_X_firstOutputFault 56 = .ok (.isub, 1) := by decide +kernel
theorem d_X_firstOutputFault_57 : decode b_X_firstOutputFault 57 = .ok (.ireturn, 1) := by decide +kernel
theorem d_X_firstOutputFault_58 : decode b_X_firstOutputFault 58 = .ok (.aload_n 1, 1) := by decide +kernel
theorem d_X_firstOutputFault_59 : decode b_X_firstOutputFault 59 = .ok (.getfield 110, 3) := by decide +kernel
theorem d_X_firstOutputFault_62 : decode b_X_firstOutputFault 62 = .ok (.lload 4, 2) := by decide +kernel
theorem d_X_firstOutputFault_64 : decode b_X_firstOutputFault 64 = .ok (.invokevirtual 201, 3) := by decide +kernel
theorem d_X_firstOutputFault_67 : decode b_X_firstOutputFault 67 = .ok (.ifCond .eq 10, 3) := by decide +kernel
theorem d_X_firstOutputFault_70 : decode b_X_firstOutputFault 70 = .ok (.bipush (-11), 2) := by decide +kernel
theorem d_X_firstOutputFault_72 : decode b_X_firstOutputFault 72 = .ok (.iconst 2, 1) := by decide +kernel
theorem d_X_firstOutputFault_73 : decode b_X_firstOutputFault 73 = .ok (.iload_n 2, 1) := by decide +kernel
theorem d_X_firstOutputFault_74 : decode b_X_firstOutputFault 74 = .ok (.imul, 1) := by decide +kernel
theorem d_X_firstOutputFault_75 : decode b_X_firstOutputFault 75 = .ok (.isub, 1) := by decide +kernel
theorem d_X_firstOutputFault_76 : decode b_X_firstOutputFault 76 = .ok (.ireturn, 1) := by decide +kernel
theorem d_X_firstOutputFault_77 : decode b_X_firstOutputFault 77 = .ok (.iinc 2 1, 3) := by decide +kernel
theorem d_X_firstOutputFault_80 : decode b_X_firstOutputFault 80 = .ok (.iinc 3 1, 3) := by decide +kernel
theorem d_X_firstOutputFault_83 : decode b_X_firstOutputFault 83 = .ok (.goto (-79), 3) := by decide +kernel
theorem d_X_firstOutputFault_86 : decode b_X_firstOutputFault 86 = .ok (.iconst 0, 1) := by decide +kernel
theorem d_X_firstOutputFault_87 : decode b_X_firstOutputFault 87 = .ok (.ireturn, 1) := by decide +kernel
theorem d_X_gather_0 : decode b_X_gather 0 = .ok (.aload_n 0, 1) := by decide +kernel
theorem d_X_gather_1 : decode b_X_gather 1 = .ok (.aload_n 1, 1) := by decide +kernel
theorem d_X_gather_2 : decode b_X_gather 2 = .ok (.iconst 1, 1) := by decide +kernel
theorem d_X_gather_3 : decode b_X_gather 3 = .ok (.invokevirtual 113, 3) := by decide +kernel
theorem d_X_gather_6 : decode b_X_gather 6 = .ok (.lstore_n 2, 1) := by decide +kernel
theorem d_X_gather_7 : decode b_X_gather 7 = .ok (.lload_n 2, 1) := by decide +kernel
theorem d_X_gather_8 : decode b_X_gather 8 = .ok (.aload_n 1, 1) := by decide +kernel
theorem d_X_gather_9 : decode b_X_gather 9 = .ok (.getfield 110, 3) := by decide +kernel
theorem d_X_gather_12 : decode b_X_gather 12 = .ok (.invokevirtual 61, 3) := by decide +kernel
theorem d_X_gather_15 : decode b_X_gather 15 = .ok (.land, 1) := by decide +kernel
theorem d_X_gather_16 : decode b_X_gather 16 = .ok (.lstore 4, 2) := by decide +kernel
theorem d_X_gather_18 : decode b_X_gather 18 = .ok (.aload_n 0, 1) := by decide +kernel
theorem d_X_gather_19 : decode b_X_gather 19 = .ok (.getfield 25, 3) := by decide +kernel
theorem d_X_gather_22 : decode b_X_gather 22 = .ok (.lload 4, 2) := by decide +kernel
theorem d_X_gather_24 : decode b_X_gather 24 = .ok (.invokevirtual 205, 3) := by decide +kernel
theorem d_X_gather_27 : decode b_X_gather 27 = .ok (.lstore 6, 2) := by decide +kernel
theorem d_X_gather_29 : decode b_X_gather 29 = .ok (.aload_n 0, 1) := by decide +kernel
theorem d_X_gather_30 : decode b_X_gather 30 = .ok (.getfield 25, 3) := by decide +kernel
theorem d_X_gather_33 : decode b_X_gather 33 = .ok (.lload 6, 2) := by decide +kernel
theorem d_X_gather_35 : decode b_X_gather 35 = .ok (.invokevirtual 209, 3) := by decide +kernel
theorem d_X_gather_38 : decode b_X_gather 38 = .ok (.ifCond .eq 6, 3) := by decide +kernel
theorem d_X_gather_41 : decode b_X_gather 41 = .ok (.bipush (-3), 2) := by decide +kernel
theorem d_X_gather_43 : decode b_X_gather 43 = .ok (.ireturn, 1) := by decide +kernel
theorem d_X_gather_44 : decode b_X_gather 44 = .ok (.aload_n 0, 1) := by decide +kernel
theorem d_X_gather_45 : decode b_X_gather 45 = .ok (.getfield 32, 3) := by decide +kernel
theorem d_X_gather_48 : decode b_X_gather 48 = .ok (.invokevirtual 61, 3) := by decide +kernel
theorem d_X_gather_51 : decode b_X_gather 51 = .ok (.lload_n 2, 1) := by decide +kernel
theorem d_X_gather_52 : decode b_X_gather 52 = .ok (.ldc2_w 199, 3) := by decide +kernel
theorem d_X_gather_55 : decode b_X_gather 55 = .ok (.lxor, 1) := by decide +kernel
theorem d_X_gather_56 : decode b_X_gather 56 = .ok (.land, 1) := by decide +kernel
theorem d_X_gather_57 : decode b_X_gather 57 = .ok (.lstore 8, 2) := by decide +kernel
theorem d_X_gather_59 : decode b_X_gather 59 = .ok (.lload 6, 2) := by decide +kernel
theorem d_X_gather_61 : decode b_X_gather 61 = .ok (.lload 8, 2) := by decide +kernel
theorem d_X_gather_63 : decode b_X_gather 63 = .ok (.land, 1) := by decide +kernel
theorem d_X_gather_64 : decode b_X_gather 64 = .ok (.lconst 0, 1) := by decide +kernel
theorem d_X_gather_65 : decode b_X_gather 65 = .ok (.lcmp, 1) := by decide +kernel
theorem d_X_gather_66 : decode b_X_gather 66 = .ok (.ifCond .eq 6, 3) := by decide +kernel
theorem d_X_gather_69 : decode b_X_gather 69 = .ok (.bipush (-4), 2) := by decide +kernel
theorem d_X_gather_71 : decode b_X_gather 71 = .ok (.ireturn, 1) := by decide +kernel
theorem d_X_gather_72 : decode b_X_gather 72 = .ok (.iconst 1, 1) := by decide +kernel
theorem d_X_gather_73 : decode b_X_gather 73 = .ok (.istore 10, 2) := by decide +kernel
theorem d_X_gather_75 : decode b_X_gather 75 = .ok (.iload 10, 2) := by decide +kernel
theorem d_X_gather_77 : decode b_X_gather 77 = .ok (.bipush 60, 2) := by decide +kernel
theorem d_X_gather_79 : decode b_X_gather 79 = .ok (.if_icmp .ge 58, 3) := by decide +kernel
theorem d_X_gather_82 : decode b_X_gather 82 = .ok (.lload 4, 2) := by decide +kernel
theorem d_X_gather_84 : decode b_X_gather 84 = .ok (.iload 10, 2) := by decide +kernel
theorem d_X_gather_86 : decode b_X_gather 86 = .ok (.invokestatic 147, 3) := by decide +kernel
theorem d_X_gather_89 : decode b_X_gather 89 = .ok (.ifCond .eq 24, 3) := by decide +kernel
theorem d_X_gather_92 : decode b_X_gather 92 = .ok (.aload_n 0, 1) := by decide +kernel
theorem d_X_gather_93 : decode b_X_gather 93 = .ok (.getfield 32, 3) := by decide +kernel
theorem d_X_gather_96 : decode b_X_gather 96 = .ok (.iload 10, 2) := by decide +kernel
theorem d_X_gather_98 : decode b_X_gather 98 = .ok (.aload_n 1, 1) := by decide +kernel
theorem d_X_gather_99 : decode b_X_gather 99 = .ok (.getfield 110, 3) := by decide +kernel
theorem d_X_gather_102 : decode b_X_gather 102 = .ok (.iload 10, 2) := by decide +kernel
theorem d_X_gather_104 : decode b_X_gather 104 = .ok (.invokevirtual 73, 3) := by decide +kernel
theorem d_X_gather_107 : decode b_X_gather 107 = .ok (.invokevirtual 69, 3) := by decide +kernel
theorem d_X_gather_110 : decode b_X_gather 110 = .ok (.goto 21, 3) := by decide +kernel
theorem d_X_gather_113 : decode b_X_gather 113 = .ok (.lload_n 2, 1) := by decide +kernel
theorem d_X_gather_114 : decode b_X_gather 114 = .ok (.iload 10, 2) := by decide +kernel
theorem d_X_gather_116 : decode b_X_gather 116 = .ok (.invokestatic 147, 3) := by decide +kernel
theorem d_X_gather_119 : decode b_X_gather 119 = .ok (.ifCond .eq 12, 3) := by decide +kernel
theorem d_X_gather_122 : decode b_X_gather 122 = .ok (.aload_n 0, 1) := by decide +kernel
theorem d_X_gather_123 : decode b_X_gather 123 = .ok (.getfield 32, 3) := by decide +kernel
theorem d_X_gather_126 : decode b_X_gather 126 = .ok (.iload 10, 2) := by decide +kernel
theorem d_X_gather_128 : decode b_X_gather 128 = .ok (.invokevirtual 65, 3) := by decide +kernel
theorem d_X_gather_131 : decode b_X_gather 131 = .ok (.iinc 10 1, 3) := by decide +kernel
theorem d_X_gather_134 : decode b_X_gather 134 = .ok (.goto (-59), 3) := by decide +kernel
theorem d_X_gather_137 : decode b_X_gather 137 = .ok (.lload 4, 2) := by decide +kernel
theorem d_X_gather_139 : decode b_X_gather 139 = .ok (.invokestatic 121, 3) := by decide +kernel
theorem d_X_gather_142 : decode b_X_gather 142 = .ok (.ireturn, 1) := by decide +kernel
theorem d_X_isLetter_0 : decode b_X_isLetter 0 = .ok (.iload_n 0, 1) := by decide +kernel
theorem d_X_isLetter_1 : decode b_X_isLetter 1 = .ok (.bipush 97, 2) := by decide +kernel
theorem d_X_isLetter_3 : decode b_X_isLetter 3 = .ok (.if_icmp .lt 9, 3) := by decide +kernel
theorem d_X_isLetter_6 : decode b_X_isLetter 6 = .ok (.iload_n 0, 1) := by decide +kernel
theorem d_X_isLetter_7 : decode b_X_isLetter 7 = .ok (.bipush 122, 2) := by decide +kernel
theorem d_X_isLetter_9 : decode b_X_isLetter 9 = .ok (.if_icmp .le 15, 3) := by decide +kernel
theorem d_X_isLetter_12 : decode b_X_isLetter 12 = .ok (.iload_n 0, 1) := by decide +kernel
theorem d_X_isLetter_13 : decode b_X_isLetter 13 = .ok (.bipush 65, 2) := by decide +kernel
theorem d_X_isLetter_15 : decode b_X_isLetter 15 = .ok (.if_icmp .lt 13, 3) := by decide +kernel
theorem d_X_isLetter_18 : decode b_X_isLetter 18 = .ok (.iload_n 0, 1) := by decide +kernel
theorem d_X_isLetter_19 : decode b_X_isLetter 19 = .ok (.bipush 90, 2) := by decide +kernel
theorem d_X_isLetter_21 : decode b_X_isLetter 21 = .ok (.if_icmp .gt 7, 3) := by decide +kernel
theorem d_X_isLetter_24 : decode b_X_isLetter 24 = .ok (.iconst 1, 1) := by decide +kernel
theorem d_X_isLetter_25 : decode b_X_isLetter 25 = .ok (.goto 4, 3) := by decide +kernel
theorem d_X_isLetter_28 : decode b_X_isLetter 28 = .ok (.iconst 0, 1) := by decide +kernel
theorem d_X_isLetter_29 : decode b_X_isLetter 29 = .ok (.ireturn, 1) := by decide +kernel
theorem d_X_only_0 : decode b_X_only 0 = .ok (.lconst 1, 1) := by decide +kernel
theorem d_X_only_1 : decode b_X_only 1 = .ok (.iload_n 0, 1) := by decide +kernel
theorem d_X_only_2 : decode b_X_only 2 = .ok (.lshl, 1) := by decide +kernel
theorem d_X_only_3 : decode b_X_only 3 = .ok (.lreturn, 1) := by decide +kernel
theorem d_X_holds_0 : decode b_X_holds 0 = .ok (.lload_n 0, 1) := by decide +kernel
theorem d_X_holds_1 : decode b_X_holds 1 = .ok (.iload_n 2, 1) := by decide +kernel
theorem d_X_holds_2 : decode b_X_holds 2 = .ok (.invokestatic 183, 3) := by decide +kernel
theorem d_X_holds_5 : decode b_X_holds 5 = .ok (.land, 1) := by decide +kernel
theorem d_X_holds_6 : decode b_X_holds 6 = .ok (.lconst 0, 1) := by decide +kernel
theorem d_X_holds_7 : decode b_X_holds 7 = .ok (.lcmp, 1) := by decide +kernel
theorem d_X_holds_8 : decode b_X_holds 8 = .ok (.ifCond .eq 7, 3) := by decide +kernel
theorem d_X_holds_11 : decode b_X_holds 11 = .ok (.iconst 1, 1) := by decide +kernel
theorem d_X_holds_12 : decode b_X_holds 12 = .ok (.goto 4, 3) := by decide +kernel
theorem d_X_holds_15 : decode b_X_holds 15 = .ok (.iconst 0, 1) := by decide +kernel
theorem d_X_holds_16 : decode b_X_holds 16 = .ok (.ireturn, 1) := by decide +kernel
theorem d_M_init_0 : decode b_M_init 0 = .ok (.aload_n 0, 1) := by decide +kernel
theorem d_M_init_1 : decode b_M_init 1 = .ok (.invokespecial 1, 3) := by decide +kernel
theorem d_M_init_4 : decode b_M_init 4 = .ok (.aload_n 0, 1) := by decide +kernel
theorem d_M_init_5 : decode b_M_init 5 = .ok (.iconst 1, 1) := by decide +kernel
theorem d_M_init_6 : decode b_M_init 6 = .ok (.putfield 7, 3) := by decide +kernel
theorem d_M_init_9 : decode b_M_init 9 = .ok (.aload_n 0, 1) := by decide +kernel
theorem d_M_init_10 : decode b_M_init 10 = .ok (.bipush 60, 2) := by decide +kernel
theorem d_M_init_12 : decode b_M_init 12 = .ok (.newarray .int, 2) := by decide +kernel
theorem d_M_init_14 : decode b_M_init 14 = .ok (.putfield 13, 3) := by decide +kernel
theorem d_M_init_17 : decode b_M_init 17 = .ok (.aload_n 0, 1) := by decide +kernel
theorem d_M_init_18 : decode b_M_init 18 = .ok (.bipush 60, 2) := by decide +kernel
theorem d_M_init_20 : decode b_M_init 20 = .ok (.newarray .int, 2) := by decide +kernel
theorem d_M_init_22 : decode b_M_init 22 = .ok (.putfield 17, 3) := by decide +kernel
theorem d_M_init_25 : decode b_M_init 25 = .ok (.aload_n 0, 1) := by decide +kernel
theorem d_M_init_26 : decode b_M_init 26 = .ok (.bipush 60, 2) := by decide +kernel
theorem d_M_init_28 : decode b_M_init 28 = .ok (.newarray .int, 2) := by decide +kernel
theorem d_M_init_30 : decode b_M_init 30 = .ok (.putfield 20, 3) := by decide +kernel
theorem d_M_init_33 : decode b_M_init 33 = .ok (.aload_n 0, 1) := by decide +kernel
theorem d_M_init_34 : decode b_M_init 34 = .ok (.bipush 60, 2) := by decide +kernel
theorem d_M_init_36 : decode b_M_init 36 = .ok (.newarray .int, 2) := by decide +kernel
theorem d_M_init_38 : decode b_M_init 38 = .ok (.putfield 23, 3) := by decide +kernel
theorem d_M_init_41 : decode b_M_init 41 = .ok (.aload_n 0, 1) := by decide +kernel
theorem d_M_init_42 : decode b_M_init 42 = .ok (.bipush 10, 2) := by decide +kernel
theorem d_M_init_44 : decode b_M_init 44 = .ok (.newarray .int, 2) := by decide +kernel
theorem d_M_init_46 : decode b_M_init 46 = .ok (.putfield 26, 3) := by decide +kernel
theorem d_M_init_49 : decode b_M_init 49 = .ok (.aload_n 0, 1) := by decide +kernel
theorem d_M_init_50 : decode b_M_init 50 = .ok (.bipush 120, 2) := by decide +kernel
theorem d_M_init_52 : decode b_M_init 52 = .ok (.newarray .int, 2) := by decide +kernel
theorem d_M_init_54 : decode b_M_init 54 = .ok (.putfield 29, 3) := by decide +kernel
theorem d_M_init_57 : decode b_M_init 57 = .ok (.aload_n 0, 1) := by decide +kernel
theorem d_M_init_58 : decode b_M_init 58 = .ok (.bipush 10, 2) := by decide +kernel
theorem d_M_init_60 : decode b_M_init 60 = .ok (.newarray .int, 2) := by decide +kernel
theorem d_M_init_62 : decode b_M_init 62 = .ok (.putfield 32, 3) := by decide +kernel
theorem d_M_init_65 : decode b_M_init 65 = .ok (.aload_n 0, 1) := by decide +kernel
theorem d_M_init_66 : decode b_M_init 66 = .ok (.bipush 10, 2) := by decide +kernel
theorem d_M_init_68 : decode b_M_init 68 = .ok (.newarray .int, 2) := by decide +kernel
theorem d_M_init_70 : decode b_M_init 70 = .ok (.putfield 35, 3) := by decide +kernel
theorem d_M_init_73 : decode b_M_init 73 = .ok (.aload_n 0, 1) := by decide +kernel
theorem d_M_init_74 : decode b_M_init 74 = .ok (.bipush 10, 2) := by decide +kernel
theorem d_M_init_76 : decode b_M_init 76 = .ok (.newarray .int, 2) := by decide +kernel
theorem d_M_init_78 : decode b_M_init 78 = .ok (.putfield 38, 3) := by decide +kernel
theorem d_M_init_81 : decode b_M_init 81 = .ok (.aload_n 0, 1) := by decide +kernel
theorem d_M_init_82 : decode b_M_init 82 = .ok (.sipush 600, 3) := by decide +kernel
theorem d_M_init_85 : decode b_M_init 85 = .ok (.newarray .int, 2) := by decide +kernel
theorem d_M_init_87 : decode b_M_init 87 = .ok (.putfield 41, 3) := by decide +kernel
theorem d_M_init_90 : decode b_M_init 90 = .ok (.aload_n 0, 1) := by decide +kernel
theorem d_M_init_91 : decode b_M_init 91 = .ok (.sipush 600, 3) := by decide +kernel
theorem d_M_init_94 : decode b_M_init 94 = .ok (.newarray .int, 2) := by decide +kernel
theorem d_M_init_96 : decode b_M_init 96 = .ok (.putfield 44, 3) := by decide +kernel
theorem d_M_init_99 : decode b_M_init 99 = .ok (.aload_n 0, 1) := by decide +kernel
theorem d_M_init_100 : decode b_M_init 100 = .ok (.bipush 120, 2) := by decide +kernel
theorem d_M_init_102 : decode b_M_init 102 = .ok (.newarray .boolean, 2) := by decide +kernel
theorem d_M_init_104 : decode b_M_init 104 = .ok (.putfield 47, 3) := by decide +kernel
theorem d_M_init_107 : decode b_M_init 107 = .ok (.aload_n 0, 1) := by decide +kernel
theorem d_M_init_108 : decode b_M_init 108 = .ok (.bipush 10, 2) := by decide +kernel
theorem d_M_init_110 : decode b_M_init 110 = .ok (.newarray .boolean, 2) := by decide +kernel
theorem d_M_init_112 : decode b_M_init 112 = .ok (.putfield 51, 3) := by decide +kernel
theorem d_M_init_115 : decode b_M_init 115 = .ok (.aload_n 0, 1) := by decide +kernel
theorem d_M_init_116 : decode b_M_init 116 = .ok (.bipush 10, 2) := by decide +kernel
theorem d_M_init_118 : decode b_M_init 118 = .ok (.newarray .boolean, 2) := by decide +kernel
theorem d_M_init_120 : decode b_M_init 120 = .ok (.putfield 54, 3) := by decide +kernel
theorem d_M_init_123 : decode b_M_init 123 = .ok (.aload_n 0, 1) := by decide +kernel
theorem d_M_init_124 : decode b_M_init 124 = .ok (.bipush 10, 2) := by decide +kernel
theorem d_M_init_126 : decode b_M_init 126 = .ok (.newarray .boolean, 2) := by decide +kernel
theorem d_M_init_128 : decode b_M_init 128 = .ok (.putfield 57, 3) := by decide +kernel
theorem d_M_init_131 : decode b_M_init 131 = .ok (.aload_n 0, 1) := by decide +kernel
theorem d_M_init_132 : decode b_M_init 132 = .ok (.bipush 60, 2) := by decide +kernel
theorem d_M_init_134 : decode b_M_init 134 = .ok (.newarray .boolean, 2) := by decide +kernel
theorem d_M_init_136 : decode b_M_init 136 = .ok (.putfield 60, 3) := by decide +kernel
theorem d_M_init_139 : decode b_M_init 139 = .ok (.aload_n 0, 1) := by decide +kernel
theorem d_M_init_140 : decode b_M_init 140 = .ok (.iload_n 1, 1) := by decide +kernel
theorem d_M_init_141 : decode b_M_init 141 = .ok (.iconst 1, 1) := by decide +kernel
theorem d_M_init_142 : decode b_M_init 142 = .ok (.if_icmp .ge 7, 3) := by decide +kernel
theorem d_M_init_145 : decode b_M_init 145 = .ok (.iconst 1, 1) := by decide +kernel
theorem d_M_init_146 : decode b_M_init 146 = .ok (.goto 17, 3) := by decide +kernel
theorem d_M_init_149 : decode b_M_init 149 = .ok (.iload_n 1, 1) := by decide +kernel
theorem d_M_init_150 : decode b_M_init 150 = .ok (.sipush 500, 3) := by decide +kernel
theorem d_M_init_153 : decode b_M_init 153 = .ok (.if_icmp .le 9, 3) := by decide +kernel
theorem d_M_init_156 : decode b_M_init 156 = .ok (.sipush 500, 3) := by decide +kernel
theorem d_M_init_159 : decode b_M_init 159 = .ok (.goto 4, 3) := by decide +kernel
theorem d_M_init_162 : decode b_M_init 162 = .ok (.iload_n 1, 1) := by decide +kernel
theorem d_M_init_163 : decode b_M_init 163 = .ok (.putfield 63, 3) := by decide +kernel
theorem d_M_init_166 : decode b_M_init 166 = .ok (.aload_n 0, 1) := by decide +kernel
theorem d_M_init_167 : decode b_M_init 167 = .ok (.getfield 13, 3) := by decide +kernel
theorem d_M_init_170 : decode b_M_init 170 = .ok (.iconst 0, 1) := by decide +kernel
theorem d_M_init_171 : decode b_M_init 171 = .ok (.iconst (-1), 1) := by decide +kernel
theorem d_M_init_172 : decode b_M_init 172 = .ok (.iastore, 1) := by decide +kernel
theorem d_M_init_173 : decode b_M_init 173 = .ok (.return_, 1) := by decide +kernel
theorem d_M_isPath_0 : decode b_M_isPath 0 = .ok (.iload_n 1, 1) := by decide +kernel
theorem d_M_isPath_1 : decode b_M_isPath 1 = .ok (.ifCond .lt 15, 3) := by decide +kernel
theorem d_M_isPath_4 : decode b_M_isPath 4 = .ok (.iload_n 1, 1) := by decide +kernel
theorem d_M_isPath_5 : decode b_M_isPath 5 = .ok (.aload_n 0, 1) := by decide +kernel
theorem d_M_isPath_6 : decode b_M_isPath 6 = .ok (.getfield 7, 3) := by decide +kernel
theorem d_M_isPath_9 : decode b_M_isPath 9 = .ok (.if_icmp .ge 7, 3) := by decide +kernel
theorem d_M_isPath_12 : decode b_M_isPath 12 = .ok (.iconst 1, 1) := by decide +kernel
theorem d_M_isPath_13 : decode b_M_isPath 13 = .ok (.goto 4, 3) := by decide +kernel
theorem d_M_isPath_16 : decode b_M_isPath 16 = .ok (.iconst 0, 1) := by decide +kernel
theorem d_M_isPath_17 : decode b_M_isPath 17 = .ok (.ireturn, 1) := by decide +kernel
theorem d_M_isAction_0 : decode b_M_isAction 0 = .ok (.iload_n 1, 1) := by decide +kernel
theorem d_M_isAction_1 : decode b_M_isAction 1 = .ok (.ifCond .lt 15, 3) := by decide +kernel
theorem d_M_isAction_4 : decode b_M_isAction 4 = .ok (.iload_n 1, 1) := by decide +kernel
theorem d_M_isAction_5 : decode b_M_isAction 5 = .ok (.aload_n 0, 1) := by decide +kernel
theorem d_M_isAction_6 : decode b_M_isAction 6 = .ok (.getfield 69, 3) := by decide +kernel
theorem d_M_isAction_9 : decode b_M_isAction 9 = .ok (.if_icmp .ge 7, 3) := by decide +kernel
theorem d_M_isAction_12 : decode b_M_isAction 12 = .ok (.iconst 1, 1) := by decide +kernel
theorem d_M_isAction_13 : decode b_M_isAction 13 = .ok (.goto 4, 3) := by decide +kernel
theorem d_M_isAction_16 : decode b_M_isAction 16 = .ok (.iconst 0, 1) := by decide +kernel
theorem d_M_isAction_17 : decode b_M_isAction 17 = .ok (.ireturn, 1) := by decide +kernel
theorem d_M_lower_0 : decode b_M_lower 0 = .ok (.iload_n 0, 1) := by decide +kernel
theorem d_M_lower_1 : decode b_M_lower 1 = .ok (.bipush 65, 2) := by decide +kernel
theorem d_M_lower_3 : decode b_M_lower 3 = .ok (.if_icmp .lt 16, 3) := by decide +kernel
theorem d_M_lower_6 : decode b_M_lower 6 = .ok (.iload_n 0, 1) := by decide +kernel
theorem d_M_lower_7 : decode b_M_lower 7 = .ok (.bipush 90, 2) := by decide +kernel
theorem d_M_lower_9 : decode b_M_lower 9 = .ok (.if_icmp .gt 10, 3) := by decide +kernel
theorem d_M_lower_12 : decode b_M_lower 12 = .ok (.iload_n 0, 1) := by decide +kernel
theorem d_M_lower_13 : decode b_M_lower 13 = .ok (.bipush 32, 2) := by decide +kernel
theorem d_M_lower_15 : decode b_M_lower 15 = .ok (.iadd, 1) := by decide +kernel
theorem d_M_lower_16 : decode b_M_lower 16 = .ok (.goto 4, 3) := by decide +kernel
theorem d_M_lower_19 : decode b_M_lower 19 = .ok (.iload_n 0, 1) := by decide +kernel
theorem d_M_lower_20 : decode b_M_lower 20 = .ok (.ireturn, 1) := by decide +kernel
