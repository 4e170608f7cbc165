theorem d_Mo_init_0 : decode b_Mo_init 0 = .ok (.aload_n 0, 1) := by decide +kernel
theorem d_Mo_init_1 : decode b_Mo_init 1 = .ok (.invokespecial 1, 3) := by decide +kernel
theorem d_Mo_init_4 : decode b_Mo_init 4 = .ok (.aload_n 0, 1) := by decide +kernel
theorem d_Mo_init_5 : decode b_Mo_init 5 = .ok (.sipush 1024, 3) := by decide +kernel
theorem d_Mo_init_8 : decode b_Mo_init 8 = .ok (.newarray .int, 2) := by decide +kernel
theorem d_Mo_init_10 : decode b_Mo_init 10 = .ok (.putfield 7, 3) := by decide +kernel
theorem d_Mo_init_13 : decode b_Mo_init 13 = .ok (.aload_n 0, 1) := by decide +kernel
theorem d_Mo_init_14 : decode b_Mo_init 14 = .ok (.sipush 1024, 3) := by decide +kernel
theorem d_Mo_init_17 : decode b_Mo_init 17 = .ok (.newarray .int, 2) := by decide +kernel
theorem d_Mo_init_19 : decode b_Mo_init 19 = .ok (.putfield 13, 3) := by decide +kernel
theorem d_Mo_init_22 : decode b_Mo_init 22 = .ok (.aload_n 0, 1) := by decide +kernel
theorem d_Mo_init_23 : decode b_Mo_init 23 = .ok (.sipush 1024, 3) := by decide +kernel
theorem d_Mo_init_26 : decode b_Mo_init 26 = .ok (.newarray .int, 2) := by decide +kernel
theorem d_Mo_init_28 : decode b_Mo_init 28 = .ok (.putfield 16, 3) := by decide +kernel
theorem d_Mo_init_31 : decode b_Mo_init 31 = .ok (.aload_n 0, 1) := by decide +kernel
theorem d_Mo_init_32 : decode b_Mo_init 32 = .ok (.sipush 1024, 3) := by decide +kernel
theorem d_Mo_init_35 : decode b_Mo_init 35 = .ok (.sipush 256, 3) := by decide +kernel
theorem d_Mo_init_38 : decode b_Mo_init 38 = .ok (.sipush 128, 3) := by decide +kernel
theorem d_Mo_init_41 : decode b_Mo_init 41 = .ok (.sipush 256, 3) := by decide +kernel
theorem d_Mo_init_44 : decode b_Mo_init 44 = .ok (.iconst 2, 1) := by decide +kernel
theorem d_Mo_init_45 : decode b_Mo_init 45 = .ok (.invokevirtual 19, 3) := by decide +kernel
theorem d_Mo_init_48 : decode b_Mo_init 48 = .ok (.istore_n 1, 1) := by decide +kernel
theorem d_Mo_init_49 : decode b_Mo_init 49 = .ok (.return_, 1) := by decide +kernel
theorem d_Mo_rowOf_0 : decode b_Mo_rowOf 0 = .ok (.iload_n 1, 1) := by decide +kernel
theorem d_Mo_rowOf_1 : decode b_Mo_rowOf 1 = .ok (.ifCond .ne 10, 3) := by decide +kernel
theorem d_Mo_rowOf_4 : decode b_Mo_rowOf 4 = .ok (.aload_n 0, 1) := by decide +kernel
theorem d_Mo_rowOf_5 : decode b_Mo_rowOf 5 = .ok (.getfield 7, 3) := by decide +kernel
theorem d_Mo_rowOf_8 : decode b_Mo_rowOf 8 = .ok (.goto 7, 3) := by decide +kernel
theorem d_Mo_rowOf_11 : decode b_Mo_rowOf 11 = .ok (.aload_n 0, 1) := by decide +kernel
theorem d_Mo_rowOf_12 : decode b_Mo_rowOf 12 = .ok (.getfield 13, 3) := by decide +kernel
theorem d_Mo_rowOf_15 : decode b_Mo_rowOf 15 = .ok (.areturn, 1) := by decide +kernel
theorem d_Mo_isRow_0 : decode b_Mo_isRow 0 = .ok (.iload_n 0, 1) := by decide +kernel
theorem d_Mo_isRow_1 : decode b_Mo_isRow 1 = .ok (.ifCond .eq 8, 3) := by decide +kernel
theorem d_Mo_isRow_4 : decode b_Mo_isRow 4 = .ok (.iload_n 0, 1) := by decide +kernel
theorem d_Mo_isRow_5 : decode b_Mo_isRow 5 = .ok (.iconst 1, 1) := by decide +kernel
theorem d_Mo_isRow_6 : decode b_Mo_isRow 6 = .ok (.if_icmp .ne 7, 3) := by decide +kernel
theorem d_Mo_isRow_9 : decode b_Mo_isRow 9 = .ok (.iconst 1, 1) := by decide +kernel
theorem d_Mo_isRow_10 : decode b_Mo_isRow 10 = .ok (.goto 4, 3) := by decide +kernel
theorem d_Mo_isRow_13 : decode b_Mo_isRow 13 = .ok (.iconst 0, 1) := by decide +kernel
theorem d_Mo_isRow_14 : decode b_Mo_isRow 14 = .ok (.ireturn, 1) := by decide +kernel
theorem d_Mo_field_0 : decode b_Mo_field 0 = .ok (.lconst 0, 1) := by decide +kernel
theorem d_Mo_field_1 : decode b_Mo_field 1 = .ok (.lstore_n 3, 1) := by decide +kernel
theorem d_Mo_field_2 : decode b_Mo_field 2 = .ok (.iload_n 2, 1) := by decide +kernel
theorem d_Mo_field_3 : decode b_Mo_field 3 = .ok (.iconst 1, 1) := by decide +kernel
theorem d_Mo_field_4 : decode b_Mo_field 4 = .ok (.isub, 1) := by decide +kernel
theorem d_Mo_field_5 : decode b_Mo_field 5 = .ok (.istore 5, 2) := by decide +kernel
theorem d_Mo_field_7 : decode b_Mo_field 7 = .ok (.iload 5, 2) := by decide +kernel
theorem d_Mo_field_9 : decode b_Mo_field 9 = .ok (.ifCond .lt 23, 3) := by decide +kernel
theorem d_Mo_field_12 : decode b_Mo_field 12 = .ok (.ldc2_w 23, 3) := by decide +kernel
theorem d_Mo_field_15 : decode b_Mo_field 15 = .ok (.lload_n 3, 1) := by decide +kernel
theorem d_Mo_field_16 : decode b_Mo_field 16 = .ok (.lmul, 1) := by decide +kernel
theorem d_Mo_field_17 : decode b_Mo_field 17 = .ok (.aload_n 0, 1) := by decide +kernel
theorem d_Mo_field_18 : decode b_Mo_field 18 = .ok (.iload_n 1, 1) := by decide +kernel
theorem d_Mo_field_19 : decode b_Mo_field 19 = .ok (.iload 5, 2) := by decide +kernel
theorem d_Mo_field_21 : decode b_Mo_field 21 = .ok (.iadd, 1) := by decide +kernel
theorem d_Mo_field_22 : decode b_Mo_field 22 = .ok (.iaload, 1) := by decide +kernel
theorem d_Mo_field_23 : decode b_Mo_field 23 = .ok (.i2l, 1) := by decide +kernel
theorem d_Mo_field_24 : decode b_Mo_field 24 = .ok (.ladd, 1) := by decide +kernel
theorem d_Mo_field_25 : decode b_Mo_field 25 = .ok (.lstore_n 3, 1) := by decide +kernel
theorem d_Mo_field_26 : decode b_Mo_field 26 = .ok (.iinc 5 (-1), 3) := by decide +kernel
theorem d_Mo_field_29 : decode b_Mo_field 29 = .ok (.goto (-22), 3) := by decide +kernel
theorem d_Mo_field_32 : decode b_Mo_field 32 = .ok (.lload_n 3, 1) := by decide +kernel
theorem d_Mo_field_33 : decode b_Mo_field 33 = .ok (.lreturn, 1) := by decide +kernel
theorem d_Mo_set_0 : decode b_Mo_set 0 = .ok (.iconst 0, 1) := by decide +kernel
theorem d_Mo_set_1 : decode b_Mo_set 1 = .ok (.istore 5, 2) := by decide +kernel
theorem d_Mo_set_3 : decode b_Mo_set 3 = .ok (.iload 5, 2) := by decide +kernel
theorem d_Mo_set_5 : decode b_Mo_set 5 = .ok (.iload_n 2, 1) := by decide +kernel
theorem d_Mo_set_6 : decode b_Mo_set 6 = .ok (.if_icmp .ge 27, 3) := by decide +kernel
theorem d_Mo_set_9 : decode b_Mo_set 9 = .ok (.aload_n 0, 1) := by decide +kernel
theorem d_Mo_set_10 : decode b_Mo_set 10 = .ok (.iload_n 1, 1) := by decide +kernel
theorem d_Mo_set_11 : decode b_Mo_set 11 = .ok (.iload 5, 2) := by decide +kernel
theorem d_Mo_set_13 : decode b_Mo_set 13 = .ok (.iadd, 1) := by decide +kernel
theorem d_Mo_set_14 : decode b_Mo_set 14 = .ok (.lload_n 3, 1) := by decide +kernel
theorem d_Mo_set_15 : decode b_Mo_set 15 = .ok (.bipush 8, 2) := by decide +kernel
theorem d_Mo_set_17 : decode b_Mo_set 17 = .ok (.iload 5, 2) := by decide +kernel
theorem d_Mo_set_19 : decode b_Mo_set 19 = .ok (.imul, 1) := by decide +kernel
theorem d_Mo_set_20 : decode b_Mo_set 20 = .ok (.lshr, 1) := by decide +kernel
theorem d_Mo_set_21 : decode b_Mo_set 21 = .ok (.ldc2_w 25, 3) := by decide +kernel
theorem d_Mo_set_24 : decode b_Mo_set 24 = .ok (.land, 1) := by decide +kernel
theorem d_Mo_set_25 : decode b_Mo_set 25 = .ok (.l2i, 1) := by decide +kernel
theorem d_Mo_set_26 : decode b_Mo_set 26 = .ok (.iastore, 1) := by decide +kernel
theorem d_Mo_set_27 : decode b_Mo_set 27 = .ok (.iinc 5 1, 3) := by decide +kernel
theorem d_Mo_set_30 : decode b_Mo_set 30 = .ok (.goto (-27), 3) := by decide +kernel
theorem d_Mo_set_33 : decode b_Mo_set 33 = .ok (.return_, 1) := by decide +kernel
theorem d_Mo_has_0 : decode b_Mo_has 0 = .ok (.aload_n 0, 1) := by decide +kernel
theorem d_Mo_has_1 : decode b_Mo_has 1 = .ok (.iload_n 1, 1) := by decide +kernel
theorem d_Mo_has_2 : decode b_Mo_has 2 = .ok (.iconst 4, 1) := by decide +kernel
theorem d_Mo_has_3 : decode b_Mo_has 3 = .ok (.invokestatic 27, 3) := by decide +kernel
theorem d_Mo_has_6 : decode b_Mo_has 6 = .ok (.iload_n 2, 1) := by decide +kernel
theorem d_Mo_has_7 : decode b_Mo_has 7 = .ok (.lshr, 1) := by decide +kernel
theorem d_Mo_has_8 : decode b_Mo_has 8 = .ok (.lconst 1, 1) := by decide +kernel
theorem d_Mo_has_9 : decode b_Mo_has 9 = .ok (.land, 1) := by decide +kernel
theorem d_Mo_has_10 : decode b_Mo_has 10 = .ok (.lconst 1, 1) := by decide +kernel
theorem d_Mo_has_11 : decode b_Mo_has 11 = .ok (.lcmp, 1) := by decide +kernel
theorem d_Mo_has_12 : decode b_Mo_has 12 = .ok (.ifCond .ne 7, 3) := by decide +kernel
theorem d_Mo_has_15 : decode b_Mo_has 15 = .ok (.iconst 1, 1) := by decide +kernel
theorem d_Mo_has_16 : decode b_Mo_has 16 = .ok (.goto 4, 3) := by decide +kernel
theorem d_Mo_has_19 : decode b_Mo_has 19 = .ok (.iconst 0, 1) := by decide +kernel
theorem d_Mo_has_20 : decode b_Mo_has 20 = .ok (.ireturn, 1) := by decide +kernel
theorem d_Mo_up_0 : decode b_Mo_up 0 = .ok (.lload_n 0, 1) := by decide +kernel
theorem d_Mo_up_1 : decode b_Mo_up 1 = .ok (.lload_n 2, 1) := by decide +kernel
theorem d_Mo_up_2 : decode b_Mo_up 2 = .ok (.ladd, 1) := by decide +kernel
theorem d_Mo_up_3 : decode b_Mo_up 3 = .ok (.lconst 1, 1) := by decide +kernel
theorem d_Mo_up_4 : decode b_Mo_up 4 = .ok (.lsub, 1) := by decide +kernel
theorem d_Mo_up_5 : decode b_Mo_up 5 = .ok (.lload_n 2, 1) := by decide +kernel
theorem d_Mo_up_6 : decode b_Mo_up 6 = .ok (.ldiv, 1) := by decide +kernel
theorem d_Mo_up_7 : decode b_Mo_up 7 = .ok (.lreturn, 1) := by decide +kernel
theorem d_Mo_sizeOf_0 : decode b_Mo_sizeOf 0 = .ok (.ldc2_w 31, 3) := by decide +kernel
theorem d_Mo_sizeOf_3 : decode b_Mo_sizeOf 3 = .ok (.aload_n 0, 1) := by decide +kernel
theorem d_Mo_sizeOf_4 : decode b_Mo_sizeOf 4 = .ok (.bipush 24, 2) := by decide +kernel
theorem d_Mo_sizeOf_6 : decode b_Mo_sizeOf 6 = .ok (.iconst 4, 1) := by decide +kernel
theorem d_Mo_sizeOf_7 : decode b_Mo_sizeOf 7 = .ok (.invokestatic 27, 3) := by decide +kernel
theorem d_Mo_sizeOf_10 : decode b_Mo_sizeOf 10 = .ok (.l2i, 1) := by decide +kernel
theorem d_Mo_sizeOf_11 : decode b_Mo_sizeOf 11 = .ok (.lshl, 1) := by decide +kernel
theorem d_Mo_sizeOf_12 : decode b_Mo_sizeOf 12 = .ok (.lreturn, 1) := by decide +kernel
theorem d_Mo_groupsOf_0 : decode b_Mo_groupsOf 0 = .ok (.aload_n 0, 1) := by decide +kernel
theorem d_Mo_groupsOf_1 : decode b_Mo_groupsOf 1 = .ok (.iconst 4, 1) := by decide +kernel
theorem d_Mo_groupsOf_2 : decode b_Mo_groupsOf 2 = .ok (.iconst 4, 1) := by decide +kernel
theorem d_Mo_groupsOf_3 : decode b_Mo_groupsOf 3 = .ok (.invokestatic 27, 3) := by decide +kernel
theorem d_Mo_groupsOf_6 : decode b_Mo_groupsOf 6 = .ok (.aload_n 0, 1) := by decide +kernel
theorem d_Mo_groupsOf_7 : decode b_Mo_groupsOf 7 = .ok (.bipush 20, 2) := by decide +kernel
theorem d_Mo_groupsOf_9 : decode b_Mo_groupsOf 9 = .ok (.iconst 4, 1) := by decide +kernel
theorem d_Mo_groupsOf_10 : decode b_Mo_groupsOf 10 = .ok (.invokestatic 27, 3) := by decide +kernel
theorem d_Mo_groupsOf_13 : decode b_Mo_groupsOf 13 = .ok (.lsub, 1) := by decide +kernel
theorem d_Mo_groupsOf_14 : decode b_Mo_groupsOf 14 = .ok (.aload_n 0, 1) := by decide +kernel
theorem d_Mo_groupsOf_15 : decode b_Mo_groupsOf 15 = .ok (.bipush 32, 2) := by decide +kernel
theorem d_Mo_groupsOf_17 : decode b_Mo_groupsOf 17 = .ok (.iconst 4, 1) := by decide +kernel
theorem d_Mo_groupsOf_18 : decode b_Mo_groupsOf 18 = .ok (.invokestatic 27, 3) := by decide +kernel
theorem d_Mo_groupsOf_21 : decode b_Mo_groupsOf 21 = .ok (.invokestatic 33, 3) := by decide +kernel
theorem d_Mo_groupsOf_24 : decode b_Mo_groupsOf 24 = .ok (.lreturn, 1) := by decide +kernel
theorem d_Mo_isPower_0 : decode b_Mo_isPower 0 = .ok (.lconst 1, 1) := by decide +kernel
theorem d_Mo_isPower_1 : decode b_Mo_isPower 1 = .ok (.lstore 4, 2) := by decide +kernel
theorem d_Mo_isPower_3 : decode b_Mo_isPower 3 = .ok (.lload 4, 2) := by decide +kernel
theorem d_Mo_isPower_5 : decode b_Mo_isPower 5 = .ok (.lload_n 0, 1) := by decide +kernel
theorem d_Mo_isPower_6 : decode b_Mo_isPower 6 = .ok (.lcmp, 1) := by decide +kernel
theorem d_Mo_isPower_7 : decode b_Mo_isPower 7 = .ok (.ifCond .ge 12, 3) := by decide +kernel
theorem d_Mo_isPower_10 : decode b_Mo_isPower 10 = .ok (.lload 4, 2) := by decide +kernel
theorem d_Mo_isPower_12 : decode b_Mo_isPower 12 = .ok (.lload_n 2, 1) := by decide +kernel
theorem d_Mo_isPower_13 : decode b_Mo_isPower 13 = .ok (.lmul, 1) := by decide +kernel
theorem d_Mo_isPower_14 : decode b_Mo_isPower 14 = .ok (.lstore 4, 2) := by decide +kernel
theorem d_Mo_isPower_16 : decode b_Mo_isPower 16 = .ok (.goto (-13), 3) := by decide +kernel
theorem d_Mo_isPower_19 : decode b_Mo_isPower 19 = .ok (.lload 4, 2) := by decide +kernel
theorem d_Mo_isPower_21 : decode b_Mo_isPower 21 = .ok (.lload_n 0, 1) := by decide +kernel
theorem d_Mo_isPower_22 : decode b_Mo_isPower 22 = .ok (.lcmp, 1) := by decide +kernel
theorem d_Mo_isPower_23 : decode b_Mo_isPower 23 = .ok (.ifCond .ne 7, 3) := by decide +kernel
theorem d_Mo_isPower_26 : decode b_Mo_isPower 26 = .ok (.iconst 1, 1) := by decide +kernel
theorem d_Mo_isPower_27 : decode b_Mo_isPower 27 = .ok (.goto 4, 3) := by decide +kernel
theorem d_Mo_isPower_30 : decode b_Mo_isPower 30 = .ok (.iconst 0, 1) := by decide +kernel
theorem d_Mo_isPower_31 : decode b_Mo_isPower 31 = .ok (.ireturn, 1) := by decide +kernel
theorem d_Mo_hasCopy_0 : decode b_Mo_hasCopy 0 = .ok (.aload_n 0, 1) := by decide +kernel
theorem d_Mo_hasCopy_1 : decode b_Mo_hasCopy 1 = .ok (.bipush 100, 2) := by decide +kernel
theorem d_Mo_hasCopy_3 : decode b_Mo_hasCopy 3 = .ok (.iconst 0, 1) := by decide +kernel
theorem d_Mo_hasCopy_4 : decode b_Mo_hasCopy 4 = .ok (.invokestatic 37, 3) := by decide +kernel
theorem d_Mo_hasCopy_7 : decode b_Mo_hasCopy 7 = .ok (.ifCond .eq 41, 3) := by decide +kernel
theorem d_Mo_hasCopy_10 : decode b_Mo_hasCopy 10 = .ok (.lload_n 1, 1) := by decide +kernel
theorem d_Mo_hasCopy_11 : decode b_Mo_hasCopy 11 = .ok (.ldc2_w 41, 3) := by decide +kernel
theorem d_Mo_hasCopy_14 : decode b_Mo_hasCopy 14 = .ok (.lcmp, 1) := by decide +kernel
theorem d_Mo_hasCopy_15 : decode b_Mo_hasCopy 15 = .ok (.ifCond .lt 33, 3) := by decide +kernel
theorem d_Mo_hasCopy_18 : decode b_Mo_hasCopy 18 = .ok (.lload_n 1, 1) := by decide +kernel
theorem d_Mo_hasCopy_19 : decode b_Mo_hasCopy 19 = .ok (.ldc2_w 43, 3) := by decide +kernel
theorem d_Mo_hasCopy_22 : decode b_Mo_hasCopy 22 = .ok (.invokestatic 45, 3) := by decide +kernel
theorem d_Mo_hasCopy_25 : decode b_Mo_hasCopy 25 = .ok (.ifCond .ne 23, 3) := by decide +kernel
theorem d_Mo_hasCopy_28 : decode b_Mo_hasCopy 28 = .ok (.lload_n 1, 1) := by decide +kernel
theorem d_Mo_hasCopy_29 : decode b_Mo_hasCopy 29 = .ok (.ldc2_w 49, 3) := by decide +kernel
theorem d_Mo_hasCopy_32 : decode b_Mo_hasCopy 32 = .ok (.invokestatic 45, 3) := by decide +kernel
theorem d_Mo_hasCopy_35 : decode b_Mo_hasCopy 35 = .ok (.ifCond .ne 13, 3) := by decide +kernel
theorem d_Mo_hasCopy_38 : decode b_Mo_hasCopy 38 = .ok (.lload_n 1, 1) := by decide +kernel
theorem d_Mo_hasCopy_39 : decode b_Mo_hasCopy 39 = .ok (.ldc2_w 51, 3) := by decide +kernel
theorem d_Mo_hasCopy_42 : decode b_Mo_hasCopy 42 = .ok (.invokestatic 45, 3) := by decide +kernel
theorem d_Mo_hasCopy_45 : decode b_Mo_hasCopy 45 = .ok (.ifCond .eq 7, 3) := by decide +kernel
theorem d_Mo_hasCopy_48 : decode b_Mo_hasCopy 48 = .ok (.iconst 1, 1) := by decide +kernel
theorem d_Mo_hasCopy_49 : decode b_Mo_hasCopy 49 = .ok (.goto 4, 3) := by decide +kernel
theorem d_Mo_hasCopy_52 : decode b_Mo_hasCopy 52 = .ok (.iconst 0, 1) := by decide +kernel
theorem d_Mo_hasCopy_53 : decode b_Mo_hasCopy 53 = .ok (.ireturn, 1) := by decide +kernel
theorem d_Mo_beginOf_0 : decode b_Mo_beginOf 0 = .ok (.aload_n 0, 1) := by decide +kernel
theorem d_Mo_beginOf_1 : decode b_Mo_beginOf 1 = .ok (.bipush 20, 2) := by decide +kernel
theorem d_Mo_beginOf_3 : decode b_Mo_beginOf 3 = .ok (.iconst 4, 1) := by decide +kernel
theorem d_Mo_beginOf_4 : decode b_Mo_beginOf 4 = .ok (.invokestatic 27, 3) := by decide +kernel
theorem d_Mo_beginOf_7 : decode b_Mo_beginOf 7 = .ok (.lload_n 1, 1) := by decide +kernel
theorem d_Mo_beginOf_8 : decode b_Mo_beginOf 8 = .ok (.aload_n 0, 1) := by decide +kernel
theorem d_Mo_beginOf_9 : decode b_Mo_beginOf 9 = .ok (.bipush 32, 2) := by decide +kernel
theorem d_Mo_beginOf_11 : decode b_Mo_beginOf 11 = .ok (.iconst 4, 1) := by decide +kernel
theorem d_Mo_beginOf_12 : decode b_Mo_beginOf 12 = .ok (.invokestatic 27, 3) := by decide +kernel
theorem d_Mo_beginOf_15 : decode b_Mo_beginOf 15 = .ok (.lmul, 1) := by decide +kernel
theorem d_Mo_beginOf_16 : decode b_Mo_beginOf 16 = .ok (.ladd, 1) := by decide +kernel
theorem d_Mo_beginOf_17 : decode b_Mo_beginOf 17 = .ok (.lreturn, 1) := by decide +kernel
theorem d_Mo_blocksOf_0 : decode b_Mo_blocksOf 0 = .ok (.aload_n 0, 1) := by decide +kernel
theorem d_Mo_blocksOf_1 : decode b_Mo_blocksOf 1 = .ok (.iconst 4, 1) := by decide +kernel
theorem d_Mo_blocksOf_2 : decode b_Mo_blocksOf 2 = .ok (.iconst 4, 1) := by decide +kernel
theorem d_Mo_blocksOf_3 : decode b_Mo_blocksOf 3 = .ok (.invokestatic 27, 3) := by decide +kernel
theorem d_Mo_blocksOf_6 : decode b_Mo_blocksOf 6 = .ok (.aload_n 0, 1) := by decide +kernel
theorem d_Mo_blocksOf_7 : decode b_Mo_blocksOf 7 = .ok (.lload_n 1, 1) := by decide +kernel
theorem d_Mo_blocksOf_8 : decode b_Mo_blocksOf 8 = .ok (.invokestatic 53, 3) := by decide +kernel
theorem d_Mo_blocksOf_11 : decode b_Mo_blocksOf 11 = .ok (.lsub, 1) := by decide +kernel
theorem d_Mo_blocksOf_12 : decode b_Mo_blocksOf 12 = .ok (.lstore_n 3, 1) := by decide +kernel
theorem d_Mo_blocksOf_13 : decode b_Mo_blocksOf 13 = .ok (.lload_n 3, 1) := by decide +kernel
theorem d_Mo_blocksOf_14 : decode b_Mo_blocksOf 14 = .ok (.aload_n 0, 1) := by decide +kernel
theorem d_Mo_blocksOf_15 : decode b_Mo_blocksOf 15 = .ok (.bipush 32, 2) := by decide +kernel
theorem d_Mo_blocksOf_17 : decode b_Mo_blocksOf 17 = .ok (.iconst 4, 1) := by decide +kernel
theorem d_Mo_blocksOf_18 : decode b_Mo_blocksOf 18 = .ok (.invokestatic 27, 3) := by decide +kernel
theorem d_Mo_blocksOf_21 : decode b_Mo_blocksOf 21 = .ok (.lcmp, 1) := by decide +kernel
theorem d_Mo_blocksOf_22 : decode b_Mo_blocksOf 22 = .ok (.ifCond .ge 7, 3) := by decide +kernel
theorem d_Mo_blocksOf_25 : decode b_Mo_blocksOf 25 = .ok (.lload_n 3, 1) := by decide +kernel
theorem d_Mo_blocksOf_26 : decode b_Mo_blocksOf 26 = .ok (.goto 10, 3) := by decide +kernel
theorem d_Mo_blocksOf_29 : decode b_Mo_blocksOf 29 = .ok (.aload_n 0, 1) := by decide +kernel
theorem d_Mo_blocksOf_30 : decode b_Mo_blocksOf 30 = .ok (.bipush 32, 2) := by decide +kernel
theorem d_Mo_blocksOf_32 : decode b_Mo_blocksOf 32 = .ok (.iconst 4, 1) := by decide +kernel
theorem d_Mo_blocksOf_33 : decode b_Mo_blocksOf 33 = .ok (.invokestatic 27, 3) := by decide +kernel
theorem d_Mo_blocksOf_36 : decode b_Mo_blocksOf 36 = .ok (.lreturn, 1) := by decide +kernel
theorem d_Mo_headOf_0 : decode b_Mo_headOf 0 = .ok (.aload_n 0, 1) := by decide +kernel
theorem d_Mo_headOf_1 : decode b_Mo_headOf 1 = .ok (.lload_n 1, 1) := by decide +kernel
theorem d_Mo_headOf_2 : decode b_Mo_headOf 2 = .ok (.invokestatic 57, 3) := by decide +kernel
theorem d_Mo_headOf_5 : decode b_Mo_headOf 5 = .ok (.ifCond .eq 23, 3) := by decide +kernel
theorem d_Mo_headOf_8 : decode b_Mo_headOf 8 = .ok (.lconst 1, 1) := by decide +kernel
theorem d_Mo_headOf_9 : decode b_Mo_headOf 9 = .ok (.ldc2_w 61, 3) := by decide +kernel
theorem d_Mo_headOf_12 : decode b_Mo_headOf 12 = .ok (.aload_n 0, 1) := by decide +kernel
theorem d_Mo_headOf_13 : decode b_Mo_headOf 13 = .ok (.invokestatic 63, 3) := by decide +kernel
theorem d_Mo_headOf_16 : decode b_Mo_headOf 16 = .ok (.lmul, 1) := by decide +kernel
theorem d_Mo_headOf_17 : decode b_Mo_headOf 17 = .ok (.aload_n 0, 1) := by decide +kernel
theorem d_Mo_headOf_18 : decode b_Mo_headOf 18 = .ok (.invokestatic 67, 3) := by decide +kernel
theorem d_Mo_headOf_21 : decode b_Mo_headOf 21 = .ok (.invokestatic 33, 3) := by decide +kernel
theorem d_Mo_headOf_24 : decode b_Mo_headOf 24 = .ok (.ladd, 1) := by decide +kernel
theorem d_Mo_headOf_25 : decode b_Mo_headOf 25 = .ok (.goto 4, 3) := by decide +kernel
theorem d_Mo_headOf_28 : decode b_Mo_headOf 28 = .ok (.lconst 0, 1) := by decide +kernel
theorem d_Mo_headOf_29 : decode b_Mo_headOf 29 = .ok (.lreturn, 1) := by decide +kernel
theorem d_Mo_recordBlocks_0 : decode b_Mo_recordBlocks 0 = .ok (.aload_n 0, 1) := by decide +kernel
theorem d_Mo_recordBlocks_1 : decode b_Mo_recordBlocks 1 = .ok (.bipush 40, 2) := by decide +kernel
theorem d_Mo_recordBlocks_3 : decode b_Mo_recordBlocks 3 = .ok (.iconst 4, 1) := by decide +kernel
theorem d_Mo_recordBlocks_4 : decode b_Mo_recordBlocks 4 = .ok (.invokestatic 27, 3) := by decide +kernel
theorem d_Mo_recordBlocks_7 : decode b_Mo_recordBlocks 7 = .ok (.aload_n 0, 1) := by decide +kernel
theorem d_Mo_recordBlocks_8 : decode b_Mo_recordBlocks 8 = .ok (.bipush 88, 2) := by decide +kernel
theorem d_Mo_recordBlocks_10 : decode b_Mo_recordBlocks 10 = .ok (.iconst 2, 1) := by decide +kernel
theorem d_Mo_recordBlocks_11 : decode b_Mo_recordBlocks 11 = .ok (.invokestatic 27, 3) := by decide +kernel
theorem d_Mo_recordBlocks_14 : decode b_Mo_recordBlocks 14 = .ok (.lmul, 1) := by decide +kernel
theorem d_Mo_recordBlocks_15 : decode b_Mo_recordBlocks 15 = .ok (.aload_n 0, 1) := by decide +kernel
theorem d_Mo_recordBlocks_16 : decode b_Mo_recordBlocks 16 = .ok (.invokestatic 67, 3) := by decide +kernel
theorem d_Mo_recordBlocks_19 : decode b_Mo_recordBlocks 19 = .ok (.invokestatic 33, 3) := by decide +kernel
theorem d_Mo_recordBlocks_22 : decode b_Mo_recordBlocks 22 = .ok (.lreturn, 1) := by decide +kernel
theorem d_Mo_fixedOf_0 : decode b_Mo_fixedOf 0 = .ok (.aload_n 0, 1) := by decide +kernel
theorem d_Mo_fixedOf_1 : decode b_Mo_fixedOf 1 = .ok (.lload_n 1, 1) := by decide +kernel
theorem d_Mo_fixedOf_2 : decode b_Mo_fixedOf 2 = .ok (.invokestatic 70, 3) := by decide +kernel
theorem d_Mo_fixedOf_5 : decode b_Mo_fixedOf 5 = .ok (.ldc2_w 41, 3) := by decide +kernel
theorem d_Mo_fixedOf_8 : decode b_Mo_fixedOf 8 = .ok (.ladd, 1) := by decide +kernel
theorem d_Mo_fixedOf_9 : decode b_Mo_fixedOf 9 = .ok (.aload_n 0, 1) := by decide +kernel
theorem d_Mo_fixedOf_10 : decode b_Mo_fixedOf 10 = .ok (.invokestatic 73, 3) := by decide +kernel
theorem d_Mo_fixedOf_13 : decode b_Mo_fixedOf 13 = .ok (.ladd, 1) := by decide +kernel
theorem d_Mo_fixedOf_14 : decode b_Mo_fixedOf 14 = .ok (.lreturn, 1) := by decide +kernel
theorem d_Mo_isIn_0 : decode b_Mo_isIn 0 = .ok (.lload_n 0, 1) := by decide +kernel
theorem d_Mo_isIn_1 : decode b_Mo_isIn 1 = .ok (.lload_n 2, 1) := by decide +kernel
theorem d_Mo_isIn_2 : decode b_Mo_isIn 2 = .ok (.lcmp, 1) := by decide +kernel
theorem d_Mo_isIn_3 : decode b_Mo_isIn 3 = .ok (.ifCond .lt 14, 3) := by decide +kernel
theorem d_Mo_isIn_6 : decode b_Mo_isIn 6 = .ok (.lload_n 0, 1) := by decide +kernel
theorem d_Mo_isIn_7 : decode b_Mo_isIn 7 = .ok (.lload 4, 2) := by decide +kernel
theorem d_Mo_isIn_9 : decode b_Mo_isIn 9 = .ok (.lcmp, 1) := by decide +kernel
theorem d_Mo_isIn_10 : decode b_Mo_isIn 10 = .ok (.ifCond .gt 7, 3) := by decide +kernel
theorem d_Mo_isIn_13 : decode b_Mo_isIn 13 = .ok (.iconst 1, 1) := by decide +kernel
theorem d_Mo_isIn_14 : decode b_Mo_isIn 14 = .ok (.goto 4, 3) := by decide +kernel
theorem d_Mo_isIn_17 : decode b_Mo_isIn 17 = .ok (.iconst 0, 1) := by decide +kernel
theorem d_Mo_isIn_18 : decode b_Mo_isIn 18 = .ok (.ireturn, 1) := by decide +kernel
theorem d_Mo_faultOfSizes_0 : decode b_Mo_faultOfSizes 0 = .ok (.aload_n 0, 1) := by decide +kernel
theorem d_Mo_faultOfSizes_1 : decode b_Mo_faultOfSizes 1 = .ok (.bipush 56, 2) := by decide +kernel
theorem d_Mo_faultOfSizes_3 : decode b_Mo_faultOfSizes 3 = .ok (.iconst 2, 1) := by decide +kernel
theorem d_Mo_faultOfSizes_4 : decode b_Mo_faultOfSizes 4 = .ok (.invokestatic 27, 3) := by decide +kernel
theorem d_Mo_faultOfSizes_7 : decode b_Mo_faultOfSizes 7 = .ok (.ldc2_w 76, 3) := by decide +kernel
theorem d_Mo_faultOfSizes_10 : decode b_Mo_faultOfSizes 10 = .ok (.lcmp, 1) := by decide +kernel
theorem d_Mo_faultOfSizes_11 : decode b_Mo_faultOfSizes 11 = .ok (.ifCond .eq 6, 3) := by decide +kernel
theorem d_Mo_faultOfSizes_14 : decode b_Mo_faultOfSizes 14 = .ok (.bipush 56, 2) := by decide +kernel
theorem d_Mo_faultOfSizes_16 : decode b_Mo_faultOfSizes 16 = .ok (.ireturn, 1) := by decide +kernel
theorem d_Mo_faultOfSizes_17 : decode b_Mo_faultOfSizes 17 = .ok (.aload_n 0, 1) := by decide +kernel
theorem d_Mo_faultOfSizes_18 : decode b_Mo_faultOfSizes 18 = .ok (.bipush 76, 2) := by decide +kernel
theorem d_Mo_faultOfSizes_20 : decode b_Mo_faultOfSizes 20 = .ok (.iconst 4, 1) := by decide +kernel
theorem d_Mo_faultOfSizes_21 : decode b_Mo_faultOfSizes 21 = .ok (.invokestatic 27, 3) := by decide +kernel
theorem d_Mo_faultOfSizes_24 : decode b_Mo_faultOfSizes 24 = .ok (.lconst 1, 1) := by decide +kernel
theorem d_Mo_faultOfSizes_25 : decode b_Mo_faultOfSizes 25 = .ok (.lcmp, 1) := by decide +kernel
theorem d_Mo_faultOfSizes_26 : decode b_Mo_faultOfSizes 26 = .ok (.ifCond .eq 6, 3) := by decide +kernel
theorem d_Mo_faultOfSizes_29 : decode b_Mo_faultOfSizes 29 = .ok (.bipush 76, 2) := by decide +kernel
theorem d_Mo_faultOfSizes_31 : decode b_Mo_faultOfSizes 31 = .ok (.ireturn, 1) := by decide +kernel
theorem d_Mo_faultOfSizes_32 : decode b_Mo_faultOfSizes 32 = .ok (.aload_n 0, 1) := by decide +kernel
theorem d_Mo_faultOfSizes_33 : decode b_Mo_faultOfSizes 33 = .ok (.bipush 24, 2) := by decide +kernel
theorem d_Mo_faultOfSizes_35 : decode b_Mo_faultOfSizes 35 = .ok (.iconst 4, 1) := by decide +kernel
theorem d_Mo_faultOfSizes_36 : decode b_Mo_faultOfSizes 36 = .ok (.invokestatic 27, 3) := by decide +kernel
theorem d_Mo_faultOfSizes_39 : decode b_Mo_faultOfSizes 39 = .ok (.lstore_n 1, 1) := by decide +kernel
theorem d_Mo_faultOfSizes_40 : decode b_Mo_faultOfSizes 40 = .ok (.lload_n 1, 1) := by decide +kernel
theorem d_Mo_faultOfSizes_41 : decode b_Mo_faultOfSizes 41 = .ok (.ldc2_w 41, 3) := by decide +kernel
theorem d_Mo_faultOfSizes_44 : decode b_Mo_faultOfSizes 44 = .ok (.lcmp, 1) := by decide +kernel
theorem d_Mo_faultOfSizes_45 : decode b_Mo_faultOfSizes 45 = .ok (.ifCond .le 6, 3) := by decide +kernel
theorem d_Mo_faultOfSizes_48 : decode b_Mo_faultOfSizes 48 = .ok (.bipush 24, 2) := by decide +kernel
theorem d_Mo_faultOfSizes_50 : decode b_Mo_faultOfSizes 50 = .ok (.ireturn, 1) := by decide +kernel
theorem d_Mo_faultOfSizes_51 : decode b_Mo_faultOfSizes 51 = .ok (.aload_n 0, 1) := by decide +kernel
theorem d_Mo_faultOfSizes_52 : decode b_Mo_faultOfSizes 52 = .ok (.bipush 28, 2) := by decide +kernel
theorem d_Mo_faultOfSizes_54 : decode b_Mo_faultOfSizes 54 = .ok (.iconst 4, 1) := by decide +kernel
theorem d_Mo_faultOfSizes_55 : decode b_Mo_faultOfSizes 55 = .ok (.invokestatic 27, 3) := by decide +kernel
theorem d_Mo_faultOfSizes_58 : decode b_Mo_faultOfSizes 58 = .ok (.lload_n 1, 1) := by decide +kernel
theorem d_Mo_faultOfSizes_59 : decode b_Mo_faultOfSizes 59 = .ok (.lcmp, 1) := by decide +kernel
theorem d_Mo_faultOfSizes_60 : decode b_Mo_faultOfSizes 60 = .ok (.ifCond .eq 6, 3) := by decide +kernel
theorem d_Mo_faultOfSizes_63 : decode b_Mo_faultOfSizes 63 = .ok (.bipush 28, 2) := by decide +kernel
theorem d_Mo_faultOfSizes_65 : decode b_Mo_faultOfSizes 65 = .ok (.ireturn, 1) := by decide +kernel
theorem d_Mo_faultOfSizes_66 : decode b_Mo_faultOfSizes 66 = .ok (.aload_n 0, 1) := by decide +kernel
theorem d_Mo_faultOfSizes_67 : decode b_Mo_faultOfSizes 67 = .ok (.bipush 20, 2) := by decide +kernel
theorem d_Mo_faultOfSizes_69 : decode b_Mo_faultOfSizes 69 = .ok (.iconst 4, 1) := by decide +kernel
theorem d_Mo_faultOfSizes_70 : decode b_Mo_faultOfSizes 70 = .ok (.invokestatic 27, 3) := by decide +kernel
theorem d_Mo_faultOfSizes_73 : decode b_Mo_faultOfSizes 73 = .ok (.lload_n 1, 1) := by decide +kernel
theorem d_Mo_faultOfSizes_74 : decode b_Mo_faultOfSizes 74 = .ok (.lconst 0, 1) := by decide +kernel
theorem d_Mo_faultOfSizes_75 : decode b_Mo_faultOfSizes 75 = .ok (.lcmp, 1) := by decide +kernel
theorem d_Mo_faultOfSizes_76 : decode b_Mo_faultOfSizes 76 = .ok (.ifCond .ne 7, 3) := by decide +kernel
theorem d_Mo_faultOfSizes_79 : decode b_Mo_faultOfSizes 79 = .ok (.lconst 1, 1) := by decide +kernel
theorem d_Mo_faultOfSizes_80 : decode b_Mo_faultOfSizes 80 = .ok (.goto 4, 3) := by decide +kernel
theorem d_Mo_faultOfSizes_83 : decode b_Mo_faultOfSizes 83 = .ok (.lconst 0, 1) := by decide +kernel
theorem d_Mo_faultOfSizes_84 : decode b_Mo_faultOfSizes 84 = .ok (.lcmp, 1) := by decide +kernel
theorem d_Mo_faultOfSizes_85 : decode b_Mo_faultOfSizes 85 = .ok (.ifCond .eq 6, 3) := by decide +kernel
theorem d_Mo_faultOfSizes_88 : decode b_Mo_faultOfSizes 88 = .ok (.bipush 20, 2) := by decide +kernel
theorem d_Mo_faultOfSizes_90 : decode b_Mo_faultOfSizes 90 = .ok (.ireturn, 1) := by decide +kernel
theorem d_Mo_faultOfSizes_91 : decode b_Mo_faultOfSizes 91 = .ok (.aload_n 0, 1) := by decide +kernel
theorem d_Mo_faultOfSizes_92 : decode b_Mo_faultOfSizes 92 = .ok (.invokestatic 67, 3) := by decide +kernel
theorem d_Mo_faultOfSizes_95 : decode b_Mo_faultOfSizes 95 = .ok (.lstore_n 3, 1) := by decide +kernel
theorem d_Mo_faultOfSizes_96 : decode b_Mo_faultOfSizes 96 = .ok (.aload_n 0, 1) := by decide +kernel
theorem d_Mo_faultOfSizes_97 : decode b_Mo_faultOfSizes 97 = .ok (.bipush 32, 2) := by decide +kernel
theorem d_Mo_faultOfSizes_99 : decode b_Mo_faultOfSizes 99 = .ok (.iconst 4, 1) := by decide +kernel
theorem d_Mo_faultOfSizes_100 : decode b_Mo_faultOfSizes 100 = .ok (.invokestatic 27, 3) := by decide +kernel
theorem d_Mo_faultOfSizes_103 : decode b_Mo_faultOfSizes 103 = .ok (.lstore 5, 2) := by decide +kernel
theorem d_Mo_faultOfSizes_105 : decode b_Mo_faultOfSizes 105 = .ok (.lload 5, 2) := by decide +kernel
theorem d_Mo_faultOfSizes_107 : decode b_Mo_faultOfSizes 107 = .ok (.ldc2_w 78, 3) := by decide +kernel
theorem d_Mo_faultOfSizes_110 : decode b_Mo_faultOfSizes 110 = .ok (.ldc2_w 80, 3) := by decide +kernel
theorem d_Mo_faultOfSizes_113 : decode b_Mo_faultOfSizes 113 = .ok (.lload_n 3, 1) := by decide +kernel
theorem d_Mo_faultOfSizes_114 : decode b_Mo_faultOfSizes 114 = .ok (.lmul, 1) := by decide +kernel
theorem d_Mo_faultOfSizes_115 : decode b_Mo_faultOfSizes 115 = .ok (.invokestatic 82, 3) := by decide +kernel
theorem d_Mo_faultOfSizes_118 : decode b_Mo_faultOfSizes 118 = .ok (.ifCond .eq 14, 3) := by decide +kernel
theorem d_Mo_faultOfSizes_121 : decode b_Mo_faultOfSizes 121 = .ok (.lload 5, 2) := by decide +kernel
theorem d_Mo_faultOfSizes_123 : decode b_Mo_faultOfSizes 123 = .ok (.ldc2_w 80, 3) := by decide +kernel
theorem d_Mo_faultOfSizes_126 : decode b_Mo_faultOfSizes 126 = .ok (.lrem, 1) := by decide +kernel
theorem d_Mo_faultOfSizes_127 : decode b_Mo_faultOfSizes 127 = .ok (.lconst 0, 1) := by decide +kernel
theorem d_Mo_faultOfSizes_128 : decode b_Mo_faultOfSizes 128 = .ok (.lcmp, 1) := by decide +kernel
theorem d_Mo_faultOfSizes_129 : decode b_Mo_faultOfSizes 129 = .ok (.ifCond .eq 6, 3) := by decide +kernel
theorem d_Mo_faultOfSizes_132 : decode b_Mo_faultOfSizes 132 = .ok (.bipush 32, 2) := by decide +kernel
theorem d_Mo_faultOfSizes_134 : decode b_Mo_faultOfSizes 134 = .ok (.ireturn, 1) := by decide +kernel
theorem d_Mo_faultOfSizes_135 : decode b_Mo_faultOfSizes 135 = .ok (.aload_n 0, 1) := by decide +kernel
theorem d_Mo_faultOfSizes_136 : decode b_Mo_faultOfSizes 136 = .ok (.bipush 36, 2) := by decide +kernel
theorem d_Mo_faultOfSizes_138 : decode b_Mo_faultOfSizes 138 = .ok (.iconst 4, 1) := by decide +kernel
theorem d_Mo_faultOfSizes_139 : decode b_Mo_faultOfSizes 139 = .ok (.invokestatic 27, 3) := by decide +kernel
theorem d_Mo_faultOfSizes_142 : decode b_Mo_faultOfSizes 142 = .ok (.lload 5, 2) := by decide +kernel
theorem d_Mo_faultOfSizes_144 : decode b_Mo_faultOfSizes 144 = .ok (.lcmp, 1) := by decide +kernel
theorem d_Mo_faultOfSizes_145 : decode b_Mo_faultOfSizes 145 = .ok (.ifCond .eq 6, 3) := by decide +kernel
theorem d_Mo_faultOfSizes_148 : decode b_Mo_faultOfSizes 148 = .ok (.bipush 36, 2) := by decide +kernel
theorem d_Mo_faultOfSizes_150 : decode b_Mo_faultOfSizes 150 = .ok (.ireturn, 1) := by decide +kernel
theorem d_Mo_faultOfSizes_151 : decode b_Mo_faultOfSizes 151 = .ok (.aload_n 0, 1) := by decide +kernel
theorem d_Mo_faultOfSizes_152 : decode b_Mo_faultOfSizes 152 = .ok (.bipush 88, 2) := by decide +kernel
theorem d_Mo_faultOfSizes_154 : decode b_Mo_faultOfSizes 154 = .ok (.iconst 2, 1) := by decide +kernel
theorem d_Mo_faultOfSizes_155 : decode b_Mo_faultOfSizes 155 = .ok (.invokestatic 27, 3) := by decide +kernel
theorem d_Mo_faultOfSizes_158 : decode b_Mo_faultOfSizes 158 = .ok (.lstore 7, 2) := by decide +kernel
theorem d_Mo_faultOfSizes_160 : decode b_Mo_faultOfSizes 160 = .ok (.lload 7, 2) := by decide +kernel
theorem d_Mo_faultOfSizes_162 : decode b_Mo_faultOfSizes 162 = .ok (.ldc2_w 86, 3) := by decide +kernel
theorem d_Mo_faultOfSizes_165 : decode b_Mo_faultOfSizes 165 = .ok (.lcmp, 1) := by decide +kernel
theorem d_Mo_faultOfSizes_166 : decode b_Mo_faultOfSizes 166 = .ok (.ifCond .eq 33, 3) := by decide +kernel
theorem d_Mo_faultOfSizes_169 : decode b_Mo_faultOfSizes 169 = .ok (.lload 7, 2) := by decide +kernel
theorem d_Mo_faultOfSizes_171 : decode b_Mo_faultOfSizes 171 = .ok (.ldc2_w 23, 3) := by decide +kernel
theorem d_Mo_faultOfSizes_174 : decode b_Mo_faultOfSizes 174 = .ok (.lcmp, 1) := by decide +kernel
theorem d_Mo_faultOfSizes_175 : decode b_Mo_faultOfSizes 175 = .ok (.ifCond .eq 24, 3) := by decide +kernel
theorem d_Mo_faultOfSizes_178 : decode b_Mo_faultOfSizes 178 = .ok (.lload 7, 2) := by decide +kernel
theorem d_Mo_faultOfSizes_180 : decode b_Mo_faultOfSizes 180 = .ok (.ldc2_w 88, 3) := by decide +kernel
theorem d_Mo_faultOfSizes_183 : decode b_Mo_faultOfSizes 183 = .ok (.lcmp, 1) := by decide +kernel
theorem d_Mo_faultOfSizes_184 : decode b_Mo_faultOfSizes 184 = .ok (.ifCond .eq 15, 3) := by decide +kernel
theorem d_Mo_faultOfSizes_187 : decode b_Mo_faultOfSizes 187 = .ok (.lload 7, 2) := by decide +kernel
theorem d_Mo_faultOfSizes_189 : decode b_Mo_faultOfSizes 189 = .ok (.ldc2_w 31, 3) := by decide +kernel
theorem d_Mo_faultOfSizes_192 : decode b_Mo_faultOfSizes 192 = .ok (.lcmp, 1) := by decide +kernel
theorem d_Mo_faultOfSizes_193 : decode b_Mo_faultOfSizes 193 = .ok (.ifCond .eq 6, 3) := by decide +kernel
theorem d_Mo_faultOfSizes_196 : decode b_Mo_faultOfSizes 196 = .ok (.bipush 88, 2) := by decide +kernel
theorem d_Mo_faultOfSizes_198 : decode b_Mo_faultOfSizes 198 = .ok (.ireturn, 1) := by decide +kernel
theorem d_Mo_faultOfSizes_199 : decode b_Mo_faultOfSizes 199 = .ok (.aload_n 0, 1) := by decide +kernel
theorem d_Mo_faultOfSizes_200 : decode b_Mo_faultOfSizes 200 = .ok (.bipush 40, 2) := by decide +kernel
theorem d_Mo_faultOfSizes_202 : decode b_Mo_faultOfSizes 202 = .ok (.iconst 4, 1) := by decide +kernel
theorem d_Mo_faultOfSizes_203 : decode b_Mo_faultOfSizes 203 = .ok (.invokestatic 27, 3) := by decide +kernel
theorem d_Mo_faultOfSizes_206 : decode b_Mo_faultOfSizes 206 = .ok (.lstore 9, 2) := by decide +kernel
theorem d_Mo_faultOfSizes_208 : decode b_Mo_faultOfSizes 208 = .ok (.lload 9, 2) := by decide +kernel
theorem d_Mo_faultOfSizes_210 : decode b_Mo_faultOfSizes 210 = .ok (.ldc2_w 90, 3) := by decide +kernel
theorem d_Mo_faultOfSizes_213 : decode b_Mo_faultOfSizes 213 = .ok (.ldc2_w 80, 3) := by decide +kernel
theorem d_Mo_faultOfSizes_216 : decode b_Mo_faultOfSizes 216 = .ok (.lload_n 3, 1) := by decide +kernel
theorem d_Mo_faultOfSizes_217 : decode b_Mo_faultOfSizes 217 = .ok (.lmul, 1) := by decide +kernel
theorem d_Mo_faultOfSizes_218 : decode b_Mo_faultOfSizes 218 = .ok (.invokestatic 82, 3) := by decide +kernel
theorem d_Mo_faultOfSizes_221 : decode b_Mo_faultOfSizes 221 = .ok (.ifCond .eq 31, 3) := by decide +kernel
theorem d_Mo_faultOfSizes_224 : decode b_Mo_faultOfSizes 224 = .ok (.lload 9, 2) := by decide +kernel
theorem d_Mo_faultOfSizes_226 : decode b_Mo_faultOfSizes 226 = .ok (.ldc2_w 80, 3) := by decide +kernel
theorem d_Mo_faultOfSizes_229 : decode b_Mo_faultOfSizes 229 = .ok (.lrem, 1) := by decide +kernel
theorem d_Mo_faultOfSizes_230 : decode b_Mo_faultOfSizes 230 = .ok (.lconst 0, 1) := by decide +kernel
theorem d_Mo_faultOfSizes_231 : decode b_Mo_faultOfSizes 231 = .ok (.lcmp, 1) := by decide +kernel
theorem d_Mo_faultOfSizes_232 : decode b_Mo_faultOfSizes 232 = .ok (.ifCond .ne 20, 3) := by decide +kernel
theorem d_Mo_faultOfSizes_235 : decode b_Mo_faultOfSizes 235 = .ok (.lload 9, 2) := by decide +kernel
theorem d_Mo_faultOfSizes_237 : decode b_Mo_faultOfSizes 237 = .ok (.lload 7, 2) := by decide +kernel
theorem d_Mo_faultOfSizes_239 : decode b_Mo_faultOfSizes 239 = .ok (.lmul, 1) := by decide +kernel
theorem d_Mo_faultOfSizes_240 : decode b_Mo_faultOfSizes 240 = .ok (.lload_n 3, 1) := by decide +kernel
theorem d_Mo_faultOfSizes_241 : decode b_Mo_faultOfSizes 241 = .ok (.lrem, 1) := by decide +kernel
theorem d_Mo_faultOfSizes_242 : decode b_Mo_faultOfSizes 242 = .ok (.lconst 0, 1) := by decide +kernel
theorem d_Mo_faultOfSizes_243 : decode b_Mo_faultOfSizes 243 = .ok (.lcmp, 1) := by decide +kernel
theorem d_Mo_faultOfSizes_244 : decode b_Mo_faultOfSizes 244 = .ok (.ifCond .ne 8, 3) := by decide +kernel
theorem d_Mo_faultOfSizes_247 : decode b_Mo_faultOfSizes 247 = .ok (.bipush (-2), 2) := by decide +kernel
theorem d_Mo_faultOfSizes_249 : decode b_Mo_faultOfSizes 249 = .ok (.goto 5, 3) := by decide +kernel
theorem d_Mo_faultOfSizes_252 : decode b_Mo_faultOfSizes 252 = .ok (.bipush 40, 2) := by decide +kernel
theorem d_Mo_faultOfSizes_254 : decode b_Mo_faultOfSizes 254 = .ok (.ireturn, 1) := by decide +kernel
