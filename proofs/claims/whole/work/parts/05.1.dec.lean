theorem d_FR_rowOf_0 : decode b_FR_rowOf 0 = .ok (.iload_n 1, 1) := by decide +kernel
theorem d_FR_rowOf_1 : decode b_FR_rowOf 1 = .ok (.ifCond .ne 8, 3) := by decide +kernel
theorem d_FR_rowOf_4 : decode b_FR_rowOf 4 = .ok (.aload_n 0, 1) := by decide +kernel
theorem d_FR_rowOf_5 : decode b_FR_rowOf 5 = .ok (.getfield 12, 3) := by decide +kernel
theorem d_FR_rowOf_8 : decode b_FR_rowOf 8 = .ok (.areturn, 1) := by decide +kernel
theorem d_FR_rowOf_9 : decode b_FR_rowOf 9 = .ok (.iload_n 1, 1) := by decide +kernel
theorem d_FR_rowOf_10 : decode b_FR_rowOf 10 = .ok (.iconst 1, 1) := by decide +kernel
theorem d_FR_rowOf_11 : decode b_FR_rowOf 11 = .ok (.if_icmp .ne 10, 3) := by decide +kernel
theorem d_FR_rowOf_14 : decode b_FR_rowOf 14 = .ok (.aload_n 0, 1) := by decide +kernel
theorem d_FR_rowOf_15 : decode b_FR_rowOf 15 = .ok (.getfield 16, 3) := by decide +kernel
theorem d_FR_rowOf_18 : decode b_FR_rowOf 18 = .ok (.goto 4, 3) := by decide +kernel
theorem d_FR_rowOf_21 : decode b_FR_rowOf 21 = .ok (.aconst_null, 1) := by decide +kernel
theorem d_FR_rowOf_22 : decode b_FR_rowOf 22 = .ok (.areturn, 1) := by decide +kernel
theorem d_FR_isGroupOfRightRow_0 : decode b_FR_isGroupOfRightRow 0 = .ok (.aload_n 0, 1) := by decide +kernel
theorem d_FR_isGroupOfRightRow_1 : decode b_FR_isGroupOfRightRow 1 = .ok (.getfield 25, 3) := by decide +kernel
theorem d_FR_isGroupOfRightRow_4 : decode b_FR_isGroupOfRightRow 4 = .ok (.aload_n 0, 1) := by decide +kernel
theorem d_FR_isGroupOfRightRow_5 : decode b_FR_isGroupOfRightRow 5 = .ok (.getfield 12, 3) := by decide +kernel
theorem d_FR_isGroupOfRightRow_8 : decode b_FR_isGroupOfRightRow 8 = .ok (.invokevirtual 56, 3) := by decide +kernel
theorem d_FR_isGroupOfRightRow_11 : decode b_FR_isGroupOfRightRow 11 = .ok (.bipush (-2), 2) := by decide +kernel
theorem d_FR_isGroupOfRightRow_13 : decode b_FR_isGroupOfRightRow 13 = .ok (.if_icmp .ne 24, 3) := by decide +kernel
theorem d_FR_isGroupOfRightRow_16 : decode b_FR_isGroupOfRightRow 16 = .ok (.iload_n 1, 1) := by decide +kernel
theorem d_FR_isGroupOfRightRow_17 : decode b_FR_isGroupOfRightRow 17 = .ok (.ifCond .lt 20, 3) := by decide +kernel
theorem d_FR_isGroupOfRightRow_20 : decode b_FR_isGroupOfRightRow 20 = .ok (.iload_n 1, 1) := by decide +kernel
theorem d_FR_isGroupOfRightRow_21 : decode b_FR_isGroupOfRightRow 21 = .ok (.i2l, 1) := by decide +kernel
theorem d_FR_isGroupOfRightRow_22 : decode b_FR_isGroupOfRightRow 22 = .ok (.aload_n 0, 1) := by decide +kernel
theorem d_FR_isGroupOfRightRow_23 : decode b_FR_isGroupOfRightRow 23 = .ok (.getfield 25, 3) := by decide +kernel
theorem d_FR_isGroupOfRightRow_26 : decode b_FR_isGroupOfRightRow 26 = .ok (.getfield 52, 3) := by decide +kernel
theorem d_FR_isGroupOfRightRow_29 : decode b_FR_isGroupOfRightRow 29 = .ok (.lcmp, 1) := by decide +kernel
theorem d_FR_isGroupOfRightRow_30 : decode b_FR_isGroupOfRightRow 30 = .ok (.ifCond .ge 7, 3) := by decide +kernel
theorem d_FR_isGroupOfRightRow_33 : decode b_FR_isGroupOfRightRow 33 = .ok (.iconst 1, 1) := by decide +kernel
theorem d_FR_isGroupOfRightRow_34 : decode b_FR_isGroupOfRightRow 34 = .ok (.goto 4, 3) := by decide +kernel
theorem d_FR_isGroupOfRightRow_37 : decode b_FR_isGroupOfRightRow 37 = .ok (.iconst 0, 1) := by decide +kernel
theorem d_FR_isGroupOfRightRow_38 : decode b_FR_isGroupOfRightRow 38 = .ok (.ireturn, 1) := by decide +kernel
theorem d_FR_isField_0 : decode b_FR_isField 0 = .ok (.iload_n 1, 1) := by decide +kernel
theorem d_FR_isField_1 : decode b_FR_isField 1 = .ok (.iconst 1, 1) := by decide +kernel
theorem d_FR_isField_2 : decode b_FR_isField 2 = .ok (.if_icmp .eq 13, 3) := by decide +kernel
theorem d_FR_isField_5 : decode b_FR_isField 5 = .ok (.iload_n 1, 1) := by decide +kernel
theorem d_FR_isField_6 : decode b_FR_isField 6 = .ok (.iconst 2, 1) := by decide +kernel
theorem d_FR_isField_7 : decode b_FR_isField 7 = .ok (.if_icmp .eq 8, 3) := by decide +kernel
theorem d_FR_isField_10 : decode b_FR_isField 10 = .ok (.iload_n 1, 1) := by decide +kernel
theorem d_FR_isField_11 : decode b_FR_isField 11 = .ok (.iconst 4, 1) := by decide +kernel
theorem d_FR_isField_12 : decode b_FR_isField 12 = .ok (.if_icmp .ne 20, 3) := by decide +kernel
theorem d_FR_isField_15 : decode b_FR_isField 15 = .ok (.iload_n 0, 1) := by decide +kernel
theorem d_FR_isField_16 : decode b_FR_isField 16 = .ok (.ifCond .lt 16, 3) := by decide +kernel
theorem d_FR_isField_19 : decode b_FR_isField 19 = .ok (.iload_n 0, 1) := by decide +kernel
theorem d_FR_isField_20 : decode b_FR_isField 20 = .ok (.sipush 1024, 3) := by decide +kernel
theorem d_FR_isField_23 : decode b_FR_isField 23 = .ok (.iload_n 1, 1) := by decide +kernel
theorem d_FR_isField_24 : decode b_FR_isField 24 = .ok (.isub, 1) := by decide +kernel
theorem d_FR_isField_25 : decode b_FR_isField 25 = .ok (.if_icmp .gt 7, 3) := by decide +kernel
theorem d_FR_isField_28 : decode b_FR_isField 28 = .ok (.iconst 1, 1) := by decide +kernel
theorem d_FR_isField_29 : decode b_FR_isField 29 = .ok (.goto 4, 3) := by decide +kernel
theorem d_FR_isField_32 : decode b_FR_isField 32 = .ok (.iconst 0, 1) := by decide +kernel
theorem d_FR_isField_33 : decode b_FR_isField 33 = .ok (.ireturn, 1) := by decide +kernel
theorem d_FR_isFollowed_0 : decode b_FR_isFollowed 0 = .ok (.iconst 0, 1) := by decide +kernel
theorem d_FR_isFollowed_1 : decode b_FR_isFollowed 1 = .ok (.istore_n 1, 1) := by decide +kernel
theorem d_FR_isFollowed_2 : decode b_FR_isFollowed 2 = .ok (.iload_n 1, 1) := by decide +kernel
theorem d_FR_isFollowed_3 : decode b_FR_isFollowed 3 = .ok (.iconst 1, 1) := by decide +kernel
theorem d_FR_isFollowed_4 : decode b_FR_isFollowed 4 = .ok (.iadd, 1) := by decide +kernel
theorem d_FR_isFollowed_5 : decode b_FR_isFollowed 5 = .ok (.getstatic 126, 3) := by decide +kernel
theorem d_FR_isFollowed_8 : decode b_FR_isFollowed 8 = .ok (.arraylength, 1) := by decide +kernel
theorem d_FR_isFollowed_9 : decode b_FR_isFollowed 9 = .ok (.if_icmp .ge 31, 3) := by decide +kernel
theorem d_FR_isFollowed_12 : decode b_FR_isFollowed 12 = .ok (.iload_n 0, 1) := by decide +kernel
theorem d_FR_isFollowed_13 : decode b_FR_isFollowed 13 = .ok (.getstatic 126, 3) := by decide +kernel
theorem d_FR_isFollowed_16 : decode b_FR_isFollowed 16 = .ok (.iload_n 1, 1) := by decide +kernel
theorem d_FR_isFollowed_17 : decode b_FR_isFollowed 17 = .ok (.iaload, 1) := by decide +kernel
theorem d_FR_isFollowed_18 : decode b_FR_isFollowed 18 = .ok (.if_icmp .lt 16, 3) := by decide +kernel
theorem d_FR_isFollowed_21 : decode b_FR_isFollowed 21 = .ok (.iload_n 0, 1) := by decide +kernel
theorem d_FR_isFollowed_22 : decode b_FR_isFollowed 22 = .ok (.getstatic 126, 3) := by decide +kernel
theorem d_FR_isFollowed_25 : decode b_FR_isFollowed 25 = .ok (.iload_n 1, 1) := by decide +kernel
theorem d_FR_isFollowed_26 : decode b_FR_isFollowed 26 = .ok (.iconst 1, 1) := by decide +kernel
theorem d_FR_isFollowed_27 : decode b_FR_isFollowed 27 = .ok (.iadd, 1) := by decide +kernel
theorem d_FR_isFollowed_28 : decode b_FR_isFollowed 28 = .ok (.iaload, 1) := by decide +kernel
theorem d_FR_isFollowed_29 : decode b_FR_isFollowed 29 = .ok (.if_icmp .gt 5, 3) := by decide +kernel
theorem d_FR_isFollowed_32 : decode b_FR_isFollowed 32 = .ok (.iconst 0, 1) := by decide +kernel
theorem d_FR_isFollowed_33 : decode b_FR_isFollowed 33 = .ok (.ireturn, 1) := by decide +kernel
theorem d_FR_isFollowed_34 : decode b_FR_isFollowed 34 = .ok (.iinc 1 2, 3) := by decide +kernel
theorem d_FR_isFollowed_37 : decode b_FR_isFollowed 37 = .ok (.goto (-35), 3) := by decide +kernel
theorem d_FR_isFollowed_40 : decode b_FR_isFollowed 40 = .ok (.iconst 1, 1) := by decide +kernel
theorem d_FR_isFollowed_41 : decode b_FR_isFollowed 41 = .ok (.ireturn, 1) := by decide +kernel
theorem d_FR_firstFor_0 : decode b_FR_firstFor 0 = .ok (.lload_n 0, 1) := by decide +kernel
theorem d_FR_firstFor_1 : decode b_FR_firstFor 1 = .ok (.lconst 0, 1) := by decide +kernel
theorem d_FR_firstFor_2 : decode b_FR_firstFor 2 = .ok (.lcmp, 1) := by decide +kernel
theorem d_FR_firstFor_3 : decode b_FR_firstFor 3 = .ok (.ifCond .ne 7, 3) := by decide +kernel
theorem d_FR_firstFor_6 : decode b_FR_firstFor 6 = .ok (.iconst 1, 1) := by decide +kernel
theorem d_FR_firstFor_7 : decode b_FR_firstFor 7 = .ok (.goto 4, 3) := by decide +kernel
theorem d_FR_firstFor_10 : decode b_FR_firstFor 10 = .ok (.iconst 0, 1) := by decide +kernel
theorem d_FR_firstFor_11 : decode b_FR_firstFor 11 = .ok (.ireturn, 1) := by decide +kernel
theorem d_FR_isEightfold_0 : decode b_FR_isEightfold 0 = .ok (.lload_n 0, 1) := by decide +kernel
theorem d_FR_isEightfold_1 : decode b_FR_isEightfold 1 = .ok (.lload_n 2, 1) := by decide +kernel
theorem d_FR_isEightfold_2 : decode b_FR_isEightfold 2 = .ok (.lcmp, 1) := by decide +kernel
theorem d_FR_isEightfold_3 : decode b_FR_isEightfold 3 = .ok (.ifCond .lt 24, 3) := by decide +kernel
theorem d_FR_isEightfold_6 : decode b_FR_isEightfold 6 = .ok (.lload_n 0, 1) := by decide +kernel
theorem d_FR_isEightfold_7 : decode b_FR_isEightfold 7 = .ok (.lload 4, 2) := by decide +kernel
theorem d_FR_isEightfold_9 : decode b_FR_isEightfold 9 = .ok (.lcmp, 1) := by decide +kernel
theorem d_FR_isEightfold_10 : decode b_FR_isEightfold 10 = .ok (.ifCond .gt 17, 3) := by decide +kernel
theorem d_FR_isEightfold_13 : decode b_FR_isEightfold 13 = .ok (.lload_n 0, 1) := by decide +kernel
theorem d_FR_isEightfold_14 : decode b_FR_isEightfold 14 = .ok (.ldc2_w 130, 3) := by decide +kernel
theorem d_FR_isEightfold_17 : decode b_FR_isEightfold 17 = .ok (.land, 1) := by decide +kernel
theorem d_FR_isEightfold_18 : decode b_FR_isEightfold 18 = .ok (.lconst 0, 1) := by decide +kernel
theorem d_FR_isEightfold_19 : decode b_FR_isEightfold 19 = .ok (.lcmp, 1) := by decide +kernel
theorem d_FR_isEightfold_20 : decode b_FR_isEightfold 20 = .ok (.ifCond .ne 7, 3) := by decide +kernel
theorem d_FR_isEightfold_23 : decode b_FR_isEightfold 23 = .ok (.iconst 1, 1) := by decide +kernel
theorem d_FR_isEightfold_24 : decode b_FR_isEightfold 24 = .ok (.goto 4, 3) := by decide +kernel
theorem d_FR_isEightfold_27 : decode b_FR_isEightfold 27 = .ok (.iconst 0, 1) := by decide +kernel
theorem d_FR_isEightfold_28 : decode b_FR_isEightfold 28 = .ok (.ireturn, 1) := by decide +kernel
theorem d_FR_isRecordLength_0 : decode b_FR_isRecordLength 0 = .ok (.lload_n 0, 1) := by decide +kernel
theorem d_FR_isRecordLength_1 : decode b_FR_isRecordLength 1 = .ok (.ldc2_w 132, 3) := by decide +kernel
theorem d_FR_isRecordLength_4 : decode b_FR_isRecordLength 4 = .ok (.lcmp, 1) := by decide +kernel
theorem d_FR_isRecordLength_5 : decode b_FR_isRecordLength 5 = .ok (.ifCond .eq 27, 3) := by decide +kernel
theorem d_FR_isRecordLength_8 : decode b_FR_isRecordLength 8 = .ok (.lload_n 0, 1) := by decide +kernel
theorem d_FR_isRecordLength_9 : decode b_FR_isRecordLength 9 = .ok (.ldc2_w 134, 3) := by decide +kernel
theorem d_FR_isRecordLength_12 : decode b_FR_isRecordLength 12 = .ok (.lcmp, 1) := by decide +kernel
theorem d_FR_isRecordLength_13 : decode b_FR_isRecordLength 13 = .ok (.ifCond .eq 19, 3) := by decide +kernel
theorem d_FR_isRecordLength_16 : decode b_FR_isRecordLength 16 = .ok (.lload_n 0, 1) := by decide +kernel
theorem d_FR_isRecordLength_17 : decode b_FR_isRecordLength 17 = .ok (.ldc2_w 136, 3) := by decide +kernel
theorem d_FR_isRecordLength_20 : decode b_FR_isRecordLength 20 = .ok (.lcmp, 1) := by decide +kernel
theorem d_FR_isRecordLength_21 : decode b_FR_isRecordLength 21 = .ok (.ifCond .eq 11, 3) := by decide +kernel
theorem d_FR_isRecordLength_24 : decode b_FR_isRecordLength 24 = .ok (.lload_n 0, 1) := by decide +kernel
theorem d_FR_isRecordLength_25 : decode b_FR_isRecordLength 25 = .ok (.ldc2_w 138, 3) := by decide +kernel
theorem d_FR_isRecordLength_28 : decode b_FR_isRecordLength 28 = .ok (.lcmp, 1) := by decide +kernel
theorem d_FR_isRecordLength_29 : decode b_FR_isRecordLength 29 = .ok (.ifCond .ne 7, 3) := by decide +kernel
theorem d_FR_isRecordLength_32 : decode b_FR_isRecordLength 32 = .ok (.iconst 1, 1) := by decide +kernel
theorem d_FR_isRecordLength_33 : decode b_FR_isRecordLength 33 = .ok (.goto 4, 3) := by decide +kernel
theorem d_FR_isRecordLength_36 : decode b_FR_isRecordLength 36 = .ok (.iconst 0, 1) := by decide +kernel
theorem d_FR_isRecordLength_37 : decode b_FR_isRecordLength 37 = .ok (.ireturn, 1) := by decide +kernel
theorem d_FR_quotient_0 : decode b_FR_quotient 0 = .ok (.lload_n 2, 1) := by decide +kernel
theorem d_FR_quotient_1 : decode b_FR_quotient 1 = .ok (.lconst 1, 1) := by decide +kernel
theorem d_FR_quotient_2 : decode b_FR_quotient 2 = .ok (.lcmp, 1) := by decide +kernel
theorem d_FR_quotient_3 : decode b_FR_quotient 3 = .ok (.ifCond .ge 7, 3) := by decide +kernel
theorem d_FR_quotient_6 : decode b_FR_quotient 6 = .ok (.lconst 0, 1) := by decide +kernel
theorem d_FR_quotient_7 : decode b_FR_quotient 7 = .ok (.goto 6, 3) := by decide +kernel
theorem d_FR_quotient_10 : decode b_FR_quotient 10 = .ok (.lload_n 0, 1) := by decide +kernel
theorem d_FR_quotient_11 : decode b_FR_quotient 11 = .ok (.lload_n 2, 1) := by decide +kernel
theorem d_FR_quotient_12 : decode b_FR_quotient 12 = .ok (.ldiv, 1) := by decide +kernel
theorem d_FR_quotient_13 : decode b_FR_quotient 13 = .ok (.lreturn, 1) := by decide +kernel
theorem d_FR_quotientUp_0 : decode b_FR_quotientUp 0 = .ok (.lload_n 0, 1) := by decide +kernel
theorem d_FR_quotientUp_1 : decode b_FR_quotientUp 1 = .ok (.lload_n 2, 1) := by decide +kernel
theorem d_FR_quotientUp_2 : decode b_FR_quotientUp 2 = .ok (.ladd, 1) := by decide +kernel
theorem d_FR_quotientUp_3 : decode b_FR_quotientUp 3 = .ok (.lconst 1, 1) := by decide +kernel
theorem d_FR_quotientUp_4 : decode b_FR_quotientUp 4 = .ok (.lsub, 1) := by decide +kernel
theorem d_FR_quotientUp_5 : decode b_FR_quotientUp 5 = .ok (.lload_n 2, 1) := by decide +kernel
theorem d_FR_quotientUp_6 : decode b_FR_quotientUp 6 = .ok (.invokestatic 116, 3) := by decide +kernel
theorem d_FR_quotientUp_9 : decode b_FR_quotientUp 9 = .ok (.lreturn, 1) := by decide +kernel
theorem d_Row_init_0 : decode b_Row_init 0 = .ok (.aload_n 0, 1) := by decide +kernel
theorem d_Row_init_1 : decode b_Row_init 1 = .ok (.invokespecial 3, 3) := by decide +kernel
theorem d_Row_init_4 : decode b_Row_init 4 = .ok (.aload_n 0, 1) := by decide +kernel
theorem d_Row_init_5 : decode b_Row_init 5 = .ok (.sipush 1024, 3) := by decide +kernel
theorem d_Row_init_8 : decode b_Row_init 8 = .ok (.newarray .byte, 2) := by decide +kernel
theorem d_Row_init_10 : decode b_Row_init 10 = .ok (.putfield 9, 3) := by decide +kernel
theorem d_Row_init_13 : decode b_Row_init 13 = .ok (.return_, 1) := by decide +kernel
theorem d_Row_clear_0 : decode b_Row_clear 0 = .ok (.iconst 0, 1) := by decide +kernel
theorem d_Row_clear_1 : decode b_Row_clear 1 = .ok (.istore_n 1, 1) := by decide +kernel
theorem d_Row_clear_2 : decode b_Row_clear 2 = .ok (.iload_n 1, 1) := by decide +kernel
theorem d_Row_clear_3 : decode b_Row_clear 3 = .ok (.sipush 1024, 3) := by decide +kernel
theorem d_Row_clear_6 : decode b_Row_clear 6 = .ok (.if_icmp .ge 16, 3) := by decide +kernel
theorem d_Row_clear_9 : decode b_Row_clear 9 = .ok (.aload_n 0, 1) := by decide +kernel
theorem d_Row_clear_10 : decode b_Row_clear 10 = .ok (.getfield 9, 3) := by decide +kernel
theorem d_Row_clear_13 : decode b_Row_clear 13 = .ok (.iload_n 1, 1) := by decide +kernel
theorem d_Row_clear_14 : decode b_Row_clear 14 = .ok (.iconst 0, 1) := by decide +kernel
theorem d_Row_clear_15 : decode b_Row_clear 15 = .ok (.bastore, 1) := by decide +kernel
theorem d_Row_clear_16 : decode b_Row_clear 16 = .ok (.iinc 1 1, 3) := by decide +kernel
theorem d_Row_clear_19 : decode b_Row_clear 19 = .ok (.goto (-17), 3) := by decide +kernel
theorem d_Row_clear_22 : decode b_Row_clear 22 = .ok (.return_, 1) := by decide +kernel
theorem d_Row_takeAll_0 : decode b_Row_takeAll 0 = .ok (.iconst 0, 1) := by decide +kernel
theorem d_Row_takeAll_1 : decode b_Row_takeAll 1 = .ok (.istore_n 2, 1) := by decide +kernel
theorem d_Row_takeAll_2 : decode b_Row_takeAll 2 = .ok (.iload_n 2, 1) := by decide +kernel
theorem d_Row_takeAll_3 : decode b_Row_takeAll 3 = .ok (.sipush 1024, 3) := by decide +kernel
theorem d_Row_takeAll_6 : decode b_Row_takeAll 6 = .ok (.if_icmp .ge 21, 3) := by decide +kernel
theorem d_Row_takeAll_9 : decode b_Row_takeAll 9 = .ok (.aload_n 0, 1) := by decide +kernel
theorem d_Row_takeAll_10 : decode b_Row_takeAll 10 = .ok (.getfield 9, 3) := by decide +kernel
theorem d_Row_takeAll_13 : decode b_Row_takeAll 13 = .ok (.iload_n 2, 1) := by decide +kernel
theorem d_Row_takeAll_14 : decode b_Row_takeAll 14 = .ok (.aload_n 1, 1) := by decide +kernel
theorem d_Row_takeAll_15 : decode b_Row_takeAll 15 = .ok (.getfield 9, 3) := by decide +kernel
theorem d_Row_takeAll_18 : decode b_Row_takeAll 18 = .ok (.iload_n 2, 1) := by decide +kernel
theorem d_Row_takeAll_19 : decode b_Row_takeAll 19 = .ok (.baload, 1) := by decide +kernel
theorem d_Row_takeAll_20 : decode b_Row_takeAll 20 = .ok (.bastore, 1) := by decide +kernel
theorem d_Row_takeAll_21 : decode b_Row_takeAll 21 = .ok (.iinc 2 1, 3) := by decide +kernel
theorem d_Row_takeAll_24 : decode b_Row_takeAll 24 = .ok (.goto (-22), 3) := by decide +kernel
theorem d_Row_takeAll_27 : decode b_Row_takeAll 27 = .ok (.return_, 1) := by decide +kernel
theorem d_Row_field_0 : decode b_Row_field 0 = .ok (.iload_n 1, 1) := by decide +kernel
theorem d_Row_field_1 : decode b_Row_field 1 = .ok (.iload_n 2, 1) := by decide +kernel
theorem d_Row_field_2 : decode b_Row_field 2 = .ok (.invokestatic 15, 3) := by decide +kernel
theorem d_Row_field_5 : decode b_Row_field 5 = .ok (.ifCond .ne 7, 3) := by decide +kernel
theorem d_Row_field_8 : decode b_Row_field 8 = .ok (.ldc2_w 19, 3) := by decide +kernel
theorem d_Row_field_11 : decode b_Row_field 11 = .ok (.lreturn, 1) := by decide +kernel
theorem d_Row_field_12 : decode b_Row_field 12 = .ok (.lconst 0, 1) := by decide +kernel
theorem d_Row_field_13 : decode b_Row_field 13 = .ok (.lstore_n 3, 1) := by decide +kernel
theorem d_Row_field_14 : decode b_Row_field 14 = .ok (.iload_n 2, 1) := by decide +kernel
theorem d_Row_field_15 : decode b_Row_field 15 = .ok (.iconst 1, 1) := by decide +kernel
theorem d_Row_field_16 : decode b_Row_field 16 = .ok (.isub, 1) := by decide +kernel
theorem d_Row_field_17 : decode b_Row_field 17 = .ok (.istore 5, 2) := by decide +kernel
theorem d_Row_field_19 : decode b_Row_field 19 = .ok (.iload 5, 2) := by decide +kernel
theorem d_Row_field_21 : decode b_Row_field 21 = .ok (.ifCond .lt 29, 3) := by decide +kernel
theorem d_Row_field_24 : decode b_Row_field 24 = .ok (.lload_n 3, 1) := by decide +kernel
theorem d_Row_field_25 : decode b_Row_field 25 = .ok (.bipush 8, 2) := by decide +kernel
theorem d_Row_field_27 : decode b_Row_field 27 = .ok (.lshl, 1) := by decide +kernel
theorem d_Row_field_28 : decode b_Row_field 28 = .ok (.aload_n 0, 1) := by decide +kernel
theorem d_Row_field_29 : decode b_Row_field 29 = .ok (.getfield 9, 3) := by decide +kernel
theorem d_Row_field_32 : decode b_Row_field 32 = .ok (.iload_n 1, 1) := by decide +kernel
theorem d_Row_field_33 : decode b_Row_field 33 = .ok (.iload 5, 2) := by decide +kernel
theorem d_Row_field_35 : decode b_Row_field 35 = .ok (.iadd, 1) := by decide +kernel
theorem d_Row_field_36 : decode b_Row_field 36 = .ok (.baload, 1) := by decide +kernel
theorem d_Row_field_37 : decode b_Row_field 37 = .ok (.sipush 255, 3) := by decide +kernel
theorem d_Row_field_40 : decode b_Row_field 40 = .ok (.iand, 1) := by decide +kernel
theorem d_Row_field_41 : decode b_Row_field 41 = .ok (.i2l, 1) := by decide +kernel
theorem d_Row_field_42 : decode b_Row_field 42 = .ok (.lor, 1) := by decide +kernel
theorem d_Row_field_43 : decode b_Row_field 43 = .ok (.lstore_n 3, 1) := by decide +kernel
theorem d_Row_field_44 : decode b_Row_field 44 = .ok (.iinc 5 (-1), 3) := by decide +kernel
theorem d_Row_field_47 : decode b_Row_field 47 = .ok (.goto (-28), 3) := by decide +kernel
theorem d_Row_field_50 : decode b_Row_field 50 = .ok (.lload_n 3, 1) := by decide +kernel
theorem d_Row_field_51 : decode b_Row_field 51 = .ok (.lreturn, 1) := by decide +kernel
theorem d_Row_write_0 : decode b_Row_write 0 = .ok (.iload_n 1, 1) := by decide +kernel
theorem d_Row_write_1 : decode b_Row_write 1 = .ok (.iload_n 2, 1) := by decide +kernel
theorem d_Row_write_2 : decode b_Row_write 2 = .ok (.invokestatic 15, 3) := by decide +kernel
theorem d_Row_write_5 : decode b_Row_write 5 = .ok (.ifCond .ne 4, 3) := by decide +kernel
theorem d_Row_write_8 : decode b_Row_write 8 = .ok (.return_, 1) := by decide +kernel
theorem d_Row_write_9 : decode b_Row_write 9 = .ok (.iconst 0, 1) := by decide +kernel
theorem d_Row_write_10 : decode b_Row_write 10 = .ok (.istore 5, 2) := by decide +kernel
theorem d_Row_write_12 : decode b_Row_write 12 = .ok (.iload 5, 2) := by decide +kernel
theorem d_Row_write_14 : decode b_Row_write 14 = .ok (.iload_n 2, 1) := by decide +kernel
theorem d_Row_write_15 : decode b_Row_write 15 = .ok (.if_icmp .ge 27, 3) := by decide +kernel
theorem d_Row_write_18 : decode b_Row_write 18 = .ok (.aload_n 0, 1) := by decide +kernel
theorem d_Row_write_19 : decode b_Row_write 19 = .ok (.getfield 9, 3) := by decide +kernel
theorem d_Row_write_22 : decode b_Row_write 22 = .ok (.iload_n 1, 1) := by decide +kernel
theorem d_Row_write_23 : decode b_Row_write 23 = .ok (.iload 5, 2) := by decide +kernel
theorem d_Row_write_25 : decode b_Row_write 25 = .ok (.iadd, 1) := by decide +kernel
theorem d_Row_write_26 : decode b_Row_write 26 = .ok (.lload_n 3, 1) := by decide +kernel
theorem d_Row_write_27 : decode b_Row_write 27 = .ok (.bipush 8, 2) := by decide +kernel
theorem d_Row_write_29 : decode b_Row_write 29 = .ok (.iload 5, 2) := by decide +kernel
theorem d_Row_write_31 : decode b_Row_write 31 = .ok (.imul, 1) := by decide +kernel
theorem d_Row_write_32 : decode b_Row_write 32 = .ok (.lshr, 1) := by decide +kernel
theorem d_Row_write_33 : decode b_Row_write 33 = .ok (.l2i, 1) := by decide +kernel
theorem d_Row_write_34 : decode b_Row_write 34 = .ok (.i2b, 1) := by decide +kernel
theorem d_Row_write_35 : decode b_Row_write 35 = .ok (.bastore, 1) := by decide +kernel
theorem d_Row_write_36 : decode b_Row_write 36 = .ok (.iinc 5 1, 3) := by decide +kernel
theorem d_Row_write_39 : decode b_Row_write 39 = .ok (.goto (-27), 3) := by decide +kernel
theorem d_Row_write_42 : decode b_Row_write 42 = .ok (.return_, 1) := by decide +kernel
theorem d_Row_writeConstants_0 : decode b_Row_writeConstants 0 = .ok (.aload_n 0, 1) := by decide +kernel
theorem d_Row_writeConstants_1 : decode b_Row_writeConstants 1 = .ok (.bipush 54, 2) := by decide +kernel
theorem d_Row_writeConstants_3 : decode b_Row_writeConstants 3 = .ok (.iconst 2, 1) := by decide +kernel
theorem d_Row_writeConstants_4 : decode b_Row_writeConstants 4 = .ok (.ldc2_w 21, 3) := by decide +kernel
theorem d_Row_writeConstants_7 : decode b_Row_writeConstants 7 = .ok (.invokevirtual 23, 3) := by decide +kernel
theorem d_Row_writeConstants_10 : decode b_Row_writeConstants 10 = .ok (.aload_n 0, 1) := by decide +kernel
theorem d_Row_writeConstants_11 : decode b_Row_writeConstants 11 = .ok (.bipush 56, 2) := by decide +kernel
theorem d_Row_writeConstants_13 : decode b_Row_writeConstants 13 = .ok (.iconst 2, 1) := by decide +kernel
theorem d_Row_writeConstants_14 : decode b_Row_writeConstants 14 = .ok (.ldc2_w 27, 3) := by decide +kernel
theorem d_Row_writeConstants_17 : decode b_Row_writeConstants 17 = .ok (.invokevirtual 23, 3) := by decide +kernel
theorem d_Row_writeConstants_20 : decode b_Row_writeConstants 20 = .ok (.aload_n 0, 1) := by decide +kernel
theorem d_Row_writeConstants_21 : decode b_Row_writeConstants 21 = .ok (.bipush 58, 2) := by decide +kernel
theorem d_Row_writeConstants_23 : decode b_Row_writeConstants 23 = .ok (.iconst 2, 1) := by decide +kernel
theorem d_Row_writeConstants_24 : decode b_Row_writeConstants 24 = .ok (.lconst 1, 1) := by decide +kernel
theorem d_Row_writeConstants_25 : decode b_Row_writeConstants 25 = .ok (.invokevirtual 23, 3) := by decide +kernel
theorem d_Row_writeConstants_28 : decode b_Row_writeConstants 28 = .ok (.aload_n 0, 1) := by decide +kernel
theorem d_Row_writeConstants_29 : decode b_Row_writeConstants 29 = .ok (.bipush 76, 2) := by decide +kernel
theorem d_Row_writeConstants_31 : decode b_Row_writeConstants 31 = .ok (.iconst 4, 1) := by decide +kernel
theorem d_Row_writeConstants_32 : decode b_Row_writeConstants 32 = .ok (.lconst 1, 1) := by decide +kernel
theorem d_Row_writeConstants_33 : decode b_Row_writeConstants 33 = .ok (.invokevirtual 23, 3) := by decide +kernel
theorem d_Row_writeConstants_36 : decode b_Row_writeConstants 36 = .ok (.aload_n 0, 1) := by decide +kernel
theorem d_Row_writeConstants_37 : decode b_Row_writeConstants 37 = .ok (.bipush 84, 2) := by decide +kernel
theorem d_Row_writeConstants_39 : decode b_Row_writeConstants 39 = .ok (.iconst 4, 1) := by decide +kernel
theorem d_Row_writeConstants_40 : decode b_Row_writeConstants 40 = .ok (.ldc2_w 29, 3) := by decide +kernel
theorem d_Row_writeConstants_43 : decode b_Row_writeConstants 43 = .ok (.invokevirtual 23, 3) := by decide +kernel
theorem d_Row_writeConstants_46 : decode b_Row_writeConstants 46 = .ok (.aload_n 0, 1) := by decide +kernel
theorem d_Row_writeConstants_47 : decode b_Row_writeConstants 47 = .ok (.bipush 92, 2) := by decide +kernel
theorem d_Row_writeConstants_49 : decode b_Row_writeConstants 49 = .ok (.iconst 4, 1) := by decide +kernel
theorem d_Row_writeConstants_50 : decode b_Row_writeConstants 50 = .ok (.ldc2_w 31, 3) := by decide +kernel
theorem d_Row_writeConstants_53 : decode b_Row_writeConstants 53 = .ok (.invokevirtual 23, 3) := by decide +kernel
theorem d_Row_writeConstants_56 : decode b_Row_writeConstants 56 = .ok (.aload_n 0, 1) := by decide +kernel
theorem d_Row_writeConstants_57 : decode b_Row_writeConstants 57 = .ok (.bipush 96, 2) := by decide +kernel
theorem d_Row_writeConstants_59 : decode b_Row_writeConstants 59 = .ok (.iconst 4, 1) := by decide +kernel
theorem d_Row_writeConstants_60 : decode b_Row_writeConstants 60 = .ok (.ldc2_w 33, 3) := by decide +kernel
theorem d_Row_writeConstants_63 : decode b_Row_writeConstants 63 = .ok (.invokevirtual 23, 3) := by decide +kernel
theorem d_Row_writeConstants_66 : decode b_Row_writeConstants 66 = .ok (.aload_n 0, 1) := by decide +kernel
theorem d_Row_writeConstants_67 : decode b_Row_writeConstants 67 = .ok (.bipush 100, 2) := by decide +kernel
theorem d_Row_writeConstants_69 : decode b_Row_writeConstants 69 = .ok (.iconst 4, 1) := by decide +kernel
theorem d_Row_writeConstants_70 : decode b_Row_writeConstants 70 = .ok (.ldc2_w 35, 3) := by decide +kernel
theorem d_Row_writeConstants_73 : decode b_Row_writeConstants 73 = .ok (.invokevirtual 23, 3) := by decide +kernel
theorem d_Row_writeConstants_76 : decode b_Row_writeConstants 76 = .ok (.aload_n 0, 1) := by decide +kernel
theorem d_Row_writeConstants_77 : decode b_Row_writeConstants 77 = .ok (.sipush 224, 3) := by decide +kernel
theorem d_Row_writeConstants_80 : decode b_Row_writeConstants 80 = .ok (.iconst 4, 1) := by decide +kernel
theorem d_Row_writeConstants_81 : decode b_Row_writeConstants 81 = .ok (.ldc2_w 37, 3) := by decide +kernel
theorem d_Row_writeConstants_84 : decode b_Row_writeConstants 84 = .ok (.invokevirtual 23, 3) := by decide +kernel
theorem d_Row_writeConstants_87 : decode b_Row_writeConstants 87 = .ok (.aload_n 0, 1) := by decide +kernel
theorem d_Row_writeConstants_88 : decode b_Row_writeConstants 88 = .ok (.sipush 252, 3) := by decide +kernel
theorem d_Row_writeConstants_91 : decode b_Row_writeConstants 91 = .ok (.iconst 1, 1) := by decide +kernel
theorem d_Row_writeConstants_92 : decode b_Row_writeConstants 92 = .ok (.lconst 1, 1) := by decide +kernel
theorem d_Row_writeConstants_93 : decode b_Row_writeConstants 93 = .ok (.invokevirtual 23, 3) := by decide +kernel
theorem d_Row_writeConstants_96 : decode b_Row_writeConstants 96 = .ok (.return_, 1) := by decide +kernel
theorem d_Vol_init_0 : decode b_Vol_init 0 = .ok (.aload_n 0, 1) := by decide +kernel
theorem d_Vol_init_1 : decode b_Vol_init 1 = .ok (.invokespecial 3, 3) := by decide +kernel
theorem d_Vol_init_4 : decode b_Vol_init 4 = .ok (.return_, 1) := by decide +kernel
theorem d_Vol_readNumbers_0 : decode b_Vol_readNumbers 0 = .ok (.aload_n 0, 1) := by decide +kernel
theorem d_Vol_readNumbers_1 : decode b_Vol_readNumbers 1 = .ok (.aload_n 1, 1) := by decide +kernel
theorem d_Vol_readNumbers_2 : decode b_Vol_readNumbers 2 = .ok (.iconst 0, 1) := by decide +kernel
theorem d_Vol_readNumbers_3 : decode b_Vol_readNumbers 3 = .ok (.iconst 4, 1) := by decide +kernel
theorem d_Vol_readNumbers_4 : decode b_Vol_readNumbers 4 = .ok (.invokevirtual 9, 3) := by decide +kernel
theorem d_Vol_readNumbers_7 : decode b_Vol_readNumbers 7 = .ok (.putfield 15, 3) := by decide +kernel
theorem d_Vol_readNumbers_10 : decode b_Vol_readNumbers 10 = .ok (.aload_n 0, 1) := by decide +kernel
theorem d_Vol_readNumbers_11 : decode b_Vol_readNumbers 11 = .ok (.aload_n 1, 1) := by decide +kernel
theorem d_Vol_readNumbers_12 : decode b_Vol_readNumbers 12 = .ok (.iconst 4, 1) := by decide +kernel
theorem d_Vol_readNumbers_13 : decode b_Vol_readNumbers 13 = .ok (.iconst 4, 1) := by decide +kernel
theorem d_Vol_readNumbers_14 : decode b_Vol_readNumbers 14 = .ok (.invokevirtual 9, 3) := by decide +kernel
theorem d_Vol_readNumbers_17 : decode b_Vol_readNumbers 17 = .ok (.putfield 21, 3) := by decide +kernel
theorem d_Vol_readNumbers_20 : decode b_Vol_readNumbers 20 = .ok (.aload_n 0, 1) := by decide +kernel
theorem d_Vol_readNumbers_21 : decode b_Vol_readNumbers 21 = .ok (.aload_n 1, 1) := by decide +kernel
theorem d_Vol_readNumbers_22 : decode b_Vol_readNumbers 22 = .ok (.bipush 20, 2) := by decide +kernel
theorem d_Vol_readNumbers_24 : decode b_Vol_readNumbers 24 = .ok (.iconst 4, 1) := by decide +kernel
theorem d_Vol_readNumbers_25 : decode b_Vol_readNumbers 25 = .ok (.invokevirtual 9, 3) := by decide +kernel
theorem d_Vol_readNumbers_28 : decode b_Vol_readNumbers 28 = .ok (.putfield 24, 3) := by decide +kernel
theorem d_Vol_readNumbers_31 : decode b_Vol_readNumbers 31 = .ok (.aload_n 0, 1) := by decide +kernel
theorem d_Vol_readNumbers_32 : decode b_Vol_readNumbers 32 = .ok (.aload_n 1, 1) := by decide +kernel
theorem d_Vol_readNumbers_33 : decode b_Vol_readNumbers 33 = .ok (.bipush 24, 2) := by decide +kernel
theorem d_Vol_readNumbers_35 : decode b_Vol_readNumbers 35 = .ok (.iconst 4, 1) := by decide +kernel
theorem d_Vol_readNumbers_36 : decode b_Vol_readNumbers 36 = .ok (.invokevirtual 9, 3) := by decide +kernel
theorem d_Vol_readNumbers_39 : decode b_Vol_readNumbers 39 = .ok (.putfield 27, 3) := by decide +kernel
theorem d_Vol_readNumbers_42 : decode b_Vol_readNumbers 42 = .ok (.aload_n 0, 1) := by decide +kernel
theorem d_Vol_readNumbers_43 : decode b_Vol_readNumbers 43 = .ok (.ldc2_w 30, 3) := by decide +kernel
theorem d_Vol_readNumbers_46 : decode b_Vol_readNumbers 46 = .ok (.aload_n 0, 1) := by decide +kernel
theorem d_Vol_readNumbers_47 : decode b_Vol_readNumbers 47 = .ok (.getfield 27, 3) := by decide +kernel
theorem d_Vol_readNumbers_50 : decode b_Vol_readNumbers 50 = .ok (.l2i, 1) := by decide +kernel
theorem d_Vol_readNumbers_51 : decode b_Vol_readNumbers 51 = .ok (.lshl, 1) := by decide +kernel
theorem d_Vol_readNumbers_52 : decode b_Vol_readNumbers 52 = .ok (.putfield 32, 3) := by decide +kernel
theorem d_Vol_readNumbers_55 : decode b_Vol_readNumbers 55 = .ok (.aload_n 0, 1) := by decide +kernel
theorem d_Vol_readNumbers_56 : decode b_Vol_readNumbers 56 = .ok (.aload_n 1, 1) := by decide +kernel
theorem d_Vol_readNumbers_57 : decode b_Vol_readNumbers 57 = .ok (.bipush 32, 2) := by decide +kernel
theorem d_Vol_readNumbers_59 : decode b_Vol_readNumbers 59 = .ok (.iconst 4, 1) := by decide +kernel
theorem d_Vol_readNumbers_60 : decode b_Vol_readNumbers 60 = .ok (.invokevirtual 9, 3) := by decide +kernel
theorem d_Vol_readNumbers_63 : decode b_Vol_readNumbers 63 = .ok (.putfield 35, 3) := by decide +kernel
theorem d_Vol_readNumbers_66 : decode b_Vol_readNumbers 66 = .ok (.aload_n 0, 1) := by decide +kernel
theorem d_Vol_readNumbers_67 : decode b_Vol_readNumbers 67 = .ok (.aload_n 1, 1) := by decide +kernel
theorem d_Vol_readNumbers_68 : decode b_Vol_readNumbers 68 = .ok (.bipush 40, 2) := by decide +kernel
theorem d_Vol_readNumbers_70 : decode b_Vol_readNumbers 70 = .ok (.iconst 4, 1) := by decide +kernel
theorem d_Vol_readNumbers_71 : decode b_Vol_readNumbers 71 = .ok (.invokevirtual 9, 3) := by decide +kernel
theorem d_Vol_readNumbers_74 : decode b_Vol_readNumbers 74 = .ok (.putfield 38, 3) := by decide +kernel
theorem d_Vol_readNumbers_77 : decode b_Vol_readNumbers 77 = .ok (.aload_n 0, 1) := by decide +kernel
theorem d_Vol_readNumbers_78 : decode b_Vol_readNumbers 78 = .ok (.aload_n 1, 1) := by decide +kernel
theorem d_Vol_readNumbers_79 : decode b_Vol_readNumbers 79 = .ok (.bipush 88, 2) := by decide +kernel
theorem d_Vol_readNumbers_81 : decode b_Vol_readNumbers 81 = .ok (.iconst 2, 1) := by decide +kernel
theorem d_Vol_readNumbers_82 : decode b_Vol_readNumbers 82 = .ok (.invokevirtual 9, 3) := by decide +kernel
theorem d_Vol_readNumbers_85 : decode b_Vol_readNumbers 85 = .ok (.putfield 41, 3) := by decide +kernel
theorem d_Vol_readNumbers_88 : decode b_Vol_readNumbers 88 = .ok (.aload_n 0, 1) := by decide +kernel
theorem d_Vol_readNumbers_89 : decode b_Vol_readNumbers 89 = .ok (.aload_n 1, 1) := by decide +kernel
theorem d_Vol_readNumbers_90 : decode b_Vol_readNumbers 90 = .ok (.bipush 100, 2) := by decide +kernel
theorem d_Vol_readNumbers_92 : decode b_Vol_readNumbers 92 = .ok (.iconst 4, 1) := by decide +kernel
theorem d_Vol_readNumbers_93 : decode b_Vol_readNumbers 93 = .ok (.invokevirtual 9, 3) := by decide +kernel
theorem d_Vol_readNumbers_96 : decode b_Vol_readNumbers 96 = .ok (.lconst 1, 1) := by decide +kernel
theorem d_Vol_readNumbers_97 : decode b_Vol_readNumbers 97 = .ok (.land, 1) := by decide +kernel
theorem d_Vol_readNumbers_98 : decode b_Vol_readNumbers 98 = .ok (.lconst 0, 1) := by decide +kernel
theorem d_Vol_readNumbers_99 : decode b_Vol_readNumbers 99 = .ok (.lcmp, 1) := by decide +kernel
theorem d_Vol_readNumbers_100 : decode b_Vol_readNumbers 100 = .ok (.ifCond .eq 7, 3) := by decide +kernel
theorem d_Vol_readNumbers_103 : decode b_Vol_readNumbers 103 = .ok (.iconst 1, 1) := by decide +kernel
theorem d_Vol_readNumbers_104 : decode b_Vol_readNumbers 104 = .ok (.goto 4, 3) := by decide +kernel
theorem d_Vol_readNumbers_107 : decode b_Vol_readNumbers 107 = .ok (.iconst 0, 1) := by decide +kernel
theorem d_Vol_readNumbers_108 : decode b_Vol_readNumbers 108 = .ok (.putfield 44, 3) := by decide +kernel
theorem d_Vol_readNumbers_111 : decode b_Vol_readNumbers 111 = .ok (.aload_n 0, 1) := by decide +kernel
theorem d_Vol_readNumbers_112 : decode b_Vol_readNumbers 112 = .ok (.aload_n 0, 1) := by decide +kernel
theorem d_Vol_readNumbers_113 : decode b_Vol_readNumbers 113 = .ok (.getfield 21, 3) := by decide +kernel
theorem d_Vol_readNumbers_116 : decode b_Vol_readNumbers 116 = .ok (.aload_n 0, 1) := by decide +kernel
theorem d_Vol_readNumbers_117 : decode b_Vol_readNumbers 117 = .ok (.getfield 24, 3) := by decide +kernel
theorem d_Vol_readNumbers_120 : decode b_Vol_readNumbers 120 = .ok (.lsub, 1) := by decide +kernel
theorem d_Vol_readNumbers_121 : decode b_Vol_readNumbers 121 = .ok (.aload_n 0, 1) := by decide +kernel
theorem d_Vol_readNumbers_122 : decode b_Vol_readNumbers 122 = .ok (.getfield 35, 3) := by decide +kernel
theorem d_Vol_readNumbers_125 : decode b_Vol_readNumbers 125 = .ok (.invokestatic 48, 3) := by decide +kernel
theorem d_Vol_readNumbers_128 : decode b_Vol_readNumbers 128 = .ok (.putfield 52, 3) := by decide +kernel
theorem d_Vol_readNumbers_131 : decode b_Vol_readNumbers 131 = .ok (.aload_n 0, 1) := by decide +kernel
theorem d_Vol_readNumbers_132 : decode b_Vol_readNumbers 132 = .ok (.lconst 1, 1) := by decide +kernel
theorem d_Vol_readNumbers_133 : decode b_Vol_readNumbers 133 = .ok (.aload_n 0, 1) := by decide +kernel
theorem d_Vol_readNumbers_134 : decode b_Vol_readNumbers 134 = .ok (.getfield 52, 3) := by decide +kernel
theorem d_Vol_readNumbers_137 : decode b_Vol_readNumbers 137 = .ok (.ldc2_w 55, 3) := by decide +kernel
theorem d_Vol_readNumbers_140 : decode b_Vol_readNumbers 140 = .ok (.lmul, 1) := by decide +kernel
theorem d_Vol_readNumbers_141 : decode b_Vol_readNumbers 141 = .ok (.aload_n 0, 1) := by decide +kernel
theorem d_Vol_readNumbers_142 : decode b_Vol_readNumbers 142 = .ok (.getfield 32, 3) := by decide +kernel
theorem d_Vol_readNumbers_145 : decode b_Vol_readNumbers 145 = .ok (.invokestatic 48, 3) := by decide +kernel
theorem d_Vol_readNumbers_148 : decode b_Vol_readNumbers 148 = .ok (.ladd, 1) := by decide +kernel
theorem d_Vol_readNumbers_149 : decode b_Vol_readNumbers 149 = .ok (.putfield 57, 3) := by decide +kernel
theorem d_Vol_readNumbers_152 : decode b_Vol_readNumbers 152 = .ok (.aload_n 0, 1) := by decide +kernel
theorem d_Vol_readNumbers_153 : decode b_Vol_readNumbers 153 = .ok (.aload_n 0, 1) := by decide +kernel
theorem d_Vol_readNumbers_154 : decode b_Vol_readNumbers 154 = .ok (.getfield 38, 3) := by decide +kernel
theorem d_Vol_readNumbers_157 : decode b_Vol_readNumbers 157 = .ok (.aload_n 0, 1) := by decide +kernel
theorem d_Vol_readNumbers_158 : decode b_Vol_readNumbers 158 = .ok (.getfield 41, 3) := by decide +kernel
theorem d_Vol_readNumbers_161 : decode b_Vol_readNumbers 161 = .ok (.lmul, 1) := by decide +kernel
theorem d_Vol_readNumbers_162 : decode b_Vol_readNumbers 162 = .ok (.aload_n 0, 1) := by decide +kernel
theorem d_Vol_readNumbers_163 : decode b_Vol_readNumbers 163 = .ok (.getfield 32, 3) := by decide +kernel
theorem d_Vol_readNumbers_166 : decode b_Vol_readNumbers 166 = .ok (.invokestatic 48, 3) := by decide +kernel
theorem d_Vol_readNumbers_169 : decode b_Vol_readNumbers 169 = .ok (.putfield 60, 3) := by decide +kernel
theorem d_Vol_readNumbers_172 : decode b_Vol_readNumbers 172 = .ok (.return_, 1) := by decide +kernel
theorem d_Vol_groupStart_0 : decode b_Vol_groupStart 0 = .ok (.aload_n 0, 1) := by decide +kernel
theorem d_Vol_groupStart_1 : decode b_Vol_groupStart 1 = .ok (.getfield 24, 3) := by decide +kernel
theorem d_Vol_groupStart_4 : decode b_Vol_groupStart 4 = .ok (.lload_n 1, 1) := by decide +kernel
theorem d_Vol_groupStart_5 : decode b_Vol_groupStart 5 = .ok (.aload_n 0, 1) := by decide +kernel
theorem d_Vol_groupStart_6 : decode b_Vol_groupStart 6 = .ok (.getfield 35, 3) := by decide +kernel
theorem d_Vol_groupStart_9 : decode b_Vol_groupStart 9 = .ok (.lmul, 1) := by decide +kernel
theorem d_Vol_groupStart_10 : decode b_Vol_groupStart 10 = .ok (.ladd, 1) := by decide +kernel
theorem d_Vol_groupStart_11 : decode b_Vol_groupStart 11 = .ok (.lreturn, 1) := by decide +kernel
theorem d_Vol_groupLength_0 : decode b_Vol_groupLength 0 = .ok (.aload_n 0, 1) := by decide +kernel
theorem d_Vol_groupLength_1 : decode b_Vol_groupLength 1 = .ok (.getfield 35, 3) := by decide +kernel
theorem d_Vol_groupLength_4 : decode b_Vol_groupLength 4 = .ok (.aload_n 0, 1) := by decide +kernel
theorem d_Vol_groupLength_5 : decode b_Vol_groupLength 5 = .ok (.getfield 21, 3) := by decide +kernel
theorem d_Vol_groupLength_8 : decode b_Vol_groupLength 8 = .ok (.aload_n 0, 1) := by decide +kernel
theorem d_Vol_groupLength_9 : decode b_Vol_groupLength 9 = .ok (.lload_n 1, 1) := by decide +kernel
theorem d_Vol_groupLength_10 : decode b_Vol_groupLength 10 = .ok (.invokevirtual 63, 3) := by decide +kernel
theorem d_Vol_groupLength_13 : decode b_Vol_groupLength 13 = .ok (.lsub, 1) := by decide +kernel
theorem d_Vol_groupLength_14 : decode b_Vol_groupLength 14 = .ok (.invokestatic 67, 3) := by decide +kernel
theorem d_Vol_groupLength_17 : decode b_Vol_groupLength 17 = .ok (.lreturn, 1) := by decide +kernel
