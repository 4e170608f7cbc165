theorem d_Vol_hasCopy_0 : decode b_Vol_hasCopy 0 = .ok (.aload_n 0, 1) := by decide +kernel
theorem d_Vol_hasCopy_1 : decode b_Vol_hasCopy 1 = .ok (.getfield 44, 3) := by decide +kernel
theorem d_Vol_hasCopy_4 : decode b_Vol_hasCopy 4 = .ok (.ifCond .ne 5, 3) := by decide +kernel
theorem d_Vol_hasCopy_7 : decode b_Vol_hasCopy 7 = .ok (.iconst 1, 1) := by decide +kernel
theorem d_Vol_hasCopy_8 : decode b_Vol_hasCopy 8 = .ok (.ireturn, 1) := by decide +kernel
theorem d_Vol_hasCopy_9 : decode b_Vol_hasCopy 9 = .ok (.iconst 0, 1) := by decide +kernel
theorem d_Vol_hasCopy_10 : decode b_Vol_hasCopy 10 = .ok (.istore_n 3, 1) := by decide +kernel
theorem d_Vol_hasCopy_11 : decode b_Vol_hasCopy 11 = .ok (.iload_n 3, 1) := by decide +kernel
theorem d_Vol_hasCopy_12 : decode b_Vol_hasCopy 12 = .ok (.getstatic 72, 3) := by decide +kernel
theorem d_Vol_hasCopy_15 : decode b_Vol_hasCopy 15 = .ok (.arraylength, 1) := by decide +kernel
theorem d_Vol_hasCopy_16 : decode b_Vol_hasCopy 16 = .ok (.if_icmp .ge 22, 3) := by decide +kernel
theorem d_Vol_hasCopy_19 : decode b_Vol_hasCopy 19 = .ok (.getstatic 72, 3) := by decide +kernel
theorem d_Vol_hasCopy_22 : decode b_Vol_hasCopy 22 = .ok (.iload_n 3, 1) := by decide +kernel
theorem d_Vol_hasCopy_23 : decode b_Vol_hasCopy 23 = .ok (.iaload, 1) := by decide +kernel
theorem d_Vol_hasCopy_24 : decode b_Vol_hasCopy 24 = .ok (.i2l, 1) := by decide +kernel
theorem d_Vol_hasCopy_25 : decode b_Vol_hasCopy 25 = .ok (.lload_n 1, 1) := by decide +kernel
theorem d_Vol_hasCopy_26 : decode b_Vol_hasCopy 26 = .ok (.lcmp, 1) := by decide +kernel
theorem d_Vol_hasCopy_27 : decode b_Vol_hasCopy 27 = .ok (.ifCond .ne 5, 3) := by decide +kernel
theorem d_Vol_hasCopy_30 : decode b_Vol_hasCopy 30 = .ok (.iconst 1, 1) := by decide +kernel
theorem d_Vol_hasCopy_31 : decode b_Vol_hasCopy 31 = .ok (.ireturn, 1) := by decide +kernel
theorem d_Vol_hasCopy_32 : decode b_Vol_hasCopy 32 = .ok (.iinc 3 1, 3) := by decide +kernel
theorem d_Vol_hasCopy_35 : decode b_Vol_hasCopy 35 = .ok (.goto (-24), 3) := by decide +kernel
theorem d_Vol_hasCopy_38 : decode b_Vol_hasCopy 38 = .ok (.iconst 0, 1) := by decide +kernel
theorem d_Vol_hasCopy_39 : decode b_Vol_hasCopy 39 = .ok (.ireturn, 1) := by decide +kernel
theorem d_Vol_blocksOfCopy_0 : decode b_Vol_blocksOfCopy 0 = .ok (.aload_n 0, 1) := by decide +kernel
theorem d_Vol_blocksOfCopy_1 : decode b_Vol_blocksOfCopy 1 = .ok (.lload_n 1, 1) := by decide +kernel
theorem d_Vol_blocksOfCopy_2 : decode b_Vol_blocksOfCopy 2 = .ok (.invokevirtual 76, 3) := by decide +kernel
theorem d_Vol_blocksOfCopy_5 : decode b_Vol_blocksOfCopy 5 = .ok (.ifCond .eq 10, 3) := by decide +kernel
theorem d_Vol_blocksOfCopy_8 : decode b_Vol_blocksOfCopy 8 = .ok (.aload_n 0, 1) := by decide +kernel
theorem d_Vol_blocksOfCopy_9 : decode b_Vol_blocksOfCopy 9 = .ok (.getfield 57, 3) := by decide +kernel
theorem d_Vol_blocksOfCopy_12 : decode b_Vol_blocksOfCopy 12 = .ok (.goto 4, 3) := by decide +kernel
theorem d_Vol_blocksOfCopy_15 : decode b_Vol_blocksOfCopy 15 = .ok (.lconst 0, 1) := by decide +kernel
theorem d_Vol_blocksOfCopy_16 : decode b_Vol_blocksOfCopy 16 = .ok (.lreturn, 1) := by decide +kernel
theorem d_Vol_blockBitmap_0 : decode b_Vol_blockBitmap 0 = .ok (.aload_n 0, 1) := by decide +kernel
theorem d_Vol_blockBitmap_1 : decode b_Vol_blockBitmap 1 = .ok (.lload_n 1, 1) := by decide +kernel
theorem d_Vol_blockBitmap_2 : decode b_Vol_blockBitmap 2 = .ok (.invokevirtual 63, 3) := by decide +kernel
theorem d_Vol_blockBitmap_5 : decode b_Vol_blockBitmap 5 = .ok (.aload_n 0, 1) := by decide +kernel
theorem d_Vol_blockBitmap_6 : decode b_Vol_blockBitmap 6 = .ok (.lload_n 1, 1) := by decide +kernel
theorem d_Vol_blockBitmap_7 : decode b_Vol_blockBitmap 7 = .ok (.invokevirtual 80, 3) := by decide +kernel
theorem d_Vol_blockBitmap_10 : decode b_Vol_blockBitmap 10 = .ok (.ladd, 1) := by decide +kernel
theorem d_Vol_blockBitmap_11 : decode b_Vol_blockBitmap 11 = .ok (.lreturn, 1) := by decide +kernel
theorem d_Vol_fileBitmap_0 : decode b_Vol_fileBitmap 0 = .ok (.aload_n 0, 1) := by decide +kernel
theorem d_Vol_fileBitmap_1 : decode b_Vol_fileBitmap 1 = .ok (.lload_n 1, 1) := by decide +kernel
theorem d_Vol_fileBitmap_2 : decode b_Vol_fileBitmap 2 = .ok (.invokevirtual 83, 3) := by decide +kernel
theorem d_Vol_fileBitmap_5 : decode b_Vol_fileBitmap 5 = .ok (.lconst 1, 1) := by decide +kernel
theorem d_Vol_fileBitmap_6 : decode b_Vol_fileBitmap 6 = .ok (.ladd, 1) := by decide +kernel
theorem d_Vol_fileBitmap_7 : decode b_Vol_fileBitmap 7 = .ok (.lreturn, 1) := by decide +kernel
theorem d_Vol_recordStart_0 : decode b_Vol_recordStart 0 = .ok (.aload_n 0, 1) := by decide +kernel
theorem d_Vol_recordStart_1 : decode b_Vol_recordStart 1 = .ok (.lload_n 1, 1) := by decide +kernel
theorem d_Vol_recordStart_2 : decode b_Vol_recordStart 2 = .ok (.invokevirtual 86, 3) := by decide +kernel
theorem d_Vol_recordStart_5 : decode b_Vol_recordStart 5 = .ok (.lconst 1, 1) := by decide +kernel
theorem d_Vol_recordStart_6 : decode b_Vol_recordStart 6 = .ok (.ladd, 1) := by decide +kernel
theorem d_Vol_recordStart_7 : decode b_Vol_recordStart 7 = .ok (.lreturn, 1) := by decide +kernel
theorem d_Vol_fixedBlocks_0 : decode b_Vol_fixedBlocks 0 = .ok (.aload_n 0, 1) := by decide +kernel
theorem d_Vol_fixedBlocks_1 : decode b_Vol_fixedBlocks 1 = .ok (.lload_n 1, 1) := by decide +kernel
theorem d_Vol_fixedBlocks_2 : decode b_Vol_fixedBlocks 2 = .ok (.invokevirtual 80, 3) := by decide +kernel
theorem d_Vol_fixedBlocks_5 : decode b_Vol_fixedBlocks 5 = .ok (.ldc2_w 89, 3) := by decide +kernel
theorem d_Vol_fixedBlocks_8 : decode b_Vol_fixedBlocks 8 = .ok (.ladd, 1) := by decide +kernel
theorem d_Vol_fixedBlocks_9 : decode b_Vol_fixedBlocks 9 = .ok (.aload_n 0, 1) := by decide +kernel
theorem d_Vol_fixedBlocks_10 : decode b_Vol_fixedBlocks 10 = .ok (.getfield 60, 3) := by decide +kernel
theorem d_Vol_fixedBlocks_13 : decode b_Vol_fixedBlocks 13 = .ok (.ladd, 1) := by decide +kernel
theorem d_Vol_fixedBlocks_14 : decode b_Vol_fixedBlocks 14 = .ok (.lreturn, 1) := by decide +kernel
theorem d_Vol_firstFaultOf_0 : decode b_Vol_firstFaultOf 0 = .ok (.aload_n 0, 1) := by decide +kernel
theorem d_Vol_firstFaultOf_1 : decode b_Vol_firstFaultOf 1 = .ok (.aload_n 1, 1) := by decide +kernel
theorem d_Vol_firstFaultOf_2 : decode b_Vol_firstFaultOf 2 = .ok (.invokevirtual 91, 3) := by decide +kernel
theorem d_Vol_firstFaultOf_5 : decode b_Vol_firstFaultOf 5 = .ok (.aload_n 0, 1) := by decide +kernel
theorem d_Vol_firstFaultOf_6 : decode b_Vol_firstFaultOf 6 = .ok (.aload_n 1, 1) := by decide +kernel
theorem d_Vol_firstFaultOf_7 : decode b_Vol_firstFaultOf 7 = .ok (.invokevirtual 95, 3) := by decide +kernel
theorem d_Vol_firstFaultOf_10 : decode b_Vol_firstFaultOf 10 = .ok (.istore_n 2, 1) := by decide +kernel
theorem d_Vol_firstFaultOf_11 : decode b_Vol_firstFaultOf 11 = .ok (.iload_n 2, 1) := by decide +kernel
theorem d_Vol_firstFaultOf_12 : decode b_Vol_firstFaultOf 12 = .ok (.bipush (-2), 2) := by decide +kernel
theorem d_Vol_firstFaultOf_14 : decode b_Vol_firstFaultOf 14 = .ok (.if_icmp .ne 9, 3) := by decide +kernel
theorem d_Vol_firstFaultOf_17 : decode b_Vol_firstFaultOf 17 = .ok (.aload_n 0, 1) := by decide +kernel
theorem d_Vol_firstFaultOf_18 : decode b_Vol_firstFaultOf 18 = .ok (.aload_n 1, 1) := by decide +kernel
theorem d_Vol_firstFaultOf_19 : decode b_Vol_firstFaultOf 19 = .ok (.invokevirtual 99, 3) := by decide +kernel
theorem d_Vol_firstFaultOf_22 : decode b_Vol_firstFaultOf 22 = .ok (.istore_n 2, 1) := by decide +kernel
theorem d_Vol_firstFaultOf_23 : decode b_Vol_firstFaultOf 23 = .ok (.iload_n 2, 1) := by decide +kernel
theorem d_Vol_firstFaultOf_24 : decode b_Vol_firstFaultOf 24 = .ok (.bipush (-2), 2) := by decide +kernel
theorem d_Vol_firstFaultOf_26 : decode b_Vol_firstFaultOf 26 = .ok (.if_icmp .ne 12, 3) := by decide +kernel
theorem d_Vol_firstFaultOf_29 : decode b_Vol_firstFaultOf 29 = .ok (.aload_n 0, 1) := by decide +kernel
theorem d_Vol_firstFaultOf_30 : decode b_Vol_firstFaultOf 30 = .ok (.invokevirtual 102, 3) := by decide +kernel
theorem d_Vol_firstFaultOf_33 : decode b_Vol_firstFaultOf 33 = .ok (.ifCond .ne 5, 3) := by decide +kernel
theorem d_Vol_firstFaultOf_36 : decode b_Vol_firstFaultOf 36 = .ok (.iconst 4, 1) := by decide +kernel
theorem d_Vol_firstFaultOf_37 : decode b_Vol_firstFaultOf 37 = .ok (.istore_n 2, 1) := by decide +kernel
theorem d_Vol_firstFaultOf_38 : decode b_Vol_firstFaultOf 38 = .ok (.iload_n 2, 1) := by decide +kernel
theorem d_Vol_firstFaultOf_39 : decode b_Vol_firstFaultOf 39 = .ok (.bipush (-2), 2) := by decide +kernel
theorem d_Vol_firstFaultOf_41 : decode b_Vol_firstFaultOf 41 = .ok (.if_icmp .ne 9, 3) := by decide +kernel
theorem d_Vol_firstFaultOf_44 : decode b_Vol_firstFaultOf 44 = .ok (.aload_n 0, 1) := by decide +kernel
theorem d_Vol_firstFaultOf_45 : decode b_Vol_firstFaultOf 45 = .ok (.aload_n 1, 1) := by decide +kernel
theorem d_Vol_firstFaultOf_46 : decode b_Vol_firstFaultOf 46 = .ok (.invokevirtual 106, 3) := by decide +kernel
theorem d_Vol_firstFaultOf_49 : decode b_Vol_firstFaultOf 49 = .ok (.istore_n 2, 1) := by decide +kernel
theorem d_Vol_firstFaultOf_50 : decode b_Vol_firstFaultOf 50 = .ok (.iload_n 2, 1) := by decide +kernel
theorem d_Vol_firstFaultOf_51 : decode b_Vol_firstFaultOf 51 = .ok (.bipush (-2), 2) := by decide +kernel
theorem d_Vol_firstFaultOf_53 : decode b_Vol_firstFaultOf 53 = .ok (.if_icmp .ne 9, 3) := by decide +kernel
theorem d_Vol_firstFaultOf_56 : decode b_Vol_firstFaultOf 56 = .ok (.aload_n 0, 1) := by decide +kernel
theorem d_Vol_firstFaultOf_57 : decode b_Vol_firstFaultOf 57 = .ok (.aload_n 1, 1) := by decide +kernel
theorem d_Vol_firstFaultOf_58 : decode b_Vol_firstFaultOf 58 = .ok (.invokevirtual 109, 3) := by decide +kernel
theorem d_Vol_firstFaultOf_61 : decode b_Vol_firstFaultOf 61 = .ok (.istore_n 2, 1) := by decide +kernel
theorem d_Vol_firstFaultOf_62 : decode b_Vol_firstFaultOf 62 = .ok (.iload_n 2, 1) := by decide +kernel
theorem d_Vol_firstFaultOf_63 : decode b_Vol_firstFaultOf 63 = .ok (.bipush (-2), 2) := by decide +kernel
theorem d_Vol_firstFaultOf_65 : decode b_Vol_firstFaultOf 65 = .ok (.if_icmp .ne 11, 3) := by decide +kernel
theorem d_Vol_firstFaultOf_68 : decode b_Vol_firstFaultOf 68 = .ok (.aload_n 0, 1) := by decide +kernel
theorem d_Vol_firstFaultOf_69 : decode b_Vol_firstFaultOf 69 = .ok (.aload_n 1, 1) := by decide +kernel
theorem d_Vol_firstFaultOf_70 : decode b_Vol_firstFaultOf 70 = .ok (.invokevirtual 112, 3) := by decide +kernel
theorem d_Vol_firstFaultOf_73 : decode b_Vol_firstFaultOf 73 = .ok (.goto 4, 3) := by decide +kernel
theorem d_Vol_firstFaultOf_76 : decode b_Vol_firstFaultOf 76 = .ok (.iload_n 2, 1) := by decide +kernel
theorem d_Vol_firstFaultOf_77 : decode b_Vol_firstFaultOf 77 = .ok (.ireturn, 1) := by decide +kernel
theorem d_Vol_faultOfForm_0 : decode b_Vol_faultOfForm 0 = .ok (.aload_n 1, 1) := by decide +kernel
theorem d_Vol_faultOfForm_1 : decode b_Vol_faultOfForm 1 = .ok (.bipush 56, 2) := by decide +kernel
theorem d_Vol_faultOfForm_3 : decode b_Vol_faultOfForm 3 = .ok (.iconst 2, 1) := by decide +kernel
theorem d_Vol_faultOfForm_4 : decode b_Vol_faultOfForm 4 = .ok (.invokevirtual 9, 3) := by decide +kernel
theorem d_Vol_faultOfForm_7 : decode b_Vol_faultOfForm 7 = .ok (.ldc2_w 115, 3) := by decide +kernel
theorem d_Vol_faultOfForm_10 : decode b_Vol_faultOfForm 10 = .ok (.lcmp, 1) := by decide +kernel
theorem d_Vol_faultOfForm_11 : decode b_Vol_faultOfForm 11 = .ok (.ifCond .eq 6, 3) := by decide +kernel
theorem d_Vol_faultOfForm_14 : decode b_Vol_faultOfForm 14 = .ok (.bipush 56, 2) := by decide +kernel
theorem d_Vol_faultOfForm_16 : decode b_Vol_faultOfForm 16 = .ok (.ireturn, 1) := by decide +kernel
theorem d_Vol_faultOfForm_17 : decode b_Vol_faultOfForm 17 = .ok (.aload_n 1, 1) := by decide +kernel
theorem d_Vol_faultOfForm_18 : decode b_Vol_faultOfForm 18 = .ok (.bipush 76, 2) := by decide +kernel
theorem d_Vol_faultOfForm_20 : decode b_Vol_faultOfForm 20 = .ok (.iconst 4, 1) := by decide +kernel
theorem d_Vol_faultOfForm_21 : decode b_Vol_faultOfForm 21 = .ok (.invokevirtual 9, 3) := by decide +kernel
theorem d_Vol_faultOfForm_24 : decode b_Vol_faultOfForm 24 = .ok (.lconst 1, 1) := by decide +kernel
theorem d_Vol_faultOfForm_25 : decode b_Vol_faultOfForm 25 = .ok (.lcmp, 1) := by decide +kernel
theorem d_Vol_faultOfForm_26 : decode b_Vol_faultOfForm 26 = .ok (.ifCond .eq 6, 3) := by decide +kernel
theorem d_Vol_faultOfForm_29 : decode b_Vol_faultOfForm 29 = .ok (.bipush 76, 2) := by decide +kernel
theorem d_Vol_faultOfForm_31 : decode b_Vol_faultOfForm 31 = .ok (.ireturn, 1) := by decide +kernel
theorem d_Vol_faultOfForm_32 : decode b_Vol_faultOfForm 32 = .ok (.aload_n 0, 1) := by decide +kernel
theorem d_Vol_faultOfForm_33 : decode b_Vol_faultOfForm 33 = .ok (.getfield 27, 3) := by decide +kernel
theorem d_Vol_faultOfForm_36 : decode b_Vol_faultOfForm 36 = .ok (.ldc2_w 89, 3) := by decide +kernel
theorem d_Vol_faultOfForm_39 : decode b_Vol_faultOfForm 39 = .ok (.lcmp, 1) := by decide +kernel
theorem d_Vol_faultOfForm_40 : decode b_Vol_faultOfForm 40 = .ok (.ifCond .le 6, 3) := by decide +kernel
theorem d_Vol_faultOfForm_43 : decode b_Vol_faultOfForm 43 = .ok (.bipush 24, 2) := by decide +kernel
theorem d_Vol_faultOfForm_45 : decode b_Vol_faultOfForm 45 = .ok (.ireturn, 1) := by decide +kernel
theorem d_Vol_faultOfForm_46 : decode b_Vol_faultOfForm 46 = .ok (.aload_n 1, 1) := by decide +kernel
theorem d_Vol_faultOfForm_47 : decode b_Vol_faultOfForm 47 = .ok (.bipush 28, 2) := by decide +kernel
theorem d_Vol_faultOfForm_49 : decode b_Vol_faultOfForm 49 = .ok (.iconst 4, 1) := by decide +kernel
theorem d_Vol_faultOfForm_50 : decode b_Vol_faultOfForm 50 = .ok (.invokevirtual 9, 3) := by decide +kernel
theorem d_Vol_faultOfForm_53 : decode b_Vol_faultOfForm 53 = .ok (.aload_n 0, 1) := by decide +kernel
theorem d_Vol_faultOfForm_54 : decode b_Vol_faultOfForm 54 = .ok (.getfield 27, 3) := by decide +kernel
theorem d_Vol_faultOfForm_57 : decode b_Vol_faultOfForm 57 = .ok (.lcmp, 1) := by decide +kernel
theorem d_Vol_faultOfForm_58 : decode b_Vol_faultOfForm 58 = .ok (.ifCond .eq 6, 3) := by decide +kernel
theorem d_Vol_faultOfForm_61 : decode b_Vol_faultOfForm 61 = .ok (.bipush 28, 2) := by decide +kernel
theorem d_Vol_faultOfForm_63 : decode b_Vol_faultOfForm 63 = .ok (.ireturn, 1) := by decide +kernel
theorem d_Vol_faultOfForm_64 : decode b_Vol_faultOfForm 64 = .ok (.aload_n 0, 1) := by decide +kernel
theorem d_Vol_faultOfForm_65 : decode b_Vol_faultOfForm 65 = .ok (.getfield 24, 3) := by decide +kernel
theorem d_Vol_faultOfForm_68 : decode b_Vol_faultOfForm 68 = .ok (.aload_n 0, 1) := by decide +kernel
theorem d_Vol_faultOfForm_69 : decode b_Vol_faultOfForm 69 = .ok (.getfield 27, 3) := by decide +kernel
theorem d_Vol_faultOfForm_72 : decode b_Vol_faultOfForm 72 = .ok (.invokestatic 117, 3) := by decide +kernel
theorem d_Vol_faultOfForm_75 : decode b_Vol_faultOfForm 75 = .ok (.i2l, 1) := by decide +kernel
theorem d_Vol_faultOfForm_76 : decode b_Vol_faultOfForm 76 = .ok (.lcmp, 1) := by decide +kernel
theorem d_Vol_faultOfForm_77 : decode b_Vol_faultOfForm 77 = .ok (.ifCond .ne 8, 3) := by decide +kernel
theorem d_Vol_faultOfForm_80 : decode b_Vol_faultOfForm 80 = .ok (.bipush (-2), 2) := by decide +kernel
theorem d_Vol_faultOfForm_82 : decode b_Vol_faultOfForm 82 = .ok (.goto 5, 3) := by decide +kernel
theorem d_Vol_faultOfForm_85 : decode b_Vol_faultOfForm 85 = .ok (.bipush 20, 2) := by decide +kernel
theorem d_Vol_faultOfForm_87 : decode b_Vol_faultOfForm 87 = .ok (.ireturn, 1) := by decide +kernel
theorem d_Vol_faultOfGroupSizes_0 : decode b_Vol_faultOfGroupSizes 0 = .ok (.ldc2_w 121, 3) := by decide +kernel
theorem d_Vol_faultOfGroupSizes_3 : decode b_Vol_faultOfGroupSizes 3 = .ok (.aload_n 0, 1) := by decide +kernel
theorem d_Vol_faultOfGroupSizes_4 : decode b_Vol_faultOfGroupSizes 4 = .ok (.getfield 32, 3) := by decide +kernel
theorem d_Vol_faultOfGroupSizes_7 : decode b_Vol_faultOfGroupSizes 7 = .ok (.lmul, 1) := by decide +kernel
theorem d_Vol_faultOfGroupSizes_8 : decode b_Vol_faultOfGroupSizes 8 = .ok (.lstore_n 2, 1) := by decide +kernel
theorem d_Vol_faultOfGroupSizes_9 : decode b_Vol_faultOfGroupSizes 9 = .ok (.aload_n 0, 1) := by decide +kernel
theorem d_Vol_faultOfGroupSizes_10 : decode b_Vol_faultOfGroupSizes 10 = .ok (.getfield 35, 3) := by decide +kernel
theorem d_Vol_faultOfGroupSizes_13 : decode b_Vol_faultOfGroupSizes 13 = .ok (.ldc2_w 123, 3) := by decide +kernel
theorem d_Vol_faultOfGroupSizes_16 : decode b_Vol_faultOfGroupSizes 16 = .ok (.lload_n 2, 1) := by decide +kernel
theorem d_Vol_faultOfGroupSizes_17 : decode b_Vol_faultOfGroupSizes 17 = .ok (.invokestatic 125, 3) := by decide +kernel
theorem d_Vol_faultOfGroupSizes_20 : decode b_Vol_faultOfGroupSizes 20 = .ok (.ifCond .ne 6, 3) := by decide +kernel
theorem d_Vol_faultOfGroupSizes_23 : decode b_Vol_faultOfGroupSizes 23 = .ok (.bipush 32, 2) := by decide +kernel
theorem d_Vol_faultOfGroupSizes_25 : decode b_Vol_faultOfGroupSizes 25 = .ok (.ireturn, 1) := by decide +kernel
theorem d_Vol_faultOfGroupSizes_26 : decode b_Vol_faultOfGroupSizes 26 = .ok (.aload_n 1, 1) := by decide +kernel
theorem d_Vol_faultOfGroupSizes_27 : decode b_Vol_faultOfGroupSizes 27 = .ok (.bipush 36, 2) := by decide +kernel
theorem d_Vol_faultOfGroupSizes_29 : decode b_Vol_faultOfGroupSizes 29 = .ok (.iconst 4, 1) := by decide +kernel
theorem d_Vol_faultOfGroupSizes_30 : decode b_Vol_faultOfGroupSizes 30 = .ok (.invokevirtual 9, 3) := by decide +kernel
theorem d_Vol_faultOfGroupSizes_33 : decode b_Vol_faultOfGroupSizes 33 = .ok (.aload_n 0, 1) := by decide +kernel
theorem d_Vol_faultOfGroupSizes_34 : decode b_Vol_faultOfGroupSizes 34 = .ok (.getfield 35, 3) := by decide +kernel
theorem d_Vol_faultOfGroupSizes_37 : decode b_Vol_faultOfGroupSizes 37 = .ok (.lcmp, 1) := by decide +kernel
theorem d_Vol_faultOfGroupSizes_38 : decode b_Vol_faultOfGroupSizes 38 = .ok (.ifCond .eq 6, 3) := by decide +kernel
theorem d_Vol_faultOfGroupSizes_41 : decode b_Vol_faultOfGroupSizes 41 = .ok (.bipush 36, 2) := by decide +kernel
theorem d_Vol_faultOfGroupSizes_43 : decode b_Vol_faultOfGroupSizes 43 = .ok (.ireturn, 1) := by decide +kernel
theorem d_Vol_faultOfGroupSizes_44 : decode b_Vol_faultOfGroupSizes 44 = .ok (.aload_n 0, 1) := by decide +kernel
theorem d_Vol_faultOfGroupSizes_45 : decode b_Vol_faultOfGroupSizes 45 = .ok (.getfield 41, 3) := by decide +kernel
theorem d_Vol_faultOfGroupSizes_48 : decode b_Vol_faultOfGroupSizes 48 = .ok (.invokestatic 129, 3) := by decide +kernel
theorem d_Vol_faultOfGroupSizes_51 : decode b_Vol_faultOfGroupSizes 51 = .ok (.ifCond .ne 6, 3) := by decide +kernel
theorem d_Vol_faultOfGroupSizes_54 : decode b_Vol_faultOfGroupSizes 54 = .ok (.bipush 88, 2) := by decide +kernel
theorem d_Vol_faultOfGroupSizes_56 : decode b_Vol_faultOfGroupSizes 56 = .ok (.ireturn, 1) := by decide +kernel
theorem d_Vol_faultOfGroupSizes_57 : decode b_Vol_faultOfGroupSizes 57 = .ok (.aload_n 0, 1) := by decide +kernel
theorem d_Vol_faultOfGroupSizes_58 : decode b_Vol_faultOfGroupSizes 58 = .ok (.getfield 60, 3) := by decide +kernel
theorem d_Vol_faultOfGroupSizes_61 : decode b_Vol_faultOfGroupSizes 61 = .ok (.aload_n 0, 1) := by decide +kernel
theorem d_Vol_faultOfGroupSizes_62 : decode b_Vol_faultOfGroupSizes 62 = .ok (.getfield 32, 3) := by decide +kernel
theorem d_Vol_faultOfGroupSizes_65 : decode b_Vol_faultOfGroupSizes 65 = .ok (.lmul, 1) := by decide +kernel
theorem d_Vol_faultOfGroupSizes_66 : decode b_Vol_faultOfGroupSizes 66 = .ok (.aload_n 0, 1) := by decide +kernel
theorem d_Vol_faultOfGroupSizes_67 : decode b_Vol_faultOfGroupSizes 67 = .ok (.getfield 38, 3) := by decide +kernel
theorem d_Vol_faultOfGroupSizes_70 : decode b_Vol_faultOfGroupSizes 70 = .ok (.aload_n 0, 1) := by decide +kernel
theorem d_Vol_faultOfGroupSizes_71 : decode b_Vol_faultOfGroupSizes 71 = .ok (.getfield 41, 3) := by decide +kernel
theorem d_Vol_faultOfGroupSizes_74 : decode b_Vol_faultOfGroupSizes 74 = .ok (.lmul, 1) := by decide +kernel
theorem d_Vol_faultOfGroupSizes_75 : decode b_Vol_faultOfGroupSizes 75 = .ok (.lcmp, 1) := by decide +kernel
theorem d_Vol_faultOfGroupSizes_76 : decode b_Vol_faultOfGroupSizes 76 = .ok (.ifCond .ne 7, 3) := by decide +kernel
theorem d_Vol_faultOfGroupSizes_79 : decode b_Vol_faultOfGroupSizes 79 = .ok (.iconst 1, 1) := by decide +kernel
theorem d_Vol_faultOfGroupSizes_80 : decode b_Vol_faultOfGroupSizes 80 = .ok (.goto 4, 3) := by decide +kernel
theorem d_Vol_faultOfGroupSizes_83 : decode b_Vol_faultOfGroupSizes 83 = .ok (.iconst 0, 1) := by decide +kernel
theorem d_Vol_faultOfGroupSizes_84 : decode b_Vol_faultOfGroupSizes 84 = .ok (.istore 4, 2) := by decide +kernel
theorem d_Vol_faultOfGroupSizes_86 : decode b_Vol_faultOfGroupSizes 86 = .ok (.aload_n 0, 1) := by decide +kernel
theorem d_Vol_faultOfGroupSizes_87 : decode b_Vol_faultOfGroupSizes 87 = .ok (.getfield 38, 3) := by decide +kernel
theorem d_Vol_faultOfGroupSizes_90 : decode b_Vol_faultOfGroupSizes 90 = .ok (.ldc2_w 132, 3) := by decide +kernel
theorem d_Vol_faultOfGroupSizes_93 : decode b_Vol_faultOfGroupSizes 93 = .ok (.lload_n 2, 1) := by decide +kernel
theorem d_Vol_faultOfGroupSizes_94 : decode b_Vol_faultOfGroupSizes 94 = .ok (.invokestatic 125, 3) := by decide +kernel
theorem d_Vol_faultOfGroupSizes_97 : decode b_Vol_faultOfGroupSizes 97 = .ok (.ifCond .eq 13, 3) := by decide +kernel
theorem d_Vol_faultOfGroupSizes_100 : decode b_Vol_faultOfGroupSizes 100 = .ok (.iload 4, 2) := by decide +kernel
theorem d_Vol_faultOfGroupSizes_102 : decode b_Vol_faultOfGroupSizes 102 = .ok (.ifCond .eq 8, 3) := by decide +kernel
theorem d_Vol_faultOfGroupSizes_105 : decode b_Vol_faultOfGroupSizes 105 = .ok (.bipush (-2), 2) := by decide +kernel
theorem d_Vol_faultOfGroupSizes_107 : decode b_Vol_faultOfGroupSizes 107 = .ok (.goto 5, 3) := by decide +kernel
theorem d_Vol_faultOfGroupSizes_110 : decode b_Vol_faultOfGroupSizes 110 = .ok (.bipush 40, 2) := by decide +kernel
theorem d_Vol_faultOfGroupSizes_112 : decode b_Vol_faultOfGroupSizes 112 = .ok (.ireturn, 1) := by decide +kernel
theorem d_Vol_everyGroupHasRoom_0 : decode b_Vol_everyGroupHasRoom 0 = .ok (.aload_n 0, 1) := by decide +kernel
theorem d_Vol_everyGroupHasRoom_1 : decode b_Vol_everyGroupHasRoom 1 = .ok (.getfield 21, 3) := by decide +kernel
theorem d_Vol_everyGroupHasRoom_4 : decode b_Vol_everyGroupHasRoom 4 = .ok (.aload_n 0, 1) := by decide +kernel
theorem d_Vol_everyGroupHasRoom_5 : decode b_Vol_everyGroupHasRoom 5 = .ok (.getfield 24, 3) := by decide +kernel
theorem d_Vol_everyGroupHasRoom_8 : decode b_Vol_everyGroupHasRoom 8 = .ok (.lcmp, 1) := by decide +kernel
theorem d_Vol_everyGroupHasRoom_9 : decode b_Vol_everyGroupHasRoom 9 = .ok (.ifCond .le 25, 3) := by decide +kernel
theorem d_Vol_everyGroupHasRoom_12 : decode b_Vol_everyGroupHasRoom 12 = .ok (.aload_n 0, 1) := by decide +kernel
theorem d_Vol_everyGroupHasRoom_13 : decode b_Vol_everyGroupHasRoom 13 = .ok (.getfield 21, 3) := by decide +kernel
theorem d_Vol_everyGroupHasRoom_16 : decode b_Vol_everyGroupHasRoom 16 = .ok (.ldc2_w 134, 3) := by decide +kernel
theorem d_Vol_everyGroupHasRoom_19 : decode b_Vol_everyGroupHasRoom 19 = .ok (.lcmp, 1) := by decide +kernel
theorem d_Vol_everyGroupHasRoom_20 : decode b_Vol_everyGroupHasRoom 20 = .ok (.ifCond .gt 14, 3) := by decide +kernel
theorem d_Vol_everyGroupHasRoom_23 : decode b_Vol_everyGroupHasRoom 23 = .ok (.aload_n 0, 1) := by decide +kernel
theorem d_Vol_everyGroupHasRoom_24 : decode b_Vol_everyGroupHasRoom 24 = .ok (.getfield 52, 3) := by decide +kernel
theorem d_Vol_everyGroupHasRoom_27 : decode b_Vol_everyGroupHasRoom 27 = .ok (.ldc2_w 123, 3) := by decide +kernel
theorem d_Vol_everyGroupHasRoom_30 : decode b_Vol_everyGroupHasRoom 30 = .ok (.lcmp, 1) := by decide +kernel
theorem d_Vol_everyGroupHasRoom_31 : decode b_Vol_everyGroupHasRoom 31 = .ok (.ifCond .le 5, 3) := by decide +kernel
theorem d_Vol_everyGroupHasRoom_34 : decode b_Vol_everyGroupHasRoom 34 = .ok (.iconst 0, 1) := by decide +kernel
theorem d_Vol_everyGroupHasRoom_35 : decode b_Vol_everyGroupHasRoom 35 = .ok (.ireturn, 1) := by decide +kernel
theorem d_Vol_everyGroupHasRoom_36 : decode b_Vol_everyGroupHasRoom 36 = .ok (.iconst 0, 1) := by decide +kernel
theorem d_Vol_everyGroupHasRoom_37 : decode b_Vol_everyGroupHasRoom 37 = .ok (.istore_n 1, 1) := by decide +kernel
theorem d_Vol_everyGroupHasRoom_38 : decode b_Vol_everyGroupHasRoom 38 = .ok (.iload_n 1, 1) := by decide +kernel
theorem d_Vol_everyGroupHasRoom_39 : decode b_Vol_everyGroupHasRoom 39 = .ok (.i2l, 1) := by decide +kernel
theorem d_Vol_everyGroupHasRoom_40 : decode b_Vol_everyGroupHasRoom 40 = .ok (.aload_n 0, 1) := by decide +kernel
theorem d_Vol_everyGroupHasRoom_41 : decode b_Vol_everyGroupHasRoom 41 = .ok (.getfield 52, 3) := by decide +kernel
theorem d_Vol_everyGroupHasRoom_44 : decode b_Vol_everyGroupHasRoom 44 = .ok (.lcmp, 1) := by decide +kernel
theorem d_Vol_everyGroupHasRoom_45 : decode b_Vol_everyGroupHasRoom 45 = .ok (.ifCond .ge 27, 3) := by decide +kernel
theorem d_Vol_everyGroupHasRoom_48 : decode b_Vol_everyGroupHasRoom 48 = .ok (.aload_n 0, 1) := by decide +kernel
theorem d_Vol_everyGroupHasRoom_49 : decode b_Vol_everyGroupHasRoom 49 = .ok (.iload_n 1, 1) := by decide +kernel
theorem d_Vol_everyGroupHasRoom_50 : decode b_Vol_everyGroupHasRoom 50 = .ok (.i2l, 1) := by decide +kernel
theorem d_Vol_everyGroupHasRoom_51 : decode b_Vol_everyGroupHasRoom 51 = .ok (.invokevirtual 136, 3) := by decide +kernel
theorem d_Vol_everyGroupHasRoom_54 : decode b_Vol_everyGroupHasRoom 54 = .ok (.aload_n 0, 1) := by decide +kernel
theorem d_Vol_everyGroupHasRoom_55 : decode b_Vol_everyGroupHasRoom 55 = .ok (.iload_n 1, 1) := by decide +kernel
theorem d_Vol_everyGroupHasRoom_56 : decode b_Vol_everyGroupHasRoom 56 = .ok (.i2l, 1) := by decide +kernel
theorem d_Vol_everyGroupHasRoom_57 : decode b_Vol_everyGroupHasRoom 57 = .ok (.invokevirtual 139, 3) := by decide +kernel
theorem d_Vol_everyGroupHasRoom_60 : decode b_Vol_everyGroupHasRoom 60 = .ok (.lcmp, 1) := by decide +kernel
theorem d_Vol_everyGroupHasRoom_61 : decode b_Vol_everyGroupHasRoom 61 = .ok (.ifCond .gt 5, 3) := by decide +kernel
theorem d_Vol_everyGroupHasRoom_64 : decode b_Vol_everyGroupHasRoom 64 = .ok (.iconst 0, 1) := by decide +kernel
theorem d_Vol_everyGroupHasRoom_65 : decode b_Vol_everyGroupHasRoom 65 = .ok (.ireturn, 1) := by decide +kernel
theorem d_Vol_everyGroupHasRoom_66 : decode b_Vol_everyGroupHasRoom 66 = .ok (.iinc 1 1, 3) := by decide +kernel
theorem d_Vol_everyGroupHasRoom_69 : decode b_Vol_everyGroupHasRoom 69 = .ok (.goto (-31), 3) := by decide +kernel
theorem d_Vol_everyGroupHasRoom_72 : decode b_Vol_everyGroupHasRoom 72 = .ok (.iconst 1, 1) := by decide +kernel
theorem d_Vol_everyGroupHasRoom_73 : decode b_Vol_everyGroupHasRoom 73 = .ok (.ireturn, 1) := by decide +kernel
theorem d_Vol_faultOfCounts_0 : decode b_Vol_faultOfCounts 0 = .ok (.aload_n 0, 1) := by decide +kernel
theorem d_Vol_faultOfCounts_1 : decode b_Vol_faultOfCounts 1 = .ok (.getfield 15, 3) := by decide +kernel
theorem d_Vol_faultOfCounts_4 : decode b_Vol_faultOfCounts 4 = .ok (.aload_n 0, 1) := by decide +kernel
theorem d_Vol_faultOfCounts_5 : decode b_Vol_faultOfCounts 5 = .ok (.getfield 52, 3) := by decide +kernel
theorem d_Vol_faultOfCounts_8 : decode b_Vol_faultOfCounts 8 = .ok (.aload_n 0, 1) := by decide +kernel
theorem d_Vol_faultOfCounts_9 : decode b_Vol_faultOfCounts 9 = .ok (.getfield 38, 3) := by decide +kernel
theorem d_Vol_faultOfCounts_12 : decode b_Vol_faultOfCounts 12 = .ok (.lmul, 1) := by decide +kernel
theorem d_Vol_faultOfCounts_13 : decode b_Vol_faultOfCounts 13 = .ok (.lcmp, 1) := by decide +kernel
theorem d_Vol_faultOfCounts_14 : decode b_Vol_faultOfCounts 14 = .ok (.ifCond .eq 5, 3) := by decide +kernel
theorem d_Vol_faultOfCounts_17 : decode b_Vol_faultOfCounts 17 = .ok (.iconst 0, 1) := by decide +kernel
theorem d_Vol_faultOfCounts_18 : decode b_Vol_faultOfCounts 18 = .ok (.ireturn, 1) := by decide +kernel
theorem d_Vol_faultOfCounts_19 : decode b_Vol_faultOfCounts 19 = .ok (.aload_n 1, 1) := by decide +kernel
theorem d_Vol_faultOfCounts_20 : decode b_Vol_faultOfCounts 20 = .ok (.bipush 8, 2) := by decide +kernel
theorem d_Vol_faultOfCounts_22 : decode b_Vol_faultOfCounts 22 = .ok (.iconst 4, 1) := by decide +kernel
theorem d_Vol_faultOfCounts_23 : decode b_Vol_faultOfCounts 23 = .ok (.invokevirtual 9, 3) := by decide +kernel
theorem d_Vol_faultOfCounts_26 : decode b_Vol_faultOfCounts 26 = .ok (.aload_n 0, 1) := by decide +kernel
theorem d_Vol_faultOfCounts_27 : decode b_Vol_faultOfCounts 27 = .ok (.getfield 21, 3) := by decide +kernel
theorem d_Vol_faultOfCounts_30 : decode b_Vol_faultOfCounts 30 = .ok (.lcmp, 1) := by decide +kernel
theorem d_Vol_faultOfCounts_31 : decode b_Vol_faultOfCounts 31 = .ok (.ifCond .le 6, 3) := by decide +kernel
theorem d_Vol_faultOfCounts_34 : decode b_Vol_faultOfCounts 34 = .ok (.bipush 8, 2) := by decide +kernel
theorem d_Vol_faultOfCounts_36 : decode b_Vol_faultOfCounts 36 = .ok (.ireturn, 1) := by decide +kernel
theorem d_Vol_faultOfCounts_37 : decode b_Vol_faultOfCounts 37 = .ok (.aload_n 1, 1) := by decide +kernel
theorem d_Vol_faultOfCounts_38 : decode b_Vol_faultOfCounts 38 = .ok (.bipush 12, 2) := by decide +kernel
theorem d_Vol_faultOfCounts_40 : decode b_Vol_faultOfCounts 40 = .ok (.iconst 4, 1) := by decide +kernel
theorem d_Vol_faultOfCounts_41 : decode b_Vol_faultOfCounts 41 = .ok (.invokevirtual 9, 3) := by decide +kernel
theorem d_Vol_faultOfCounts_44 : decode b_Vol_faultOfCounts 44 = .ok (.aload_n 0, 1) := by decide +kernel
theorem d_Vol_faultOfCounts_45 : decode b_Vol_faultOfCounts 45 = .ok (.getfield 21, 3) := by decide +kernel
theorem d_Vol_faultOfCounts_48 : decode b_Vol_faultOfCounts 48 = .ok (.lcmp, 1) := by decide +kernel
theorem d_Vol_faultOfCounts_49 : decode b_Vol_faultOfCounts 49 = .ok (.ifCond .le 6, 3) := by decide +kernel
theorem d_Vol_faultOfCounts_52 : decode b_Vol_faultOfCounts 52 = .ok (.bipush 12, 2) := by decide +kernel
theorem d_Vol_faultOfCounts_54 : decode b_Vol_faultOfCounts 54 = .ok (.ireturn, 1) := by decide +kernel
theorem d_Vol_faultOfCounts_55 : decode b_Vol_faultOfCounts 55 = .ok (.aload_n 1, 1) := by decide +kernel
theorem d_Vol_faultOfCounts_56 : decode b_Vol_faultOfCounts 56 = .ok (.bipush 16, 2) := by decide +kernel
theorem d_Vol_faultOfCounts_58 : decode b_Vol_faultOfCounts 58 = .ok (.iconst 4, 1) := by decide +kernel
theorem d_Vol_faultOfCounts_59 : decode b_Vol_faultOfCounts 59 = .ok (.invokevirtual 9, 3) := by decide +kernel
theorem d_Vol_faultOfCounts_62 : decode b_Vol_faultOfCounts 62 = .ok (.aload_n 0, 1) := by decide +kernel
theorem d_Vol_faultOfCounts_63 : decode b_Vol_faultOfCounts 63 = .ok (.getfield 15, 3) := by decide +kernel
theorem d_Vol_faultOfCounts_66 : decode b_Vol_faultOfCounts 66 = .ok (.lcmp, 1) := by decide +kernel
theorem d_Vol_faultOfCounts_67 : decode b_Vol_faultOfCounts 67 = .ok (.ifCond .le 6, 3) := by decide +kernel
theorem d_Vol_faultOfCounts_70 : decode b_Vol_faultOfCounts 70 = .ok (.bipush 16, 2) := by decide +kernel
theorem d_Vol_faultOfCounts_72 : decode b_Vol_faultOfCounts 72 = .ok (.ireturn, 1) := by decide +kernel
theorem d_Vol_faultOfCounts_73 : decode b_Vol_faultOfCounts 73 = .ok (.aload_n 1, 1) := by decide +kernel
theorem d_Vol_faultOfCounts_74 : decode b_Vol_faultOfCounts 74 = .ok (.bipush 58, 2) := by decide +kernel
theorem d_Vol_faultOfCounts_76 : decode b_Vol_faultOfCounts 76 = .ok (.iconst 2, 1) := by decide +kernel
theorem d_Vol_faultOfCounts_77 : decode b_Vol_faultOfCounts 77 = .ok (.invokevirtual 9, 3) := by decide +kernel
theorem d_Vol_faultOfCounts_80 : decode b_Vol_faultOfCounts 80 = .ok (.lstore_n 2, 1) := by decide +kernel
theorem d_Vol_faultOfCounts_81 : decode b_Vol_faultOfCounts 81 = .ok (.lload_n 2, 1) := by decide +kernel
theorem d_Vol_faultOfCounts_82 : decode b_Vol_faultOfCounts 82 = .ok (.lconst 1, 1) := by decide +kernel
theorem d_Vol_faultOfCounts_83 : decode b_Vol_faultOfCounts 83 = .ok (.lcmp, 1) := by decide +kernel
theorem d_Vol_faultOfCounts_84 : decode b_Vol_faultOfCounts 84 = .ok (.ifCond .eq 14, 3) := by decide +kernel
theorem d_Vol_faultOfCounts_87 : decode b_Vol_faultOfCounts 87 = .ok (.lload_n 2, 1) := by decide +kernel
theorem d_Vol_faultOfCounts_88 : decode b_Vol_faultOfCounts 88 = .ok (.ldc2_w 142, 3) := by decide +kernel
theorem d_Vol_faultOfCounts_91 : decode b_Vol_faultOfCounts 91 = .ok (.lcmp, 1) := by decide +kernel
theorem d_Vol_faultOfCounts_92 : decode b_Vol_faultOfCounts 92 = .ok (.ifCond .eq 6, 3) := by decide +kernel
theorem d_Vol_faultOfCounts_95 : decode b_Vol_faultOfCounts 95 = .ok (.bipush 58, 2) := by decide +kernel
theorem d_Vol_faultOfCounts_97 : decode b_Vol_faultOfCounts 97 = .ok (.ireturn, 1) := by decide +kernel
theorem d_Vol_faultOfCounts_98 : decode b_Vol_faultOfCounts 98 = .ok (.aload_n 1, 1) := by decide +kernel
theorem d_Vol_faultOfCounts_99 : decode b_Vol_faultOfCounts 99 = .ok (.bipush 84, 2) := by decide +kernel
theorem d_Vol_faultOfCounts_101 : decode b_Vol_faultOfCounts 101 = .ok (.iconst 4, 1) := by decide +kernel
theorem d_Vol_faultOfCounts_102 : decode b_Vol_faultOfCounts 102 = .ok (.invokevirtual 9, 3) := by decide +kernel
theorem d_Vol_faultOfCounts_105 : decode b_Vol_faultOfCounts 105 = .ok (.lstore 4, 2) := by decide +kernel
theorem d_Vol_faultOfCounts_107 : decode b_Vol_faultOfCounts 107 = .ok (.lload 4, 2) := by decide +kernel
theorem d_Vol_faultOfCounts_109 : decode b_Vol_faultOfCounts 109 = .ok (.ldc2_w 144, 3) := by decide +kernel
theorem d_Vol_faultOfCounts_112 : decode b_Vol_faultOfCounts 112 = .ok (.lcmp, 1) := by decide +kernel
theorem d_Vol_faultOfCounts_113 : decode b_Vol_faultOfCounts 113 = .ok (.ifCond .lt 13, 3) := by decide +kernel
theorem d_Vol_faultOfCounts_116 : decode b_Vol_faultOfCounts 116 = .ok (.lload 4, 2) := by decide +kernel
theorem d_Vol_faultOfCounts_118 : decode b_Vol_faultOfCounts 118 = .ok (.aload_n 0, 1) := by decide +kernel
theorem d_Vol_faultOfCounts_119 : decode b_Vol_faultOfCounts 119 = .ok (.getfield 15, 3) := by decide +kernel
theorem d_Vol_faultOfCounts_122 : decode b_Vol_faultOfCounts 122 = .ok (.lcmp, 1) := by decide +kernel
theorem d_Vol_faultOfCounts_123 : decode b_Vol_faultOfCounts 123 = .ok (.ifCond .le 6, 3) := by decide +kernel
theorem d_Vol_faultOfCounts_126 : decode b_Vol_faultOfCounts 126 = .ok (.bipush 84, 2) := by decide +kernel
theorem d_Vol_faultOfCounts_128 : decode b_Vol_faultOfCounts 128 = .ok (.ireturn, 1) := by decide +kernel
theorem d_Vol_faultOfCounts_129 : decode b_Vol_faultOfCounts 129 = .ok (.aload_n 1, 1) := by decide +kernel
theorem d_Vol_faultOfCounts_130 : decode b_Vol_faultOfCounts 130 = .ok (.bipush 90, 2) := by decide +kernel
theorem d_Vol_faultOfCounts_132 : decode b_Vol_faultOfCounts 132 = .ok (.iconst 2, 1) := by decide +kernel
theorem d_Vol_faultOfCounts_133 : decode b_Vol_faultOfCounts 133 = .ok (.invokevirtual 9, 3) := by decide +kernel
theorem d_Vol_faultOfCounts_136 : decode b_Vol_faultOfCounts 136 = .ok (.lstore 6, 2) := by decide +kernel
theorem d_Vol_faultOfCounts_138 : decode b_Vol_faultOfCounts 138 = .ok (.lload 6, 2) := by decide +kernel
theorem d_Vol_faultOfCounts_140 : decode b_Vol_faultOfCounts 140 = .ok (.aload_n 0, 1) := by decide +kernel
theorem d_Vol_faultOfCounts_141 : decode b_Vol_faultOfCounts 141 = .ok (.getfield 52, 3) := by decide +kernel
theorem d_Vol_faultOfCounts_144 : decode b_Vol_faultOfCounts 144 = .ok (.lcmp, 1) := by decide +kernel
theorem d_Vol_faultOfCounts_145 : decode b_Vol_faultOfCounts 145 = .ok (.ifCond .ge 17, 3) := by decide +kernel
theorem d_Vol_faultOfCounts_148 : decode b_Vol_faultOfCounts 148 = .ok (.aload_n 0, 1) := by decide +kernel
theorem d_Vol_faultOfCounts_149 : decode b_Vol_faultOfCounts 149 = .ok (.lload 6, 2) := by decide +kernel
theorem d_Vol_faultOfCounts_151 : decode b_Vol_faultOfCounts 151 = .ok (.invokevirtual 76, 3) := by decide +kernel
theorem d_Vol_faultOfCounts_154 : decode b_Vol_faultOfCounts 154 = .ok (.ifCond .eq 8, 3) := by decide +kernel
theorem d_Vol_faultOfCounts_157 : decode b_Vol_faultOfCounts 157 = .ok (.bipush (-2), 2) := by decide +kernel
theorem d_Vol_faultOfCounts_159 : decode b_Vol_faultOfCounts 159 = .ok (.goto 5, 3) := by decide +kernel
theorem d_Vol_faultOfCounts_162 : decode b_Vol_faultOfCounts 162 = .ok (.bipush 90, 2) := by decide +kernel
theorem d_Vol_faultOfCounts_164 : decode b_Vol_faultOfCounts 164 = .ok (.ireturn, 1) := by decide +kernel
theorem d_Vol_faultOfFeatures_0 : decode b_Vol_faultOfFeatures 0 = .ok (.aload_n 1, 1) := by decide +kernel
theorem d_Vol_faultOfFeatures_1 : decode b_Vol_faultOfFeatures 1 = .ok (.bipush 96, 2) := by decide +kernel
theorem d_Vol_faultOfFeatures_3 : decode b_Vol_faultOfFeatures 3 = .ok (.iconst 4, 1) := by decide +kernel
theorem d_Vol_faultOfFeatures_4 : decode b_Vol_faultOfFeatures 4 = .ok (.invokevirtual 9, 3) := by decide +kernel
theorem d_Vol_faultOfFeatures_7 : decode b_Vol_faultOfFeatures 7 = .ok (.lstore_n 2, 1) := by decide +kernel
theorem d_Vol_faultOfFeatures_8 : decode b_Vol_faultOfFeatures 8 = .ok (.iconst 0, 1) := by decide +kernel
theorem d_Vol_faultOfFeatures_9 : decode b_Vol_faultOfFeatures 9 = .ok (.aload_n 1, 1) := by decide +kernel
theorem d_Vol_faultOfFeatures_10 : decode b_Vol_faultOfFeatures 10 = .ok (.bipush 92, 2) := by decide +kernel
theorem d_Vol_faultOfFeatures_12 : decode b_Vol_faultOfFeatures 12 = .ok (.iconst 4, 1) := by decide +kernel
theorem d_Vol_faultOfFeatures_13 : decode b_Vol_faultOfFeatures 13 = .ok (.invokevirtual 9, 3) := by decide +kernel
theorem d_Vol_faultOfFeatures_16 : decode b_Vol_faultOfFeatures 16 = .ok (.ldc2_w 146, 3) := by decide +kernel
theorem d_Vol_faultOfFeatures_19 : decode b_Vol_faultOfFeatures 19 = .ok (.invokestatic 148, 3) := by decide +kernel
theorem d_Vol_faultOfFeatures_22 : decode b_Vol_faultOfFeatures 22 = .ok (.istore 4, 2) := by decide +kernel
theorem d_Vol_faultOfFeatures_24 : decode b_Vol_faultOfFeatures 24 = .ok (.iload 4, 2) := by decide +kernel
theorem d_Vol_faultOfFeatures_26 : decode b_Vol_faultOfFeatures 26 = .ok (.bipush (-2), 2) := by decide +kernel
theorem d_Vol_faultOfFeatures_28 : decode b_Vol_faultOfFeatures 28 = .ok (.if_icmp .ne 13, 3) := by decide +kernel
theorem d_Vol_faultOfFeatures_31 : decode b_Vol_faultOfFeatures 31 = .ok (.iconst 1, 1) := by decide +kernel
theorem d_Vol_faultOfFeatures_32 : decode b_Vol_faultOfFeatures 32 = .ok (.lload_n 2, 1) := by decide +kernel
theorem d_Vol_faultOfFeatures_33 : decode b_Vol_faultOfFeatures 33 = .ok (.ldc2_w 152, 3) := by decide +kernel
theorem d_Vol_faultOfFeatures_36 : decode b_Vol_faultOfFeatures 36 = .ok (.invokestatic 148, 3) := by decide +kernel
theorem d_Vol_faultOfFeatures_39 : decode b_Vol_faultOfFeatures 39 = .ok (.istore 4, 2) := by decide +kernel
theorem d_Vol_faultOfFeatures_41 : decode b_Vol_faultOfFeatures 41 = .ok (.iload 4, 2) := by decide +kernel
theorem d_Vol_faultOfFeatures_43 : decode b_Vol_faultOfFeatures 43 = .ok (.bipush (-2), 2) := by decide +kernel
theorem d_Vol_faultOfFeatures_45 : decode b_Vol_faultOfFeatures 45 = .ok (.if_icmp .ne 19, 3) := by decide +kernel
theorem d_Vol_faultOfFeatures_48 : decode b_Vol_faultOfFeatures 48 = .ok (.lload_n 2, 1) := by decide +kernel
theorem d_Vol_faultOfFeatures_49 : decode b_Vol_faultOfFeatures 49 = .ok (.ldc2_w 154, 3) := by decide +kernel
theorem d_Vol_faultOfFeatures_52 : decode b_Vol_faultOfFeatures 52 = .ok (.land, 1) := by decide +kernel
theorem d_Vol_faultOfFeatures_53 : decode b_Vol_faultOfFeatures 53 = .ok (.ldc2_w 154, 3) := by decide +kernel
theorem d_Vol_faultOfFeatures_56 : decode b_Vol_faultOfFeatures 56 = .ok (.lcmp, 1) := by decide +kernel
theorem d_Vol_faultOfFeatures_57 : decode b_Vol_faultOfFeatures 57 = .ok (.ifCond .eq 7, 3) := by decide +kernel
theorem d_Vol_faultOfFeatures_60 : decode b_Vol_faultOfFeatures 60 = .ok (.bipush 96, 2) := by decide +kernel
theorem d_Vol_faultOfFeatures_62 : decode b_Vol_faultOfFeatures 62 = .ok (.istore 4, 2) := by decide +kernel
theorem d_Vol_faultOfFeatures_64 : decode b_Vol_faultOfFeatures 64 = .ok (.iload 4, 2) := by decide +kernel
theorem d_Vol_faultOfFeatures_66 : decode b_Vol_faultOfFeatures 66 = .ok (.bipush (-2), 2) := by decide +kernel
theorem d_Vol_faultOfFeatures_68 : decode b_Vol_faultOfFeatures 68 = .ok (.if_icmp .ne 20, 3) := by decide +kernel
theorem d_Vol_faultOfFeatures_71 : decode b_Vol_faultOfFeatures 71 = .ok (.iconst 2, 1) := by decide +kernel
theorem d_Vol_faultOfFeatures_72 : decode b_Vol_faultOfFeatures 72 = .ok (.aload_n 1, 1) := by decide +kernel
theorem d_Vol_faultOfFeatures_73 : decode b_Vol_faultOfFeatures 73 = .ok (.bipush 100, 2) := by decide +kernel
theorem d_Vol_faultOfFeatures_75 : decode b_Vol_faultOfFeatures 75 = .ok (.iconst 4, 1) := by decide +kernel
theorem d_Vol_faultOfFeatures_76 : decode b_Vol_faultOfFeatures 76 = .ok (.invokevirtual 9, 3) := by decide +kernel
theorem d_Vol_faultOfFeatures_79 : decode b_Vol_faultOfFeatures 79 = .ok (.ldc2_w 142, 3) := by decide +kernel
theorem d_Vol_faultOfFeatures_82 : decode b_Vol_faultOfFeatures 82 = .ok (.invokestatic 148, 3) := by decide +kernel
theorem d_Vol_faultOfFeatures_85 : decode b_Vol_faultOfFeatures 85 = .ok (.goto 5, 3) := by decide +kernel
theorem d_Vol_faultOfFeatures_88 : decode b_Vol_faultOfFeatures 88 = .ok (.iload 4, 2) := by decide +kernel
theorem d_Vol_faultOfFeatures_90 : decode b_Vol_faultOfFeatures 90 = .ok (.ireturn, 1) := by decide +kernel
theorem d_Vol_unlistedFault_0 : decode b_Vol_unlistedFault 0 = .ok (.iconst 0, 1) := by decide +kernel
theorem d_Vol_unlistedFault_1 : decode b_Vol_unlistedFault 1 = .ok (.istore 5, 2) := by decide +kernel
theorem d_Vol_unlistedFault_3 : decode b_Vol_unlistedFault 3 = .ok (.iload 5, 2) := by decide +kernel
theorem d_Vol_unlistedFault_5 : decode b_Vol_unlistedFault 5 = .ok (.bipush 32, 2) := by decide +kernel
theorem d_Vol_unlistedFault_7 : decode b_Vol_unlistedFault 7 = .ok (.if_icmp .ge 38, 3) := by decide +kernel
theorem d_Vol_unlistedFault_10 : decode b_Vol_unlistedFault 10 = .ok (.lload_n 1, 1) := by decide +kernel
theorem d_Vol_unlistedFault_11 : decode b_Vol_unlistedFault 11 = .ok (.lload_n 3, 1) := by decide +kernel
theorem d_Vol_unlistedFault_12 : decode b_Vol_unlistedFault 12 = .ok (.ldc2_w 156, 3) := by decide +kernel
theorem d_Vol_unlistedFault_15 : decode b_Vol_unlistedFault 15 = .ok (.lxor, 1) := by decide +kernel
theorem d_Vol_unlistedFault_16 : decode b_Vol_unlistedFault 16 = .ok (.land, 1) := by decide +kernel
theorem d_Vol_unlistedFault_17 : decode b_Vol_unlistedFault 17 = .ok (.lconst 1, 1) := by decide +kernel
theorem d_Vol_unlistedFault_18 : decode b_Vol_unlistedFault 18 = .ok (.iload 5, 2) := by decide +kernel
theorem d_Vol_unlistedFault_20 : decode b_Vol_unlistedFault 20 = .ok (.lshl, 1) := by decide +kernel
theorem d_Vol_unlistedFault_21 : decode b_Vol_unlistedFault 21 = .ok (.land, 1) := by decide +kernel
theorem d_Vol_unlistedFault_22 : decode b_Vol_unlistedFault 22 = .ok (.lconst 0, 1) := by decide +kernel
theorem d_Vol_unlistedFault_23 : decode b_Vol_unlistedFault 23 = .ok (.lcmp, 1) := by decide +kernel
theorem d_Vol_unlistedFault_24 : decode b_Vol_unlistedFault 24 = .ok (.ifCond .eq 15, 3) := by decide +kernel
theorem d_Vol_unlistedFault_27 : decode b_Vol_unlistedFault 27 = .ok (.sipush 2000, 3) := by decide +kernel
theorem d_Vol_unlistedFault_30 : decode b_Vol_unlistedFault 30 = .ok (.bipush 32, 2) := by decide +kernel
theorem d_Vol_unlistedFault_32 : decode b_Vol_unlistedFault 32 = .ok (.iload_n 0, 1) := by decide +kernel
theorem d_Vol_unlistedFault_33 : decode b_Vol_unlistedFault 33 = .ok (.imul, 1) := by decide +kernel
theorem d_Vol_unlistedFault_34 : decode b_Vol_unlistedFault 34 = .ok (.iadd, 1) := by decide +kernel
theorem d_Vol_unlistedFault_35 : decode b_Vol_unlistedFault 35 = .ok (.iload 5, 2) := by decide +kernel
theorem d_Vol_unlistedFault_37 : decode b_Vol_unlistedFault 37 = .ok (.iadd, 1) := by decide +kernel
theorem d_Vol_unlistedFault_38 : decode b_Vol_unlistedFault 38 = .ok (.ireturn, 1) := by decide +kernel
theorem d_Vol_unlistedFault_39 : decode b_Vol_unlistedFault 39 = .ok (.iinc 5 1, 3) := by decide +kernel
theorem d_Vol_unlistedFault_42 : decode b_Vol_unlistedFault 42 = .ok (.goto (-39), 3) := by decide +kernel
theorem d_Vol_unlistedFault_45 : decode b_Vol_unlistedFault 45 = .ok (.bipush (-2), 2) := by decide +kernel
theorem d_Vol_unlistedFault_47 : decode b_Vol_unlistedFault 47 = .ok (.ireturn, 1) := by decide +kernel
