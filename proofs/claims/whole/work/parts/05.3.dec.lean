theorem d_Vol_faultOfRest_0 : decode b_Vol_faultOfRest 0 = .ok (.aload_n 1, 1) := by decide +kernel
theorem d_Vol_faultOfRest_1 : decode b_Vol_faultOfRest 1 = .ok (.bipush 92, 2) := by decide +kernel
theorem d_Vol_faultOfRest_3 : decode b_Vol_faultOfRest 3 = .ok (.iconst 4, 1) := by decide +kernel
theorem d_Vol_faultOfRest_4 : decode b_Vol_faultOfRest 4 = .ok (.invokevirtual 9, 3) := by decide +kernel
theorem d_Vol_faultOfRest_7 : decode b_Vol_faultOfRest 7 = .ok (.lstore_n 2, 1) := by decide +kernel
theorem d_Vol_faultOfRest_8 : decode b_Vol_faultOfRest 8 = .ok (.lload_n 2, 1) := by decide +kernel
theorem d_Vol_faultOfRest_9 : decode b_Vol_faultOfRest 9 = .ok (.ldc2_w 158, 3) := by decide +kernel
theorem d_Vol_faultOfRest_12 : decode b_Vol_faultOfRest 12 = .ok (.land, 1) := by decide +kernel
theorem d_Vol_faultOfRest_13 : decode b_Vol_faultOfRest 13 = .ok (.lconst 0, 1) := by decide +kernel
theorem d_Vol_faultOfRest_14 : decode b_Vol_faultOfRest 14 = .ok (.lcmp, 1) := by decide +kernel
theorem d_Vol_faultOfRest_15 : decode b_Vol_faultOfRest 15 = .ok (.ifCond .eq 9, 3) := by decide +kernel
theorem d_Vol_faultOfRest_18 : decode b_Vol_faultOfRest 18 = .ok (.ldc2_w 121, 3) := by decide +kernel
theorem d_Vol_faultOfRest_21 : decode b_Vol_faultOfRest 21 = .ok (.goto 4, 3) := by decide +kernel
theorem d_Vol_faultOfRest_24 : decode b_Vol_faultOfRest 24 = .ok (.lconst 0, 1) := by decide +kernel
theorem d_Vol_faultOfRest_25 : decode b_Vol_faultOfRest 25 = .ok (.lstore 4, 2) := by decide +kernel
theorem d_Vol_faultOfRest_27 : decode b_Vol_faultOfRest 27 = .ok (.lload_n 2, 1) := by decide +kernel
theorem d_Vol_faultOfRest_28 : decode b_Vol_faultOfRest 28 = .ok (.ldc2_w 55, 3) := by decide +kernel
theorem d_Vol_faultOfRest_31 : decode b_Vol_faultOfRest 31 = .ok (.land, 1) := by decide +kernel
theorem d_Vol_faultOfRest_32 : decode b_Vol_faultOfRest 32 = .ok (.lconst 0, 1) := by decide +kernel
theorem d_Vol_faultOfRest_33 : decode b_Vol_faultOfRest 33 = .ok (.lcmp, 1) := by decide +kernel
theorem d_Vol_faultOfRest_34 : decode b_Vol_faultOfRest 34 = .ok (.ifCond .eq 7, 3) := by decide +kernel
theorem d_Vol_faultOfRest_37 : decode b_Vol_faultOfRest 37 = .ok (.lconst 1, 1) := by decide +kernel
theorem d_Vol_faultOfRest_38 : decode b_Vol_faultOfRest 38 = .ok (.goto 4, 3) := by decide +kernel
theorem d_Vol_faultOfRest_41 : decode b_Vol_faultOfRest 41 = .ok (.lconst 0, 1) := by decide +kernel
theorem d_Vol_faultOfRest_42 : decode b_Vol_faultOfRest 42 = .ok (.lstore 6, 2) := by decide +kernel
theorem d_Vol_faultOfRest_44 : decode b_Vol_faultOfRest 44 = .ok (.aload_n 1, 1) := by decide +kernel
theorem d_Vol_faultOfRest_45 : decode b_Vol_faultOfRest 45 = .ok (.sipush 224, 3) := by decide +kernel
theorem d_Vol_faultOfRest_48 : decode b_Vol_faultOfRest 48 = .ok (.iconst 4, 1) := by decide +kernel
theorem d_Vol_faultOfRest_49 : decode b_Vol_faultOfRest 49 = .ok (.invokevirtual 9, 3) := by decide +kernel
theorem d_Vol_faultOfRest_52 : decode b_Vol_faultOfRest 52 = .ok (.lload 4, 2) := by decide +kernel
theorem d_Vol_faultOfRest_54 : decode b_Vol_faultOfRest 54 = .ok (.lcmp, 1) := by decide +kernel
theorem d_Vol_faultOfRest_55 : decode b_Vol_faultOfRest 55 = .ok (.ifCond .eq 7, 3) := by decide +kernel
theorem d_Vol_faultOfRest_58 : decode b_Vol_faultOfRest 58 = .ok (.sipush 224, 3) := by decide +kernel
theorem d_Vol_faultOfRest_61 : decode b_Vol_faultOfRest 61 = .ok (.ireturn, 1) := by decide +kernel
theorem d_Vol_faultOfRest_62 : decode b_Vol_faultOfRest 62 = .ok (.aload_n 1, 1) := by decide +kernel
theorem d_Vol_faultOfRest_63 : decode b_Vol_faultOfRest 63 = .ok (.sipush 232, 3) := by decide +kernel
theorem d_Vol_faultOfRest_66 : decode b_Vol_faultOfRest 66 = .ok (.iconst 4, 1) := by decide +kernel
theorem d_Vol_faultOfRest_67 : decode b_Vol_faultOfRest 67 = .ok (.invokevirtual 9, 3) := by decide +kernel
theorem d_Vol_faultOfRest_70 : decode b_Vol_faultOfRest 70 = .ok (.aload_n 0, 1) := by decide +kernel
theorem d_Vol_faultOfRest_71 : decode b_Vol_faultOfRest 71 = .ok (.getfield 15, 3) := by decide +kernel
theorem d_Vol_faultOfRest_74 : decode b_Vol_faultOfRest 74 = .ok (.lcmp, 1) := by decide +kernel
theorem d_Vol_faultOfRest_75 : decode b_Vol_faultOfRest 75 = .ok (.ifCond .le 7, 3) := by decide +kernel
theorem d_Vol_faultOfRest_78 : decode b_Vol_faultOfRest 78 = .ok (.sipush 232, 3) := by decide +kernel
theorem d_Vol_faultOfRest_81 : decode b_Vol_faultOfRest 81 = .ok (.ireturn, 1) := by decide +kernel
theorem d_Vol_faultOfRest_82 : decode b_Vol_faultOfRest 82 = .ok (.aload_n 1, 1) := by decide +kernel
theorem d_Vol_faultOfRest_83 : decode b_Vol_faultOfRest 83 = .ok (.sipush 252, 3) := by decide +kernel
theorem d_Vol_faultOfRest_86 : decode b_Vol_faultOfRest 86 = .ok (.iconst 1, 1) := by decide +kernel
theorem d_Vol_faultOfRest_87 : decode b_Vol_faultOfRest 87 = .ok (.invokevirtual 9, 3) := by decide +kernel
theorem d_Vol_faultOfRest_90 : decode b_Vol_faultOfRest 90 = .ok (.lload 6, 2) := by decide +kernel
theorem d_Vol_faultOfRest_92 : decode b_Vol_faultOfRest 92 = .ok (.lcmp, 1) := by decide +kernel
theorem d_Vol_faultOfRest_93 : decode b_Vol_faultOfRest 93 = .ok (.ifCond .eq 7, 3) := by decide +kernel
theorem d_Vol_faultOfRest_96 : decode b_Vol_faultOfRest 96 = .ok (.sipush 252, 3) := by decide +kernel
theorem d_Vol_faultOfRest_99 : decode b_Vol_faultOfRest 99 = .ok (.ireturn, 1) := by decide +kernel
theorem d_Vol_faultOfRest_100 : decode b_Vol_faultOfRest 100 = .ok (.aload_n 1, 1) := by decide +kernel
theorem d_Vol_faultOfRest_101 : decode b_Vol_faultOfRest 101 = .ok (.sipush 254, 3) := by decide +kernel
theorem d_Vol_faultOfRest_104 : decode b_Vol_faultOfRest 104 = .ok (.iconst 2, 1) := by decide +kernel
theorem d_Vol_faultOfRest_105 : decode b_Vol_faultOfRest 105 = .ok (.invokevirtual 9, 3) := by decide +kernel
theorem d_Vol_faultOfRest_108 : decode b_Vol_faultOfRest 108 = .ok (.lconst 0, 1) := by decide +kernel
theorem d_Vol_faultOfRest_109 : decode b_Vol_faultOfRest 109 = .ok (.lcmp, 1) := by decide +kernel
theorem d_Vol_faultOfRest_110 : decode b_Vol_faultOfRest 110 = .ok (.ifCond .ne 8, 3) := by decide +kernel
theorem d_Vol_faultOfRest_113 : decode b_Vol_faultOfRest 113 = .ok (.bipush (-2), 2) := by decide +kernel
theorem d_Vol_faultOfRest_115 : decode b_Vol_faultOfRest 115 = .ok (.goto 6, 3) := by decide +kernel
theorem d_Vol_faultOfRest_118 : decode b_Vol_faultOfRest 118 = .ok (.sipush 254, 3) := by decide +kernel
theorem d_Vol_faultOfRest_121 : decode b_Vol_faultOfRest 121 = .ok (.ireturn, 1) := by decide +kernel
