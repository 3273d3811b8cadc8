theorem dX11_append_93 : decode cX11_append 93 = .ok (.iload_n 3, 1) := by decide +kernel
theorem dX11_append_94 : decode cX11_append 94 = .ok (.ifCond .lt 23, 3) := by decide +kernel
theorem dX11_append_97 : decode cX11_append 97 = .ok (.aload_n 0, 1) := by decide +kernel
theorem dX11_append_98 : decode cX11_append 98 = .ok (.getfield 12, 3) := by decide +kernel
theorem dX11_append_101 : decode cX11_append 101 = .ok (.iload_n 1, 1) := by decide +kernel
theorem dX11_append_102 : decode cX11_append 102 = .ok (.iload_n 3, 1) := by decide +kernel
theorem dX11_append_103 : decode cX11_append 103 = .ok (.iushr, 1) := by decide +kernel
theorem dX11_append_104 : decode cX11_append 104 = .ok (.sipush 255, 3) := by decide +kernel
theorem dX11_append_107 : decode cX11_append 107 = .ok (.iand, 1) := by decide +kernel
theorem dX11_append_108 : decode cX11_append 108 = .ok (.invokevirtual 85, 3) := by decide +kernel
theorem dX11_append_111 : decode cX11_append 111 = .ok (.iinc 3 (-8), 3) := by decide +kernel
theorem dX11_append_114 : decode cX11_append 114 = .ok (.goto (-21), 3) := by decide +kernel
theorem dX11_append_117 : decode cX11_append 117 = .ok (.aload_n 0, 1) := by decide +kernel
theorem dX11_append_118 : decode cX11_append 118 = .ok (.getfield 12, 3) := by decide +kernel
theorem dX11_append_121 : decode cX11_append 121 = .ok (.getfield 76, 3) := by decide +kernel
theorem dX11_append_124 : decode cX11_append 124 = .ok (.ireturn, 1) := by decide +kernel
theorem dX11_read_0 : decode cX11_read 0 = .ok (.aload_n 0, 1) := by decide +kernel
theorem dX11_read_1 : decode cX11_read 1 = .ok (.getfield 12, 3) := by decide +kernel
theorem dX11_read_4 : decode cX11_read 4 = .ok (.invokevirtual 89, 3) := by decide +kernel
theorem dX11_read_7 : decode cX11_read 7 = .ok (.aload_n 0, 1) := by decide +kernel
theorem dX11_read_8 : decode cX11_read 8 = .ok (.getfield 12, 3) := by decide +kernel
theorem dX11_read_11 : decode cX11_read 11 = .ok (.getfield 92, 3) := by decide +kernel
theorem dX11_read_14 : decode cX11_read 14 = .ok (.iconst (-1), 1) := by decide +kernel
theorem dX11_read_15 : decode cX11_read 15 = .ok (.if_icmp .eq 13, 3) := by decide +kernel
theorem dX11_read_18 : decode cX11_read 18 = .ok (.new 69, 3) := by decide +kernel
theorem dX11_read_21 : decode cX11_read 21 = .ok (.dup, 1) := by decide +kernel
theorem dX11_read_22 : decode cX11_read 22 = .ok (.ldc 95, 2) := by decide +kernel
theorem dX11_read_24 : decode cX11_read 24 = .ok (.invokespecial 73, 3) := by decide +kernel
theorem dX11_read_27 : decode cX11_read 27 = .ok (.athrow, 1) := by decide +kernel
theorem dX11_read_28 : decode cX11_read 28 = .ok (.aload_n 0, 1) := by decide +kernel
theorem dX11_read_29 : decode cX11_read 29 = .ok (.getfield 19, 3) := by decide +kernel
theorem dX11_read_32 : decode cX11_read 32 = .ok (.getfield 97, 3) := by decide +kernel
theorem dX11_read_35 : decode cX11_read 35 = .ok (.aload_n 0, 1) := by decide +kernel
theorem dX11_read_36 : decode cX11_read 36 = .ok (.getfield 12, 3) := by decide +kernel
theorem dX11_read_39 : decode cX11_read 39 = .ok (.getfield 100, 3) := by decide +kernel
theorem dX11_read_42 : decode cX11_read 42 = .ok (.iadd, 1) := by decide +kernel
theorem dX11_read_43 : decode cX11_read 43 = .ok (.bipush 6, 2) := by decide +kernel
theorem dX11_read_45 : decode cX11_read 45 = .ok (.if_icmp .le 13, 3) := by decide +kernel
theorem dX11_read_48 : decode cX11_read 48 = .ok (.new 80, 3) := by decide +kernel
theorem dX11_read_51 : decode cX11_read 51 = .ok (.dup, 1) := by decide +kernel
theorem dX11_read_52 : decode cX11_read 52 = .ok (.ldc 103, 2) := by decide +kernel
theorem dX11_read_54 : decode cX11_read 54 = .ok (.invokespecial 84, 3) := by decide +kernel
theorem dX11_read_57 : decode cX11_read 57 = .ok (.athrow, 1) := by decide +kernel
theorem dX11_read_58 : decode cX11_read 58 = .ok (.iconst 0, 1) := by decide +kernel
theorem dX11_read_59 : decode cX11_read 59 = .ok (.istore_n 1, 1) := by decide +kernel
theorem dX11_read_60 : decode cX11_read 60 = .ok (.iload_n 1, 1) := by decide +kernel
theorem dX11_read_61 : decode cX11_read 61 = .ok (.aload_n 0, 1) := by decide +kernel
theorem dX11_read_62 : decode cX11_read 62 = .ok (.getfield 12, 3) := by decide +kernel
theorem dX11_read_65 : decode cX11_read 65 = .ok (.getfield 100, 3) := by decide +kernel
theorem dX11_read_68 : decode cX11_read 68 = .ok (.if_icmp .ge 31, 3) := by decide +kernel
theorem dX11_read_71 : decode cX11_read 71 = .ok (.iload_n 1, 1) := by decide +kernel
theorem dX11_read_72 : decode cX11_read 72 = .ok (.bipush 8, 2) := by decide +kernel
theorem dX11_read_74 : decode cX11_read 74 = .ok (.if_icmp .ge 25, 3) := by decide +kernel
theorem dX11_read_77 : decode cX11_read 77 = .ok (.aload_n 0, 1) := by decide +kernel
theorem dX11_read_78 : decode cX11_read 78 = .ok (.getfield 19, 3) := by decide +kernel
theorem dX11_read_81 : decode cX11_read 81 = .ok (.aload_n 0, 1) := by decide +kernel
theorem dX11_read_82 : decode cX11_read 82 = .ok (.getfield 12, 3) := by decide +kernel
theorem dX11_read_85 : decode cX11_read 85 = .ok (.getfield 105, 3) := by decide +kernel
theorem dX11_read_88 : decode cX11_read 88 = .ok (.iload_n 1, 1) := by decide +kernel
theorem dX11_read_89 : decode cX11_read 89 = .ok (.aaload, 1) := by decide +kernel
theorem dX11_read_90 : decode cX11_read 90 = .ok (.invokevirtual 109, 3) := by decide +kernel
theorem dX11_read_93 : decode cX11_read 93 = .ok (.iinc 1 1, 3) := by decide +kernel
theorem dX11_read_96 : decode cX11_read 96 = .ok (.goto (-36), 3) := by decide +kernel
theorem dX11_read_99 : decode cX11_read 99 = .ok (.aload_n 0, 1) := by decide +kernel
theorem dX11_read_100 : decode cX11_read 100 = .ok (.getfield 12, 3) := by decide +kernel
theorem dX11_read_103 : decode cX11_read 103 = .ok (.getfield 100, 3) := by decide +kernel
theorem dX11_read_106 : decode cX11_read 106 = .ok (.ireturn, 1) := by decide +kernel
theorem dX11_faultPosition_0 : decode cX11_faultPosition 0 = .ok (.aload_n 0, 1) := by decide +kernel
theorem dX11_faultPosition_1 : decode cX11_faultPosition 1 = .ok (.getfield 12, 3) := by decide +kernel
theorem dX11_faultPosition_4 : decode cX11_faultPosition 4 = .ok (.getfield 92, 3) := by decide +kernel
theorem dX11_faultPosition_7 : decode cX11_faultPosition 7 = .ok (.ireturn, 1) := by decide +kernel
theorem dX11_removeLoop_0 : decode cX11_removeLoop 0 = .ok (.aload_n 0, 1) := by decide +kernel
theorem dX11_removeLoop_1 : decode cX11_removeLoop 1 = .ok (.iload_n 1, 1) := by decide +kernel
theorem dX11_removeLoop_2 : decode cX11_removeLoop 2 = .ok (.invokevirtual 112, 3) := by decide +kernel
theorem dX11_removeLoop_5 : decode cX11_removeLoop 5 = .ok (.aload_n 0, 1) := by decide +kernel
theorem dX11_removeLoop_6 : decode cX11_removeLoop 6 = .ok (.getfield 19, 3) := by decide +kernel
theorem dX11_removeLoop_9 : decode cX11_removeLoop 9 = .ok (.iload_n 1, 1) := by decide +kernel
theorem dX11_removeLoop_10 : decode cX11_removeLoop 10 = .ok (.invokevirtual 115, 3) := by decide +kernel
theorem dX11_removeLoop_13 : decode cX11_removeLoop 13 = .ok (.aload_n 0, 1) := by decide +kernel
theorem dX11_removeLoop_14 : decode cX11_removeLoop 14 = .ok (.getfield 19, 3) := by decide +kernel
theorem dX11_removeLoop_17 : decode cX11_removeLoop 17 = .ok (.getfield 97, 3) := by decide +kernel
theorem dX11_removeLoop_20 : decode cX11_removeLoop 20 = .ok (.ireturn, 1) := by decide +kernel
theorem dX11_loopCount_0 : decode cX11_loopCount 0 = .ok (.aload_n 0, 1) := by decide +kernel
theorem dX11_loopCount_1 : decode cX11_loopCount 1 = .ok (.getfield 19, 3) := by decide +kernel
theorem dX11_loopCount_4 : decode cX11_loopCount 4 = .ok (.getfield 97, 3) := by decide +kernel
theorem dX11_loopCount_7 : decode cX11_loopCount 7 = .ok (.ireturn, 1) := by decide +kernel
theorem dX11_bound_0 : decode cX11_bound 0 = .ok (.aload_n 0, 1) := by decide +kernel
theorem dX11_bound_1 : decode cX11_bound 1 = .ok (.iload_n 1, 1) := by decide +kernel
theorem dX11_bound_2 : decode cX11_bound 2 = .ok (.invokevirtual 118, 3) := by decide +kernel
theorem dX11_bound_5 : decode cX11_bound 5 = .ok (.astore_n 3, 1) := by decide +kernel
theorem dX11_bound_6 : decode cX11_bound 6 = .ok (.aload_n 0, 1) := by decide +kernel
theorem dX11_bound_7 : decode cX11_bound 7 = .ok (.iload_n 2, 1) := by decide +kernel
theorem dX11_bound_8 : decode cX11_bound 8 = .ok (.invokevirtual 122, 3) := by decide +kernel
theorem dX11_bound_11 : decode cX11_bound 11 = .ok (.iload_n 2, 1) := by decide +kernel
theorem dX11_bound_12 : decode cX11_bound 12 = .ok (.ifCond .ne 10, 3) := by decide +kernel
theorem dX11_bound_15 : decode cX11_bound 15 = .ok (.aload_n 3, 1) := by decide +kernel
theorem dX11_bound_16 : decode cX11_bound 16 = .ok (.getfield 125, 3) := by decide +kernel
theorem dX11_bound_19 : decode cX11_bound 19 = .ok (.goto 7, 3) := by decide +kernel
theorem dX11_bound_22 : decode cX11_bound 22 = .ok (.aload_n 3, 1) := by decide +kernel
theorem dX11_bound_23 : decode cX11_bound 23 = .ok (.getfield 130, 3) := by decide +kernel
theorem dX11_bound_26 : decode cX11_bound 26 = .ok (.ireturn, 1) := by decide +kernel
theorem dX11_setBound_0 : decode cX11_setBound 0 = .ok (.aload_n 0, 1) := by decide +kernel
theorem dX11_setBound_1 : decode cX11_setBound 1 = .ok (.iload_n 1, 1) := by decide +kernel
theorem dX11_setBound_2 : decode cX11_setBound 2 = .ok (.invokevirtual 118, 3) := by decide +kernel
theorem dX11_setBound_5 : decode cX11_setBound 5 = .ok (.astore 4, 2) := by decide +kernel
theorem dX11_setBound_7 : decode cX11_setBound 7 = .ok (.aload_n 0, 1) := by decide +kernel
theorem dX11_setBound_8 : decode cX11_setBound 8 = .ok (.iload_n 2, 1) := by decide +kernel
theorem dX11_setBound_9 : decode cX11_setBound 9 = .ok (.invokevirtual 122, 3) := by decide +kernel
theorem dX11_setBound_12 : decode cX11_setBound 12 = .ok (.iload_n 2, 1) := by decide +kernel
theorem dX11_setBound_13 : decode cX11_setBound 13 = .ok (.ifCond .ne 7, 3) := by decide +kernel
theorem dX11_setBound_16 : decode cX11_setBound 16 = .ok (.iload_n 3, 1) := by decide +kernel
theorem dX11_setBound_17 : decode cX11_setBound 17 = .ok (.goto 8, 3) := by decide +kernel
theorem dX11_setBound_20 : decode cX11_setBound 20 = .ok (.aload 4, 2) := by decide +kernel
theorem dX11_setBound_22 : decode cX11_setBound 22 = .ok (.getfield 125, 3) := by decide +kernel
theorem dX11_setBound_25 : decode cX11_setBound 25 = .ok (.istore 5, 2) := by decide +kernel
theorem dX11_setBound_27 : decode cX11_setBound 27 = .ok (.iload_n 2, 1) := by decide +kernel
theorem dX11_setBound_28 : decode cX11_setBound 28 = .ok (.iconst 1, 1) := by decide +kernel
theorem dX11_setBound_29 : decode cX11_setBound 29 = .ok (.if_icmp .ne 7, 3) := by decide +kernel
theorem dX11_setBound_32 : decode cX11_setBound 32 = .ok (.iload_n 3, 1) := by decide +kernel
theorem dX11_setBound_33 : decode cX11_setBound 33 = .ok (.goto 8, 3) := by decide +kernel
theorem dX11_setBound_36 : decode cX11_setBound 36 = .ok (.aload 4, 2) := by decide +kernel
theorem dX11_setBound_38 : decode cX11_setBound 38 = .ok (.getfield 130, 3) := by decide +kernel
theorem dX11_setBound_41 : decode cX11_setBound 41 = .ok (.istore 6, 2) := by decide +kernel
theorem dX11_setBound_43 : decode cX11_setBound 43 = .ok (.iload 5, 2) := by decide +kernel
theorem dX11_setBound_45 : decode cX11_setBound 45 = .ok (.ifCond .lt 17, 3) := by decide +kernel
theorem dX11_setBound_48 : decode cX11_setBound 48 = .ok (.iload 6, 2) := by decide +kernel
theorem dX11_setBound_50 : decode cX11_setBound 50 = .ok (.iload 5, 2) := by decide +kernel
theorem dX11_setBound_52 : decode cX11_setBound 52 = .ok (.if_icmp .lt 10, 3) := by decide +kernel
theorem dX11_setBound_55 : decode cX11_setBound 55 = .ok (.iload 6, 2) := by decide +kernel
theorem dX11_setBound_57 : decode cX11_setBound 57 = .ok (.bipush 30, 2) := by decide +kernel
theorem dX11_setBound_59 : decode cX11_setBound 59 = .ok (.if_icmp .le 13, 3) := by decide +kernel
theorem dX11_setBound_62 : decode cX11_setBound 62 = .ok (.new 69, 3) := by decide +kernel
theorem dX11_setBound_65 : decode cX11_setBound 65 = .ok (.dup, 1) := by decide +kernel
theorem dX11_setBound_66 : decode cX11_setBound 66 = .ok (.ldc 133, 2) := by decide +kernel
theorem dX11_setBound_68 : decode cX11_setBound 68 = .ok (.invokespecial 73, 3) := by decide +kernel
theorem dX11_setBound_71 : decode cX11_setBound 71 = .ok (.athrow, 1) := by decide +kernel
theorem dX11_setBound_72 : decode cX11_setBound 72 = .ok (.iload_n 2, 1) := by decide +kernel
theorem dX11_setBound_73 : decode cX11_setBound 73 = .ok (.ifCond .ne 11, 3) := by decide +kernel
theorem dX11_setBound_76 : decode cX11_setBound 76 = .ok (.aload 4, 2) := by decide +kernel
theorem dX11_setBound_78 : decode cX11_setBound 78 = .ok (.getfield 125, 3) := by decide +kernel
theorem dX11_setBound_81 : decode cX11_setBound 81 = .ok (.goto 8, 3) := by decide +kernel
theorem dX11_setBound_84 : decode cX11_setBound 84 = .ok (.aload 4, 2) := by decide +kernel
theorem dX11_setBound_86 : decode cX11_setBound 86 = .ok (.getfield 130, 3) := by decide +kernel
theorem dX11_setBound_89 : decode cX11_setBound 89 = .ok (.istore 7, 2) := by decide +kernel
theorem dX11_setBound_91 : decode cX11_setBound 91 = .ok (.aload_n 0, 1) := by decide +kernel
theorem dX11_setBound_92 : decode cX11_setBound 92 = .ok (.getfield 19, 3) := by decide +kernel
theorem dX11_setBound_95 : decode cX11_setBound 95 = .ok (.iload_n 1, 1) := by decide +kernel
theorem dX11_setBound_96 : decode cX11_setBound 96 = .ok (.iload 5, 2) := by decide +kernel
theorem dX11_setBound_98 : decode cX11_setBound 98 = .ok (.iload 6, 2) := by decide +kernel
theorem dX11_setBound_100 : decode cX11_setBound 100 = .ok (.invokevirtual 135, 3) := by decide +kernel
theorem dX11_setBound_103 : decode cX11_setBound 103 = .ok (.iload 7, 2) := by decide +kernel
theorem dX11_setBound_105 : decode cX11_setBound 105 = .ok (.ireturn, 1) := by decide +kernel
theorem dX11_statementCount_0 : decode cX11_statementCount 0 = .ok (.aload_n 0, 1) := by decide +kernel
theorem dX11_statementCount_1 : decode cX11_statementCount 1 = .ok (.iload_n 1, 1) := by decide +kernel
theorem dX11_statementCount_2 : decode cX11_statementCount 2 = .ok (.invokevirtual 118, 3) := by decide +kernel
theorem dX11_statementCount_5 : decode cX11_statementCount 5 = .ok (.getfield 139, 3) := by decide +kernel
theorem dX11_statementCount_8 : decode cX11_statementCount 8 = .ok (.getfield 143, 3) := by decide +kernel
theorem dX11_statementCount_11 : decode cX11_statementCount 11 = .ok (.ireturn, 1) := by decide +kernel
theorem dX11_referenceCount_0 : decode cX11_referenceCount 0 = .ok (.aload_n 0, 1) := by decide +kernel
theorem dX11_referenceCount_1 : decode cX11_referenceCount 1 = .ok (.iload_n 1, 1) := by decide +kernel
theorem dX11_referenceCount_2 : decode cX11_referenceCount 2 = .ok (.invokevirtual 118, 3) := by decide +kernel
theorem dX11_referenceCount_5 : decode cX11_referenceCount 5 = .ok (.getfield 139, 3) := by decide +kernel
theorem dX11_referenceCount_8 : decode cX11_referenceCount 8 = .ok (.getfield 148, 3) := by decide +kernel
theorem dX11_referenceCount_11 : decode cX11_referenceCount 11 = .ok (.ireturn, 1) := by decide +kernel
theorem dX11_reference_0 : decode cX11_reference 0 = .ok (.aload_n 0, 1) := by decide +kernel
theorem dX11_reference_1 : decode cX11_reference 1 = .ok (.iload_n 1, 1) := by decide +kernel
theorem dX11_reference_2 : decode cX11_reference 2 = .ok (.invokevirtual 118, 3) := by decide +kernel
theorem dX11_reference_5 : decode cX11_reference 5 = .ok (.getfield 139, 3) := by decide +kernel
theorem dX11_reference_8 : decode cX11_reference 8 = .ok (.astore 4, 2) := by decide +kernel
theorem dX11_reference_10 : decode cX11_reference 10 = .ok (.aload 4, 2) := by decide +kernel
theorem dX11_reference_12 : decode cX11_reference 12 = .ok (.iload_n 2, 1) := by decide +kernel
theorem dX11_reference_13 : decode cX11_reference 13 = .ok (.invokevirtual 151, 3) := by decide +kernel
theorem dX11_reference_16 : decode cX11_reference 16 = .ok (.ifCond .ne 13, 3) := by decide +kernel
theorem dX11_reference_19 : decode cX11_reference 19 = .ok (.new 155, 3) := by decide +kernel
theorem dX11_reference_22 : decode cX11_reference 22 = .ok (.dup, 1) := by decide +kernel
theorem dX11_reference_23 : decode cX11_reference 23 = .ok (.ldc 157, 2) := by decide +kernel
theorem dX11_reference_25 : decode cX11_reference 25 = .ok (.invokespecial 159, 3) := by decide +kernel
theorem dX11_reference_28 : decode cX11_reference 28 = .ok (.athrow, 1) := by decide +kernel
theorem dX11_reference_29 : decode cX11_reference 29 = .ok (.iload_n 3, 1) := by decide +kernel
theorem dX11_reference_30 : decode cX11_reference 30 = .ok (.tableswitch 79 0 3 #[30, 41, 55, 71], 30) := by decide +kernel
theorem dX11_reference_60 : decode cX11_reference 60 = .ok (.aload 4, 2) := by decide +kernel
theorem dX11_reference_62 : decode cX11_reference 62 = .ok (.getfield 160, 3) := by decide +kernel
theorem dX11_reference_65 : decode cX11_reference 65 = .ok (.iload_n 2, 1) := by decide +kernel
theorem dX11_reference_66 : decode cX11_reference 66 = .ok (.iaload, 1) := by decide +kernel
theorem dX11_reference_67 : decode cX11_reference 67 = .ok (.bipush 49, 2) := by decide +kernel
theorem dX11_reference_69 : decode cX11_reference 69 = .ok (.idiv, 1) := by decide +kernel
theorem dX11_reference_70 : decode cX11_reference 70 = .ok (.ireturn, 1) := by decide +kernel
theorem dX11_reference_71 : decode cX11_reference 71 = .ok (.aload 4, 2) := by decide +kernel
theorem dX11_reference_73 : decode cX11_reference 73 = .ok (.getfield 160, 3) := by decide +kernel
theorem dX11_reference_76 : decode cX11_reference 76 = .ok (.iload_n 2, 1) := by decide +kernel
theorem dX11_reference_77 : decode cX11_reference 77 = .ok (.iaload, 1) := by decide +kernel
theorem dX11_reference_78 : decode cX11_reference 78 = .ok (.bipush 49, 2) := by decide +kernel
theorem dX11_reference_80 : decode cX11_reference 80 = .ok (.irem, 1) := by decide +kernel
theorem dX11_reference_81 : decode cX11_reference 81 = .ok (.bipush (-9), 2) := by decide +kernel
theorem dX11_reference_83 : decode cX11_reference 83 = .ok (.iadd, 1) := by decide +kernel
theorem dX11_reference_84 : decode cX11_reference 84 = .ok (.ireturn, 1) := by decide +kernel
theorem dX11_reference_85 : decode cX11_reference 85 = .ok (.aload 4, 2) := by decide +kernel
theorem dX11_reference_87 : decode cX11_reference 87 = .ok (.getfield 164, 3) := by decide +kernel
theorem dX11_reference_90 : decode cX11_reference 90 = .ok (.iload_n 2, 1) := by decide +kernel
theorem dX11_reference_91 : decode cX11_reference 91 = .ok (.baload, 1) := by decide +kernel
theorem dX11_reference_92 : decode cX11_reference 92 = .ok (.ifCond .eq 7, 3) := by decide +kernel
theorem dX11_reference_95 : decode cX11_reference 95 = .ok (.iconst 1, 1) := by decide +kernel
theorem dX11_reference_96 : decode cX11_reference 96 = .ok (.goto 4, 3) := by decide +kernel
theorem dX11_reference_99 : decode cX11_reference 99 = .ok (.iconst 0, 1) := by decide +kernel
theorem dX11_reference_100 : decode cX11_reference 100 = .ok (.ireturn, 1) := by decide +kernel
theorem dX11_reference_101 : decode cX11_reference 101 = .ok (.aload 4, 2) := by decide +kernel
theorem dX11_reference_103 : decode cX11_reference 103 = .ok (.getfield 168, 3) := by decide +kernel
theorem dX11_reference_106 : decode cX11_reference 106 = .ok (.iload_n 2, 1) := by decide +kernel
theorem dX11_reference_107 : decode cX11_reference 107 = .ok (.iaload, 1) := by decide +kernel
theorem dX11_reference_108 : decode cX11_reference 108 = .ok (.ireturn, 1) := by decide +kernel
theorem dX11_reference_109 : decode cX11_reference 109 = .ok (.new 69, 3) := by decide +kernel
theorem dX11_reference_112 : decode cX11_reference 112 = .ok (.dup, 1) := by decide +kernel
theorem dX11_reference_113 : decode cX11_reference 113 = .ok (.ldc 171, 2) := by decide +kernel
theorem dX11_reference_115 : decode cX11_reference 115 = .ok (.invokespecial 73, 3) := by decide +kernel
theorem dX11_reference_118 : decode cX11_reference 118 = .ok (.athrow, 1) := by decide +kernel
theorem dX11_operators_0 : decode cX11_operators 0 = .ok (.aload_n 0, 1) := by decide +kernel
theorem dX11_operators_1 : decode cX11_operators 1 = .ok (.iload_n 1, 1) := by decide +kernel
theorem dX11_operators_2 : decode cX11_operators 2 = .ok (.iload_n 2, 1) := by decide +kernel
theorem dX11_operators_3 : decode cX11_operators 3 = .ok (.invokevirtual 173, 3) := by decide +kernel
theorem dX11_operators_6 : decode cX11_operators 6 = .ok (.astore 4, 2) := by decide +kernel
theorem dX11_operators_8 : decode cX11_operators 8 = .ok (.iload_n 3, 1) := by decide +kernel
theorem dX11_operators_9 : decode cX11_operators 9 = .ok (.ifCond .lt 8, 3) := by decide +kernel
theorem dX11_operators_12 : decode cX11_operators 12 = .ok (.iload_n 3, 1) := by decide +kernel
theorem dX11_operators_13 : decode cX11_operators 13 = .ok (.iconst 2, 1) := by decide +kernel
theorem dX11_operators_14 : decode cX11_operators 14 = .ok (.if_icmp .le 13, 3) := by decide +kernel
theorem dX11_operators_17 : decode cX11_operators 17 = .ok (.new 69, 3) := by decide +kernel
theorem dX11_operators_20 : decode cX11_operators 20 = .ok (.dup, 1) := by decide +kernel
theorem dX11_operators_21 : decode cX11_operators 21 = .ok (.ldc 177, 2) := by decide +kernel
theorem dX11_operators_23 : decode cX11_operators 23 = .ok (.invokespecial 73, 3) := by decide +kernel
theorem dX11_operators_26 : decode cX11_operators 26 = .ok (.athrow, 1) := by decide +kernel
theorem dX11_operators_27 : decode cX11_operators 27 = .ok (.aload 4, 2) := by decide +kernel
theorem dX11_operators_29 : decode cX11_operators 29 = .ok (.getfield 179, 3) := by decide +kernel
theorem dX11_operators_32 : decode cX11_operators 32 = .ok (.iload_n 3, 1) := by decide +kernel
theorem dX11_operators_33 : decode cX11_operators 33 = .ok (.iaload, 1) := by decide +kernel
theorem dX11_operators_34 : decode cX11_operators 34 = .ok (.ireturn, 1) := by decide +kernel
theorem dX11_height_0 : decode cX11_height 0 = .ok (.aload_n 0, 1) := by decide +kernel
theorem dX11_height_1 : decode cX11_height 1 = .ok (.iload_n 1, 1) := by decide +kernel
theorem dX11_height_2 : decode cX11_height 2 = .ok (.iload_n 2, 1) := by decide +kernel
theorem dX11_height_3 : decode cX11_height 3 = .ok (.invokevirtual 173, 3) := by decide +kernel
theorem dX11_height_6 : decode cX11_height 6 = .ok (.getfield 184, 3) := by decide +kernel
theorem dX11_height_9 : decode cX11_height 9 = .ok (.ireturn, 1) := by decide +kernel
theorem dX11_value_0 : decode cX11_value 0 = .ok (.aload_n 0, 1) := by decide +kernel
theorem dX11_value_1 : decode cX11_value 1 = .ok (.iload_n 1, 1) := by decide +kernel
theorem dX11_value_2 : decode cX11_value 2 = .ok (.iload_n 2, 1) := by decide +kernel
theorem dX11_value_3 : decode cX11_value 3 = .ok (.invokevirtual 173, 3) := by decide +kernel
theorem dX11_value_6 : decode cX11_value 6 = .ok (.astore 4, 2) := by decide +kernel
theorem dX11_value_8 : decode cX11_value 8 = .ok (.aload_n 0, 1) := by decide +kernel
theorem dX11_value_9 : decode cX11_value 9 = .ok (.iload_n 1, 1) := by decide +kernel
theorem dX11_value_10 : decode cX11_value 10 = .ok (.invokevirtual 118, 3) := by decide +kernel
theorem dX11_value_13 : decode cX11_value 13 = .ok (.astore 5, 2) := by decide +kernel
theorem dX11_value_15 : decode cX11_value 15 = .ok (.aload 5, 2) := by decide +kernel
theorem dX11_value_17 : decode cX11_value 17 = .ok (.iload_n 3, 1) := by decide +kernel
theorem dX11_value_18 : decode cX11_value 18 = .ok (.invokevirtual 187, 3) := by decide +kernel
theorem dX11_value_21 : decode cX11_value 21 = .ok (.ifCond .ne 13, 3) := by decide +kernel
theorem dX11_value_24 : decode cX11_value 24 = .ok (.new 69, 3) := by decide +kernel
theorem dX11_value_27 : decode cX11_value 27 = .ok (.dup, 1) := by decide +kernel
theorem dX11_value_28 : decode cX11_value 28 = .ok (.ldc 190, 2) := by decide +kernel
theorem dX11_value_30 : decode cX11_value 30 = .ok (.invokespecial 73, 3) := by decide +kernel
theorem dX11_value_33 : decode cX11_value 33 = .ok (.athrow, 1) := by decide +kernel
theorem dX11_value_34 : decode cX11_value 34 = .ok (.aload_n 0, 1) := by decide +kernel
theorem dX11_value_35 : decode cX11_value 35 = .ok (.getfield 52, 3) := by decide +kernel
theorem dX11_value_38 : decode cX11_value 38 = .ok (.aload_n 0, 1) := by decide +kernel
theorem dX11_value_39 : decode cX11_value 39 = .ok (.getfield 19, 3) := by decide +kernel
theorem dX11_value_42 : decode cX11_value 42 = .ok (.getfield 192, 3) := by decide +kernel
theorem dX11_value_45 : decode cX11_value 45 = .ok (.iconst 2, 1) := by decide +kernel
theorem dX11_value_46 : decode cX11_value 46 = .ok (.iaload, 1) := by decide +kernel
theorem dX11_value_47 : decode cX11_value 47 = .ok (.invokevirtual 195, 3) := by decide +kernel
theorem dX11_value_50 : decode cX11_value 50 = .ok (.aload_n 0, 1) := by decide +kernel
theorem dX11_value_51 : decode cX11_value 51 = .ok (.getfield 52, 3) := by decide +kernel
theorem dX11_value_54 : decode cX11_value 54 = .ok (.aload 5, 2) := by decide +kernel
theorem dX11_value_56 : decode cX11_value 56 = .ok (.getfield 139, 3) := by decide +kernel
theorem dX11_value_59 : decode cX11_value 59 = .ok (.aload 4, 2) := by decide +kernel
theorem dX11_value_61 : decode cX11_value 61 = .ok (.iload_n 3, 1) := by decide +kernel
theorem dX11_value_62 : decode cX11_value 62 = .ok (.invokevirtual 198, 3) := by decide +kernel
theorem dX11_value_65 : decode cX11_value 65 = .ok (.ireturn, 1) := by decide +kernel
theorem dX11_setOption_0 : decode cX11_setOption 0 = .ok (.iload_n 1, 1) := by decide +kernel
theorem dX11_setOption_1 : decode cX11_setOption 1 = .ok (.ifCond .lt 8, 3) := by decide +kernel
theorem dX11_setOption_4 : decode cX11_setOption 4 = .ok (.iload_n 1, 1) := by decide +kernel
theorem dX11_setOption_5 : decode cX11_setOption 5 = .ok (.iconst 3, 1) := by decide +kernel
theorem dX11_setOption_6 : decode cX11_setOption 6 = .ok (.if_icmp .lt 13, 3) := by decide +kernel
theorem dX11_setOption_9 : decode cX11_setOption 9 = .ok (.new 155, 3) := by decide +kernel
theorem dX11_setOption_12 : decode cX11_setOption 12 = .ok (.dup, 1) := by decide +kernel
theorem dX11_setOption_13 : decode cX11_setOption 13 = .ok (.ldc 202, 2) := by decide +kernel
theorem dX11_setOption_15 : decode cX11_setOption 15 = .ok (.invokespecial 159, 3) := by decide +kernel
theorem dX11_setOption_18 : decode cX11_setOption 18 = .ok (.athrow, 1) := by decide +kernel
theorem dX11_setOption_19 : decode cX11_setOption 19 = .ok (.iload_n 1, 1) := by decide +kernel
theorem dX11_setOption_20 : decode cX11_setOption 20 = .ok (.iconst 2, 1) := by decide +kernel
theorem dX11_setOption_21 : decode cX11_setOption 21 = .ok (.if_icmp .eq 32, 3) := by decide +kernel
theorem dX11_setOption_24 : decode cX11_setOption 24 = .ok (.iload_n 2, 1) := by decide +kernel
theorem dX11_setOption_25 : decode cX11_setOption 25 = .ok (.ifCond .lt 18, 3) := by decide +kernel
theorem dX11_setOption_28 : decode cX11_setOption 28 = .ok (.iload_n 2, 1) := by decide +kernel
theorem dX11_setOption_29 : decode cX11_setOption 29 = .ok (.iload_n 1, 1) := by decide +kernel
theorem dX11_setOption_30 : decode cX11_setOption 30 = .ok (.ifCond .ne 8, 3) := by decide +kernel
theorem dX11_setOption_33 : decode cX11_setOption 33 = .ok (.bipush 20, 2) := by decide +kernel
theorem dX11_setOption_35 : decode cX11_setOption 35 = .ok (.goto 5, 3) := by decide +kernel
theorem dX11_setOption_38 : decode cX11_setOption 38 = .ok (.bipush 9, 2) := by decide +kernel
theorem dX11_setOption_40 : decode cX11_setOption 40 = .ok (.if_icmp .le 13, 3) := by decide +kernel
theorem dX11_setOption_43 : decode cX11_setOption 43 = .ok (.new 69, 3) := by decide +kernel
theorem dX11_setOption_46 : decode cX11_setOption 46 = .ok (.dup, 1) := by decide +kernel
theorem dX11_setOption_47 : decode cX11_setOption 47 = .ok (.ldc 204, 2) := by decide +kernel
theorem dX11_setOption_49 : decode cX11_setOption 49 = .ok (.invokespecial 73, 3) := by decide +kernel
theorem dX11_setOption_52 : decode cX11_setOption 52 = .ok (.athrow, 1) := by decide +kernel
theorem dX11_setOption_53 : decode cX11_setOption 53 = .ok (.aload_n 0, 1) := by decide +kernel
theorem dX11_setOption_54 : decode cX11_setOption 54 = .ok (.getfield 19, 3) := by decide +kernel
theorem dX11_setOption_57 : decode cX11_setOption 57 = .ok (.getfield 192, 3) := by decide +kernel
theorem dX11_setOption_60 : decode cX11_setOption 60 = .ok (.iload_n 1, 1) := by decide +kernel
theorem dX11_setOption_61 : decode cX11_setOption 61 = .ok (.iaload, 1) := by decide +kernel
theorem dX11_setOption_62 : decode cX11_setOption 62 = .ok (.istore_n 3, 1) := by decide +kernel
theorem dX11_setOption_63 : decode cX11_setOption 63 = .ok (.aload_n 0, 1) := by decide +kernel
theorem dX11_setOption_64 : decode cX11_setOption 64 = .ok (.getfield 19, 3) := by decide +kernel
theorem dX11_setOption_67 : decode cX11_setOption 67 = .ok (.iload_n 1, 1) := by decide +kernel
theorem dX11_setOption_68 : decode cX11_setOption 68 = .ok (.iload_n 2, 1) := by decide +kernel
theorem dX11_setOption_69 : decode cX11_setOption 69 = .ok (.invokevirtual 206, 3) := by decide +kernel
theorem dX11_setOption_72 : decode cX11_setOption 72 = .ok (.iload_n 3, 1) := by decide +kernel
theorem dX11_setOption_73 : decode cX11_setOption 73 = .ok (.ireturn, 1) := by decide +kernel
theorem dX11_setBarrier_0 : decode cX11_setBarrier 0 = .ok (.aload_n 0, 1) := by decide +kernel
theorem dX11_setBarrier_1 : decode cX11_setBarrier 1 = .ok (.iload_n 1, 1) := by decide +kernel
theorem dX11_setBarrier_2 : decode cX11_setBarrier 2 = .ok (.invokevirtual 118, 3) := by decide +kernel
theorem dX11_setBarrier_5 : decode cX11_setBarrier 5 = .ok (.getfield 210, 3) := by decide +kernel
theorem dX11_setBarrier_8 : decode cX11_setBarrier 8 = .ok (.istore_n 3, 1) := by decide +kernel
theorem dX11_setBarrier_9 : decode cX11_setBarrier 9 = .ok (.aload_n 0, 1) := by decide +kernel
theorem dX11_setBarrier_10 : decode cX11_setBarrier 10 = .ok (.getfield 19, 3) := by decide +kernel
theorem dX11_setBarrier_13 : decode cX11_setBarrier 13 = .ok (.iload_n 1, 1) := by decide +kernel
theorem dX11_setBarrier_14 : decode cX11_setBarrier 14 = .ok (.iload_n 2, 1) := by decide +kernel
theorem dX11_setBarrier_15 : decode cX11_setBarrier 15 = .ok (.invokevirtual 213, 3) := by decide +kernel
theorem dX11_setBarrier_18 : decode cX11_setBarrier 18 = .ok (.iload_n 3, 1) := by decide +kernel
theorem dX11_setBarrier_19 : decode cX11_setBarrier 19 = .ok (.ireturn, 1) := by decide +kernel
theorem dX11_dependenceCount_0 : decode cX11_dependenceCount 0 = .ok (.aload_n 0, 1) := by decide +kernel
theorem dX11_dependenceCount_1 : decode cX11_dependenceCount 1 = .ok (.iload_n 1, 1) := by decide +kernel
theorem dX11_dependenceCount_2 : decode cX11_dependenceCount 2 = .ok (.iload_n 2, 1) := by decide +kernel
theorem dX11_dependenceCount_3 : decode cX11_dependenceCount 3 = .ok (.invokevirtual 217, 3) := by decide +kernel
theorem dX11_dependenceCount_6 : decode cX11_dependenceCount 6 = .ok (.aload_n 0, 1) := by decide +kernel
theorem dX11_dependenceCount_7 : decode cX11_dependenceCount 7 = .ok (.iload_n 1, 1) := by decide +kernel
theorem dX11_dependenceCount_8 : decode cX11_dependenceCount 8 = .ok (.iload_n 2, 1) := by decide +kernel
theorem dX11_dependenceCount_9 : decode cX11_dependenceCount 9 = .ok (.invokevirtual 220, 3) := by decide +kernel
theorem dX11_dependenceCount_12 : decode cX11_dependenceCount 12 = .ok (.aload_n 0, 1) := by decide +kernel
theorem dX11_dependenceCount_13 : decode cX11_dependenceCount 13 = .ok (.getfield 29, 3) := by decide +kernel
theorem dX11_dependenceCount_16 : decode cX11_dependenceCount 16 = .ok (.aload_n 0, 1) := by decide +kernel
theorem dX11_dependenceCount_17 : decode cX11_dependenceCount 17 = .ok (.iload_n 1, 1) := by decide +kernel
theorem dX11_dependenceCount_18 : decode cX11_dependenceCount 18 = .ok (.invokevirtual 118, 3) := by decide +kernel
theorem dX11_dependenceCount_21 : decode cX11_dependenceCount 21 = .ok (.aload_n 0, 1) := by decide +kernel
theorem dX11_dependenceCount_22 : decode cX11_dependenceCount 22 = .ok (.iload_n 2, 1) := by decide +kernel
theorem dX11_dependenceCount_23 : decode cX11_dependenceCount 23 = .ok (.invokevirtual 118, 3) := by decide +kernel
theorem dX11_dependenceCount_26 : decode cX11_dependenceCount 26 = .ok (.invokevirtual 223, 3) := by decide +kernel
theorem dX11_dependenceCount_29 : decode cX11_dependenceCount 29 = .ok (.aload_n 0, 1) := by decide +kernel
theorem dX11_dependenceCount_30 : decode cX11_dependenceCount 30 = .ok (.getfield 29, 3) := by decide +kernel
theorem dX11_dependenceCount_33 : decode cX11_dependenceCount 33 = .ok (.getfield 227, 3) := by decide +kernel
theorem dX11_dependenceCount_36 : decode cX11_dependenceCount 36 = .ok (.ireturn, 1) := by decide +kernel
theorem dX11_dependence_0 : decode cX11_dependence 0 = .ok (.aload_n 0, 1) := by decide +kernel
theorem dX11_dependence_1 : decode cX11_dependence 1 = .ok (.iload_n 1, 1) := by decide +kernel
theorem dX11_dependence_2 : decode cX11_dependence 2 = .ok (.iload_n 2, 1) := by decide +kernel
theorem dX11_dependence_3 : decode cX11_dependence 3 = .ok (.invokevirtual 217, 3) := by decide +kernel
theorem dX11_dependence_6 : decode cX11_dependence 6 = .ok (.iload 4, 2) := by decide +kernel
theorem dX11_dependence_8 : decode cX11_dependence 8 = .ok (.ifCond .lt 9, 3) := by decide +kernel
theorem dX11_dependence_11 : decode cX11_dependence 11 = .ok (.iload 4, 2) := by decide +kernel
theorem dX11_dependence_13 : decode cX11_dependence 13 = .ok (.iconst 2, 1) := by decide +kernel
theorem dX11_dependence_14 : decode cX11_dependence 14 = .ok (.if_icmp .le 13, 3) := by decide +kernel
theorem dX11_dependence_17 : decode cX11_dependence 17 = .ok (.new 155, 3) := by decide +kernel
theorem dX11_dependence_20 : decode cX11_dependence 20 = .ok (.dup, 1) := by decide +kernel
theorem dX11_dependence_21 : decode cX11_dependence 21 = .ok (.ldc 228, 2) := by decide +kernel
theorem dX11_dependence_23 : decode cX11_dependence 23 = .ok (.invokespecial 159, 3) := by decide +kernel
theorem dX11_dependence_26 : decode cX11_dependence 26 = .ok (.athrow, 1) := by decide +kernel
theorem dX11_dependence_27 : decode cX11_dependence 27 = .ok (.aload_n 0, 1) := by decide +kernel
theorem dX11_dependence_28 : decode cX11_dependence 28 = .ok (.iload_n 1, 1) := by decide +kernel
theorem dX11_dependence_29 : decode cX11_dependence 29 = .ok (.iload_n 2, 1) := by decide +kernel
theorem dX11_dependence_30 : decode cX11_dependence 30 = .ok (.invokevirtual 220, 3) := by decide +kernel
theorem dX11_dependence_33 : decode cX11_dependence 33 = .ok (.aload_n 0, 1) := by decide +kernel
theorem dX11_dependence_34 : decode cX11_dependence 34 = .ok (.getfield 29, 3) := by decide +kernel
theorem dX11_dependence_37 : decode cX11_dependence 37 = .ok (.aload_n 0, 1) := by decide +kernel
theorem dX11_dependence_38 : decode cX11_dependence 38 = .ok (.iload_n 1, 1) := by decide +kernel
theorem dX11_dependence_39 : decode cX11_dependence 39 = .ok (.invokevirtual 118, 3) := by decide +kernel
theorem dX11_dependence_42 : decode cX11_dependence 42 = .ok (.aload_n 0, 1) := by decide +kernel
theorem dX11_dependence_43 : decode cX11_dependence 43 = .ok (.iload_n 2, 1) := by decide +kernel
theorem dX11_dependence_44 : decode cX11_dependence 44 = .ok (.invokevirtual 118, 3) := by decide +kernel
theorem dX11_dependence_47 : decode cX11_dependence 47 = .ok (.invokevirtual 223, 3) := by decide +kernel
theorem dX11_dependence_50 : decode cX11_dependence 50 = .ok (.iload_n 3, 1) := by decide +kernel
theorem dX11_dependence_51 : decode cX11_dependence 51 = .ok (.ifCond .lt 14, 3) := by decide +kernel
theorem dX11_dependence_54 : decode cX11_dependence 54 = .ok (.iload_n 3, 1) := by decide +kernel
theorem dX11_dependence_55 : decode cX11_dependence 55 = .ok (.aload_n 0, 1) := by decide +kernel
theorem dX11_dependence_56 : decode cX11_dependence 56 = .ok (.getfield 29, 3) := by decide +kernel
theorem dX11_dependence_59 : decode cX11_dependence 59 = .ok (.getfield 227, 3) := by decide +kernel
theorem dX11_dependence_62 : decode cX11_dependence 62 = .ok (.if_icmp .lt 13, 3) := by decide +kernel
theorem dX11_dependence_65 : decode cX11_dependence 65 = .ok (.new 230, 3) := by decide +kernel
theorem dX11_dependence_68 : decode cX11_dependence 68 = .ok (.dup, 1) := by decide +kernel
theorem dX11_dependence_69 : decode cX11_dependence 69 = .ok (.ldc 232, 2) := by decide +kernel
theorem dX11_dependence_71 : decode cX11_dependence 71 = .ok (.invokespecial 234, 3) := by decide +kernel
theorem dX11_dependence_74 : decode cX11_dependence 74 = .ok (.athrow, 1) := by decide +kernel
theorem dX11_dependence_75 : decode cX11_dependence 75 = .ok (.iload 4, 2) := by decide +kernel
theorem dX11_dependence_77 : decode cX11_dependence 77 = .ok (.ifCond .ne 15, 3) := by decide +kernel
theorem dX11_dependence_80 : decode cX11_dependence 80 = .ok (.aload_n 0, 1) := by decide +kernel
theorem dX11_dependence_81 : decode cX11_dependence 81 = .ok (.getfield 29, 3) := by decide +kernel
theorem dX11_dependence_84 : decode cX11_dependence 84 = .ok (.getfield 235, 3) := by decide +kernel
theorem dX11_dependence_87 : decode cX11_dependence 87 = .ok (.iload_n 3, 1) := by decide +kernel
theorem dX11_dependence_88 : decode cX11_dependence 88 = .ok (.iaload, 1) := by decide +kernel
theorem dX11_dependence_89 : decode cX11_dependence 89 = .ok (.goto 30, 3) := by decide +kernel
theorem dX11_dependence_92 : decode cX11_dependence 92 = .ok (.iload 4, 2) := by decide +kernel
theorem dX11_dependence_94 : decode cX11_dependence 94 = .ok (.iconst 1, 1) := by decide +kernel
theorem dX11_dependence_95 : decode cX11_dependence 95 = .ok (.if_icmp .ne 15, 3) := by decide +kernel
theorem dX11_dependence_98 : decode cX11_dependence 98 = .ok (.aload_n 0, 1) := by decide +kernel
theorem dX11_dependence_99 : decode cX11_dependence 99 = .ok (.getfield 29, 3) := by decide +kernel
theorem dX11_dependence_102 : decode cX11_dependence 102 = .ok (.getfield 238, 3) := by decide +kernel
theorem dX11_dependence_105 : decode cX11_dependence 105 = .ok (.iload_n 3, 1) := by decide +kernel
theorem dX11_dependence_106 : decode cX11_dependence 106 = .ok (.iaload, 1) := by decide +kernel
theorem dX11_dependence_107 : decode cX11_dependence 107 = .ok (.goto 12, 3) := by decide +kernel
theorem dX11_dependence_110 : decode cX11_dependence 110 = .ok (.aload_n 0, 1) := by decide +kernel
theorem dX11_dependence_111 : decode cX11_dependence 111 = .ok (.getfield 29, 3) := by decide +kernel
theorem dX11_dependence_114 : decode cX11_dependence 114 = .ok (.getfield 241, 3) := by decide +kernel
theorem dX11_dependence_117 : decode cX11_dependence 117 = .ok (.iload_n 3, 1) := by decide +kernel
theorem dX11_dependence_118 : decode cX11_dependence 118 = .ok (.iaload, 1) := by decide +kernel
theorem dX11_dependence_119 : decode cX11_dependence 119 = .ok (.ireturn, 1) := by decide +kernel
theorem dX11_required_0 : decode cX11_required 0 = .ok (.aload_n 0, 1) := by decide +kernel
theorem dX11_required_1 : decode cX11_required 1 = .ok (.iload_n 1, 1) := by decide +kernel
theorem dX11_required_2 : decode cX11_required 2 = .ok (.iload_n 2, 1) := by decide +kernel
theorem dX11_required_3 : decode cX11_required 3 = .ok (.invokevirtual 217, 3) := by decide +kernel
theorem dX11_required_6 : decode cX11_required 6 = .ok (.aload_n 0, 1) := by decide +kernel
theorem dX11_required_7 : decode cX11_required 7 = .ok (.iload_n 1, 1) := by decide +kernel
theorem dX11_required_8 : decode cX11_required 8 = .ok (.iload_n 2, 1) := by decide +kernel
theorem dX11_required_9 : decode cX11_required 9 = .ok (.invokevirtual 220, 3) := by decide +kernel
theorem dX11_required_12 : decode cX11_required 12 = .ok (.aload_n 0, 1) := by decide +kernel
theorem dX11_required_13 : decode cX11_required 13 = .ok (.getfield 29, 3) := by decide +kernel
theorem dX11_required_16 : decode cX11_required 16 = .ok (.aload_n 0, 1) := by decide +kernel
theorem dX11_required_17 : decode cX11_required 17 = .ok (.iload_n 1, 1) := by decide +kernel
theorem dX11_required_18 : decode cX11_required 18 = .ok (.invokevirtual 118, 3) := by decide +kernel
theorem dX11_required_21 : decode cX11_required 21 = .ok (.aload_n 0, 1) := by decide +kernel
theorem dX11_required_22 : decode cX11_required 22 = .ok (.iload_n 2, 1) := by decide +kernel
theorem dX11_required_23 : decode cX11_required 23 = .ok (.invokevirtual 118, 3) := by decide +kernel
theorem dX11_required_26 : decode cX11_required 26 = .ok (.invokevirtual 223, 3) := by decide +kernel
theorem dX11_required_29 : decode cX11_required 29 = .ok (.aload_n 0, 1) := by decide +kernel
theorem dX11_required_30 : decode cX11_required 30 = .ok (.getfield 29, 3) := by decide +kernel
theorem dX11_required_33 : decode cX11_required 33 = .ok (.getfield 227, 3) := by decide +kernel
theorem dX11_required_36 : decode cX11_required 36 = .ok (.ifCond .ne 13, 3) := by decide +kernel
theorem dX11_required_39 : decode cX11_required 39 = .ok (.new 230, 3) := by decide +kernel
theorem dX11_required_42 : decode cX11_required 42 = .ok (.dup, 1) := by decide +kernel
theorem dX11_required_43 : decode cX11_required 43 = .ok (.ldc 244, 2) := by decide +kernel
theorem dX11_required_45 : decode cX11_required 45 = .ok (.invokespecial 234, 3) := by decide +kernel
theorem dX11_required_48 : decode cX11_required 48 = .ok (.athrow, 1) := by decide +kernel
theorem dX11_required_49 : decode cX11_required 49 = .ok (.aload_n 0, 1) := by decide +kernel
theorem dX11_required_50 : decode cX11_required 50 = .ok (.getfield 29, 3) := by decide +kernel
theorem dX11_required_53 : decode cX11_required 53 = .ok (.getfield 246, 3) := by decide +kernel
theorem dX11_required_56 : decode cX11_required 56 = .ok (.ireturn, 1) := by decide +kernel
theorem dX11_isAllowed_0 : decode cX11_isAllowed 0 = .ok (.aload_n 0, 1) := by decide +kernel
theorem dX11_isAllowed_1 : decode cX11_isAllowed 1 = .ok (.iload_n 1, 1) := by decide +kernel
theorem dX11_isAllowed_2 : decode cX11_isAllowed 2 = .ok (.iload_n 2, 1) := by decide +kernel
theorem dX11_isAllowed_3 : decode cX11_isAllowed 3 = .ok (.invokevirtual 217, 3) := by decide +kernel
theorem dX11_isAllowed_6 : decode cX11_isAllowed 6 = .ok (.aload_n 0, 1) := by decide +kernel
theorem dX11_isAllowed_7 : decode cX11_isAllowed 7 = .ok (.iload_n 1, 1) := by decide +kernel
theorem dX11_isAllowed_8 : decode cX11_isAllowed 8 = .ok (.iload_n 2, 1) := by decide +kernel
theorem dX11_isAllowed_9 : decode cX11_isAllowed 9 = .ok (.invokevirtual 249, 3) := by decide +kernel
theorem dX11_isAllowed_12 : decode cX11_isAllowed 12 = .ok (.aload_n 0, 1) := by decide +kernel
theorem dX11_isAllowed_13 : decode cX11_isAllowed 13 = .ok (.getfield 38, 3) := by decide +kernel
theorem dX11_isAllowed_16 : decode cX11_isAllowed 16 = .ok (.invokevirtual 252, 3) := by decide +kernel
theorem dX11_isAllowed_19 : decode cX11_isAllowed 19 = .ok (.aload_n 0, 1) := by decide +kernel
theorem dX11_isAllowed_20 : decode cX11_isAllowed 20 = .ok (.getfield 38, 3) := by decide +kernel
theorem dX11_isAllowed_23 : decode cX11_isAllowed 23 = .ok (.iload_n 1, 1) := by decide +kernel
theorem dX11_isAllowed_24 : decode cX11_isAllowed 24 = .ok (.invokevirtual 255, 3) := by decide +kernel
theorem dX11_isAllowed_27 : decode cX11_isAllowed 27 = .ok (.iload_n 2, 1) := by decide +kernel
theorem dX11_isAllowed_28 : decode cX11_isAllowed 28 = .ok (.iload_n 1, 1) := by decide +kernel
theorem dX11_isAllowed_29 : decode cX11_isAllowed 29 = .ok (.isub, 1) := by decide +kernel
theorem dX11_isAllowed_30 : decode cX11_isAllowed 30 = .ok (.if_icmp .le 7, 3) := by decide +kernel
theorem dX11_isAllowed_33 : decode cX11_isAllowed 33 = .ok (.iconst 1, 1) := by decide +kernel
theorem dX11_isAllowed_34 : decode cX11_isAllowed 34 = .ok (.goto 4, 3) := by decide +kernel
theorem dX11_isAllowed_37 : decode cX11_isAllowed 37 = .ok (.iconst 0, 1) := by decide +kernel
theorem dX11_isAllowed_38 : decode cX11_isAllowed 38 = .ok (.ireturn, 1) := by decide +kernel
theorem dX11_groupCount_0 : decode cX11_groupCount 0 = .ok (.aload_n 0, 1) := by decide +kernel
theorem dX11_groupCount_1 : decode cX11_groupCount 1 = .ok (.iload_n 1, 1) := by decide +kernel
theorem dX11_groupCount_2 : decode cX11_groupCount 2 = .ok (.invokevirtual 259, 3) := by decide +kernel
theorem dX11_groupCount_5 : decode cX11_groupCount 5 = .ok (.getfield 263, 3) := by decide +kernel
theorem dX11_groupCount_8 : decode cX11_groupCount 8 = .ok (.ireturn, 1) := by decide +kernel
theorem dX11_groupOf_0 : decode cX11_groupOf 0 = .ok (.aload_n 0, 1) := by decide +kernel
theorem dX11_groupOf_1 : decode cX11_groupOf 1 = .ok (.iload_n 1, 1) := by decide +kernel
theorem dX11_groupOf_2 : decode cX11_groupOf 2 = .ok (.invokevirtual 259, 3) := by decide +kernel
theorem dX11_groupOf_5 : decode cX11_groupOf 5 = .ok (.astore_n 3, 1) := by decide +kernel
theorem dX11_groupOf_6 : decode cX11_groupOf 6 = .ok (.aload_n 0, 1) := by decide +kernel
theorem dX11_groupOf_7 : decode cX11_groupOf 7 = .ok (.iload_n 2, 1) := by decide +kernel
theorem dX11_groupOf_8 : decode cX11_groupOf 8 = .ok (.invokevirtual 112, 3) := by decide +kernel
theorem dX11_groupOf_11 : decode cX11_groupOf 11 = .ok (.aload_n 3, 1) := by decide +kernel
theorem dX11_groupOf_12 : decode cX11_groupOf 12 = .ok (.iload_n 2, 1) := by decide +kernel
theorem dX11_groupOf_13 : decode cX11_groupOf 13 = .ok (.invokevirtual 266, 3) := by decide +kernel
theorem dX11_groupOf_16 : decode cX11_groupOf 16 = .ok (.ireturn, 1) := by decide +kernel
theorem dX11_shift_0 : decode cX11_shift 0 = .ok (.aload_n 0, 1) := by decide +kernel
theorem dX11_shift_1 : decode cX11_shift 1 = .ok (.iload_n 1, 1) := by decide +kernel
theorem dX11_shift_2 : decode cX11_shift 2 = .ok (.invokevirtual 259, 3) := by decide +kernel
theorem dX11_shift_5 : decode cX11_shift 5 = .ok (.astore_n 3, 1) := by decide +kernel
theorem dX11_shift_6 : decode cX11_shift 6 = .ok (.aload_n 0, 1) := by decide +kernel
theorem dX11_shift_7 : decode cX11_shift 7 = .ok (.iload_n 2, 1) := by decide +kernel
theorem dX11_shift_8 : decode cX11_shift 8 = .ok (.invokevirtual 112, 3) := by decide +kernel
theorem dX11_shift_11 : decode cX11_shift 11 = .ok (.aload_n 3, 1) := by decide +kernel
theorem dX11_shift_12 : decode cX11_shift 12 = .ok (.aload_n 3, 1) := by decide +kernel
theorem dX11_shift_13 : decode cX11_shift 13 = .ok (.iload_n 2, 1) := by decide +kernel
theorem dX11_shift_14 : decode cX11_shift 14 = .ok (.invokevirtual 266, 3) := by decide +kernel
theorem dX11_shift_17 : decode cX11_shift 17 = .ok (.invokevirtual 269, 3) := by decide +kernel
theorem dX11_shift_20 : decode cX11_shift 20 = .ok (.aload_n 0, 1) := by decide +kernel
theorem dX11_shift_21 : decode cX11_shift 21 = .ok (.getfield 38, 3) := by decide +kernel
theorem dX11_shift_24 : decode cX11_shift 24 = .ok (.getfield 272, 3) := by decide +kernel
theorem dX11_shift_27 : decode cX11_shift 27 = .ok (.iload_n 2, 1) := by decide +kernel
theorem dX11_shift_28 : decode cX11_shift 28 = .ok (.iaload, 1) := by decide +kernel
theorem dX11_shift_29 : decode cX11_shift 29 = .ok (.ireturn, 1) := by decide +kernel
theorem dX11_step_0 : decode cX11_step 0 = .ok (.aload_n 0, 1) := by decide +kernel
theorem dX11_step_1 : decode cX11_step 1 = .ok (.iload_n 1, 1) := by decide +kernel
theorem dX11_step_2 : decode cX11_step 2 = .ok (.invokevirtual 259, 3) := by decide +kernel
theorem dX11_step_5 : decode cX11_step 5 = .ok (.astore 4, 2) := by decide +kernel
theorem dX11_step_7 : decode cX11_step 7 = .ok (.iload_n 3, 1) := by decide +kernel
theorem dX11_step_8 : decode cX11_step 8 = .ok (.ifCond .lt 8, 3) := by decide +kernel
theorem dX11_step_11 : decode cX11_step 11 = .ok (.iload_n 3, 1) := by decide +kernel
theorem dX11_step_12 : decode cX11_step 12 = .ok (.iconst 3, 1) := by decide +kernel
theorem dX11_step_13 : decode cX11_step 13 = .ok (.if_icmp .le 13, 3) := by decide +kernel
theorem dX11_step_16 : decode cX11_step 16 = .ok (.new 69, 3) := by decide +kernel
theorem dX11_step_19 : decode cX11_step 19 = .ok (.dup, 1) := by decide +kernel
theorem dX11_step_20 : decode cX11_step 20 = .ok (.ldc 171, 2) := by decide +kernel
theorem dX11_step_22 : decode cX11_step 22 = .ok (.invokespecial 73, 3) := by decide +kernel
theorem dX11_step_25 : decode cX11_step 25 = .ok (.athrow, 1) := by decide +kernel
theorem dX11_step_26 : decode cX11_step 26 = .ok (.aload_n 0, 1) := by decide +kernel
theorem dX11_step_27 : decode cX11_step 27 = .ok (.aload 4, 2) := by decide +kernel
theorem dX11_step_29 : decode cX11_step 29 = .ok (.iload_n 2, 1) := by decide +kernel
theorem dX11_step_30 : decode cX11_step 30 = .ok (.invokevirtual 273, 3) := by decide +kernel
theorem dX11_step_33 : decode cX11_step 33 = .ok (.aload 4, 2) := by decide +kernel
theorem dX11_step_35 : decode cX11_step 35 = .ok (.iload_n 2, 1) := by decide +kernel
theorem dX11_step_36 : decode cX11_step 36 = .ok (.invokevirtual 269, 3) := by decide +kernel
theorem dX11_step_39 : decode cX11_step 39 = .ok (.iload_n 3, 1) := by decide +kernel
theorem dX11_step_40 : decode cX11_step 40 = .ok (.iconst 2, 1) := by decide +kernel
theorem dX11_step_41 : decode cX11_step 41 = .ok (.if_icmp .ge 25, 3) := by decide +kernel
theorem dX11_step_44 : decode cX11_step 44 = .ok (.iload_n 3, 1) := by decide +kernel
theorem dX11_step_45 : decode cX11_step 45 = .ok (.ifCond .ne 13, 3) := by decide +kernel
theorem dX11_step_48 : decode cX11_step 48 = .ok (.aload_n 0, 1) := by decide +kernel
theorem dX11_step_49 : decode cX11_step 49 = .ok (.getfield 38, 3) := by decide +kernel
theorem dX11_step_52 : decode cX11_step 52 = .ok (.getfield 277, 3) := by decide +kernel
theorem dX11_step_55 : decode cX11_step 55 = .ok (.goto 10, 3) := by decide +kernel
theorem dX11_step_58 : decode cX11_step 58 = .ok (.aload_n 0, 1) := by decide +kernel
theorem dX11_step_59 : decode cX11_step 59 = .ok (.getfield 38, 3) := by decide +kernel
theorem dX11_step_62 : decode cX11_step 62 = .ok (.getfield 280, 3) := by decide +kernel
theorem dX11_step_65 : decode cX11_step 65 = .ok (.ireturn, 1) := by decide +kernel
theorem dX11_step_66 : decode cX11_step 66 = .ok (.aload_n 0, 1) := by decide +kernel
theorem dX11_step_67 : decode cX11_step 67 = .ok (.getfield 38, 3) := by decide +kernel
theorem dX11_step_70 : decode cX11_step 70 = .ok (.invokevirtual 283, 3) := by decide +kernel
theorem dX11_step_73 : decode cX11_step 73 = .ok (.ifCond .ne 14, 3) := by decide +kernel
theorem dX11_step_76 : decode cX11_step 76 = .ok (.new 230, 3) := by decide +kernel
theorem dX11_step_79 : decode cX11_step 79 = .ok (.dup, 1) := by decide +kernel
theorem dX11_step_80 : decode cX11_step 80 = .ok (.ldc_w 287, 3) := by decide +kernel
theorem dX11_step_83 : decode cX11_step 83 = .ok (.invokespecial 234, 3) := by decide +kernel
theorem dX11_step_86 : decode cX11_step 86 = .ok (.athrow, 1) := by decide +kernel
theorem dX11_step_87 : decode cX11_step 87 = .ok (.iload_n 3, 1) := by decide +kernel
theorem dX11_step_88 : decode cX11_step 88 = .ok (.iconst 2, 1) := by decide +kernel
theorem dX11_step_89 : decode cX11_step 89 = .ok (.if_icmp .ne 13, 3) := by decide +kernel
theorem dX11_step_92 : decode cX11_step 92 = .ok (.aload_n 0, 1) := by decide +kernel
theorem dX11_step_93 : decode cX11_step 93 = .ok (.getfield 38, 3) := by decide +kernel
theorem dX11_step_96 : decode cX11_step 96 = .ok (.getfield 289, 3) := by decide +kernel
theorem dX11_step_99 : decode cX11_step 99 = .ok (.goto 10, 3) := by decide +kernel
theorem dX11_step_102 : decode cX11_step 102 = .ok (.aload_n 0, 1) := by decide +kernel
theorem dX11_step_103 : decode cX11_step 103 = .ok (.getfield 38, 3) := by decide +kernel
theorem dX11_step_106 : decode cX11_step 106 = .ok (.getfield 292, 3) := by decide +kernel
theorem dX11_step_109 : decode cX11_step 109 = .ok (.ireturn, 1) := by decide +kernel
theorem dX11_peeled_0 : decode cX11_peeled 0 = .ok (.aload_n 0, 1) := by decide +kernel
theorem dX11_peeled_1 : decode cX11_peeled 1 = .ok (.iload_n 1, 1) := by decide +kernel
theorem dX11_peeled_2 : decode cX11_peeled 2 = .ok (.invokevirtual 259, 3) := by decide +kernel
theorem dX11_peeled_5 : decode cX11_peeled 5 = .ok (.astore 4, 2) := by decide +kernel
theorem dX11_peeled_7 : decode cX11_peeled 7 = .ok (.aload_n 0, 1) := by decide +kernel
theorem dX11_peeled_8 : decode cX11_peeled 8 = .ok (.iload_n 3, 1) := by decide +kernel
theorem dX11_peeled_9 : decode cX11_peeled 9 = .ok (.invokevirtual 122, 3) := by decide +kernel
theorem dX11_peeled_12 : decode cX11_peeled 12 = .ok (.aload_n 0, 1) := by decide +kernel
theorem dX11_peeled_13 : decode cX11_peeled 13 = .ok (.iload_n 2, 1) := by decide +kernel
theorem dX11_peeled_14 : decode cX11_peeled 14 = .ok (.invokevirtual 118, 3) := by decide +kernel
theorem dX11_peeled_17 : decode cX11_peeled 17 = .ok (.astore 5, 2) := by decide +kernel
theorem dX11_peeled_19 : decode cX11_peeled 19 = .ok (.aload 4, 2) := by decide +kernel
theorem dX11_peeled_21 : decode cX11_peeled 21 = .ok (.aload 4, 2) := by decide +kernel
theorem dX11_peeled_23 : decode cX11_peeled 23 = .ok (.iload_n 2, 1) := by decide +kernel
theorem dX11_peeled_24 : decode cX11_peeled 24 = .ok (.invokevirtual 266, 3) := by decide +kernel
theorem dX11_peeled_27 : decode cX11_peeled 27 = .ok (.invokevirtual 269, 3) := by decide +kernel
theorem dX11_peeled_30 : decode cX11_peeled 30 = .ok (.aload_n 0, 1) := by decide +kernel
theorem dX11_peeled_31 : decode cX11_peeled 31 = .ok (.getfield 38, 3) := by decide +kernel
theorem dX11_peeled_34 : decode cX11_peeled 34 = .ok (.invokevirtual 283, 3) := by decide +kernel
theorem dX11_peeled_37 : decode cX11_peeled 37 = .ok (.ifCond .ne 25, 3) := by decide +kernel
theorem dX11_peeled_40 : decode cX11_peeled 40 = .ok (.iload_n 3, 1) := by decide +kernel
theorem dX11_peeled_41 : decode cX11_peeled 41 = .ok (.ifCond .ne 19, 3) := by decide +kernel
theorem dX11_peeled_44 : decode cX11_peeled 44 = .ok (.aload 5, 2) := by decide +kernel
theorem dX11_peeled_46 : decode cX11_peeled 46 = .ok (.getfield 130, 3) := by decide +kernel
theorem dX11_peeled_49 : decode cX11_peeled 49 = .ok (.aload 5, 2) := by decide +kernel
theorem dX11_peeled_51 : decode cX11_peeled 51 = .ok (.getfield 125, 3) := by decide +kernel
theorem dX11_peeled_54 : decode cX11_peeled 54 = .ok (.isub, 1) := by decide +kernel
theorem dX11_peeled_55 : decode cX11_peeled 55 = .ok (.iconst 1, 1) := by decide +kernel
theorem dX11_peeled_56 : decode cX11_peeled 56 = .ok (.iadd, 1) := by decide +kernel
theorem dX11_peeled_57 : decode cX11_peeled 57 = .ok (.goto 4, 3) := by decide +kernel
theorem dX11_peeled_60 : decode cX11_peeled 60 = .ok (.iconst 0, 1) := by decide +kernel
theorem dX11_peeled_61 : decode cX11_peeled 61 = .ok (.ireturn, 1) := by decide +kernel
theorem dX11_peeled_62 : decode cX11_peeled 62 = .ok (.aload_n 0, 1) := by decide +kernel
theorem dX11_peeled_63 : decode cX11_peeled 63 = .ok (.getfield 38, 3) := by decide +kernel
theorem dX11_peeled_66 : decode cX11_peeled 66 = .ok (.getfield 272, 3) := by decide +kernel
theorem dX11_peeled_69 : decode cX11_peeled 69 = .ok (.iload_n 2, 1) := by decide +kernel
theorem dX11_peeled_70 : decode cX11_peeled 70 = .ok (.iaload, 1) := by decide +kernel
theorem dX11_peeled_71 : decode cX11_peeled 71 = .ok (.istore 6, 2) := by decide +kernel
theorem dX11_peeled_73 : decode cX11_peeled 73 = .ok (.iload_n 3, 1) := by decide +kernel
theorem dX11_peeled_74 : decode cX11_peeled 74 = .ok (.ifCond .ne 22, 3) := by decide +kernel
theorem dX11_peeled_77 : decode cX11_peeled 77 = .ok (.aload_n 0, 1) := by decide +kernel
theorem dX11_peeled_78 : decode cX11_peeled 78 = .ok (.getfield 38, 3) := by decide +kernel
theorem dX11_peeled_81 : decode cX11_peeled 81 = .ok (.getfield 289, 3) := by decide +kernel
theorem dX11_peeled_84 : decode cX11_peeled 84 = .ok (.aload 5, 2) := by decide +kernel
theorem dX11_peeled_86 : decode cX11_peeled 86 = .ok (.getfield 125, 3) := by decide +kernel
theorem dX11_peeled_89 : decode cX11_peeled 89 = .ok (.iload 6, 2) := by decide +kernel
theorem dX11_peeled_91 : decode cX11_peeled 91 = .ok (.iadd, 1) := by decide +kernel
theorem dX11_peeled_92 : decode cX11_peeled 92 = .ok (.isub, 1) := by decide +kernel
theorem dX11_peeled_93 : decode cX11_peeled 93 = .ok (.goto 19, 3) := by decide +kernel
theorem dX11_peeled_96 : decode cX11_peeled 96 = .ok (.aload 5, 2) := by decide +kernel
theorem dX11_peeled_98 : decode cX11_peeled 98 = .ok (.getfield 130, 3) := by decide +kernel
theorem dX11_peeled_101 : decode cX11_peeled 101 = .ok (.iload 6, 2) := by decide +kernel
theorem dX11_peeled_103 : decode cX11_peeled 103 = .ok (.iadd, 1) := by decide +kernel
theorem dX11_peeled_104 : decode cX11_peeled 104 = .ok (.aload_n 0, 1) := by decide +kernel
theorem dX11_peeled_105 : decode cX11_peeled 105 = .ok (.getfield 38, 3) := by decide +kernel
theorem dX11_peeled_108 : decode cX11_peeled 108 = .ok (.getfield 292, 3) := by decide +kernel
theorem dX11_peeled_111 : decode cX11_peeled 111 = .ok (.isub, 1) := by decide +kernel
theorem dX11_peeled_112 : decode cX11_peeled 112 = .ok (.ireturn, 1) := by decide +kernel
theorem dX11_carried_0 : decode cX11_carried 0 = .ok (.aload_n 0, 1) := by decide +kernel
theorem dX11_carried_1 : decode cX11_carried 1 = .ok (.iload_n 1, 1) := by decide +kernel
theorem dX11_carried_2 : decode cX11_carried 2 = .ok (.invokevirtual 259, 3) := by decide +kernel
theorem dX11_carried_5 : decode cX11_carried 5 = .ok (.astore_n 3, 1) := by decide +kernel
theorem dX11_carried_6 : decode cX11_carried 6 = .ok (.aload_n 0, 1) := by decide +kernel
theorem dX11_carried_7 : decode cX11_carried 7 = .ok (.aload_n 3, 1) := by decide +kernel
theorem dX11_carried_8 : decode cX11_carried 8 = .ok (.iload_n 2, 1) := by decide +kernel
theorem dX11_carried_9 : decode cX11_carried 9 = .ok (.invokevirtual 273, 3) := by decide +kernel
theorem dX11_carried_12 : decode cX11_carried 12 = .ok (.aload_n 3, 1) := by decide +kernel
theorem dX11_carried_13 : decode cX11_carried 13 = .ok (.iload_n 2, 1) := by decide +kernel
theorem dX11_carried_14 : decode cX11_carried 14 = .ok (.invokevirtual 269, 3) := by decide +kernel
theorem dX11_carried_17 : decode cX11_carried 17 = .ok (.aload_n 0, 1) := by decide +kernel
theorem dX11_carried_18 : decode cX11_carried 18 = .ok (.getfield 38, 3) := by decide +kernel
theorem dX11_carried_21 : decode cX11_carried 21 = .ok (.invokevirtual 295, 3) := by decide +kernel
theorem dX11_carried_24 : decode cX11_carried 24 = .ok (.ireturn, 1) := by decide +kernel
theorem dX11_reads_0 : decode cX11_reads 0 = .ok (.aload_n 0, 1) := by decide +kernel
theorem dX11_reads_1 : decode cX11_reads 1 = .ok (.iload_n 1, 1) := by decide +kernel
theorem dX11_reads_2 : decode cX11_reads 2 = .ok (.invokevirtual 259, 3) := by decide +kernel
theorem dX11_reads_5 : decode cX11_reads 5 = .ok (.astore_n 3, 1) := by decide +kernel
theorem dX11_reads_6 : decode cX11_reads 6 = .ok (.iload_n 2, 1) := by decide +kernel
theorem dX11_reads_7 : decode cX11_reads 7 = .ok (.ifCond .lt 8, 3) := by decide +kernel
theorem dX11_reads_10 : decode cX11_reads 10 = .ok (.iload_n 2, 1) := by decide +kernel
theorem dX11_reads_11 : decode cX11_reads 11 = .ok (.iconst 2, 1) := by decide +kernel
theorem dX11_reads_12 : decode cX11_reads 12 = .ok (.if_icmp .le 13, 3) := by decide +kernel
theorem dX11_reads_15 : decode cX11_reads 15 = .ok (.new 69, 3) := by decide +kernel
theorem dX11_reads_18 : decode cX11_reads 18 = .ok (.dup, 1) := by decide +kernel
theorem dX11_reads_19 : decode cX11_reads 19 = .ok (.ldc 228, 2) := by decide +kernel
theorem dX11_reads_21 : decode cX11_reads 21 = .ok (.invokespecial 73, 3) := by decide +kernel
theorem dX11_reads_24 : decode cX11_reads 24 = .ok (.athrow, 1) := by decide +kernel
theorem dX11_reads_25 : decode cX11_reads 25 = .ok (.aload_n 0, 1) := by decide +kernel
theorem dX11_reads_26 : decode cX11_reads 26 = .ok (.getfield 45, 3) := by decide +kernel
theorem dX11_reads_29 : decode cX11_reads 29 = .ok (.aload_n 0, 1) := by decide +kernel
theorem dX11_reads_30 : decode cX11_reads 30 = .ok (.getfield 19, 3) := by decide +kernel
theorem dX11_reads_33 : decode cX11_reads 33 = .ok (.getfield 192, 3) := by decide +kernel
theorem dX11_reads_36 : decode cX11_reads 36 = .ok (.iconst 1, 1) := by decide +kernel
theorem dX11_reads_37 : decode cX11_reads 37 = .ok (.iaload, 1) := by decide +kernel
theorem dX11_reads_38 : decode cX11_reads 38 = .ok (.invokevirtual 299, 3) := by decide +kernel
theorem dX11_reads_41 : decode cX11_reads 41 = .ok (.iconst 0, 1) := by decide +kernel
theorem dX11_reads_42 : decode cX11_reads 42 = .ok (.istore 4, 2) := by decide +kernel
theorem dX11_reads_44 : decode cX11_reads 44 = .ok (.iload 4, 2) := by decide +kernel
theorem dX11_reads_46 : decode cX11_reads 46 = .ok (.aload_n 3, 1) := by decide +kernel
theorem dX11_reads_47 : decode cX11_reads 47 = .ok (.getfield 263, 3) := by decide +kernel
theorem dX11_reads_50 : decode cX11_reads 50 = .ok (.if_icmp .ge 33, 3) := by decide +kernel
theorem dX11_reads_53 : decode cX11_reads 53 = .ok (.aload_n 3, 1) := by decide +kernel
theorem dX11_reads_54 : decode cX11_reads 54 = .ok (.iload 4, 2) := by decide +kernel
theorem dX11_reads_56 : decode cX11_reads 56 = .ok (.invokevirtual 269, 3) := by decide +kernel
theorem dX11_reads_59 : decode cX11_reads 59 = .ok (.aload_n 0, 1) := by decide +kernel
theorem dX11_reads_60 : decode cX11_reads 60 = .ok (.getfield 45, 3) := by decide +kernel
theorem dX11_reads_63 : decode cX11_reads 63 = .ok (.invokevirtual 300, 3) := by decide +kernel
theorem dX11_reads_66 : decode cX11_reads 66 = .ok (.aload_n 0, 1) := by decide +kernel
theorem dX11_reads_67 : decode cX11_reads 67 = .ok (.getfield 38, 3) := by decide +kernel
theorem dX11_reads_70 : decode cX11_reads 70 = .ok (.aload_n 0, 1) := by decide +kernel
theorem dX11_reads_71 : decode cX11_reads 71 = .ok (.getfield 45, 3) := by decide +kernel
theorem dX11_reads_74 : decode cX11_reads 74 = .ok (.invokevirtual 303, 3) := by decide +kernel
theorem dX11_reads_77 : decode cX11_reads 77 = .ok (.iinc 4 1, 3) := by decide +kernel
theorem dX11_reads_80 : decode cX11_reads 80 = .ok (.goto (-36), 3) := by decide +kernel
theorem dX11_reads_83 : decode cX11_reads 83 = .ok (.iload_n 2, 1) := by decide +kernel
theorem dX11_reads_84 : decode cX11_reads 84 = .ok (.ifCond .ne 13, 3) := by decide +kernel
theorem dX11_reads_87 : decode cX11_reads 87 = .ok (.aload_n 0, 1) := by decide +kernel
theorem dX11_reads_88 : decode cX11_reads 88 = .ok (.getfield 45, 3) := by decide +kernel
theorem dX11_reads_91 : decode cX11_reads 91 = .ok (.getfield 307, 3) := by decide +kernel
theorem dX11_reads_94 : decode cX11_reads 94 = .ok (.goto 25, 3) := by decide +kernel
theorem dX11_reads_97 : decode cX11_reads 97 = .ok (.iload_n 2, 1) := by decide +kernel
theorem dX11_reads_98 : decode cX11_reads 98 = .ok (.iconst 1, 1) := by decide +kernel
theorem dX11_reads_99 : decode cX11_reads 99 = .ok (.if_icmp .ne 13, 3) := by decide +kernel
theorem dX11_reads_102 : decode cX11_reads 102 = .ok (.aload_n 0, 1) := by decide +kernel
theorem dX11_reads_103 : decode cX11_reads 103 = .ok (.getfield 45, 3) := by decide +kernel
theorem dX11_reads_106 : decode cX11_reads 106 = .ok (.getfield 310, 3) := by decide +kernel
theorem dX11_reads_109 : decode cX11_reads 109 = .ok (.goto 10, 3) := by decide +kernel
theorem dX11_reads_112 : decode cX11_reads 112 = .ok (.aload_n 0, 1) := by decide +kernel
theorem dX11_reads_113 : decode cX11_reads 113 = .ok (.getfield 45, 3) := by decide +kernel
theorem dX11_reads_116 : decode cX11_reads 116 = .ok (.getfield 313, 3) := by decide +kernel
theorem dX11_reads_119 : decode cX11_reads 119 = .ok (.ireturn, 1) := by decide +kernel
theorem dX11_hits_0 : decode cX11_hits 0 = .ok (.aload_n 0, 1) := by decide +kernel
theorem dX11_hits_1 : decode cX11_hits 1 = .ok (.iload_n 1, 1) := by decide +kernel
theorem dX11_hits_2 : decode cX11_hits 2 = .ok (.iload_n 2, 1) := by decide +kernel
theorem dX11_hits_3 : decode cX11_hits 3 = .ok (.invokevirtual 217, 3) := by decide +kernel
theorem dX11_hits_6 : decode cX11_hits 6 = .ok (.aload_n 0, 1) := by decide +kernel
theorem dX11_hits_7 : decode cX11_hits 7 = .ok (.iload_n 1, 1) := by decide +kernel
theorem dX11_hits_8 : decode cX11_hits 8 = .ok (.iload_n 2, 1) := by decide +kernel
theorem dX11_hits_9 : decode cX11_hits 9 = .ok (.invokevirtual 249, 3) := by decide +kernel
theorem dX11_hits_12 : decode cX11_hits 12 = .ok (.aload_n 0, 1) := by decide +kernel
theorem dX11_hits_13 : decode cX11_hits 13 = .ok (.getfield 45, 3) := by decide +kernel
theorem dX11_hits_16 : decode cX11_hits 16 = .ok (.aload_n 0, 1) := by decide +kernel
theorem dX11_hits_17 : decode cX11_hits 17 = .ok (.getfield 19, 3) := by decide +kernel
theorem dX11_hits_20 : decode cX11_hits 20 = .ok (.getfield 192, 3) := by decide +kernel
theorem dX11_hits_23 : decode cX11_hits 23 = .ok (.iconst 1, 1) := by decide +kernel
theorem dX11_hits_24 : decode cX11_hits 24 = .ok (.iaload, 1) := by decide +kernel
theorem dX11_hits_25 : decode cX11_hits 25 = .ok (.invokevirtual 299, 3) := by decide +kernel
theorem dX11_hits_28 : decode cX11_hits 28 = .ok (.aload_n 0, 1) := by decide +kernel
theorem dX11_hits_29 : decode cX11_hits 29 = .ok (.getfield 38, 3) := by decide +kernel
theorem dX11_hits_32 : decode cX11_hits 32 = .ok (.invokevirtual 252, 3) := by decide +kernel
theorem dX11_hits_35 : decode cX11_hits 35 = .ok (.aload_n 0, 1) := by decide +kernel
theorem dX11_hits_36 : decode cX11_hits 36 = .ok (.getfield 38, 3) := by decide +kernel
theorem dX11_hits_39 : decode cX11_hits 39 = .ok (.iload_n 1, 1) := by decide +kernel
theorem dX11_hits_40 : decode cX11_hits 40 = .ok (.iload_n 2, 1) := by decide +kernel
theorem dX11_hits_41 : decode cX11_hits 41 = .ok (.invokevirtual 316, 3) := by decide +kernel
theorem dX11_hits_44 : decode cX11_hits 44 = .ok (.aload_n 0, 1) := by decide +kernel
theorem dX11_hits_45 : decode cX11_hits 45 = .ok (.getfield 38, 3) := by decide +kernel
theorem dX11_hits_48 : decode cX11_hits 48 = .ok (.aload_n 0, 1) := by decide +kernel
theorem dX11_hits_49 : decode cX11_hits 49 = .ok (.getfield 45, 3) := by decide +kernel
theorem dX11_hits_52 : decode cX11_hits 52 = .ok (.invokevirtual 303, 3) := by decide +kernel
theorem dX11_hits_55 : decode cX11_hits 55 = .ok (.aload_n 0, 1) := by decide +kernel
theorem dX11_hits_56 : decode cX11_hits 56 = .ok (.getfield 45, 3) := by decide +kernel
theorem dX11_hits_59 : decode cX11_hits 59 = .ok (.getfield 310, 3) := by decide +kernel
theorem dX11_hits_62 : decode cX11_hits 62 = .ok (.ireturn, 1) := by decide +kernel
theorem dX11_run_0 : decode cX11_run 0 = .ok (.aload_n 0, 1) := by decide +kernel
theorem dX11_run_1 : decode cX11_run 1 = .ok (.iload_n 1, 1) := by decide +kernel
theorem dX11_run_2 : decode cX11_run 2 = .ok (.invokevirtual 259, 3) := by decide +kernel
theorem dX11_run_5 : decode cX11_run 5 = .ok (.astore_n 2, 1) := by decide +kernel
theorem dX11_run_6 : decode cX11_run 6 = .ok (.aload_n 2, 1) := by decide +kernel
theorem dX11_run_7 : decode cX11_run 7 = .ok (.invokevirtual 319, 3) := by decide +kernel
theorem dX11_run_10 : decode cX11_run 10 = .ok (.bipush 7, 2) := by decide +kernel
theorem dX11_run_12 : decode cX11_run 12 = .ok (.istore_n 3, 1) := by decide +kernel
theorem dX11_run_13 : decode cX11_run 13 = .ok (.iconst 0, 1) := by decide +kernel
theorem dX11_run_14 : decode cX11_run 14 = .ok (.istore 4, 2) := by decide +kernel
theorem dX11_run_16 : decode cX11_run 16 = .ok (.iload 4, 2) := by decide +kernel
theorem dX11_run_18 : decode cX11_run 18 = .ok (.sipush 245, 3) := by decide +kernel
theorem dX11_run_21 : decode cX11_run 21 = .ok (.if_icmp .ge 25, 3) := by decide +kernel
theorem dX11_run_24 : decode cX11_run 24 = .ok (.bipush 31, 2) := by decide +kernel
theorem dX11_run_26 : decode cX11_run 26 = .ok (.iload_n 3, 1) := by decide +kernel
theorem dX11_run_27 : decode cX11_run 27 = .ok (.imul, 1) := by decide +kernel
theorem dX11_run_28 : decode cX11_run 28 = .ok (.aload_n 2, 1) := by decide +kernel
theorem dX11_run_29 : decode cX11_run 29 = .ok (.getfield 322, 3) := by decide +kernel
theorem dX11_run_32 : decode cX11_run 32 = .ok (.getfield 323, 3) := by decide +kernel
theorem dX11_run_35 : decode cX11_run 35 = .ok (.iload 4, 2) := by decide +kernel
theorem dX11_run_37 : decode cX11_run 37 = .ok (.iaload, 1) := by decide +kernel
theorem dX11_run_38 : decode cX11_run 38 = .ok (.iadd, 1) := by decide +kernel
theorem dX11_run_39 : decode cX11_run 39 = .ok (.istore_n 3, 1) := by decide +kernel
theorem dX11_run_40 : decode cX11_run 40 = .ok (.iinc 4 1, 3) := by decide +kernel
theorem dX11_run_43 : decode cX11_run 43 = .ok (.goto (-27), 3) := by decide +kernel
theorem dX11_run_46 : decode cX11_run 46 = .ok (.iload_n 3, 1) := by decide +kernel
theorem dX11_run_47 : decode cX11_run 47 = .ok (.ireturn, 1) := by decide +kernel
theorem dX11_cell_0 : decode cX11_cell 0 = .ok (.aload_n 0, 1) := by decide +kernel
theorem dX11_cell_1 : decode cX11_cell 1 = .ok (.iload_n 1, 1) := by decide +kernel
theorem dX11_cell_2 : decode cX11_cell 2 = .ok (.invokevirtual 259, 3) := by decide +kernel
theorem dX11_cell_5 : decode cX11_cell 5 = .ok (.astore 4, 2) := by decide +kernel
theorem dX11_cell_7 : decode cX11_cell 7 = .ok (.iload_n 2, 1) := by decide +kernel
theorem dX11_cell_8 : decode cX11_cell 8 = .ok (.ifCond .lt 20, 3) := by decide +kernel
theorem dX11_cell_11 : decode cX11_cell 11 = .ok (.iload_n 2, 1) := by decide +kernel
theorem dX11_cell_12 : decode cX11_cell 12 = .ok (.iconst 5, 1) := by decide +kernel
theorem dX11_cell_13 : decode cX11_cell 13 = .ok (.if_icmp .ge 15, 3) := by decide +kernel
theorem dX11_cell_16 : decode cX11_cell 16 = .ok (.iload_n 3, 1) := by decide +kernel
theorem dX11_cell_17 : decode cX11_cell 17 = .ok (.bipush (-9), 2) := by decide +kernel
theorem dX11_cell_19 : decode cX11_cell 19 = .ok (.if_icmp .lt 9, 3) := by decide +kernel
theorem dX11_cell_22 : decode cX11_cell 22 = .ok (.iload_n 3, 1) := by decide +kernel
theorem dX11_cell_23 : decode cX11_cell 23 = .ok (.bipush 40, 2) := by decide +kernel
theorem dX11_cell_25 : decode cX11_cell 25 = .ok (.if_icmp .lt 14, 3) := by decide +kernel
theorem dX11_cell_28 : decode cX11_cell 28 = .ok (.new 155, 3) := by decide +kernel
theorem dX11_cell_31 : decode cX11_cell 31 = .ok (.dup, 1) := by decide +kernel
theorem dX11_cell_32 : decode cX11_cell 32 = .ok (.ldc_w 326, 3) := by decide +kernel
theorem dX11_cell_35 : decode cX11_cell 35 = .ok (.invokespecial 159, 3) := by decide +kernel
theorem dX11_cell_38 : decode cX11_cell 38 = .ok (.athrow, 1) := by decide +kernel
theorem dX11_cell_39 : decode cX11_cell 39 = .ok (.aload 4, 2) := by decide +kernel
theorem dX11_cell_41 : decode cX11_cell 41 = .ok (.invokevirtual 319, 3) := by decide +kernel
theorem dX11_cell_44 : decode cX11_cell 44 = .ok (.aload 4, 2) := by decide +kernel
theorem dX11_cell_46 : decode cX11_cell 46 = .ok (.getfield 322, 3) := by decide +kernel
theorem dX11_cell_49 : decode cX11_cell 49 = .ok (.getfield 323, 3) := by decide +kernel
theorem dX11_cell_52 : decode cX11_cell 52 = .ok (.iload_n 2, 1) := by decide +kernel
theorem dX11_cell_53 : decode cX11_cell 53 = .ok (.bipush 49, 2) := by decide +kernel
theorem dX11_cell_55 : decode cX11_cell 55 = .ok (.imul, 1) := by decide +kernel
theorem dX11_cell_56 : decode cX11_cell 56 = .ok (.iload_n 3, 1) := by decide +kernel
theorem dX11_cell_57 : decode cX11_cell 57 = .ok (.iadd, 1) := by decide +kernel
theorem dX11_cell_58 : decode cX11_cell 58 = .ok (.bipush (-9), 2) := by decide +kernel
theorem dX11_cell_60 : decode cX11_cell 60 = .ok (.isub, 1) := by decide +kernel
theorem dX11_cell_61 : decode cX11_cell 61 = .ok (.iaload, 1) := by decide +kernel
theorem dX11_cell_62 : decode cX11_cell 62 = .ok (.ireturn, 1) := by decide +kernel
theorem dX11_changed_0 : decode cX11_changed 0 = .ok (.aload_n 0, 1) := by decide +kernel
theorem dX11_changed_1 : decode cX11_changed 1 = .ok (.iload_n 1, 1) := by decide +kernel
theorem dX11_changed_2 : decode cX11_changed 2 = .ok (.invokevirtual 259, 3) := by decide +kernel
theorem dX11_changed_5 : decode cX11_changed 5 = .ok (.astore_n 2, 1) := by decide +kernel
theorem dX11_changed_6 : decode cX11_changed 6 = .ok (.aload_n 2, 1) := by decide +kernel
theorem dX11_changed_7 : decode cX11_changed 7 = .ok (.invokevirtual 319, 3) := by decide +kernel
theorem dX11_changed_10 : decode cX11_changed 10 = .ok (.aload_n 0, 1) := by decide +kernel
theorem dX11_changed_11 : decode cX11_changed 11 = .ok (.getfield 52, 3) := by decide +kernel
theorem dX11_changed_14 : decode cX11_changed 14 = .ok (.aload_n 0, 1) := by decide +kernel
theorem dX11_changed_15 : decode cX11_changed 15 = .ok (.getfield 19, 3) := by decide +kernel
theorem dX11_changed_18 : decode cX11_changed 18 = .ok (.getfield 192, 3) := by decide +kernel
theorem dX11_changed_21 : decode cX11_changed 21 = .ok (.iconst 2, 1) := by decide +kernel
theorem dX11_changed_22 : decode cX11_changed 22 = .ok (.iaload, 1) := by decide +kernel
theorem dX11_changed_23 : decode cX11_changed 23 = .ok (.invokevirtual 195, 3) := by decide +kernel
theorem dX11_changed_26 : decode cX11_changed 26 = .ok (.iconst 0, 1) := by decide +kernel
theorem dX11_changed_27 : decode cX11_changed 27 = .ok (.istore_n 3, 1) := by decide +kernel
theorem dX11_changed_28 : decode cX11_changed 28 = .ok (.iconst 0, 1) := by decide +kernel
theorem dX11_changed_29 : decode cX11_changed 29 = .ok (.istore 4, 2) := by decide +kernel
theorem dX11_changed_31 : decode cX11_changed 31 = .ok (.iload 4, 2) := by decide +kernel
theorem dX11_changed_33 : decode cX11_changed 33 = .ok (.sipush 245, 3) := by decide +kernel
theorem dX11_changed_36 : decode cX11_changed 36 = .ok (.if_icmp .ge 40, 3) := by decide +kernel
theorem dX11_changed_39 : decode cX11_changed 39 = .ok (.iload_n 3, 1) := by decide +kernel
theorem dX11_changed_40 : decode cX11_changed 40 = .ok (.aload_n 2, 1) := by decide +kernel
theorem dX11_changed_41 : decode cX11_changed 41 = .ok (.getfield 322, 3) := by decide +kernel
theorem dX11_changed_44 : decode cX11_changed 44 = .ok (.getfield 323, 3) := by decide +kernel
theorem dX11_changed_47 : decode cX11_changed 47 = .ok (.iload 4, 2) := by decide +kernel
theorem dX11_changed_49 : decode cX11_changed 49 = .ok (.iaload, 1) := by decide +kernel
theorem dX11_changed_50 : decode cX11_changed 50 = .ok (.aload_n 0, 1) := by decide +kernel
theorem dX11_changed_51 : decode cX11_changed 51 = .ok (.getfield 52, 3) := by decide +kernel
theorem dX11_changed_54 : decode cX11_changed 54 = .ok (.getfield 323, 3) := by decide +kernel
theorem dX11_changed_57 : decode cX11_changed 57 = .ok (.iload 4, 2) := by decide +kernel
theorem dX11_changed_59 : decode cX11_changed 59 = .ok (.iaload, 1) := by decide +kernel
theorem dX11_changed_60 : decode cX11_changed 60 = .ok (.if_icmp .ne 7, 3) := by decide +kernel
theorem dX11_changed_63 : decode cX11_changed 63 = .ok (.iconst 0, 1) := by decide +kernel
theorem dX11_changed_64 : decode cX11_changed 64 = .ok (.goto 4, 3) := by decide +kernel
theorem dX11_changed_67 : decode cX11_changed 67 = .ok (.iconst 1, 1) := by decide +kernel
theorem dX11_changed_68 : decode cX11_changed 68 = .ok (.iadd, 1) := by decide +kernel
theorem dX11_changed_69 : decode cX11_changed 69 = .ok (.istore_n 3, 1) := by decide +kernel
theorem dX11_changed_70 : decode cX11_changed 70 = .ok (.iinc 4 1, 3) := by decide +kernel
theorem dX11_changed_73 : decode cX11_changed 73 = .ok (.goto (-42), 3) := by decide +kernel
theorem dX11_changed_76 : decode cX11_changed 76 = .ok (.iload_n 3, 1) := by decide +kernel
theorem dX11_changed_77 : decode cX11_changed 77 = .ok (.ireturn, 1) := by decide +kernel
theorem dX11_save_0 : decode cX11_save 0 = .ok (.aload_n 0, 1) := by decide +kernel
theorem dX11_save_1 : decode cX11_save 1 = .ok (.getfield 23, 3) := by decide +kernel
theorem dX11_save_4 : decode cX11_save 4 = .ok (.aload_n 0, 1) := by decide +kernel
theorem dX11_save_5 : decode cX11_save 5 = .ok (.getfield 19, 3) := by decide +kernel
theorem dX11_save_8 : decode cX11_save 8 = .ok (.invokevirtual 328, 3) := by decide +kernel
theorem dX11_save_11 : decode cX11_save 11 = .ok (.aload_n 0, 1) := by decide +kernel
theorem dX11_save_12 : decode cX11_save 12 = .ok (.iconst 1, 1) := by decide +kernel
theorem dX11_save_13 : decode cX11_save 13 = .ok (.putfield 62, 3) := by decide +kernel
theorem dX11_save_16 : decode cX11_save 16 = .ok (.return_, 1) := by decide +kernel
theorem dX11_restore_0 : decode cX11_restore 0 = .ok (.aload_n 0, 1) := by decide +kernel
theorem dX11_restore_1 : decode cX11_restore 1 = .ok (.getfield 62, 3) := by decide +kernel
theorem dX11_restore_4 : decode cX11_restore 4 = .ok (.ifCond .ne 14, 3) := by decide +kernel
theorem dX11_restore_7 : decode cX11_restore 7 = .ok (.new 80, 3) := by decide +kernel
theorem dX11_restore_10 : decode cX11_restore 10 = .ok (.dup, 1) := by decide +kernel
theorem dX11_restore_11 : decode cX11_restore 11 = .ok (.ldc_w 332, 3) := by decide +kernel
theorem dX11_restore_14 : decode cX11_restore 14 = .ok (.invokespecial 84, 3) := by decide +kernel
theorem dX11_restore_17 : decode cX11_restore 17 = .ok (.athrow, 1) := by decide +kernel
theorem dX11_restore_18 : decode cX11_restore 18 = .ok (.aload_n 0, 1) := by decide +kernel
theorem dX11_restore_19 : decode cX11_restore 19 = .ok (.getfield 19, 3) := by decide +kernel
theorem dX11_restore_22 : decode cX11_restore 22 = .ok (.aload_n 0, 1) := by decide +kernel
theorem dX11_restore_23 : decode cX11_restore 23 = .ok (.getfield 23, 3) := by decide +kernel
theorem dX11_restore_26 : decode cX11_restore 26 = .ok (.invokevirtual 328, 3) := by decide +kernel
theorem dX11_restore_29 : decode cX11_restore 29 = .ok (.return_, 1) := by decide +kernel
theorem dX11_checkLoop_0 : decode cX11_checkLoop 0 = .ok (.aload_n 0, 1) := by decide +kernel
theorem dX11_checkLoop_1 : decode cX11_checkLoop 1 = .ok (.getfield 19, 3) := by decide +kernel
theorem dX11_checkLoop_4 : decode cX11_checkLoop 4 = .ok (.iload_n 1, 1) := by decide +kernel
theorem dX11_checkLoop_5 : decode cX11_checkLoop 5 = .ok (.invokevirtual 334, 3) := by decide +kernel
theorem dX11_checkLoop_8 : decode cX11_checkLoop 8 = .ok (.ifCond .ne 14, 3) := by decide +kernel
theorem dX11_checkLoop_11 : decode cX11_checkLoop 11 = .ok (.new 155, 3) := by decide +kernel
theorem dX11_checkLoop_14 : decode cX11_checkLoop 14 = .ok (.dup, 1) := by decide +kernel
theorem dX11_checkLoop_15 : decode cX11_checkLoop 15 = .ok (.ldc_w 337, 3) := by decide +kernel
theorem dX11_checkLoop_18 : decode cX11_checkLoop 18 = .ok (.invokespecial 159, 3) := by decide +kernel
theorem dX11_checkLoop_21 : decode cX11_checkLoop 21 = .ok (.athrow, 1) := by decide +kernel
theorem dX11_checkLoop_22 : decode cX11_checkLoop 22 = .ok (.return_, 1) := by decide +kernel
theorem dX11_checkPair_0 : decode cX11_checkPair 0 = .ok (.aload_n 0, 1) := by decide +kernel
theorem dX11_checkPair_1 : decode cX11_checkPair 1 = .ok (.iload_n 1, 1) := by decide +kernel
theorem dX11_checkPair_2 : decode cX11_checkPair 2 = .ok (.invokevirtual 112, 3) := by decide +kernel
theorem dX11_checkPair_5 : decode cX11_checkPair 5 = .ok (.aload_n 0, 1) := by decide +kernel
theorem dX11_checkPair_6 : decode cX11_checkPair 6 = .ok (.iload_n 2, 1) := by decide +kernel
theorem dX11_checkPair_7 : decode cX11_checkPair 7 = .ok (.invokevirtual 112, 3) := by decide +kernel
theorem dX11_checkPair_10 : decode cX11_checkPair 10 = .ok (.return_, 1) := by decide +kernel
theorem dX11_loopAt_0 : decode cX11_loopAt 0 = .ok (.aload_n 0, 1) := by decide +kernel
theorem dX11_loopAt_1 : decode cX11_loopAt 1 = .ok (.iload_n 1, 1) := by decide +kernel
theorem dX11_loopAt_2 : decode cX11_loopAt 2 = .ok (.invokevirtual 112, 3) := by decide +kernel
theorem dX11_loopAt_5 : decode cX11_loopAt 5 = .ok (.aload_n 0, 1) := by decide +kernel
theorem dX11_loopAt_6 : decode cX11_loopAt 6 = .ok (.getfield 19, 3) := by decide +kernel
theorem dX11_loopAt_9 : decode cX11_loopAt 9 = .ok (.getfield 339, 3) := by decide +kernel
theorem dX11_loopAt_12 : decode cX11_loopAt 12 = .ok (.iload_n 1, 1) := by decide +kernel
theorem dX11_loopAt_13 : decode cX11_loopAt 13 = .ok (.aaload, 1) := by decide +kernel
theorem dX11_loopAt_14 : decode cX11_loopAt 14 = .ok (.areturn, 1) := by decide +kernel
theorem dX11_statementAt_0 : decode cX11_statementAt 0 = .ok (.aload_n 0, 1) := by decide +kernel
theorem dX11_statementAt_1 : decode cX11_statementAt 1 = .ok (.iload_n 1, 1) := by decide +kernel
theorem dX11_statementAt_2 : decode cX11_statementAt 2 = .ok (.invokevirtual 118, 3) := by decide +kernel
theorem dX11_statementAt_5 : decode cX11_statementAt 5 = .ok (.getfield 139, 3) := by decide +kernel
theorem dX11_statementAt_8 : decode cX11_statementAt 8 = .ok (.astore_n 3, 1) := by decide +kernel
theorem dX11_statementAt_9 : decode cX11_statementAt 9 = .ok (.aload_n 3, 1) := by decide +kernel
theorem dX11_statementAt_10 : decode cX11_statementAt 10 = .ok (.iload_n 2, 1) := by decide +kernel
theorem dX11_statementAt_11 : decode cX11_statementAt 11 = .ok (.invokevirtual 340, 3) := by decide +kernel
theorem dX11_statementAt_14 : decode cX11_statementAt 14 = .ok (.ifCond .ne 14, 3) := by decide +kernel
theorem dX11_statementAt_17 : decode cX11_statementAt 17 = .ok (.new 155, 3) := by decide +kernel
theorem dX11_statementAt_20 : decode cX11_statementAt 20 = .ok (.dup, 1) := by decide +kernel
theorem dX11_statementAt_21 : decode cX11_statementAt 21 = .ok (.ldc_w 343, 3) := by decide +kernel
theorem dX11_statementAt_24 : decode cX11_statementAt 24 = .ok (.invokespecial 159, 3) := by decide +kernel
theorem dX11_statementAt_27 : decode cX11_statementAt 27 = .ok (.athrow, 1) := by decide +kernel
theorem dX11_statementAt_28 : decode cX11_statementAt 28 = .ok (.aload_n 3, 1) := by decide +kernel
theorem dX11_statementAt_29 : decode cX11_statementAt 29 = .ok (.getfield 345, 3) := by decide +kernel
theorem dX11_statementAt_32 : decode cX11_statementAt 32 = .ok (.iload_n 2, 1) := by decide +kernel
theorem dX11_statementAt_33 : decode cX11_statementAt 33 = .ok (.aaload, 1) := by decide +kernel
theorem dX11_statementAt_34 : decode cX11_statementAt 34 = .ok (.areturn, 1) := by decide +kernel
theorem dX11_checkSide_0 : decode cX11_checkSide 0 = .ok (.iload_n 1, 1) := by decide +kernel
theorem dX11_checkSide_1 : decode cX11_checkSide 1 = .ok (.ifCond .eq 19, 3) := by decide +kernel
theorem dX11_checkSide_4 : decode cX11_checkSide 4 = .ok (.iload_n 1, 1) := by decide +kernel
theorem dX11_checkSide_5 : decode cX11_checkSide 5 = .ok (.iconst 1, 1) := by decide +kernel
theorem dX11_checkSide_6 : decode cX11_checkSide 6 = .ok (.if_icmp .eq 14, 3) := by decide +kernel
theorem dX11_checkSide_9 : decode cX11_checkSide 9 = .ok (.new 69, 3) := by decide +kernel
theorem dX11_checkSide_12 : decode cX11_checkSide 12 = .ok (.dup, 1) := by decide +kernel
theorem dX11_checkSide_13 : decode cX11_checkSide 13 = .ok (.ldc_w 349, 3) := by decide +kernel
theorem dX11_checkSide_16 : decode cX11_checkSide 16 = .ok (.invokespecial 73, 3) := by decide +kernel
theorem dX11_checkSide_19 : decode cX11_checkSide 19 = .ok (.athrow, 1) := by decide +kernel
theorem dX11_checkSide_20 : decode cX11_checkSide 20 = .ok (.return_, 1) := by decide +kernel
theorem dX11_checkBefore_0 : decode cX11_checkBefore 0 = .ok (.iload_n 1, 1) := by decide +kernel
theorem dX11_checkBefore_1 : decode cX11_checkBefore 1 = .ok (.iload_n 2, 1) := by decide +kernel
theorem dX11_checkBefore_2 : decode cX11_checkBefore 2 = .ok (.if_icmp .lt 14, 3) := by decide +kernel
theorem dX11_checkBefore_5 : decode cX11_checkBefore 5 = .ok (.new 69, 3) := by decide +kernel
theorem dX11_checkBefore_8 : decode cX11_checkBefore 8 = .ok (.dup, 1) := by decide +kernel
theorem dX11_checkBefore_9 : decode cX11_checkBefore 9 = .ok (.ldc_w 351, 3) := by decide +kernel
theorem dX11_checkBefore_12 : decode cX11_checkBefore 12 = .ok (.invokespecial 73, 3) := by decide +kernel
theorem dX11_checkBefore_15 : decode cX11_checkBefore 15 = .ok (.athrow, 1) := by decide +kernel
theorem dX11_checkBefore_16 : decode cX11_checkBefore 16 = .ok (.return_, 1) := by decide +kernel
theorem dX11_checkGroup_0 : decode cX11_checkGroup 0 = .ok (.iload_n 2, 1) := by decide +kernel
theorem dX11_checkGroup_1 : decode cX11_checkGroup 1 = .ok (.iload_n 1, 1) := by decide +kernel
theorem dX11_checkGroup_2 : decode cX11_checkGroup 2 = .ok (.if_icmp .ge 14, 3) := by decide +kernel
theorem dX11_checkGroup_5 : decode cX11_checkGroup 5 = .ok (.new 69, 3) := by decide +kernel
theorem dX11_checkGroup_8 : decode cX11_checkGroup 8 = .ok (.dup, 1) := by decide +kernel
theorem dX11_checkGroup_9 : decode cX11_checkGroup 9 = .ok (.ldc_w 353, 3) := by decide +kernel
theorem dX11_checkGroup_12 : decode cX11_checkGroup 12 = .ok (.invokespecial 73, 3) := by decide +kernel
theorem dX11_checkGroup_15 : decode cX11_checkGroup 15 = .ok (.athrow, 1) := by decide +kernel
theorem dX11_checkGroup_16 : decode cX11_checkGroup 16 = .ok (.return_, 1) := by decide +kernel
theorem dX11_checkGroupOf_0 : decode cX11_checkGroupOf 0 = .ok (.iload_n 2, 1) := by decide +kernel
theorem dX11_checkGroupOf_1 : decode cX11_checkGroupOf 1 = .ok (.ifCond .lt 11, 3) := by decide +kernel
theorem dX11_checkGroupOf_4 : decode cX11_checkGroupOf 4 = .ok (.iload_n 2, 1) := by decide +kernel
theorem dX11_checkGroupOf_5 : decode cX11_checkGroupOf 5 = .ok (.aload_n 1, 1) := by decide +kernel
theorem dX11_checkGroupOf_6 : decode cX11_checkGroupOf 6 = .ok (.getfield 263, 3) := by decide +kernel
theorem dX11_checkGroupOf_9 : decode cX11_checkGroupOf 9 = .ok (.if_icmp .lt 14, 3) := by decide +kernel
theorem dX11_checkGroupOf_12 : decode cX11_checkGroupOf 12 = .ok (.new 155, 3) := by decide +kernel
theorem dX11_checkGroupOf_15 : decode cX11_checkGroupOf 15 = .ok (.dup, 1) := by decide +kernel
theorem dX11_checkGroupOf_16 : decode cX11_checkGroupOf 16 = .ok (.ldc_w 355, 3) := by decide +kernel
theorem dX11_checkGroupOf_19 : decode cX11_checkGroupOf 19 = .ok (.invokespecial 159, 3) := by decide +kernel
theorem dX11_checkGroupOf_22 : decode cX11_checkGroupOf 22 = .ok (.athrow, 1) := by decide +kernel
theorem dX11_checkGroupOf_23 : decode cX11_checkGroupOf 23 = .ok (.return_, 1) := by decide +kernel
theorem dX11_planOf_0 : decode cX11_planOf 0 = .ok (.iload_n 1, 1) := by decide +kernel
theorem dX11_planOf_1 : decode cX11_planOf 1 = .ok (.ifCond .lt 8, 3) := by decide +kernel
theorem dX11_planOf_4 : decode cX11_planOf 4 = .ok (.iload_n 1, 1) := by decide +kernel
theorem dX11_planOf_5 : decode cX11_planOf 5 = .ok (.iconst 3, 1) := by decide +kernel
theorem dX11_planOf_6 : decode cX11_planOf 6 = .ok (.if_icmp .lt 14, 3) := by decide +kernel
theorem dX11_planOf_9 : decode cX11_planOf 9 = .ok (.new 69, 3) := by decide +kernel
theorem dX11_planOf_12 : decode cX11_planOf 12 = .ok (.dup, 1) := by decide +kernel
theorem dX11_planOf_13 : decode cX11_planOf 13 = .ok (.ldc_w 357, 3) := by decide +kernel
theorem dX11_planOf_16 : decode cX11_planOf 16 = .ok (.invokespecial 73, 3) := by decide +kernel
theorem dX11_planOf_19 : decode cX11_planOf 19 = .ok (.athrow, 1) := by decide +kernel
theorem dX11_planOf_20 : decode cX11_planOf 20 = .ok (.aload_n 0, 1) := by decide +kernel
theorem dX11_planOf_21 : decode cX11_planOf 21 = .ok (.getfield 58, 3) := by decide +kernel
theorem dX11_planOf_24 : decode cX11_planOf 24 = .ok (.iload_n 1, 1) := by decide +kernel
theorem dX11_planOf_25 : decode cX11_planOf 25 = .ok (.aaload, 1) := by decide +kernel
theorem dX11_planOf_26 : decode cX11_planOf 26 = .ok (.astore_n 2, 1) := by decide +kernel
theorem dX11_planOf_27 : decode cX11_planOf 27 = .ok (.aload_n 0, 1) := by decide +kernel
theorem dX11_planOf_28 : decode cX11_planOf 28 = .ok (.getfield 38, 3) := by decide +kernel
theorem dX11_planOf_31 : decode cX11_planOf 31 = .ok (.invokevirtual 252, 3) := by decide +kernel
theorem dX11_planOf_34 : decode cX11_planOf 34 = .ok (.aload_n 2, 1) := by decide +kernel
theorem dX11_planOf_35 : decode cX11_planOf 35 = .ok (.invokevirtual 359, 3) := by decide +kernel
theorem dX11_planOf_38 : decode cX11_planOf 38 = .ok (.aload_n 2, 1) := by decide +kernel
theorem dX11_planOf_39 : decode cX11_planOf 39 = .ok (.areturn, 1) := by decide +kernel
theorem dX12_init_0 : decode cX12_init 0 = .ok (.aload_n 0, 1) := by decide +kernel
theorem dX12_init_1 : decode cX12_init 1 = .ok (.invokespecial 1, 3) := by decide +kernel
theorem dX12_init_4 : decode cX12_init 4 = .ok (.aload_n 0, 1) := by decide +kernel
theorem dX12_init_5 : decode cX12_init 5 = .ok (.sipush 3510, 3) := by decide +kernel
theorem dX12_init_8 : decode cX12_init 8 = .ok (.newarray .int, 2) := by decide +kernel
theorem dX12_init_10 : decode cX12_init 10 = .ok (.putfield 9, 3) := by decide +kernel
theorem dX12_init_13 : decode cX12_init 13 = .ok (.aload_n 0, 1) := by decide +kernel
theorem dX12_init_14 : decode cX12_init 14 = .ok (.iconst 3, 1) := by decide +kernel
theorem dX12_init_15 : decode cX12_init 15 = .ok (.newarray .int, 2) := by decide +kernel
theorem dX12_init_17 : decode cX12_init 17 = .ok (.dup, 1) := by decide +kernel
theorem dX12_init_18 : decode cX12_init 18 = .ok (.iconst 0, 1) := by decide +kernel
theorem dX12_init_19 : decode cX12_init 19 = .ok (.bipush 9, 2) := by decide +kernel
theorem dX12_init_21 : decode cX12_init 21 = .ok (.iastore, 1) := by decide +kernel
theorem dX12_init_22 : decode cX12_init 22 = .ok (.dup, 1) := by decide +kernel
theorem dX12_init_23 : decode cX12_init 23 = .ok (.iconst 1, 1) := by decide +kernel
theorem dX12_init_24 : decode cX12_init 24 = .ok (.iconst 3, 1) := by decide +kernel
theorem dX12_init_25 : decode cX12_init 25 = .ok (.iastore, 1) := by decide +kernel
theorem dX12_init_26 : decode cX12_init 26 = .ok (.dup, 1) := by decide +kernel
theorem dX12_init_27 : decode cX12_init 27 = .ok (.iconst 2, 1) := by decide +kernel
theorem dX12_init_28 : decode cX12_init 28 = .ok (.iconst 1, 1) := by decide +kernel
theorem dX12_init_29 : decode cX12_init 29 = .ok (.iastore, 1) := by decide +kernel
theorem dX12_init_30 : decode cX12_init 30 = .ok (.putfield 13, 3) := by decide +kernel
theorem dX12_init_33 : decode cX12_init 33 = .ok (.aload_n 0, 1) := by decide +kernel
theorem dX12_init_34 : decode cX12_init 34 = .ok (.sipush 3510, 3) := by decide +kernel
theorem dX12_init_37 : decode cX12_init 37 = .ok (.newarray .int, 2) := by decide +kernel
theorem dX12_init_39 : decode cX12_init 39 = .ok (.putfield 16, 3) := by decide +kernel
theorem dX12_init_42 : decode cX12_init 42 = .ok (.aload_n 0, 1) := by decide +kernel
theorem dX12_init_43 : decode cX12_init 43 = .ok (.iconst 3, 1) := by decide +kernel
theorem dX12_init_44 : decode cX12_init 44 = .ok (.newarray .int, 2) := by decide +kernel
theorem dX12_init_46 : decode cX12_init 46 = .ok (.putfield 19, 3) := by decide +kernel
theorem dX12_init_49 : decode cX12_init 49 = .ok (.aload_n 0, 1) := by decide +kernel
theorem dX12_init_50 : decode cX12_init 50 = .ok (.bipush 120, 2) := by decide +kernel
theorem dX12_init_52 : decode cX12_init 52 = .ok (.newarray .int, 2) := by decide +kernel
theorem dX12_init_54 : decode cX12_init 54 = .ok (.putfield 22, 3) := by decide +kernel
theorem dX12_init_57 : decode cX12_init 57 = .ok (.aload_n 0, 1) := by decide +kernel
theorem dX12_init_58 : decode cX12_init 58 = .ok (.iconst (-1), 1) := by decide +kernel
theorem dX12_init_59 : decode cX12_init 59 = .ok (.putfield 25, 3) := by decide +kernel
theorem dX12_init_62 : decode cX12_init 62 = .ok (.aload_n 0, 1) := by decide +kernel
theorem dX12_init_63 : decode cX12_init 63 = .ok (.sipush 11700, 3) := by decide +kernel
theorem dX12_init_66 : decode cX12_init 66 = .ok (.newarray .int, 2) := by decide +kernel
theorem dX12_init_68 : decode cX12_init 68 = .ok (.putfield 29, 3) := by decide +kernel
theorem dX12_init_71 : decode cX12_init 71 = .ok (.aload_n 0, 1) := by decide +kernel
theorem dX12_init_72 : decode cX12_init 72 = .ok (.bipush 120, 2) := by decide +kernel
theorem dX12_init_74 : decode cX12_init 74 = .ok (.newarray .int, 2) := by decide +kernel
theorem dX12_init_76 : decode cX12_init 76 = .ok (.putfield 32, 3) := by decide +kernel
theorem dX12_init_79 : decode cX12_init 79 = .ok (.aload_n 0, 1) := by decide +kernel
theorem dX12_init_80 : decode cX12_init 80 = .ok (.bipush 120, 2) := by decide +kernel
theorem dX12_init_82 : decode cX12_init 82 = .ok (.newarray .int, 2) := by decide +kernel
theorem dX12_init_84 : decode cX12_init 84 = .ok (.putfield 35, 3) := by decide +kernel
theorem dX12_init_87 : decode cX12_init 87 = .ok (.aload_n 0, 1) := by decide +kernel
theorem dX12_init_88 : decode cX12_init 88 = .ok (.sipush 245, 3) := by decide +kernel
theorem dX12_init_91 : decode cX12_init 91 = .ok (.newarray .int, 2) := by decide +kernel
theorem dX12_init_93 : decode cX12_init 93 = .ok (.putfield 38, 3) := by decide +kernel
theorem dX12_init_96 : decode cX12_init 96 = .ok (.aload_n 0, 1) := by decide +kernel
theorem dX12_init_97 : decode cX12_init 97 = .ok (.bipush 6, 2) := by decide +kernel
theorem dX12_init_99 : decode cX12_init 99 = .ok (.newarray .int, 2) := by decide +kernel
theorem dX12_init_101 : decode cX12_init 101 = .ok (.putfield 41, 3) := by decide +kernel
theorem dX12_init_104 : decode cX12_init 104 = .ok (.aload_n 0, 1) := by decide +kernel
theorem dX12_init_105 : decode cX12_init 105 = .ok (.sipush 245, 3) := by decide +kernel
theorem dX12_init_108 : decode cX12_init 108 = .ok (.newarray .int, 2) := by decide +kernel
theorem dX12_init_110 : decode cX12_init 110 = .ok (.putfield 44, 3) := by decide +kernel
theorem dX12_init_113 : decode cX12_init 113 = .ok (.aload_n 0, 1) := by decide +kernel
theorem dX12_init_114 : decode cX12_init 114 = .ok (.iconst 0, 1) := by decide +kernel
theorem dX12_init_115 : decode cX12_init 115 = .ok (.putfield 47, 3) := by decide +kernel
theorem dX12_init_118 : decode cX12_init 118 = .ok (.return_, 1) := by decide +kernel
theorem dX12_thrown_0 : decode cX12_thrown 0 = .ok (.aload_n 0, 1) := by decide +kernel
theorem dX12_thrown_1 : decode cX12_thrown 1 = .ok (.getfield 50, 3) := by decide +kernel
theorem dX12_thrown_4 : decode cX12_thrown 4 = .ok (.ireturn, 1) := by decide +kernel
theorem dX12_in_0 : decode cX12_in 0 = .ok (.iload_n 0, 1) := by decide +kernel
theorem dX12_in_1 : decode cX12_in 1 = .ok (.iload_n 1, 1) := by decide +kernel
theorem dX12_in_2 : decode cX12_in 2 = .ok (.if_icmp .lt 12, 3) := by decide +kernel
theorem dX12_in_5 : decode cX12_in 5 = .ok (.iload_n 0, 1) := by decide +kernel
theorem dX12_in_6 : decode cX12_in 6 = .ok (.iload_n 2, 1) := by decide +kernel
theorem dX12_in_7 : decode cX12_in 7 = .ok (.if_icmp .gt 7, 3) := by decide +kernel
theorem dX12_in_10 : decode cX12_in 10 = .ok (.iconst 1, 1) := by decide +kernel
theorem dX12_in_11 : decode cX12_in 11 = .ok (.goto 4, 3) := by decide +kernel
theorem dX12_in_14 : decode cX12_in 14 = .ok (.iconst 0, 1) := by decide +kernel
theorem dX12_in_15 : decode cX12_in 15 = .ok (.ireturn, 1) := by decide +kernel
theorem dX12_refuse_0 : decode cX12_refuse 0 = .ok (.aload_n 0, 1) := by decide +kernel
theorem dX12_refuse_1 : decode cX12_refuse 1 = .ok (.iload_n 1, 1) := by decide +kernel
theorem dX12_refuse_2 : decode cX12_refuse 2 = .ok (.putfield 50, 3) := by decide +kernel
theorem dX12_refuse_5 : decode cX12_refuse 5 = .ok (.iconst 0, 1) := by decide +kernel
theorem dX12_refuse_6 : decode cX12_refuse 6 = .ok (.ireturn, 1) := by decide +kernel
theorem dX12_isLoop_0 : decode cX12_isLoop 0 = .ok (.iload_n 1, 1) := by decide +kernel
theorem dX12_isLoop_1 : decode cX12_isLoop 1 = .ok (.iconst 0, 1) := by decide +kernel
theorem dX12_isLoop_2 : decode cX12_isLoop 2 = .ok (.aload_n 0, 1) := by decide +kernel
theorem dX12_isLoop_3 : decode cX12_isLoop 3 = .ok (.getfield 47, 3) := by decide +kernel
theorem dX12_isLoop_6 : decode cX12_isLoop 6 = .ok (.iconst 1, 1) := by decide +kernel
theorem dX12_isLoop_7 : decode cX12_isLoop 7 = .ok (.isub, 1) := by decide +kernel
theorem dX12_isLoop_8 : decode cX12_isLoop 8 = .ok (.invokestatic 53, 3) := by decide +kernel
theorem dX12_isLoop_11 : decode cX12_isLoop 11 = .ok (.ireturn, 1) := by decide +kernel
theorem dX12_of_0 : decode cX12_of 0 = .ok (.aload_n 0, 1) := by decide +kernel
theorem dX12_of_1 : decode cX12_of 1 = .ok (.getfield 9, 3) := by decide +kernel
theorem dX12_of_4 : decode cX12_of 4 = .ok (.sipush 585, 3) := by decide +kernel
theorem dX12_of_7 : decode cX12_of 7 = .ok (.iload_n 1, 1) := by decide +kernel
theorem dX12_of_8 : decode cX12_of 8 = .ok (.imul, 1) := by decide +kernel
theorem dX12_of_9 : decode cX12_of 9 = .ok (.iload_n 2, 1) := by decide +kernel
theorem dX12_of_10 : decode cX12_of 10 = .ok (.iadd, 1) := by decide +kernel
theorem dX12_of_11 : decode cX12_of 11 = .ok (.iaload, 1) := by decide +kernel
theorem dX12_of_12 : decode cX12_of 12 = .ok (.ireturn, 1) := by decide +kernel
theorem dX12_arrayOf_0 : decode cX12_arrayOf 0 = .ok (.aload_n 0, 1) := by decide +kernel
theorem dX12_arrayOf_1 : decode cX12_arrayOf 1 = .ok (.iload_n 1, 1) := by decide +kernel
theorem dX12_arrayOf_2 : decode cX12_arrayOf 2 = .ok (.iconst 5, 1) := by decide +kernel
theorem dX12_arrayOf_3 : decode cX12_arrayOf 3 = .ok (.iload_n 2, 1) := by decide +kernel
theorem dX12_arrayOf_4 : decode cX12_arrayOf 4 = .ok (.iadd, 1) := by decide +kernel
theorem dX12_arrayOf_5 : decode cX12_arrayOf 5 = .ok (.invokevirtual 57, 3) := by decide +kernel
theorem dX12_arrayOf_8 : decode cX12_arrayOf 8 = .ok (.ireturn, 1) := by decide +kernel
theorem dX12_offsetOf_0 : decode cX12_offsetOf 0 = .ok (.aload_n 0, 1) := by decide +kernel
theorem dX12_offsetOf_1 : decode cX12_offsetOf 1 = .ok (.iload_n 1, 1) := by decide +kernel
theorem dX12_offsetOf_2 : decode cX12_offsetOf 2 = .ok (.bipush 29, 2) := by decide +kernel
theorem dX12_offsetOf_4 : decode cX12_offsetOf 4 = .ok (.iload_n 2, 1) := by decide +kernel
theorem dX12_offsetOf_5 : decode cX12_offsetOf 5 = .ok (.iadd, 1) := by decide +kernel
theorem dX12_offsetOf_6 : decode cX12_offsetOf 6 = .ok (.invokevirtual 57, 3) := by decide +kernel
theorem dX12_offsetOf_9 : decode cX12_offsetOf 9 = .ok (.ireturn, 1) := by decide +kernel
theorem dX12_isWrite_0 : decode cX12_isWrite 0 = .ok (.aload_n 0, 1) := by decide +kernel
theorem dX12_isWrite_1 : decode cX12_isWrite 1 = .ok (.iload_n 1, 1) := by decide +kernel
theorem dX12_isWrite_2 : decode cX12_isWrite 2 = .ok (.bipush 53, 2) := by decide +kernel
theorem dX12_isWrite_4 : decode cX12_isWrite 4 = .ok (.iload_n 2, 1) := by decide +kernel
theorem dX12_isWrite_5 : decode cX12_isWrite 5 = .ok (.iadd, 1) := by decide +kernel
theorem dX12_isWrite_6 : decode cX12_isWrite 6 = .ok (.invokevirtual 57, 3) := by decide +kernel
theorem dX12_isWrite_9 : decode cX12_isWrite 9 = .ok (.iconst 1, 1) := by decide +kernel
theorem dX12_isWrite_10 : decode cX12_isWrite 10 = .ok (.if_icmp .ne 7, 3) := by decide +kernel
theorem dX12_isWrite_13 : decode cX12_isWrite 13 = .ok (.iconst 1, 1) := by decide +kernel
theorem dX12_isWrite_14 : decode cX12_isWrite 14 = .ok (.goto 4, 3) := by decide +kernel
theorem dX12_isWrite_17 : decode cX12_isWrite 17 = .ok (.iconst 0, 1) := by decide +kernel
theorem dX12_isWrite_18 : decode cX12_isWrite 18 = .ok (.ireturn, 1) := by decide +kernel
theorem dX12_append_0 : decode cX12_append 0 = .ok (.aload_n 0, 1) := by decide +kernel
theorem dX12_append_1 : decode cX12_append 1 = .ok (.iconst 0, 1) := by decide +kernel
theorem dX12_append_2 : decode cX12_append 2 = .ok (.putfield 50, 3) := by decide +kernel
theorem dX12_append_5 : decode cX12_append 5 = .ok (.iconst 0, 1) := by decide +kernel
theorem dX12_append_6 : decode cX12_append 6 = .ok (.istore_n 2, 1) := by decide +kernel
theorem dX12_append_7 : decode cX12_append 7 = .ok (.bipush 24, 2) := by decide +kernel
theorem dX12_append_9 : decode cX12_append 9 = .ok (.istore_n 3, 1) := by decide +kernel
theorem dX12_append_10 : decode cX12_append 10 = .ok (.iload_n 3, 1) := by decide +kernel
theorem dX12_append_11 : decode cX12_append 11 = .ok (.ifCond .lt 54, 3) := by decide +kernel
theorem dX12_append_14 : decode cX12_append 14 = .ok (.iload_n 1, 1) := by decide +kernel
theorem dX12_append_15 : decode cX12_append 15 = .ok (.iload_n 3, 1) := by decide +kernel
theorem dX12_append_16 : decode cX12_append 16 = .ok (.iushr, 1) := by decide +kernel
theorem dX12_append_17 : decode cX12_append 17 = .ok (.sipush 255, 3) := by decide +kernel
theorem dX12_append_20 : decode cX12_append 20 = .ok (.iand, 1) := by decide +kernel
theorem dX12_append_21 : decode cX12_append 21 = .ok (.istore 4, 2) := by decide +kernel
theorem dX12_append_23 : decode cX12_append 23 = .ok (.iload 4, 2) := by decide +kernel
theorem dX12_append_25 : decode cX12_append 25 = .ok (.ifCond .eq 21, 3) := by decide +kernel
theorem dX12_append_28 : decode cX12_append 28 = .ok (.iload 4, 2) := by decide +kernel
theorem dX12_append_30 : decode cX12_append 30 = .ok (.bipush 33, 2) := by decide +kernel
theorem dX12_append_32 : decode cX12_append 32 = .ok (.bipush 126, 2) := by decide +kernel
theorem dX12_append_34 : decode cX12_append 34 = .ok (.invokestatic 53, 3) := by decide +kernel
theorem dX12_append_37 : decode cX12_append 37 = .ok (.ifCond .ne 9, 3) := by decide +kernel
theorem dX12_append_40 : decode cX12_append 40 = .ok (.aload_n 0, 1) := by decide +kernel
theorem dX12_append_41 : decode cX12_append 41 = .ok (.iconst 1, 1) := by decide +kernel
theorem dX12_append_42 : decode cX12_append 42 = .ok (.invokevirtual 61, 3) := by decide +kernel
theorem dX12_append_45 : decode cX12_append 45 = .ok (.ireturn, 1) := by decide +kernel
theorem dX12_append_46 : decode cX12_append 46 = .ok (.iload_n 2, 1) := by decide +kernel
theorem dX12_append_47 : decode cX12_append 47 = .ok (.iload 4, 2) := by decide +kernel
theorem dX12_append_49 : decode cX12_append 49 = .ok (.ifCond .ne 7, 3) := by decide +kernel
theorem dX12_append_52 : decode cX12_append 52 = .ok (.iconst 0, 1) := by decide +kernel
theorem dX12_append_53 : decode cX12_append 53 = .ok (.goto 4, 3) := by decide +kernel
theorem dX12_append_56 : decode cX12_append 56 = .ok (.iconst 1, 1) := by decide +kernel
theorem dX12_append_57 : decode cX12_append 57 = .ok (.iadd, 1) := by decide +kernel
theorem dX12_append_58 : decode cX12_append 58 = .ok (.istore_n 2, 1) := by decide +kernel
theorem dX12_append_59 : decode cX12_append 59 = .ok (.iinc 3 (-8), 3) := by decide +kernel
theorem dX12_append_62 : decode cX12_append 62 = .ok (.goto (-52), 3) := by decide +kernel
theorem dX12_append_65 : decode cX12_append 65 = .ok (.aload_n 0, 1) := by decide +kernel
theorem dX12_append_66 : decode cX12_append 66 = .ok (.getfield 65, 3) := by decide +kernel
theorem dX12_append_69 : decode cX12_append 69 = .ok (.iload_n 2, 1) := by decide +kernel
theorem dX12_append_70 : decode cX12_append 70 = .ok (.iadd, 1) := by decide +kernel
theorem dX12_append_71 : decode cX12_append 71 = .ok (.bipush 120, 2) := by decide +kernel
theorem dX12_append_73 : decode cX12_append 73 = .ok (.if_icmp .le 9, 3) := by decide +kernel
theorem dX12_append_76 : decode cX12_append 76 = .ok (.aload_n 0, 1) := by decide +kernel
theorem dX12_append_77 : decode cX12_append 77 = .ok (.iconst 2, 1) := by decide +kernel
theorem dX12_append_78 : decode cX12_append 78 = .ok (.invokevirtual 61, 3) := by decide +kernel
theorem dX12_append_81 : decode cX12_append 81 = .ok (.ireturn, 1) := by decide +kernel
theorem dX12_append_82 : decode cX12_append 82 = .ok (.bipush 24, 2) := by decide +kernel
theorem dX12_append_84 : decode cX12_append 84 = .ok (.istore_n 3, 1) := by decide +kernel
theorem dX12_append_85 : decode cX12_append 85 = .ok (.iload_n 3, 1) := by decide +kernel
theorem dX12_append_86 : decode cX12_append 86 = .ok (.ifCond .lt 44, 3) := by decide +kernel
theorem dX12_append_89 : decode cX12_append 89 = .ok (.iload_n 1, 1) := by decide +kernel
theorem dX12_append_90 : decode cX12_append 90 = .ok (.iload_n 3, 1) := by decide +kernel
theorem dX12_append_91 : decode cX12_append 91 = .ok (.iushr, 1) := by decide +kernel
theorem dX12_append_92 : decode cX12_append 92 = .ok (.sipush 255, 3) := by decide +kernel
theorem dX12_append_95 : decode cX12_append 95 = .ok (.iand, 1) := by decide +kernel
theorem dX12_append_96 : decode cX12_append 96 = .ok (.istore 4, 2) := by decide +kernel
theorem dX12_append_98 : decode cX12_append 98 = .ok (.iload 4, 2) := by decide +kernel
theorem dX12_append_100 : decode cX12_append 100 = .ok (.ifCond .eq 24, 3) := by decide +kernel
theorem dX12_append_103 : decode cX12_append 103 = .ok (.aload_n 0, 1) := by decide +kernel
theorem dX12_append_104 : decode cX12_append 104 = .ok (.getfield 22, 3) := by decide +kernel
theorem dX12_append_107 : decode cX12_append 107 = .ok (.aload_n 0, 1) := by decide +kernel
theorem dX12_append_108 : decode cX12_append 108 = .ok (.getfield 65, 3) := by decide +kernel
theorem dX12_append_111 : decode cX12_append 111 = .ok (.iload 4, 2) := by decide +kernel
theorem dX12_append_113 : decode cX12_append 113 = .ok (.iastore, 1) := by decide +kernel
theorem dX12_append_114 : decode cX12_append 114 = .ok (.aload_n 0, 1) := by decide +kernel
theorem dX12_append_115 : decode cX12_append 115 = .ok (.dup, 1) := by decide +kernel
theorem dX12_append_116 : decode cX12_append 116 = .ok (.getfield 65, 3) := by decide +kernel
theorem dX12_append_119 : decode cX12_append 119 = .ok (.iconst 1, 1) := by decide +kernel
theorem dX12_append_120 : decode cX12_append 120 = .ok (.iadd, 1) := by decide +kernel
theorem dX12_append_121 : decode cX12_append 121 = .ok (.putfield 65, 3) := by decide +kernel
theorem dX12_append_124 : decode cX12_append 124 = .ok (.iinc 3 (-8), 3) := by decide +kernel
theorem dX12_append_127 : decode cX12_append 127 = .ok (.goto (-42), 3) := by decide +kernel
theorem dX12_append_130 : decode cX12_append 130 = .ok (.aload_n 0, 1) := by decide +kernel
theorem dX12_append_131 : decode cX12_append 131 = .ok (.getfield 65, 3) := by decide +kernel
theorem dX12_append_134 : decode cX12_append 134 = .ok (.ireturn, 1) := by decide +kernel
theorem dX12_here_0 : decode cX12_here 0 = .ok (.aload_n 0, 1) := by decide +kernel
theorem dX12_here_1 : decode cX12_here 1 = .ok (.getfield 68, 3) := by decide +kernel
theorem dX12_here_4 : decode cX12_here 4 = .ok (.aload_n 0, 1) := by decide +kernel
theorem dX12_here_5 : decode cX12_here 5 = .ok (.getfield 71, 3) := by decide +kernel
theorem dX12_here_8 : decode cX12_here 8 = .ok (.if_icmp .ge 15, 3) := by decide +kernel
theorem dX12_here_11 : decode cX12_here 11 = .ok (.aload_n 0, 1) := by decide +kernel
theorem dX12_here_12 : decode cX12_here 12 = .ok (.getfield 22, 3) := by decide +kernel
theorem dX12_here_15 : decode cX12_here 15 = .ok (.aload_n 0, 1) := by decide +kernel
theorem dX12_here_16 : decode cX12_here 16 = .ok (.getfield 68, 3) := by decide +kernel
theorem dX12_here_19 : decode cX12_here 19 = .ok (.iaload, 1) := by decide +kernel
theorem dX12_here_20 : decode cX12_here 20 = .ok (.goto 4, 3) := by decide +kernel
theorem dX12_here_23 : decode cX12_here 23 = .ok (.iconst (-1), 1) := by decide +kernel
theorem dX12_here_24 : decode cX12_here 24 = .ok (.ireturn, 1) := by decide +kernel
theorem dX12_bad_0 : decode cX12_bad 0 = .ok (.aload_n 0, 1) := by decide +kernel
theorem dX12_bad_1 : decode cX12_bad 1 = .ok (.getfield 74, 3) := by decide +kernel
theorem dX12_bad_4 : decode cX12_bad 4 = .ok (.ifCond .ne 13, 3) := by decide +kernel
theorem dX12_bad_7 : decode cX12_bad 7 = .ok (.aload_n 0, 1) := by decide +kernel
theorem dX12_bad_8 : decode cX12_bad 8 = .ok (.iconst 1, 1) := by decide +kernel
theorem dX12_bad_9 : decode cX12_bad 9 = .ok (.putfield 74, 3) := by decide +kernel
theorem dX12_bad_12 : decode cX12_bad 12 = .ok (.aload_n 0, 1) := by decide +kernel
theorem dX12_bad_13 : decode cX12_bad 13 = .ok (.iload_n 1, 1) := by decide +kernel
theorem dX12_bad_14 : decode cX12_bad 14 = .ok (.putfield 25, 3) := by decide +kernel
theorem dX12_bad_17 : decode cX12_bad 17 = .ok (.return_, 1) := by decide +kernel
theorem dX12_take_0 : decode cX12_take 0 = .ok (.aload_n 0, 1) := by decide +kernel
theorem dX12_take_1 : decode cX12_take 1 = .ok (.getfield 74, 3) := by decide +kernel
theorem dX12_take_4 : decode cX12_take 4 = .ok (.ifCond .ne 24, 3) := by decide +kernel
theorem dX12_take_7 : decode cX12_take 7 = .ok (.aload_n 0, 1) := by decide +kernel
theorem dX12_take_8 : decode cX12_take 8 = .ok (.invokevirtual 78, 3) := by decide +kernel
theorem dX12_take_11 : decode cX12_take 11 = .ok (.iload_n 1, 1) := by decide +kernel
theorem dX12_take_12 : decode cX12_take 12 = .ok (.if_icmp .ne 16, 3) := by decide +kernel
theorem dX12_take_15 : decode cX12_take 15 = .ok (.aload_n 0, 1) := by decide +kernel
theorem dX12_take_16 : decode cX12_take 16 = .ok (.dup, 1) := by decide +kernel
theorem dX12_take_17 : decode cX12_take 17 = .ok (.getfield 68, 3) := by decide +kernel
theorem dX12_take_20 : decode cX12_take 20 = .ok (.iconst 1, 1) := by decide +kernel
theorem dX12_take_21 : decode cX12_take 21 = .ok (.iadd, 1) := by decide +kernel
theorem dX12_take_22 : decode cX12_take 22 = .ok (.putfield 68, 3) := by decide +kernel
theorem dX12_take_25 : decode cX12_take 25 = .ok (.goto 11, 3) := by decide +kernel
theorem dX12_take_28 : decode cX12_take 28 = .ok (.aload_n 0, 1) := by decide +kernel
theorem dX12_take_29 : decode cX12_take 29 = .ok (.aload_n 0, 1) := by decide +kernel
theorem dX12_take_30 : decode cX12_take 30 = .ok (.getfield 68, 3) := by decide +kernel
theorem dX12_take_33 : decode cX12_take 33 = .ok (.invokevirtual 82, 3) := by decide +kernel
theorem dX12_take_36 : decode cX12_take 36 = .ok (.return_, 1) := by decide +kernel
theorem dX12_number_0 : decode cX12_number 0 = .ok (.aload_n 0, 1) := by decide +kernel
theorem dX12_number_1 : decode cX12_number 1 = .ok (.getfield 74, 3) := by decide +kernel
theorem dX12_number_4 : decode cX12_number 4 = .ok (.ifCond .ne 17, 3) := by decide +kernel
theorem dX12_number_7 : decode cX12_number 7 = .ok (.aload_n 0, 1) := by decide +kernel
theorem dX12_number_8 : decode cX12_number 8 = .ok (.invokevirtual 78, 3) := by decide +kernel
theorem dX12_number_11 : decode cX12_number 11 = .ok (.bipush 48, 2) := by decide +kernel
theorem dX12_number_13 : decode cX12_number 13 = .ok (.bipush 57, 2) := by decide +kernel
