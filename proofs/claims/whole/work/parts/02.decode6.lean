theorem dX12_peeled_59 : decode cX12_peeled 59 = .ok (.iaload, 1) := by decide +kernel
theorem dX12_peeled_60 : decode cX12_peeled 60 = .ok (.aload_n 0, 1) := by decide +kernel
theorem dX12_peeled_61 : decode cX12_peeled 61 = .ok (.iload_n 2, 1) := by decide +kernel
theorem dX12_peeled_62 : decode cX12_peeled 62 = .ok (.iconst 0, 1) := by decide +kernel
theorem dX12_peeled_63 : decode cX12_peeled 63 = .ok (.invokevirtual 57, 3) := by decide +kernel
theorem dX12_peeled_66 : decode cX12_peeled 66 = .ok (.iadd, 1) := by decide +kernel
theorem dX12_peeled_67 : decode cX12_peeled 67 = .ok (.istore 4, 2) := by decide +kernel
theorem dX12_peeled_69 : decode cX12_peeled 69 = .ok (.aload_n 0, 1) := by decide +kernel
theorem dX12_peeled_70 : decode cX12_peeled 70 = .ok (.getfield 41, 3) := by decide +kernel
theorem dX12_peeled_73 : decode cX12_peeled 73 = .ok (.iload_n 2, 1) := by decide +kernel
theorem dX12_peeled_74 : decode cX12_peeled 74 = .ok (.iaload, 1) := by decide +kernel
theorem dX12_peeled_75 : decode cX12_peeled 75 = .ok (.aload_n 0, 1) := by decide +kernel
theorem dX12_peeled_76 : decode cX12_peeled 76 = .ok (.iload_n 2, 1) := by decide +kernel
theorem dX12_peeled_77 : decode cX12_peeled 77 = .ok (.iconst 1, 1) := by decide +kernel
theorem dX12_peeled_78 : decode cX12_peeled 78 = .ok (.invokevirtual 57, 3) := by decide +kernel
theorem dX12_peeled_81 : decode cX12_peeled 81 = .ok (.iadd, 1) := by decide +kernel
theorem dX12_peeled_82 : decode cX12_peeled 82 = .ok (.istore 5, 2) := by decide +kernel
theorem dX12_peeled_84 : decode cX12_peeled 84 = .ok (.aload_n 0, 1) := by decide +kernel
theorem dX12_peeled_85 : decode cX12_peeled 85 = .ok (.invokevirtual 254, 3) := by decide +kernel
theorem dX12_peeled_88 : decode cX12_peeled 88 = .ok (.aload_n 0, 1) := by decide +kernel
theorem dX12_peeled_89 : decode cX12_peeled 89 = .ok (.invokevirtual 257, 3) := by decide +kernel
theorem dX12_peeled_92 : decode cX12_peeled 92 = .ok (.if_icmp .le 19, 3) := by decide +kernel
theorem dX12_peeled_95 : decode cX12_peeled 95 = .ok (.iload_n 3, 1) := by decide +kernel
theorem dX12_peeled_96 : decode cX12_peeled 96 = .ok (.ifCond .ne 13, 3) := by decide +kernel
theorem dX12_peeled_99 : decode cX12_peeled 99 = .ok (.iload 5, 2) := by decide +kernel
theorem dX12_peeled_101 : decode cX12_peeled 101 = .ok (.iload 4, 2) := by decide +kernel
theorem dX12_peeled_103 : decode cX12_peeled 103 = .ok (.isub, 1) := by decide +kernel
theorem dX12_peeled_104 : decode cX12_peeled 104 = .ok (.iconst 1, 1) := by decide +kernel
theorem dX12_peeled_105 : decode cX12_peeled 105 = .ok (.iadd, 1) := by decide +kernel
theorem dX12_peeled_106 : decode cX12_peeled 106 = .ok (.goto 4, 3) := by decide +kernel
theorem dX12_peeled_109 : decode cX12_peeled 109 = .ok (.iconst 0, 1) := by decide +kernel
theorem dX12_peeled_110 : decode cX12_peeled 110 = .ok (.ireturn, 1) := by decide +kernel
theorem dX12_peeled_111 : decode cX12_peeled 111 = .ok (.iload_n 3, 1) := by decide +kernel
theorem dX12_peeled_112 : decode cX12_peeled 112 = .ok (.ifCond .ne 13, 3) := by decide +kernel
theorem dX12_peeled_115 : decode cX12_peeled 115 = .ok (.aload_n 0, 1) := by decide +kernel
theorem dX12_peeled_116 : decode cX12_peeled 116 = .ok (.invokevirtual 254, 3) := by decide +kernel
theorem dX12_peeled_119 : decode cX12_peeled 119 = .ok (.iload 4, 2) := by decide +kernel
theorem dX12_peeled_121 : decode cX12_peeled 121 = .ok (.isub, 1) := by decide +kernel
theorem dX12_peeled_122 : decode cX12_peeled 122 = .ok (.goto 10, 3) := by decide +kernel
theorem dX12_peeled_125 : decode cX12_peeled 125 = .ok (.iload 5, 2) := by decide +kernel
theorem dX12_peeled_127 : decode cX12_peeled 127 = .ok (.aload_n 0, 1) := by decide +kernel
theorem dX12_peeled_128 : decode cX12_peeled 128 = .ok (.invokevirtual 257, 3) := by decide +kernel
theorem dX12_peeled_131 : decode cX12_peeled 131 = .ok (.isub, 1) := by decide +kernel
theorem dX12_peeled_132 : decode cX12_peeled 132 = .ok (.ireturn, 1) := by decide +kernel
theorem dX12_gapOf_0 : decode cX12_gapOf 0 = .ok (.aload_n 0, 1) := by decide +kernel
theorem dX12_gapOf_1 : decode cX12_gapOf 1 = .ok (.iload_n 1, 1) := by decide +kernel
theorem dX12_gapOf_2 : decode cX12_gapOf 2 = .ok (.iload_n 2, 1) := by decide +kernel
theorem dX12_gapOf_3 : decode cX12_gapOf 3 = .ok (.iload_n 3, 1) := by decide +kernel
theorem dX12_gapOf_4 : decode cX12_gapOf 4 = .ok (.iload 4, 2) := by decide +kernel
theorem dX12_gapOf_6 : decode cX12_gapOf 6 = .ok (.invokevirtual 183, 3) := by decide +kernel
theorem dX12_gapOf_9 : decode cX12_gapOf 9 = .ok (.istore 5, 2) := by decide +kernel
theorem dX12_gapOf_11 : decode cX12_gapOf 11 = .ok (.iload 5, 2) := by decide +kernel
theorem dX12_gapOf_13 : decode cX12_gapOf 13 = .ok (.ifCond .eq 34, 3) := by decide +kernel
theorem dX12_gapOf_16 : decode cX12_gapOf 16 = .ok (.aload_n 0, 1) := by decide +kernel
theorem dX12_gapOf_17 : decode cX12_gapOf 17 = .ok (.iload_n 1, 1) := by decide +kernel
theorem dX12_gapOf_18 : decode cX12_gapOf 18 = .ok (.iload_n 2, 1) := by decide +kernel
theorem dX12_gapOf_19 : decode cX12_gapOf 19 = .ok (.invokevirtual 162, 3) := by decide +kernel
theorem dX12_gapOf_22 : decode cX12_gapOf 22 = .ok (.aload_n 0, 1) := by decide +kernel
theorem dX12_gapOf_23 : decode cX12_gapOf 23 = .ok (.iload_n 3, 1) := by decide +kernel
theorem dX12_gapOf_24 : decode cX12_gapOf 24 = .ok (.iload 4, 2) := by decide +kernel
theorem dX12_gapOf_26 : decode cX12_gapOf 26 = .ok (.invokevirtual 162, 3) := by decide +kernel
theorem dX12_gapOf_29 : decode cX12_gapOf 29 = .ok (.isub, 1) := by decide +kernel
theorem dX12_gapOf_30 : decode cX12_gapOf 30 = .ok (.aload_n 0, 1) := by decide +kernel
theorem dX12_gapOf_31 : decode cX12_gapOf 31 = .ok (.getfield 41, 3) := by decide +kernel
theorem dX12_gapOf_34 : decode cX12_gapOf 34 = .ok (.iload_n 3, 1) := by decide +kernel
theorem dX12_gapOf_35 : decode cX12_gapOf 35 = .ok (.iaload, 1) := by decide +kernel
theorem dX12_gapOf_36 : decode cX12_gapOf 36 = .ok (.iadd, 1) := by decide +kernel
theorem dX12_gapOf_37 : decode cX12_gapOf 37 = .ok (.aload_n 0, 1) := by decide +kernel
theorem dX12_gapOf_38 : decode cX12_gapOf 38 = .ok (.getfield 41, 3) := by decide +kernel
theorem dX12_gapOf_41 : decode cX12_gapOf 41 = .ok (.iload_n 1, 1) := by decide +kernel
theorem dX12_gapOf_42 : decode cX12_gapOf 42 = .ok (.iaload, 1) := by decide +kernel
theorem dX12_gapOf_43 : decode cX12_gapOf 43 = .ok (.isub, 1) := by decide +kernel
theorem dX12_gapOf_44 : decode cX12_gapOf 44 = .ok (.goto 4, 3) := by decide +kernel
theorem dX12_gapOf_47 : decode cX12_gapOf 47 = .ok (.iconst 0, 1) := by decide +kernel
theorem dX12_gapOf_48 : decode cX12_gapOf 48 = .ok (.ireturn, 1) := by decide +kernel
theorem dX12_carried_0 : decode cX12_carried 0 = .ok (.aload_n 0, 1) := by decide +kernel
theorem dX12_carried_1 : decode cX12_carried 1 = .ok (.iconst 0, 1) := by decide +kernel
theorem dX12_carried_2 : decode cX12_carried 2 = .ok (.putfield 50, 3) := by decide +kernel
theorem dX12_carried_5 : decode cX12_carried 5 = .ok (.iload_n 1, 1) := by decide +kernel
theorem dX12_carried_6 : decode cX12_carried 6 = .ok (.iconst 0, 1) := by decide +kernel
theorem dX12_carried_7 : decode cX12_carried 7 = .ok (.iconst 2, 1) := by decide +kernel
theorem dX12_carried_8 : decode cX12_carried 8 = .ok (.invokestatic 53, 3) := by decide +kernel
theorem dX12_carried_11 : decode cX12_carried 11 = .ok (.ifCond .ne 9, 3) := by decide +kernel
theorem dX12_carried_14 : decode cX12_carried 14 = .ok (.aload_n 0, 1) := by decide +kernel
theorem dX12_carried_15 : decode cX12_carried 15 = .ok (.iconst 1, 1) := by decide +kernel
theorem dX12_carried_16 : decode cX12_carried 16 = .ok (.invokevirtual 61, 3) := by decide +kernel
theorem dX12_carried_19 : decode cX12_carried 19 = .ok (.ireturn, 1) := by decide +kernel
theorem dX12_carried_20 : decode cX12_carried 20 = .ok (.aload_n 0, 1) := by decide +kernel
theorem dX12_carried_21 : decode cX12_carried 21 = .ok (.aload_n 0, 1) := by decide +kernel
theorem dX12_carried_22 : decode cX12_carried 22 = .ok (.iload_n 1, 1) := by decide +kernel
theorem dX12_carried_23 : decode cX12_carried 23 = .ok (.invokevirtual 242, 3) := by decide +kernel
theorem dX12_carried_26 : decode cX12_carried 26 = .ok (.iload_n 2, 1) := by decide +kernel
theorem dX12_carried_27 : decode cX12_carried 27 = .ok (.invokevirtual 251, 3) := by decide +kernel
theorem dX12_carried_30 : decode cX12_carried 30 = .ok (.ifCond .ne 9, 3) := by decide +kernel
theorem dX12_carried_33 : decode cX12_carried 33 = .ok (.aload_n 0, 1) := by decide +kernel
theorem dX12_carried_34 : decode cX12_carried 34 = .ok (.iconst 2, 1) := by decide +kernel
theorem dX12_carried_35 : decode cX12_carried 35 = .ok (.invokevirtual 61, 3) := by decide +kernel
theorem dX12_carried_38 : decode cX12_carried 38 = .ok (.ireturn, 1) := by decide +kernel
theorem dX12_carried_39 : decode cX12_carried 39 = .ok (.iconst 0, 1) := by decide +kernel
theorem dX12_carried_40 : decode cX12_carried 40 = .ok (.istore_n 3, 1) := by decide +kernel
theorem dX12_carried_41 : decode cX12_carried 41 = .ok (.aload_n 0, 1) := by decide +kernel
theorem dX12_carried_42 : decode cX12_carried 42 = .ok (.getfield 236, 3) := by decide +kernel
theorem dX12_carried_45 : decode cX12_carried 45 = .ok (.istore 4, 2) := by decide +kernel
theorem dX12_carried_47 : decode cX12_carried 47 = .ok (.iload 4, 2) := by decide +kernel
theorem dX12_carried_49 : decode cX12_carried 49 = .ok (.aload_n 0, 1) := by decide +kernel
theorem dX12_carried_50 : decode cX12_carried 50 = .ok (.getfield 239, 3) := by decide +kernel
theorem dX12_carried_53 : decode cX12_carried 53 = .ok (.if_icmp .gt 108, 3) := by decide +kernel
theorem dX12_carried_56 : decode cX12_carried 56 = .ok (.aload_n 0, 1) := by decide +kernel
theorem dX12_carried_57 : decode cX12_carried 57 = .ok (.getfield 236, 3) := by decide +kernel
theorem dX12_carried_60 : decode cX12_carried 60 = .ok (.istore 5, 2) := by decide +kernel
theorem dX12_carried_62 : decode cX12_carried 62 = .ok (.iload 5, 2) := by decide +kernel
theorem dX12_carried_64 : decode cX12_carried 64 = .ok (.aload_n 0, 1) := by decide +kernel
theorem dX12_carried_65 : decode cX12_carried 65 = .ok (.getfield 239, 3) := by decide +kernel
theorem dX12_carried_68 : decode cX12_carried 68 = .ok (.if_icmp .gt 87, 3) := by decide +kernel
theorem dX12_carried_71 : decode cX12_carried 71 = .ok (.iconst 0, 1) := by decide +kernel
theorem dX12_carried_72 : decode cX12_carried 72 = .ok (.istore 6, 2) := by decide +kernel
theorem dX12_carried_74 : decode cX12_carried 74 = .ok (.iload 6, 2) := by decide +kernel
theorem dX12_carried_76 : decode cX12_carried 76 = .ok (.aload_n 0, 1) := by decide +kernel
theorem dX12_carried_77 : decode cX12_carried 77 = .ok (.iload 4, 2) := by decide +kernel
theorem dX12_carried_79 : decode cX12_carried 79 = .ok (.iconst 4, 1) := by decide +kernel
theorem dX12_carried_80 : decode cX12_carried 80 = .ok (.invokevirtual 57, 3) := by decide +kernel
theorem dX12_carried_83 : decode cX12_carried 83 = .ok (.if_icmp .ge 66, 3) := by decide +kernel
theorem dX12_carried_86 : decode cX12_carried 86 = .ok (.iconst 0, 1) := by decide +kernel
theorem dX12_carried_87 : decode cX12_carried 87 = .ok (.istore 7, 2) := by decide +kernel
theorem dX12_carried_89 : decode cX12_carried 89 = .ok (.iload 7, 2) := by decide +kernel
theorem dX12_carried_91 : decode cX12_carried 91 = .ok (.aload_n 0, 1) := by decide +kernel
theorem dX12_carried_92 : decode cX12_carried 92 = .ok (.iload 5, 2) := by decide +kernel
theorem dX12_carried_94 : decode cX12_carried 94 = .ok (.iconst 4, 1) := by decide +kernel
theorem dX12_carried_95 : decode cX12_carried 95 = .ok (.invokevirtual 57, 3) := by decide +kernel
theorem dX12_carried_98 : decode cX12_carried 98 = .ok (.if_icmp .ge 45, 3) := by decide +kernel
theorem dX12_carried_101 : decode cX12_carried 101 = .ok (.aload_n 0, 1) := by decide +kernel
theorem dX12_carried_102 : decode cX12_carried 102 = .ok (.iload 4, 2) := by decide +kernel
theorem dX12_carried_104 : decode cX12_carried 104 = .ok (.iload 6, 2) := by decide +kernel
theorem dX12_carried_106 : decode cX12_carried 106 = .ok (.iload 5, 2) := by decide +kernel
theorem dX12_carried_108 : decode cX12_carried 108 = .ok (.iload 7, 2) := by decide +kernel
theorem dX12_carried_110 : decode cX12_carried 110 = .ok (.invokevirtual 260, 3) := by decide +kernel
theorem dX12_carried_113 : decode cX12_carried 113 = .ok (.istore 8, 2) := by decide +kernel
theorem dX12_carried_115 : decode cX12_carried 115 = .ok (.iload 8, 2) := by decide +kernel
theorem dX12_carried_117 : decode cX12_carried 117 = .ok (.ifCond .le 18, 3) := by decide +kernel
theorem dX12_carried_120 : decode cX12_carried 120 = .ok (.iload_n 3, 1) := by decide +kernel
theorem dX12_carried_121 : decode cX12_carried 121 = .ok (.ifCond .eq 9, 3) := by decide +kernel
theorem dX12_carried_124 : decode cX12_carried 124 = .ok (.iload 8, 2) := by decide +kernel
theorem dX12_carried_126 : decode cX12_carried 126 = .ok (.iload_n 3, 1) := by decide +kernel
theorem dX12_carried_127 : decode cX12_carried 127 = .ok (.if_icmp .ge 8, 3) := by decide +kernel
theorem dX12_carried_130 : decode cX12_carried 130 = .ok (.iload 8, 2) := by decide +kernel
theorem dX12_carried_132 : decode cX12_carried 132 = .ok (.goto 4, 3) := by decide +kernel
theorem dX12_carried_135 : decode cX12_carried 135 = .ok (.iload_n 3, 1) := by decide +kernel
theorem dX12_carried_136 : decode cX12_carried 136 = .ok (.istore_n 3, 1) := by decide +kernel
theorem dX12_carried_137 : decode cX12_carried 137 = .ok (.iinc 7 1, 3) := by decide +kernel
theorem dX12_carried_140 : decode cX12_carried 140 = .ok (.goto (-51), 3) := by decide +kernel
theorem dX12_carried_143 : decode cX12_carried 143 = .ok (.iinc 6 1, 3) := by decide +kernel
theorem dX12_carried_146 : decode cX12_carried 146 = .ok (.goto (-72), 3) := by decide +kernel
theorem dX12_carried_149 : decode cX12_carried 149 = .ok (.iinc 5 1, 3) := by decide +kernel
theorem dX12_carried_152 : decode cX12_carried 152 = .ok (.goto (-90), 3) := by decide +kernel
theorem dX12_carried_155 : decode cX12_carried 155 = .ok (.iinc 4 1, 3) := by decide +kernel
theorem dX12_carried_158 : decode cX12_carried 158 = .ok (.goto (-111), 3) := by decide +kernel
theorem dX12_carried_161 : decode cX12_carried 161 = .ok (.iload_n 3, 1) := by decide +kernel
theorem dX12_carried_162 : decode cX12_carried 162 = .ok (.ireturn, 1) := by decide +kernel
theorem dX12_reads_0 : decode cX12_reads 0 = .ok (.aload_n 0, 1) := by decide +kernel
theorem dX12_reads_1 : decode cX12_reads 1 = .ok (.iconst 0, 1) := by decide +kernel
theorem dX12_reads_2 : decode cX12_reads 2 = .ok (.putfield 50, 3) := by decide +kernel
theorem dX12_reads_5 : decode cX12_reads 5 = .ok (.iload_n 1, 1) := by decide +kernel
theorem dX12_reads_6 : decode cX12_reads 6 = .ok (.iconst 0, 1) := by decide +kernel
theorem dX12_reads_7 : decode cX12_reads 7 = .ok (.iconst 2, 1) := by decide +kernel
theorem dX12_reads_8 : decode cX12_reads 8 = .ok (.invokestatic 53, 3) := by decide +kernel
theorem dX12_reads_11 : decode cX12_reads 11 = .ok (.ifCond .eq 12, 3) := by decide +kernel
theorem dX12_reads_14 : decode cX12_reads 14 = .ok (.iload_n 2, 1) := by decide +kernel
theorem dX12_reads_15 : decode cX12_reads 15 = .ok (.iconst 0, 1) := by decide +kernel
theorem dX12_reads_16 : decode cX12_reads 16 = .ok (.iconst 2, 1) := by decide +kernel
theorem dX12_reads_17 : decode cX12_reads 17 = .ok (.invokestatic 53, 3) := by decide +kernel
theorem dX12_reads_20 : decode cX12_reads 20 = .ok (.ifCond .ne 9, 3) := by decide +kernel
theorem dX12_reads_23 : decode cX12_reads 23 = .ok (.aload_n 0, 1) := by decide +kernel
theorem dX12_reads_24 : decode cX12_reads 24 = .ok (.iconst 1, 1) := by decide +kernel
theorem dX12_reads_25 : decode cX12_reads 25 = .ok (.invokevirtual 61, 3) := by decide +kernel
theorem dX12_reads_28 : decode cX12_reads 28 = .ok (.ireturn, 1) := by decide +kernel
theorem dX12_reads_29 : decode cX12_reads 29 = .ok (.aload_n 0, 1) := by decide +kernel
theorem dX12_reads_30 : decode cX12_reads 30 = .ok (.iload_n 1, 1) := by decide +kernel
theorem dX12_reads_31 : decode cX12_reads 31 = .ok (.invokevirtual 242, 3) := by decide +kernel
theorem dX12_reads_34 : decode cX12_reads 34 = .ok (.istore_n 3, 1) := by decide +kernel
theorem dX12_reads_35 : decode cX12_reads 35 = .ok (.aload_n 0, 1) := by decide +kernel
theorem dX12_reads_36 : decode cX12_reads 36 = .ok (.iconst 0, 1) := by decide +kernel
theorem dX12_reads_37 : decode cX12_reads 37 = .ok (.putfield 209, 3) := by decide +kernel
theorem dX12_reads_40 : decode cX12_reads 40 = .ok (.aload_n 0, 1) := by decide +kernel
theorem dX12_reads_41 : decode cX12_reads 41 = .ok (.iconst 0, 1) := by decide +kernel
theorem dX12_reads_42 : decode cX12_reads 42 = .ok (.putfield 212, 3) := by decide +kernel
theorem dX12_reads_45 : decode cX12_reads 45 = .ok (.aload_n 0, 1) := by decide +kernel
theorem dX12_reads_46 : decode cX12_reads 46 = .ok (.iload_n 3, 1) := by decide +kernel
theorem dX12_reads_47 : decode cX12_reads 47 = .ok (.invokevirtual 221, 3) := by decide +kernel
theorem dX12_reads_50 : decode cX12_reads 50 = .ok (.istore 4, 2) := by decide +kernel
theorem dX12_reads_52 : decode cX12_reads 52 = .ok (.iload_n 2, 1) := by decide +kernel
theorem dX12_reads_53 : decode cX12_reads 53 = .ok (.ifCond .ne 10, 3) := by decide +kernel
theorem dX12_reads_56 : decode cX12_reads 56 = .ok (.aload_n 0, 1) := by decide +kernel
theorem dX12_reads_57 : decode cX12_reads 57 = .ok (.getfield 209, 3) := by decide +kernel
theorem dX12_reads_60 : decode cX12_reads 60 = .ok (.goto 17, 3) := by decide +kernel
theorem dX12_reads_63 : decode cX12_reads 63 = .ok (.iload_n 2, 1) := by decide +kernel
theorem dX12_reads_64 : decode cX12_reads 64 = .ok (.iconst 1, 1) := by decide +kernel
theorem dX12_reads_65 : decode cX12_reads 65 = .ok (.if_icmp .ne 8, 3) := by decide +kernel
theorem dX12_reads_68 : decode cX12_reads 68 = .ok (.iload 4, 2) := by decide +kernel
theorem dX12_reads_70 : decode cX12_reads 70 = .ok (.goto 7, 3) := by decide +kernel
theorem dX12_reads_73 : decode cX12_reads 73 = .ok (.aload_n 0, 1) := by decide +kernel
theorem dX12_reads_74 : decode cX12_reads 74 = .ok (.getfield 212, 3) := by decide +kernel
theorem dX12_reads_77 : decode cX12_reads 77 = .ok (.ireturn, 1) := by decide +kernel
theorem dX12_iterates_0 : decode cX12_iterates 0 = .ok (.iconst 0, 1) := by decide +kernel
theorem dX12_iterates_1 : decode cX12_iterates 1 = .ok (.istore_n 3, 1) := by decide +kernel
theorem dX12_iterates_2 : decode cX12_iterates 2 = .ok (.iconst 0, 1) := by decide +kernel
theorem dX12_iterates_3 : decode cX12_iterates 3 = .ok (.istore 4, 2) := by decide +kernel
theorem dX12_iterates_5 : decode cX12_iterates 5 = .ok (.iload 4, 2) := by decide +kernel
theorem dX12_iterates_7 : decode cX12_iterates 7 = .ok (.aload_n 0, 1) := by decide +kernel
theorem dX12_iterates_8 : decode cX12_iterates 8 = .ok (.iload_n 1, 1) := by decide +kernel
theorem dX12_iterates_9 : decode cX12_iterates 9 = .ok (.iconst 3, 1) := by decide +kernel
theorem dX12_iterates_10 : decode cX12_iterates 10 = .ok (.invokevirtual 57, 3) := by decide +kernel
theorem dX12_iterates_13 : decode cX12_iterates 13 = .ok (.if_icmp .ge 58, 3) := by decide +kernel
theorem dX12_iterates_16 : decode cX12_iterates 16 = .ok (.aload_n 0, 1) := by decide +kernel
theorem dX12_iterates_17 : decode cX12_iterates 17 = .ok (.iload_n 1, 1) := by decide +kernel
theorem dX12_iterates_18 : decode cX12_iterates 18 = .ok (.iload_n 3, 1) := by decide +kernel
theorem dX12_iterates_19 : decode cX12_iterates 19 = .ok (.invokevirtual 177, 3) := by decide +kernel
theorem dX12_iterates_22 : decode cX12_iterates 22 = .ok (.ifCond .eq 17, 3) := by decide +kernel
theorem dX12_iterates_25 : decode cX12_iterates 25 = .ok (.aload_n 0, 1) := by decide +kernel
theorem dX12_iterates_26 : decode cX12_iterates 26 = .ok (.iload_n 1, 1) := by decide +kernel
theorem dX12_iterates_27 : decode cX12_iterates 27 = .ok (.bipush 77, 2) := by decide +kernel
theorem dX12_iterates_29 : decode cX12_iterates 29 = .ok (.iload_n 3, 1) := by decide +kernel
theorem dX12_iterates_30 : decode cX12_iterates 30 = .ok (.iadd, 1) := by decide +kernel
theorem dX12_iterates_31 : decode cX12_iterates 31 = .ok (.invokevirtual 57, 3) := by decide +kernel
theorem dX12_iterates_34 : decode cX12_iterates 34 = .ok (.iload 4, 2) := by decide +kernel
theorem dX12_iterates_36 : decode cX12_iterates 36 = .ok (.if_icmp .eq 9, 3) := by decide +kernel
theorem dX12_iterates_39 : decode cX12_iterates 39 = .ok (.iinc 3 1, 3) := by decide +kernel
theorem dX12_iterates_42 : decode cX12_iterates 42 = .ok (.goto (-26), 3) := by decide +kernel
theorem dX12_iterates_45 : decode cX12_iterates 45 = .ok (.aload_n 0, 1) := by decide +kernel
theorem dX12_iterates_46 : decode cX12_iterates 46 = .ok (.getfield 38, 3) := by decide +kernel
theorem dX12_iterates_49 : decode cX12_iterates 49 = .ok (.aload_n 0, 1) := by decide +kernel
theorem dX12_iterates_50 : decode cX12_iterates 50 = .ok (.iload_n 1, 1) := by decide +kernel
theorem dX12_iterates_51 : decode cX12_iterates 51 = .ok (.iload_n 3, 1) := by decide +kernel
theorem dX12_iterates_52 : decode cX12_iterates 52 = .ok (.iload_n 2, 1) := by decide +kernel
theorem dX12_iterates_53 : decode cX12_iterates 53 = .ok (.invokevirtual 165, 3) := by decide +kernel
theorem dX12_iterates_56 : decode cX12_iterates 56 = .ok (.aload_n 0, 1) := by decide +kernel
theorem dX12_iterates_57 : decode cX12_iterates 57 = .ok (.iload_n 1, 1) := by decide +kernel
theorem dX12_iterates_58 : decode cX12_iterates 58 = .ok (.iload 4, 2) := by decide +kernel
theorem dX12_iterates_60 : decode cX12_iterates 60 = .ok (.iload_n 2, 1) := by decide +kernel
theorem dX12_iterates_61 : decode cX12_iterates 61 = .ok (.invokevirtual 174, 3) := by decide +kernel
theorem dX12_iterates_64 : decode cX12_iterates 64 = .ok (.iastore, 1) := by decide +kernel
theorem dX12_iterates_65 : decode cX12_iterates 65 = .ok (.iinc 4 1, 3) := by decide +kernel
theorem dX12_iterates_68 : decode cX12_iterates 68 = .ok (.goto (-63), 3) := by decide +kernel
theorem dX12_iterates_71 : decode cX12_iterates 71 = .ok (.return_, 1) := by decide +kernel
theorem dX12_runs_0 : decode cX12_runs 0 = .ok (.aload_n 0, 1) := by decide +kernel
theorem dX12_runs_1 : decode cX12_runs 1 = .ok (.invokevirtual 171, 3) := by decide +kernel
theorem dX12_runs_4 : decode cX12_runs 4 = .ok (.iconst 0, 1) := by decide +kernel
theorem dX12_runs_5 : decode cX12_runs 5 = .ok (.istore_n 2, 1) := by decide +kernel
theorem dX12_runs_6 : decode cX12_runs 6 = .ok (.iload_n 2, 1) := by decide +kernel
theorem dX12_runs_7 : decode cX12_runs 7 = .ok (.aload_n 0, 1) := by decide +kernel
theorem dX12_runs_8 : decode cX12_runs 8 = .ok (.getfield 47, 3) := by decide +kernel
theorem dX12_runs_11 : decode cX12_runs 11 = .ok (.if_icmp .ge 105, 3) := by decide +kernel
theorem dX12_runs_14 : decode cX12_runs 14 = .ok (.aload_n 0, 1) := by decide +kernel
theorem dX12_runs_15 : decode cX12_runs 15 = .ok (.iload_n 1, 1) := by decide +kernel
theorem dX12_runs_16 : decode cX12_runs 16 = .ok (.iload_n 2, 1) := by decide +kernel
theorem dX12_runs_17 : decode cX12_runs 17 = .ok (.invokevirtual 218, 3) := by decide +kernel
theorem dX12_runs_20 : decode cX12_runs 20 = .ok (.istore_n 3, 1) := by decide +kernel
theorem dX12_runs_21 : decode cX12_runs 21 = .ok (.aload_n 0, 1) := by decide +kernel
theorem dX12_runs_22 : decode cX12_runs 22 = .ok (.iload_n 2, 1) := by decide +kernel
theorem dX12_runs_23 : decode cX12_runs 23 = .ok (.iload_n 3, 1) := by decide +kernel
theorem dX12_runs_24 : decode cX12_runs 24 = .ok (.invokevirtual 199, 3) := by decide +kernel
theorem dX12_runs_27 : decode cX12_runs 27 = .ok (.pop, 1) := by decide +kernel
theorem dX12_runs_28 : decode cX12_runs 28 = .ok (.aload_n 0, 1) := by decide +kernel
theorem dX12_runs_29 : decode cX12_runs 29 = .ok (.iload_n 2, 1) := by decide +kernel
theorem dX12_runs_30 : decode cX12_runs 30 = .ok (.iload_n 3, 1) := by decide +kernel
theorem dX12_runs_31 : decode cX12_runs 31 = .ok (.iconst 0, 1) := by decide +kernel
theorem dX12_runs_32 : decode cX12_runs 32 = .ok (.invokevirtual 205, 3) := by decide +kernel
theorem dX12_runs_35 : decode cX12_runs 35 = .ok (.istore 4, 2) := by decide +kernel
theorem dX12_runs_37 : decode cX12_runs 37 = .ok (.aload_n 0, 1) := by decide +kernel
theorem dX12_runs_38 : decode cX12_runs 38 = .ok (.iload_n 2, 1) := by decide +kernel
theorem dX12_runs_39 : decode cX12_runs 39 = .ok (.iload_n 3, 1) := by decide +kernel
theorem dX12_runs_40 : decode cX12_runs 40 = .ok (.iconst 1, 1) := by decide +kernel
theorem dX12_runs_41 : decode cX12_runs 41 = .ok (.invokevirtual 205, 3) := by decide +kernel
theorem dX12_runs_44 : decode cX12_runs 44 = .ok (.istore 5, 2) := by decide +kernel
theorem dX12_runs_46 : decode cX12_runs 46 = .ok (.iload 5, 2) := by decide +kernel
theorem dX12_runs_48 : decode cX12_runs 48 = .ok (.iload 4, 2) := by decide +kernel
theorem dX12_runs_50 : decode cX12_runs 50 = .ok (.if_icmp .gt 59, 3) := by decide +kernel
theorem dX12_runs_53 : decode cX12_runs 53 = .ok (.iload_n 2, 1) := by decide +kernel
theorem dX12_runs_54 : decode cX12_runs 54 = .ok (.istore 6, 2) := by decide +kernel
theorem dX12_runs_56 : decode cX12_runs 56 = .ok (.iload 6, 2) := by decide +kernel
theorem dX12_runs_58 : decode cX12_runs 58 = .ok (.iload_n 3, 1) := by decide +kernel
theorem dX12_runs_59 : decode cX12_runs 59 = .ok (.if_icmp .gt 44, 3) := by decide +kernel
theorem dX12_runs_62 : decode cX12_runs 62 = .ok (.aload_n 0, 1) := by decide +kernel
theorem dX12_runs_63 : decode cX12_runs 63 = .ok (.iload 6, 2) := by decide +kernel
theorem dX12_runs_65 : decode cX12_runs 65 = .ok (.iload 5, 2) := by decide +kernel
theorem dX12_runs_67 : decode cX12_runs 67 = .ok (.aload_n 0, 1) := by decide +kernel
theorem dX12_runs_68 : decode cX12_runs 68 = .ok (.getfield 41, 3) := by decide +kernel
theorem dX12_runs_71 : decode cX12_runs 71 = .ok (.iload 6, 2) := by decide +kernel
theorem dX12_runs_73 : decode cX12_runs 73 = .ok (.iaload, 1) := by decide +kernel
theorem dX12_runs_74 : decode cX12_runs 74 = .ok (.isub, 1) := by decide +kernel
theorem dX12_runs_75 : decode cX12_runs 75 = .ok (.invokevirtual 168, 3) := by decide +kernel
theorem dX12_runs_78 : decode cX12_runs 78 = .ok (.ifCond .eq 19, 3) := by decide +kernel
theorem dX12_runs_81 : decode cX12_runs 81 = .ok (.aload_n 0, 1) := by decide +kernel
theorem dX12_runs_82 : decode cX12_runs 82 = .ok (.iload 6, 2) := by decide +kernel
theorem dX12_runs_84 : decode cX12_runs 84 = .ok (.iload 5, 2) := by decide +kernel
theorem dX12_runs_86 : decode cX12_runs 86 = .ok (.aload_n 0, 1) := by decide +kernel
theorem dX12_runs_87 : decode cX12_runs 87 = .ok (.getfield 41, 3) := by decide +kernel
theorem dX12_runs_90 : decode cX12_runs 90 = .ok (.iload 6, 2) := by decide +kernel
theorem dX12_runs_92 : decode cX12_runs 92 = .ok (.iaload, 1) := by decide +kernel
theorem dX12_runs_93 : decode cX12_runs 93 = .ok (.isub, 1) := by decide +kernel
theorem dX12_runs_94 : decode cX12_runs 94 = .ok (.invokevirtual 264, 3) := by decide +kernel
theorem dX12_runs_97 : decode cX12_runs 97 = .ok (.iinc 6 1, 3) := by decide +kernel
theorem dX12_runs_100 : decode cX12_runs 100 = .ok (.goto (-44), 3) := by decide +kernel
theorem dX12_runs_103 : decode cX12_runs 103 = .ok (.iinc 5 1, 3) := by decide +kernel
theorem dX12_runs_106 : decode cX12_runs 106 = .ok (.goto (-60), 3) := by decide +kernel
theorem dX12_runs_109 : decode cX12_runs 109 = .ok (.iload_n 3, 1) := by decide +kernel
theorem dX12_runs_110 : decode cX12_runs 110 = .ok (.iconst 1, 1) := by decide +kernel
theorem dX12_runs_111 : decode cX12_runs 111 = .ok (.iadd, 1) := by decide +kernel
theorem dX12_runs_112 : decode cX12_runs 112 = .ok (.istore_n 2, 1) := by decide +kernel
theorem dX12_runs_113 : decode cX12_runs 113 = .ok (.goto (-107), 3) := by decide +kernel
theorem dX12_runs_116 : decode cX12_runs 116 = .ok (.return_, 1) := by decide +kernel
theorem dX12_run_0 : decode cX12_run 0 = .ok (.aload_n 0, 1) := by decide +kernel
theorem dX12_run_1 : decode cX12_run 1 = .ok (.iload_n 1, 1) := by decide +kernel
theorem dX12_run_2 : decode cX12_run 2 = .ok (.iconst 0, 1) := by decide +kernel
theorem dX12_run_3 : decode cX12_run 3 = .ok (.iconst 2, 1) := by decide +kernel
theorem dX12_run_4 : decode cX12_run 4 = .ok (.invokestatic 53, 3) := by decide +kernel
theorem dX12_run_7 : decode cX12_run 7 = .ok (.ifCond .eq 7, 3) := by decide +kernel
theorem dX12_run_10 : decode cX12_run 10 = .ok (.iconst 0, 1) := by decide +kernel
theorem dX12_run_11 : decode cX12_run 11 = .ok (.goto 4, 3) := by decide +kernel
theorem dX12_run_14 : decode cX12_run 14 = .ok (.iconst 1, 1) := by decide +kernel
theorem dX12_run_15 : decode cX12_run 15 = .ok (.putfield 50, 3) := by decide +kernel
theorem dX12_run_18 : decode cX12_run 18 = .ok (.aload_n 0, 1) := by decide +kernel
theorem dX12_run_19 : decode cX12_run 19 = .ok (.getfield 50, 3) := by decide +kernel
theorem dX12_run_22 : decode cX12_run 22 = .ok (.ifCond .le 5, 3) := by decide +kernel
theorem dX12_run_25 : decode cX12_run 25 = .ok (.iconst 0, 1) := by decide +kernel
theorem dX12_run_26 : decode cX12_run 26 = .ok (.ireturn, 1) := by decide +kernel
theorem dX12_run_27 : decode cX12_run 27 = .ok (.aload_n 0, 1) := by decide +kernel
theorem dX12_run_28 : decode cX12_run 28 = .ok (.aload_n 0, 1) := by decide +kernel
theorem dX12_run_29 : decode cX12_run 29 = .ok (.iload_n 1, 1) := by decide +kernel
theorem dX12_run_30 : decode cX12_run 30 = .ok (.invokevirtual 242, 3) := by decide +kernel
theorem dX12_run_33 : decode cX12_run 33 = .ok (.invokevirtual 267, 3) := by decide +kernel
theorem dX12_run_36 : decode cX12_run 36 = .ok (.bipush 7, 2) := by decide +kernel
theorem dX12_run_38 : decode cX12_run 38 = .ok (.istore_n 2, 1) := by decide +kernel
theorem dX12_run_39 : decode cX12_run 39 = .ok (.iconst 0, 1) := by decide +kernel
theorem dX12_run_40 : decode cX12_run 40 = .ok (.istore_n 3, 1) := by decide +kernel
theorem dX12_run_41 : decode cX12_run 41 = .ok (.iload_n 3, 1) := by decide +kernel
theorem dX12_run_42 : decode cX12_run 42 = .ok (.sipush 245, 3) := by decide +kernel
theorem dX12_run_45 : decode cX12_run 45 = .ok (.if_icmp .ge 21, 3) := by decide +kernel
theorem dX12_run_48 : decode cX12_run 48 = .ok (.bipush 31, 2) := by decide +kernel
theorem dX12_run_50 : decode cX12_run 50 = .ok (.iload_n 2, 1) := by decide +kernel
theorem dX12_run_51 : decode cX12_run 51 = .ok (.imul, 1) := by decide +kernel
theorem dX12_run_52 : decode cX12_run 52 = .ok (.aload_n 0, 1) := by decide +kernel
theorem dX12_run_53 : decode cX12_run 53 = .ok (.getfield 38, 3) := by decide +kernel
theorem dX12_run_56 : decode cX12_run 56 = .ok (.iload_n 3, 1) := by decide +kernel
theorem dX12_run_57 : decode cX12_run 57 = .ok (.iaload, 1) := by decide +kernel
theorem dX12_run_58 : decode cX12_run 58 = .ok (.iadd, 1) := by decide +kernel
theorem dX12_run_59 : decode cX12_run 59 = .ok (.istore_n 2, 1) := by decide +kernel
theorem dX12_run_60 : decode cX12_run 60 = .ok (.iinc 3 1, 3) := by decide +kernel
theorem dX12_run_63 : decode cX12_run 63 = .ok (.goto (-22), 3) := by decide +kernel
theorem dX12_run_66 : decode cX12_run 66 = .ok (.iload_n 2, 1) := by decide +kernel
theorem dX12_run_67 : decode cX12_run 67 = .ok (.ireturn, 1) := by decide +kernel
theorem dX12_cell_0 : decode cX12_cell 0 = .ok (.aload_n 0, 1) := by decide +kernel
theorem dX12_cell_1 : decode cX12_cell 1 = .ok (.iload_n 1, 1) := by decide +kernel
theorem dX12_cell_2 : decode cX12_cell 2 = .ok (.iconst 0, 1) := by decide +kernel
theorem dX12_cell_3 : decode cX12_cell 3 = .ok (.iconst 2, 1) := by decide +kernel
theorem dX12_cell_4 : decode cX12_cell 4 = .ok (.invokestatic 53, 3) := by decide +kernel
theorem dX12_cell_7 : decode cX12_cell 7 = .ok (.ifCond .ne 7, 3) := by decide +kernel
theorem dX12_cell_10 : decode cX12_cell 10 = .ok (.iconst 1, 1) := by decide +kernel
theorem dX12_cell_11 : decode cX12_cell 11 = .ok (.goto 28, 3) := by decide +kernel
theorem dX12_cell_14 : decode cX12_cell 14 = .ok (.iload_n 2, 1) := by decide +kernel
theorem dX12_cell_15 : decode cX12_cell 15 = .ok (.iconst 0, 1) := by decide +kernel
theorem dX12_cell_16 : decode cX12_cell 16 = .ok (.iconst 4, 1) := by decide +kernel
theorem dX12_cell_17 : decode cX12_cell 17 = .ok (.invokestatic 53, 3) := by decide +kernel
theorem dX12_cell_20 : decode cX12_cell 20 = .ok (.ifCond .eq 14, 3) := by decide +kernel
theorem dX12_cell_23 : decode cX12_cell 23 = .ok (.iload_n 3, 1) := by decide +kernel
theorem dX12_cell_24 : decode cX12_cell 24 = .ok (.bipush (-9), 2) := by decide +kernel
theorem dX12_cell_26 : decode cX12_cell 26 = .ok (.bipush 39, 2) := by decide +kernel
theorem dX12_cell_28 : decode cX12_cell 28 = .ok (.invokestatic 53, 3) := by decide +kernel
theorem dX12_cell_31 : decode cX12_cell 31 = .ok (.ifCond .ne 7, 3) := by decide +kernel
theorem dX12_cell_34 : decode cX12_cell 34 = .ok (.iconst 2, 1) := by decide +kernel
theorem dX12_cell_35 : decode cX12_cell 35 = .ok (.goto 4, 3) := by decide +kernel
theorem dX12_cell_38 : decode cX12_cell 38 = .ok (.iconst 0, 1) := by decide +kernel
theorem dX12_cell_39 : decode cX12_cell 39 = .ok (.putfield 50, 3) := by decide +kernel
theorem dX12_cell_42 : decode cX12_cell 42 = .ok (.aload_n 0, 1) := by decide +kernel
theorem dX12_cell_43 : decode cX12_cell 43 = .ok (.getfield 50, 3) := by decide +kernel
theorem dX12_cell_46 : decode cX12_cell 46 = .ok (.ifCond .le 5, 3) := by decide +kernel
theorem dX12_cell_49 : decode cX12_cell 49 = .ok (.iconst 0, 1) := by decide +kernel
theorem dX12_cell_50 : decode cX12_cell 50 = .ok (.ireturn, 1) := by decide +kernel
theorem dX12_cell_51 : decode cX12_cell 51 = .ok (.aload_n 0, 1) := by decide +kernel
theorem dX12_cell_52 : decode cX12_cell 52 = .ok (.aload_n 0, 1) := by decide +kernel
theorem dX12_cell_53 : decode cX12_cell 53 = .ok (.iload_n 1, 1) := by decide +kernel
theorem dX12_cell_54 : decode cX12_cell 54 = .ok (.invokevirtual 242, 3) := by decide +kernel
theorem dX12_cell_57 : decode cX12_cell 57 = .ok (.invokevirtual 267, 3) := by decide +kernel
theorem dX12_cell_60 : decode cX12_cell 60 = .ok (.aload_n 0, 1) := by decide +kernel
theorem dX12_cell_61 : decode cX12_cell 61 = .ok (.getfield 38, 3) := by decide +kernel
theorem dX12_cell_64 : decode cX12_cell 64 = .ok (.bipush 49, 2) := by decide +kernel
theorem dX12_cell_66 : decode cX12_cell 66 = .ok (.iload_n 2, 1) := by decide +kernel
theorem dX12_cell_67 : decode cX12_cell 67 = .ok (.imul, 1) := by decide +kernel
theorem dX12_cell_68 : decode cX12_cell 68 = .ok (.iload_n 3, 1) := by decide +kernel
theorem dX12_cell_69 : decode cX12_cell 69 = .ok (.iadd, 1) := by decide +kernel
theorem dX12_cell_70 : decode cX12_cell 70 = .ok (.bipush 9, 2) := by decide +kernel
theorem dX12_cell_72 : decode cX12_cell 72 = .ok (.iadd, 1) := by decide +kernel
theorem dX12_cell_73 : decode cX12_cell 73 = .ok (.iaload, 1) := by decide +kernel
theorem dX12_cell_74 : decode cX12_cell 74 = .ok (.ireturn, 1) := by decide +kernel
theorem dX12_changed_0 : decode cX12_changed 0 = .ok (.aload_n 0, 1) := by decide +kernel
theorem dX12_changed_1 : decode cX12_changed 1 = .ok (.iload_n 1, 1) := by decide +kernel
theorem dX12_changed_2 : decode cX12_changed 2 = .ok (.iconst 0, 1) := by decide +kernel
theorem dX12_changed_3 : decode cX12_changed 3 = .ok (.iconst 2, 1) := by decide +kernel
theorem dX12_changed_4 : decode cX12_changed 4 = .ok (.invokestatic 53, 3) := by decide +kernel
theorem dX12_changed_7 : decode cX12_changed 7 = .ok (.ifCond .eq 7, 3) := by decide +kernel
theorem dX12_changed_10 : decode cX12_changed 10 = .ok (.iconst 0, 1) := by decide +kernel
theorem dX12_changed_11 : decode cX12_changed 11 = .ok (.goto 4, 3) := by decide +kernel
theorem dX12_changed_14 : decode cX12_changed 14 = .ok (.iconst 1, 1) := by decide +kernel
theorem dX12_changed_15 : decode cX12_changed 15 = .ok (.putfield 50, 3) := by decide +kernel
theorem dX12_changed_18 : decode cX12_changed 18 = .ok (.aload_n 0, 1) := by decide +kernel
theorem dX12_changed_19 : decode cX12_changed 19 = .ok (.getfield 50, 3) := by decide +kernel
theorem dX12_changed_22 : decode cX12_changed 22 = .ok (.ifCond .le 5, 3) := by decide +kernel
theorem dX12_changed_25 : decode cX12_changed 25 = .ok (.iconst 0, 1) := by decide +kernel
theorem dX12_changed_26 : decode cX12_changed 26 = .ok (.ireturn, 1) := by decide +kernel
theorem dX12_changed_27 : decode cX12_changed 27 = .ok (.aload_n 0, 1) := by decide +kernel
theorem dX12_changed_28 : decode cX12_changed 28 = .ok (.aload_n 0, 1) := by decide +kernel
theorem dX12_changed_29 : decode cX12_changed 29 = .ok (.iload_n 1, 1) := by decide +kernel
theorem dX12_changed_30 : decode cX12_changed 30 = .ok (.invokevirtual 242, 3) := by decide +kernel
theorem dX12_changed_33 : decode cX12_changed 33 = .ok (.invokevirtual 267, 3) := by decide +kernel
theorem dX12_changed_36 : decode cX12_changed 36 = .ok (.iconst 0, 1) := by decide +kernel
theorem dX12_changed_37 : decode cX12_changed 37 = .ok (.istore_n 2, 1) := by decide +kernel
theorem dX12_changed_38 : decode cX12_changed 38 = .ok (.iconst 0, 1) := by decide +kernel
theorem dX12_changed_39 : decode cX12_changed 39 = .ok (.istore_n 3, 1) := by decide +kernel
theorem dX12_changed_40 : decode cX12_changed 40 = .ok (.iload_n 3, 1) := by decide +kernel
theorem dX12_changed_41 : decode cX12_changed 41 = .ok (.sipush 245, 3) := by decide +kernel
theorem dX12_changed_44 : decode cX12_changed 44 = .ok (.if_icmp .ge 41, 3) := by decide +kernel
theorem dX12_changed_47 : decode cX12_changed 47 = .ok (.iload_n 2, 1) := by decide +kernel
theorem dX12_changed_48 : decode cX12_changed 48 = .ok (.aload_n 0, 1) := by decide +kernel
theorem dX12_changed_49 : decode cX12_changed 49 = .ok (.getfield 38, 3) := by decide +kernel
theorem dX12_changed_52 : decode cX12_changed 52 = .ok (.iload_n 3, 1) := by decide +kernel
theorem dX12_changed_53 : decode cX12_changed 53 = .ok (.iaload, 1) := by decide +kernel
theorem dX12_changed_54 : decode cX12_changed 54 = .ok (.aload_n 0, 1) := by decide +kernel
theorem dX12_changed_55 : decode cX12_changed 55 = .ok (.iload_n 3, 1) := by decide +kernel
theorem dX12_changed_56 : decode cX12_changed 56 = .ok (.bipush 49, 2) := by decide +kernel
theorem dX12_changed_58 : decode cX12_changed 58 = .ok (.idiv, 1) := by decide +kernel
theorem dX12_changed_59 : decode cX12_changed 59 = .ok (.iload_n 3, 1) := by decide +kernel
theorem dX12_changed_60 : decode cX12_changed 60 = .ok (.bipush 49, 2) := by decide +kernel
theorem dX12_changed_62 : decode cX12_changed 62 = .ok (.irem, 1) := by decide +kernel
theorem dX12_changed_63 : decode cX12_changed 63 = .ok (.bipush 9, 2) := by decide +kernel
theorem dX12_changed_65 : decode cX12_changed 65 = .ok (.isub, 1) := by decide +kernel
theorem dX12_changed_66 : decode cX12_changed 66 = .ok (.invokevirtual 156, 3) := by decide +kernel
theorem dX12_changed_69 : decode cX12_changed 69 = .ok (.if_icmp .ne 7, 3) := by decide +kernel
theorem dX12_changed_72 : decode cX12_changed 72 = .ok (.iconst 0, 1) := by decide +kernel
theorem dX12_changed_73 : decode cX12_changed 73 = .ok (.goto 4, 3) := by decide +kernel
theorem dX12_changed_76 : decode cX12_changed 76 = .ok (.iconst 1, 1) := by decide +kernel
theorem dX12_changed_77 : decode cX12_changed 77 = .ok (.iadd, 1) := by decide +kernel
theorem dX12_changed_78 : decode cX12_changed 78 = .ok (.istore_n 2, 1) := by decide +kernel
theorem dX12_changed_79 : decode cX12_changed 79 = .ok (.iinc 3 1, 3) := by decide +kernel
theorem dX12_changed_82 : decode cX12_changed 82 = .ok (.goto (-42), 3) := by decide +kernel
theorem dX12_changed_85 : decode cX12_changed 85 = .ok (.iload_n 2, 1) := by decide +kernel
theorem dX12_changed_86 : decode cX12_changed 86 = .ok (.ireturn, 1) := by decide +kernel
theorem dX12_save_0 : decode cX12_save 0 = .ok (.aload_n 0, 1) := by decide +kernel
theorem dX12_save_1 : decode cX12_save 1 = .ok (.iconst 0, 1) := by decide +kernel
theorem dX12_save_2 : decode cX12_save 2 = .ok (.putfield 50, 3) := by decide +kernel
theorem dX12_save_5 : decode cX12_save 5 = .ok (.iconst 0, 1) := by decide +kernel
theorem dX12_save_6 : decode cX12_save 6 = .ok (.istore_n 1, 1) := by decide +kernel
theorem dX12_save_7 : decode cX12_save 7 = .ok (.iload_n 1, 1) := by decide +kernel
theorem dX12_save_8 : decode cX12_save 8 = .ok (.sipush 3510, 3) := by decide +kernel
theorem dX12_save_11 : decode cX12_save 11 = .ok (.if_icmp .ge 21, 3) := by decide +kernel
theorem dX12_save_14 : decode cX12_save 14 = .ok (.aload_n 0, 1) := by decide +kernel
theorem dX12_save_15 : decode cX12_save 15 = .ok (.getfield 16, 3) := by decide +kernel
theorem dX12_save_18 : decode cX12_save 18 = .ok (.iload_n 1, 1) := by decide +kernel
theorem dX12_save_19 : decode cX12_save 19 = .ok (.aload_n 0, 1) := by decide +kernel
theorem dX12_save_20 : decode cX12_save 20 = .ok (.getfield 9, 3) := by decide +kernel
theorem dX12_save_23 : decode cX12_save 23 = .ok (.iload_n 1, 1) := by decide +kernel
theorem dX12_save_24 : decode cX12_save 24 = .ok (.iaload, 1) := by decide +kernel
theorem dX12_save_25 : decode cX12_save 25 = .ok (.iastore, 1) := by decide +kernel
theorem dX12_save_26 : decode cX12_save 26 = .ok (.iinc 1 1, 3) := by decide +kernel
theorem dX12_save_29 : decode cX12_save 29 = .ok (.goto (-22), 3) := by decide +kernel
theorem dX12_save_32 : decode cX12_save 32 = .ok (.iconst 0, 1) := by decide +kernel
theorem dX12_save_33 : decode cX12_save 33 = .ok (.istore_n 1, 1) := by decide +kernel
theorem dX12_save_34 : decode cX12_save 34 = .ok (.iload_n 1, 1) := by decide +kernel
theorem dX12_save_35 : decode cX12_save 35 = .ok (.iconst 3, 1) := by decide +kernel
theorem dX12_save_36 : decode cX12_save 36 = .ok (.if_icmp .ge 21, 3) := by decide +kernel
theorem dX12_save_39 : decode cX12_save 39 = .ok (.aload_n 0, 1) := by decide +kernel
theorem dX12_save_40 : decode cX12_save 40 = .ok (.getfield 19, 3) := by decide +kernel
theorem dX12_save_43 : decode cX12_save 43 = .ok (.iload_n 1, 1) := by decide +kernel
theorem dX12_save_44 : decode cX12_save 44 = .ok (.aload_n 0, 1) := by decide +kernel
theorem dX12_save_45 : decode cX12_save 45 = .ok (.getfield 13, 3) := by decide +kernel
theorem dX12_save_48 : decode cX12_save 48 = .ok (.iload_n 1, 1) := by decide +kernel
theorem dX12_save_49 : decode cX12_save 49 = .ok (.iaload, 1) := by decide +kernel
theorem dX12_save_50 : decode cX12_save 50 = .ok (.iastore, 1) := by decide +kernel
theorem dX12_save_51 : decode cX12_save 51 = .ok (.iinc 1 1, 3) := by decide +kernel
theorem dX12_save_54 : decode cX12_save 54 = .ok (.goto (-20), 3) := by decide +kernel
theorem dX12_save_57 : decode cX12_save 57 = .ok (.aload_n 0, 1) := by decide +kernel
theorem dX12_save_58 : decode cX12_save 58 = .ok (.aload_n 0, 1) := by decide +kernel
theorem dX12_save_59 : decode cX12_save 59 = .ok (.getfield 47, 3) := by decide +kernel
theorem dX12_save_62 : decode cX12_save 62 = .ok (.putfield 270, 3) := by decide +kernel
theorem dX12_save_65 : decode cX12_save 65 = .ok (.aload_n 0, 1) := by decide +kernel
theorem dX12_save_66 : decode cX12_save 66 = .ok (.iconst 1, 1) := by decide +kernel
theorem dX12_save_67 : decode cX12_save 67 = .ok (.putfield 273, 3) := by decide +kernel
theorem dX12_save_70 : decode cX12_save 70 = .ok (.return_, 1) := by decide +kernel
theorem dX12_restore_0 : decode cX12_restore 0 = .ok (.aload_n 0, 1) := by decide +kernel
theorem dX12_restore_1 : decode cX12_restore 1 = .ok (.aload_n 0, 1) := by decide +kernel
theorem dX12_restore_2 : decode cX12_restore 2 = .ok (.getfield 273, 3) := by decide +kernel
theorem dX12_restore_5 : decode cX12_restore 5 = .ok (.ifCond .eq 7, 3) := by decide +kernel
theorem dX12_restore_8 : decode cX12_restore 8 = .ok (.iconst 0, 1) := by decide +kernel
theorem dX12_restore_9 : decode cX12_restore 9 = .ok (.goto 4, 3) := by decide +kernel
theorem dX12_restore_12 : decode cX12_restore 12 = .ok (.iconst 1, 1) := by decide +kernel
theorem dX12_restore_13 : decode cX12_restore 13 = .ok (.putfield 50, 3) := by decide +kernel
theorem dX12_restore_16 : decode cX12_restore 16 = .ok (.iconst 0, 1) := by decide +kernel
theorem dX12_restore_17 : decode cX12_restore 17 = .ok (.istore_n 1, 1) := by decide +kernel
theorem dX12_restore_18 : decode cX12_restore 18 = .ok (.iload_n 1, 1) := by decide +kernel
theorem dX12_restore_19 : decode cX12_restore 19 = .ok (.sipush 3510, 3) := by decide +kernel
theorem dX12_restore_22 : decode cX12_restore 22 = .ok (.if_icmp .ge 28, 3) := by decide +kernel
theorem dX12_restore_25 : decode cX12_restore 25 = .ok (.aload_n 0, 1) := by decide +kernel
theorem dX12_restore_26 : decode cX12_restore 26 = .ok (.getfield 273, 3) := by decide +kernel
theorem dX12_restore_29 : decode cX12_restore 29 = .ok (.ifCond .eq 21, 3) := by decide +kernel
theorem dX12_restore_32 : decode cX12_restore 32 = .ok (.aload_n 0, 1) := by decide +kernel
theorem dX12_restore_33 : decode cX12_restore 33 = .ok (.getfield 9, 3) := by decide +kernel
theorem dX12_restore_36 : decode cX12_restore 36 = .ok (.iload_n 1, 1) := by decide +kernel
theorem dX12_restore_37 : decode cX12_restore 37 = .ok (.aload_n 0, 1) := by decide +kernel
theorem dX12_restore_38 : decode cX12_restore 38 = .ok (.getfield 16, 3) := by decide +kernel
theorem dX12_restore_41 : decode cX12_restore 41 = .ok (.iload_n 1, 1) := by decide +kernel
theorem dX12_restore_42 : decode cX12_restore 42 = .ok (.iaload, 1) := by decide +kernel
theorem dX12_restore_43 : decode cX12_restore 43 = .ok (.iastore, 1) := by decide +kernel
theorem dX12_restore_44 : decode cX12_restore 44 = .ok (.iinc 1 1, 3) := by decide +kernel
theorem dX12_restore_47 : decode cX12_restore 47 = .ok (.goto (-29), 3) := by decide +kernel
theorem dX12_restore_50 : decode cX12_restore 50 = .ok (.iconst 0, 1) := by decide +kernel
theorem dX12_restore_51 : decode cX12_restore 51 = .ok (.istore_n 1, 1) := by decide +kernel
theorem dX12_restore_52 : decode cX12_restore 52 = .ok (.iload_n 1, 1) := by decide +kernel
theorem dX12_restore_53 : decode cX12_restore 53 = .ok (.iconst 3, 1) := by decide +kernel
theorem dX12_restore_54 : decode cX12_restore 54 = .ok (.if_icmp .ge 28, 3) := by decide +kernel
theorem dX12_restore_57 : decode cX12_restore 57 = .ok (.aload_n 0, 1) := by decide +kernel
theorem dX12_restore_58 : decode cX12_restore 58 = .ok (.getfield 273, 3) := by decide +kernel
theorem dX12_restore_61 : decode cX12_restore 61 = .ok (.ifCond .eq 21, 3) := by decide +kernel
theorem dX12_restore_64 : decode cX12_restore 64 = .ok (.aload_n 0, 1) := by decide +kernel
theorem dX12_restore_65 : decode cX12_restore 65 = .ok (.getfield 13, 3) := by decide +kernel
theorem dX12_restore_68 : decode cX12_restore 68 = .ok (.iload_n 1, 1) := by decide +kernel
theorem dX12_restore_69 : decode cX12_restore 69 = .ok (.aload_n 0, 1) := by decide +kernel
theorem dX12_restore_70 : decode cX12_restore 70 = .ok (.getfield 19, 3) := by decide +kernel
theorem dX12_restore_73 : decode cX12_restore 73 = .ok (.iload_n 1, 1) := by decide +kernel
theorem dX12_restore_74 : decode cX12_restore 74 = .ok (.iaload, 1) := by decide +kernel
theorem dX12_restore_75 : decode cX12_restore 75 = .ok (.iastore, 1) := by decide +kernel
theorem dX12_restore_76 : decode cX12_restore 76 = .ok (.iinc 1 1, 3) := by decide +kernel
theorem dX12_restore_79 : decode cX12_restore 79 = .ok (.goto (-27), 3) := by decide +kernel
theorem dX12_restore_82 : decode cX12_restore 82 = .ok (.aload_n 0, 1) := by decide +kernel
theorem dX12_restore_83 : decode cX12_restore 83 = .ok (.aload_n 0, 1) := by decide +kernel
theorem dX12_restore_84 : decode cX12_restore 84 = .ok (.getfield 273, 3) := by decide +kernel
theorem dX12_restore_87 : decode cX12_restore 87 = .ok (.ifCond .eq 10, 3) := by decide +kernel
theorem dX12_restore_90 : decode cX12_restore 90 = .ok (.aload_n 0, 1) := by decide +kernel
theorem dX12_restore_91 : decode cX12_restore 91 = .ok (.getfield 270, 3) := by decide +kernel
theorem dX12_restore_94 : decode cX12_restore 94 = .ok (.goto 7, 3) := by decide +kernel
theorem dX12_restore_97 : decode cX12_restore 97 = .ok (.aload_n 0, 1) := by decide +kernel
theorem dX12_restore_98 : decode cX12_restore 98 = .ok (.getfield 47, 3) := by decide +kernel
theorem dX12_restore_101 : decode cX12_restore 101 = .ok (.putfield 47, 3) := by decide +kernel
theorem dX12_restore_104 : decode cX12_restore 104 = .ok (.return_, 1) := by decide +kernel
theorem dJ9_max_7cf53_0 : decode cJ9_max_7cf53 0 = .ok (.iload_n 0, 1) := by decide +kernel
theorem dJ9_max_7cf53_1 : decode cJ9_max_7cf53 1 = .ok (.iload_n 1, 1) := by decide +kernel
theorem dJ9_max_7cf53_2 : decode cJ9_max_7cf53 2 = .ok (.if_icmp .lt 7, 3) := by decide +kernel
theorem dJ9_max_7cf53_5 : decode cJ9_max_7cf53 5 = .ok (.iload_n 0, 1) := by decide +kernel
theorem dJ9_max_7cf53_6 : decode cJ9_max_7cf53 6 = .ok (.goto 4, 3) := by decide +kernel
theorem dJ9_max_7cf53_9 : decode cJ9_max_7cf53 9 = .ok (.iload_n 1, 1) := by decide +kernel
theorem dJ9_max_7cf53_10 : decode cJ9_max_7cf53 10 = .ok (.ireturn, 1) := by decide +kernel
theorem dJ9_min_7cf53_0 : decode cJ9_min_7cf53 0 = .ok (.iload_n 0, 1) := by decide +kernel
theorem dJ9_min_7cf53_1 : decode cJ9_min_7cf53 1 = .ok (.iload_n 1, 1) := by decide +kernel
theorem dJ9_min_7cf53_2 : decode cJ9_min_7cf53 2 = .ok (.if_icmp .gt 7, 3) := by decide +kernel
theorem dJ9_min_7cf53_5 : decode cJ9_min_7cf53 5 = .ok (.iload_n 0, 1) := by decide +kernel
theorem dJ9_min_7cf53_6 : decode cJ9_min_7cf53 6 = .ok (.goto 4, 3) := by decide +kernel
theorem dJ9_min_7cf53_9 : decode cJ9_min_7cf53 9 = .ok (.iload_n 1, 1) := by decide +kernel
theorem dJ9_min_7cf53_10 : decode cJ9_min_7cf53 10 = .ok (.ireturn, 1) := by decide +kernel
theorem dJ0_length_8abf5_0 : decode cJ0_length_8abf5 0 = .ok (.aload_n 0, 1) := by decide +kernel
theorem dJ0_length_8abf5_1 : decode cJ0_length_8abf5 1 = .ok (.getfield 9, 3) := by decide +kernel
theorem dJ0_length_8abf5_4 : decode cJ0_length_8abf5 4 = .ok (.arraylength, 1) := by decide +kernel
theorem dJ0_length_8abf5_5 : decode cJ0_length_8abf5 5 = .ok (.aload_n 0, 1) := by decide +kernel
theorem dJ0_length_8abf5_6 : decode cJ0_length_8abf5 6 = .ok (.invokevirtual 335, 3) := by decide +kernel
theorem dJ0_length_8abf5_9 : decode cJ0_length_8abf5 9 = .ok (.ishr, 1) := by decide +kernel
theorem dJ0_length_8abf5_10 : decode cJ0_length_8abf5 10 = .ok (.ireturn, 1) := by decide +kernel
theorem dJ0_charAt_5068e_0 : decode cJ0_charAt_5068e 0 = .ok (.aload_n 0, 1) := by decide +kernel
theorem dJ0_charAt_5068e_1 : decode cJ0_charAt_5068e 1 = .ok (.invokevirtual 492, 3) := by decide +kernel
theorem dJ0_charAt_5068e_4 : decode cJ0_charAt_5068e 4 = .ok (.ifCond .eq 12, 3) := by decide +kernel
theorem dJ0_charAt_5068e_7 : decode cJ0_charAt_5068e 7 = .ok (.aload_n 0, 1) := by decide +kernel
theorem dJ0_charAt_5068e_8 : decode cJ0_charAt_5068e 8 = .ok (.getfield 9, 3) := by decide +kernel
theorem dJ0_charAt_5068e_11 : decode cJ0_charAt_5068e 11 = .ok (.iload_n 1, 1) := by decide +kernel
theorem dJ0_charAt_5068e_12 : decode cJ0_charAt_5068e 12 = .ok (.invokestatic 495, 3) := by decide +kernel
theorem dJ0_charAt_5068e_15 : decode cJ0_charAt_5068e 15 = .ok (.ireturn, 1) := by decide +kernel
theorem dJ0_charAt_5068e_16 : decode cJ0_charAt_5068e 16 = .ok (.aload_n 0, 1) := by decide +kernel
theorem dJ0_charAt_5068e_17 : decode cJ0_charAt_5068e 17 = .ok (.getfield 9, 3) := by decide +kernel
theorem dJ0_charAt_5068e_20 : decode cJ0_charAt_5068e 20 = .ok (.iload_n 1, 1) := by decide +kernel
theorem dJ0_charAt_5068e_21 : decode cJ0_charAt_5068e 21 = .ok (.invokestatic 498, 3) := by decide +kernel
theorem dJ0_charAt_5068e_24 : decode cJ0_charAt_5068e 24 = .ok (.ireturn, 1) := by decide +kernel
theorem dJ0_coder_7d493_0 : decode cJ0_coder_7d493 0 = .ok (.getstatic 38, 3) := by decide +kernel
theorem dJ0_coder_7d493_3 : decode cJ0_coder_7d493 3 = .ok (.ifCond .eq 10, 3) := by decide +kernel
theorem dJ0_coder_7d493_6 : decode cJ0_coder_7d493 6 = .ok (.aload_n 0, 1) := by decide +kernel
theorem dJ0_coder_7d493_7 : decode cJ0_coder_7d493 7 = .ok (.getfield 15, 3) := by decide +kernel
theorem dJ0_coder_7d493_10 : decode cJ0_coder_7d493 10 = .ok (.goto 4, 3) := by decide +kernel
theorem dJ0_coder_7d493_13 : decode cJ0_coder_7d493 13 = .ok (.iconst 1, 1) := by decide +kernel
theorem dJ0_coder_7d493_14 : decode cJ0_coder_7d493 14 = .ok (.ireturn, 1) := by decide +kernel
theorem dJ0_isLatin1_aae02_0 : decode cJ0_isLatin1_aae02 0 = .ok (.getstatic 38, 3) := by decide +kernel
theorem dJ0_isLatin1_aae02_3 : decode cJ0_isLatin1_aae02 3 = .ok (.ifCond .eq 14, 3) := by decide +kernel
theorem dJ0_isLatin1_aae02_6 : decode cJ0_isLatin1_aae02 6 = .ok (.aload_n 0, 1) := by decide +kernel
theorem dJ0_isLatin1_aae02_7 : decode cJ0_isLatin1_aae02 7 = .ok (.getfield 15, 3) := by decide +kernel
theorem dJ0_isLatin1_aae02_10 : decode cJ0_isLatin1_aae02 10 = .ok (.ifCond .ne 7, 3) := by decide +kernel
theorem dJ0_isLatin1_aae02_13 : decode cJ0_isLatin1_aae02 13 = .ok (.iconst 1, 1) := by decide +kernel
theorem dJ0_isLatin1_aae02_14 : decode cJ0_isLatin1_aae02 14 = .ok (.goto 4, 3) := by decide +kernel
theorem dJ0_isLatin1_aae02_17 : decode cJ0_isLatin1_aae02 17 = .ok (.iconst 0, 1) := by decide +kernel
theorem dJ0_isLatin1_aae02_18 : decode cJ0_isLatin1_aae02 18 = .ok (.ireturn, 1) := by decide +kernel
theorem dJ0_checkIndex_df160_0 : decode cJ0_checkIndex_df160 0 = .ok (.iload_n 0, 1) := by decide +kernel
theorem dJ0_checkIndex_df160_1 : decode cJ0_checkIndex_df160 1 = .ok (.iload_n 1, 1) := by decide +kernel
theorem dJ0_checkIndex_df160_2 : decode cJ0_checkIndex_df160 2 = .ok (.getstatic 1053, 3) := by decide +kernel
theorem dJ0_checkIndex_df160_5 : decode cJ0_checkIndex_df160 5 = .ok (.invokestatic 1059, 3) := by decide +kernel
theorem dJ0_checkIndex_df160_8 : decode cJ0_checkIndex_df160 8 = .ok (.pop, 1) := by decide +kernel
theorem dJ0_checkIndex_df160_9 : decode cJ0_checkIndex_df160 9 = .ok (.return_, 1) := by decide +kernel
theorem dJ1_charAt_3b067_0 : decode cJ1_charAt_3b067 0 = .ok (.iload_n 1, 1) := by decide +kernel
theorem dJ1_charAt_3b067_1 : decode cJ1_charAt_3b067 1 = .ok (.aload_n 0, 1) := by decide +kernel
theorem dJ1_charAt_3b067_2 : decode cJ1_charAt_3b067 2 = .ok (.arraylength, 1) := by decide +kernel
theorem dJ1_charAt_3b067_3 : decode cJ1_charAt_3b067 3 = .ok (.invokestatic 9, 3) := by decide +kernel
theorem dJ1_charAt_3b067_6 : decode cJ1_charAt_3b067 6 = .ok (.aload_n 0, 1) := by decide +kernel
theorem dJ1_charAt_3b067_7 : decode cJ1_charAt_3b067 7 = .ok (.iload_n 1, 1) := by decide +kernel
theorem dJ1_charAt_3b067_8 : decode cJ1_charAt_3b067 8 = .ok (.baload, 1) := by decide +kernel
theorem dJ1_charAt_3b067_9 : decode cJ1_charAt_3b067 9 = .ok (.sipush 255, 3) := by decide +kernel
theorem dJ1_charAt_3b067_12 : decode cJ1_charAt_3b067 12 = .ok (.iand, 1) := by decide +kernel
theorem dJ1_charAt_3b067_13 : decode cJ1_charAt_3b067 13 = .ok (.i2c, 1) := by decide +kernel
theorem dJ1_charAt_3b067_14 : decode cJ1_charAt_3b067 14 = .ok (.ireturn, 1) := by decide +kernel
theorem dJ2_getChar_3b067_0 : decode cJ2_getChar_3b067 0 = .ok (.getstatic 44, 3) := by decide +kernel
theorem dJ2_getChar_3b067_3 : decode cJ2_getChar_3b067 3 = .ok (.ifCond .ne 25, 3) := by decide +kernel
theorem dJ2_getChar_3b067_6 : decode cJ2_getChar_3b067 6 = .ok (.iload_n 1, 1) := by decide +kernel
theorem dJ2_getChar_3b067_7 : decode cJ2_getChar_3b067 7 = .ok (.ifCond .lt 11, 3) := by decide +kernel
theorem dJ2_getChar_3b067_10 : decode cJ2_getChar_3b067 10 = .ok (.iload_n 1, 1) := by decide +kernel
theorem dJ2_getChar_3b067_11 : decode cJ2_getChar_3b067 11 = .ok (.aload_n 0, 1) := by decide +kernel
theorem dJ2_getChar_3b067_12 : decode cJ2_getChar_3b067 12 = .ok (.invokestatic 48, 3) := by decide +kernel
theorem dJ2_getChar_3b067_15 : decode cJ2_getChar_3b067 15 = .ok (.if_icmp .lt 13, 3) := by decide +kernel
theorem dJ2_getChar_3b067_18 : decode cJ2_getChar_3b067 18 = .ok (.new 52, 3) := by decide +kernel
theorem dJ2_getChar_3b067_21 : decode cJ2_getChar_3b067 21 = .ok (.dup, 1) := by decide +kernel
theorem dJ2_getChar_3b067_22 : decode cJ2_getChar_3b067 22 = .ok (.ldc 54, 2) := by decide +kernel
theorem dJ2_getChar_3b067_24 : decode cJ2_getChar_3b067 24 = .ok (.invokespecial 56, 3) := by decide +kernel
theorem dJ2_getChar_3b067_27 : decode cJ2_getChar_3b067 27 = .ok (.athrow, 1) := by decide +kernel
theorem dJ2_getChar_3b067_28 : decode cJ2_getChar_3b067 28 = .ok (.iload_n 1, 1) := by decide +kernel
theorem dJ2_getChar_3b067_29 : decode cJ2_getChar_3b067 29 = .ok (.iconst 1, 1) := by decide +kernel
theorem dJ2_getChar_3b067_30 : decode cJ2_getChar_3b067 30 = .ok (.ishl, 1) := by decide +kernel
theorem dJ2_getChar_3b067_31 : decode cJ2_getChar_3b067 31 = .ok (.istore_n 1, 1) := by decide +kernel
theorem dJ2_getChar_3b067_32 : decode cJ2_getChar_3b067 32 = .ok (.aload_n 0, 1) := by decide +kernel
theorem dJ2_getChar_3b067_33 : decode cJ2_getChar_3b067 33 = .ok (.iload_n 1, 1) := by decide +kernel
theorem dJ2_getChar_3b067_34 : decode cJ2_getChar_3b067 34 = .ok (.iinc 1 1, 3) := by decide +kernel
theorem dJ2_getChar_3b067_37 : decode cJ2_getChar_3b067 37 = .ok (.baload, 1) := by decide +kernel
theorem dJ2_getChar_3b067_38 : decode cJ2_getChar_3b067 38 = .ok (.sipush 255, 3) := by decide +kernel
theorem dJ2_getChar_3b067_41 : decode cJ2_getChar_3b067 41 = .ok (.iand, 1) := by decide +kernel
theorem dJ2_getChar_3b067_42 : decode cJ2_getChar_3b067 42 = .ok (.getstatic 59, 3) := by decide +kernel
theorem dJ2_getChar_3b067_45 : decode cJ2_getChar_3b067 45 = .ok (.ishl, 1) := by decide +kernel
theorem dJ2_getChar_3b067_46 : decode cJ2_getChar_3b067 46 = .ok (.aload_n 0, 1) := by decide +kernel
theorem dJ2_getChar_3b067_47 : decode cJ2_getChar_3b067 47 = .ok (.iload_n 1, 1) := by decide +kernel
theorem dJ2_getChar_3b067_48 : decode cJ2_getChar_3b067 48 = .ok (.baload, 1) := by decide +kernel
theorem dJ2_getChar_3b067_49 : decode cJ2_getChar_3b067 49 = .ok (.sipush 255, 3) := by decide +kernel
theorem dJ2_getChar_3b067_52 : decode cJ2_getChar_3b067 52 = .ok (.iand, 1) := by decide +kernel
theorem dJ2_getChar_3b067_53 : decode cJ2_getChar_3b067 53 = .ok (.getstatic 63, 3) := by decide +kernel
theorem dJ2_getChar_3b067_56 : decode cJ2_getChar_3b067 56 = .ok (.ishl, 1) := by decide +kernel
theorem dJ2_getChar_3b067_57 : decode cJ2_getChar_3b067 57 = .ok (.ior, 1) := by decide +kernel
theorem dJ2_getChar_3b067_58 : decode cJ2_getChar_3b067 58 = .ok (.i2c, 1) := by decide +kernel
theorem dJ2_getChar_3b067_59 : decode cJ2_getChar_3b067 59 = .ok (.ireturn, 1) := by decide +kernel
theorem dJ2_length_9d52b_0 : decode cJ2_length_9d52b 0 = .ok (.aload_n 0, 1) := by decide +kernel
theorem dJ2_length_9d52b_1 : decode cJ2_length_9d52b 1 = .ok (.arraylength, 1) := by decide +kernel
theorem dJ2_length_9d52b_2 : decode cJ2_length_9d52b 2 = .ok (.iconst 1, 1) := by decide +kernel
theorem dJ2_length_9d52b_3 : decode cJ2_length_9d52b 3 = .ok (.ishr, 1) := by decide +kernel
theorem dJ2_length_9d52b_4 : decode cJ2_length_9d52b 4 = .ok (.ireturn, 1) := by decide +kernel
theorem dJ2_charAt_3b067_0 : decode cJ2_charAt_3b067 0 = .ok (.iload_n 1, 1) := by decide +kernel
theorem dJ2_charAt_3b067_1 : decode cJ2_charAt_3b067 1 = .ok (.aload_n 0, 1) := by decide +kernel
theorem dJ2_charAt_3b067_2 : decode cJ2_charAt_3b067 2 = .ok (.invokestatic 67, 3) := by decide +kernel
theorem dJ2_charAt_3b067_5 : decode cJ2_charAt_3b067 5 = .ok (.aload_n 0, 1) := by decide +kernel
theorem dJ2_charAt_3b067_6 : decode cJ2_charAt_3b067 6 = .ok (.iload_n 1, 1) := by decide +kernel
theorem dJ2_charAt_3b067_7 : decode cJ2_charAt_3b067 7 = .ok (.invokestatic 71, 3) := by decide +kernel
theorem dJ2_charAt_3b067_10 : decode cJ2_charAt_3b067 10 = .ok (.ireturn, 1) := by decide +kernel
theorem dJ2_checkIndex_2214a_0 : decode cJ2_checkIndex_2214a 0 = .ok (.iload_n 0, 1) := by decide +kernel
theorem dJ2_checkIndex_2214a_1 : decode cJ2_checkIndex_2214a 1 = .ok (.aload_n 1, 1) := by decide +kernel
theorem dJ2_checkIndex_2214a_2 : decode cJ2_checkIndex_2214a 2 = .ok (.invokestatic 48, 3) := by decide +kernel
theorem dJ2_checkIndex_2214a_5 : decode cJ2_checkIndex_2214a 5 = .ok (.invokestatic 414, 3) := by decide +kernel
theorem dJ2_checkIndex_2214a_8 : decode cJ2_checkIndex_2214a 8 = .ok (.return_, 1) := by decide +kernel
theorem dJ3_checkIndex_8e157_0 : decode cJ3_checkIndex_8e157 0 = .ok (.iload_n 0, 1) := by decide +kernel
theorem dJ3_checkIndex_8e157_1 : decode cJ3_checkIndex_8e157 1 = .ok (.ifCond .lt 8, 3) := by decide +kernel
theorem dJ3_checkIndex_8e157_4 : decode cJ3_checkIndex_8e157 4 = .ok (.iload_n 0, 1) := by decide +kernel
theorem dJ3_checkIndex_8e157_5 : decode cJ3_checkIndex_8e157 5 = .ok (.iload_n 1, 1) := by decide +kernel
theorem dJ3_checkIndex_8e157_6 : decode cJ3_checkIndex_8e157 6 = .ok (.if_icmp .lt 10, 3) := by decide +kernel
theorem dJ3_checkIndex_8e157_9 : decode cJ3_checkIndex_8e157 9 = .ok (.aload_n 2, 1) := by decide +kernel
theorem dJ3_checkIndex_8e157_10 : decode cJ3_checkIndex_8e157 10 = .ok (.iload_n 0, 1) := by decide +kernel
theorem dJ3_checkIndex_8e157_11 : decode cJ3_checkIndex_8e157 11 = .ok (.iload_n 1, 1) := by decide +kernel
theorem dJ3_checkIndex_8e157_12 : decode cJ3_checkIndex_8e157 12 = .ok (.invokestatic 95, 3) := by decide +kernel
theorem dJ3_checkIndex_8e157_15 : decode cJ3_checkIndex_8e157 15 = .ok (.athrow, 1) := by decide +kernel
theorem dJ3_checkIndex_8e157_16 : decode cJ3_checkIndex_8e157 16 = .ok (.iload_n 0, 1) := by decide +kernel
theorem dJ3_checkIndex_8e157_17 : decode cJ3_checkIndex_8e157 17 = .ok (.ireturn, 1) := by decide +kernel
theorem dL_append_0 : decode cL_append 0 = .ok (.aload_n 2, 1) := by decide +kernel
theorem dL_append_1 : decode cL_append 1 = .ok (.iconst 0, 1) := by decide +kernel
theorem dL_append_2 : decode cL_append 2 = .ok (.aload_n 0, 1) := by decide +kernel
theorem dL_append_3 : decode cL_append 3 = .ok (.iload_n 1, 1) := by decide +kernel
theorem dL_append_4 : decode cL_append 4 = .ok (.invokevirtual 7, 3) := by decide +kernel
theorem dL_append_7 : decode cL_append 7 = .ok (.i2l, 1) := by decide +kernel
theorem dL_append_8 : decode cL_append 8 = .ok (.lastore, 1) := by decide +kernel
theorem dL_append_9 : decode cL_append 9 = .ok (.goto 9, 3) := by decide +kernel
theorem dL_append_12 : decode cL_append 12 = .ok (.astore_n 3, 1) := by decide +kernel
theorem dL_append_13 : decode cL_append 13 = .ok (.iconst 1, 1) := by decide +kernel
theorem dL_append_14 : decode cL_append 14 = .ok (.ireturn, 1) := by decide +kernel
theorem dL_append_15 : decode cL_append 15 = .ok (.astore_n 3, 1) := by decide +kernel
theorem dL_append_16 : decode cL_append 16 = .ok (.iconst 2, 1) := by decide +kernel
theorem dL_append_17 : decode cL_append 17 = .ok (.ireturn, 1) := by decide +kernel
theorem dL_append_18 : decode cL_append 18 = .ok (.iconst 0, 1) := by decide +kernel
theorem dL_append_19 : decode cL_append 19 = .ok (.ireturn, 1) := by decide +kernel
theorem dL_read_0 : decode cL_read 0 = .ok (.aload_n 1, 1) := by decide +kernel
theorem dL_read_1 : decode cL_read 1 = .ok (.iconst 0, 1) := by decide +kernel
theorem dL_read_2 : decode cL_read 2 = .ok (.aload_n 0, 1) := by decide +kernel
theorem dL_read_3 : decode cL_read 3 = .ok (.invokevirtual 17, 3) := by decide +kernel
theorem dL_read_6 : decode cL_read 6 = .ok (.i2l, 1) := by decide +kernel
theorem dL_read_7 : decode cL_read 7 = .ok (.lastore, 1) := by decide +kernel
theorem dL_read_8 : decode cL_read 8 = .ok (.goto 9, 3) := by decide +kernel
theorem dL_read_11 : decode cL_read 11 = .ok (.astore_n 2, 1) := by decide +kernel
theorem dL_read_12 : decode cL_read 12 = .ok (.iconst 1, 1) := by decide +kernel
theorem dL_read_13 : decode cL_read 13 = .ok (.ireturn, 1) := by decide +kernel
theorem dL_read_14 : decode cL_read 14 = .ok (.astore_n 2, 1) := by decide +kernel
theorem dL_read_15 : decode cL_read 15 = .ok (.iconst 2, 1) := by decide +kernel
theorem dL_read_16 : decode cL_read 16 = .ok (.ireturn, 1) := by decide +kernel
theorem dL_read_17 : decode cL_read 17 = .ok (.iconst 0, 1) := by decide +kernel
theorem dL_read_18 : decode cL_read 18 = .ok (.ireturn, 1) := by decide +kernel
theorem dL_removeLoop_0 : decode cL_removeLoop 0 = .ok (.aload_n 2, 1) := by decide +kernel
theorem dL_removeLoop_1 : decode cL_removeLoop 1 = .ok (.iconst 0, 1) := by decide +kernel
theorem dL_removeLoop_2 : decode cL_removeLoop 2 = .ok (.aload_n 0, 1) := by decide +kernel
theorem dL_removeLoop_3 : decode cL_removeLoop 3 = .ok (.iload_n 1, 1) := by decide +kernel
theorem dL_removeLoop_4 : decode cL_removeLoop 4 = .ok (.invokevirtual 21, 3) := by decide +kernel
theorem dL_removeLoop_7 : decode cL_removeLoop 7 = .ok (.i2l, 1) := by decide +kernel
theorem dL_removeLoop_8 : decode cL_removeLoop 8 = .ok (.lastore, 1) := by decide +kernel
theorem dL_removeLoop_9 : decode cL_removeLoop 9 = .ok (.goto 6, 3) := by decide +kernel
theorem dL_removeLoop_12 : decode cL_removeLoop 12 = .ok (.astore_n 3, 1) := by decide +kernel
theorem dL_removeLoop_13 : decode cL_removeLoop 13 = .ok (.iconst 1, 1) := by decide +kernel
theorem dL_removeLoop_14 : decode cL_removeLoop 14 = .ok (.ireturn, 1) := by decide +kernel
theorem dL_removeLoop_15 : decode cL_removeLoop 15 = .ok (.iconst 0, 1) := by decide +kernel
theorem dL_removeLoop_16 : decode cL_removeLoop 16 = .ok (.ireturn, 1) := by decide +kernel
theorem dL_bound_0 : decode cL_bound 0 = .ok (.aload_n 3, 1) := by decide +kernel
theorem dL_bound_1 : decode cL_bound 1 = .ok (.iconst 0, 1) := by decide +kernel
theorem dL_bound_2 : decode cL_bound 2 = .ok (.aload_n 0, 1) := by decide +kernel
theorem dL_bound_3 : decode cL_bound 3 = .ok (.iload_n 1, 1) := by decide +kernel
theorem dL_bound_4 : decode cL_bound 4 = .ok (.iload_n 2, 1) := by decide +kernel
theorem dL_bound_5 : decode cL_bound 5 = .ok (.invokevirtual 26, 3) := by decide +kernel
theorem dL_bound_8 : decode cL_bound 8 = .ok (.i2l, 1) := by decide +kernel
theorem dL_bound_9 : decode cL_bound 9 = .ok (.lastore, 1) := by decide +kernel
theorem dL_bound_10 : decode cL_bound 10 = .ok (.goto 11, 3) := by decide +kernel
theorem dL_bound_13 : decode cL_bound 13 = .ok (.astore 4, 2) := by decide +kernel
theorem dL_bound_15 : decode cL_bound 15 = .ok (.iconst 1, 1) := by decide +kernel
theorem dL_bound_16 : decode cL_bound 16 = .ok (.ireturn, 1) := by decide +kernel
theorem dL_bound_17 : decode cL_bound 17 = .ok (.astore 4, 2) := by decide +kernel
theorem dL_bound_19 : decode cL_bound 19 = .ok (.iconst 2, 1) := by decide +kernel
theorem dL_bound_20 : decode cL_bound 20 = .ok (.ireturn, 1) := by decide +kernel
theorem dL_bound_21 : decode cL_bound 21 = .ok (.iconst 0, 1) := by decide +kernel
theorem dL_bound_22 : decode cL_bound 22 = .ok (.ireturn, 1) := by decide +kernel
theorem dL_setBound_0 : decode cL_setBound 0 = .ok (.aload 4, 2) := by decide +kernel
theorem dL_setBound_2 : decode cL_setBound 2 = .ok (.iconst 0, 1) := by decide +kernel
theorem dL_setBound_3 : decode cL_setBound 3 = .ok (.aload_n 0, 1) := by decide +kernel
theorem dL_setBound_4 : decode cL_setBound 4 = .ok (.iload_n 1, 1) := by decide +kernel
theorem dL_setBound_5 : decode cL_setBound 5 = .ok (.iload_n 2, 1) := by decide +kernel
theorem dL_setBound_6 : decode cL_setBound 6 = .ok (.iload_n 3, 1) := by decide +kernel
theorem dL_setBound_7 : decode cL_setBound 7 = .ok (.invokevirtual 30, 3) := by decide +kernel
theorem dL_setBound_10 : decode cL_setBound 10 = .ok (.i2l, 1) := by decide +kernel
theorem dL_setBound_11 : decode cL_setBound 11 = .ok (.lastore, 1) := by decide +kernel
theorem dL_setBound_12 : decode cL_setBound 12 = .ok (.goto 11, 3) := by decide +kernel
theorem dL_setBound_15 : decode cL_setBound 15 = .ok (.astore 5, 2) := by decide +kernel
theorem dL_setBound_17 : decode cL_setBound 17 = .ok (.iconst 1, 1) := by decide +kernel
theorem dL_setBound_18 : decode cL_setBound 18 = .ok (.ireturn, 1) := by decide +kernel
theorem dL_setBound_19 : decode cL_setBound 19 = .ok (.astore 5, 2) := by decide +kernel
theorem dL_setBound_21 : decode cL_setBound 21 = .ok (.iconst 2, 1) := by decide +kernel
theorem dL_setBound_22 : decode cL_setBound 22 = .ok (.ireturn, 1) := by decide +kernel
theorem dL_setBound_23 : decode cL_setBound 23 = .ok (.iconst 0, 1) := by decide +kernel
theorem dL_setBound_24 : decode cL_setBound 24 = .ok (.ireturn, 1) := by decide +kernel
theorem dL_statementCount_0 : decode cL_statementCount 0 = .ok (.aload_n 2, 1) := by decide +kernel
theorem dL_statementCount_1 : decode cL_statementCount 1 = .ok (.iconst 0, 1) := by decide +kernel
theorem dL_statementCount_2 : decode cL_statementCount 2 = .ok (.aload_n 0, 1) := by decide +kernel
theorem dL_statementCount_3 : decode cL_statementCount 3 = .ok (.iload_n 1, 1) := by decide +kernel
theorem dL_statementCount_4 : decode cL_statementCount 4 = .ok (.invokevirtual 34, 3) := by decide +kernel
theorem dL_statementCount_7 : decode cL_statementCount 7 = .ok (.i2l, 1) := by decide +kernel
theorem dL_statementCount_8 : decode cL_statementCount 8 = .ok (.lastore, 1) := by decide +kernel
theorem dL_statementCount_9 : decode cL_statementCount 9 = .ok (.goto 6, 3) := by decide +kernel
theorem dL_statementCount_12 : decode cL_statementCount 12 = .ok (.astore_n 3, 1) := by decide +kernel
theorem dL_statementCount_13 : decode cL_statementCount 13 = .ok (.iconst 1, 1) := by decide +kernel
theorem dL_statementCount_14 : decode cL_statementCount 14 = .ok (.ireturn, 1) := by decide +kernel
theorem dL_statementCount_15 : decode cL_statementCount 15 = .ok (.iconst 0, 1) := by decide +kernel
theorem dL_statementCount_16 : decode cL_statementCount 16 = .ok (.ireturn, 1) := by decide +kernel
theorem dL_referenceCount_0 : decode cL_referenceCount 0 = .ok (.aload_n 2, 1) := by decide +kernel
theorem dL_referenceCount_1 : decode cL_referenceCount 1 = .ok (.iconst 0, 1) := by decide +kernel
theorem dL_referenceCount_2 : decode cL_referenceCount 2 = .ok (.aload_n 0, 1) := by decide +kernel
theorem dL_referenceCount_3 : decode cL_referenceCount 3 = .ok (.iload_n 1, 1) := by decide +kernel
theorem dL_referenceCount_4 : decode cL_referenceCount 4 = .ok (.invokevirtual 37, 3) := by decide +kernel
theorem dL_referenceCount_7 : decode cL_referenceCount 7 = .ok (.i2l, 1) := by decide +kernel
theorem dL_referenceCount_8 : decode cL_referenceCount 8 = .ok (.lastore, 1) := by decide +kernel
theorem dL_referenceCount_9 : decode cL_referenceCount 9 = .ok (.goto 6, 3) := by decide +kernel
theorem dL_referenceCount_12 : decode cL_referenceCount 12 = .ok (.astore_n 3, 1) := by decide +kernel
theorem dL_referenceCount_13 : decode cL_referenceCount 13 = .ok (.iconst 1, 1) := by decide +kernel
theorem dL_referenceCount_14 : decode cL_referenceCount 14 = .ok (.ireturn, 1) := by decide +kernel
theorem dL_referenceCount_15 : decode cL_referenceCount 15 = .ok (.iconst 0, 1) := by decide +kernel
theorem dL_referenceCount_16 : decode cL_referenceCount 16 = .ok (.ireturn, 1) := by decide +kernel
theorem dL_reference_0 : decode cL_reference 0 = .ok (.aload 4, 2) := by decide +kernel
theorem dL_reference_2 : decode cL_reference 2 = .ok (.iconst 0, 1) := by decide +kernel
theorem dL_reference_3 : decode cL_reference 3 = .ok (.aload_n 0, 1) := by decide +kernel
theorem dL_reference_4 : decode cL_reference 4 = .ok (.iload_n 1, 1) := by decide +kernel
theorem dL_reference_5 : decode cL_reference 5 = .ok (.iload_n 2, 1) := by decide +kernel
theorem dL_reference_6 : decode cL_reference 6 = .ok (.iload_n 3, 1) := by decide +kernel
theorem dL_reference_7 : decode cL_reference 7 = .ok (.invokevirtual 40, 3) := by decide +kernel
theorem dL_reference_10 : decode cL_reference 10 = .ok (.i2l, 1) := by decide +kernel
theorem dL_reference_11 : decode cL_reference 11 = .ok (.lastore, 1) := by decide +kernel
theorem dL_reference_12 : decode cL_reference 12 = .ok (.goto 11, 3) := by decide +kernel
theorem dL_reference_15 : decode cL_reference 15 = .ok (.astore 5, 2) := by decide +kernel
theorem dL_reference_17 : decode cL_reference 17 = .ok (.iconst 1, 1) := by decide +kernel
theorem dL_reference_18 : decode cL_reference 18 = .ok (.ireturn, 1) := by decide +kernel
theorem dL_reference_19 : decode cL_reference 19 = .ok (.astore 5, 2) := by decide +kernel
theorem dL_reference_21 : decode cL_reference 21 = .ok (.iconst 2, 1) := by decide +kernel
theorem dL_reference_22 : decode cL_reference 22 = .ok (.ireturn, 1) := by decide +kernel
theorem dL_reference_23 : decode cL_reference 23 = .ok (.iconst 0, 1) := by decide +kernel
theorem dL_reference_24 : decode cL_reference 24 = .ok (.ireturn, 1) := by decide +kernel
theorem dL_operators_0 : decode cL_operators 0 = .ok (.aload 4, 2) := by decide +kernel
theorem dL_operators_2 : decode cL_operators 2 = .ok (.iconst 0, 1) := by decide +kernel
theorem dL_operators_3 : decode cL_operators 3 = .ok (.aload_n 0, 1) := by decide +kernel
theorem dL_operators_4 : decode cL_operators 4 = .ok (.iload_n 1, 1) := by decide +kernel
theorem dL_operators_5 : decode cL_operators 5 = .ok (.iload_n 2, 1) := by decide +kernel
theorem dL_operators_6 : decode cL_operators 6 = .ok (.iload_n 3, 1) := by decide +kernel
theorem dL_operators_7 : decode cL_operators 7 = .ok (.invokevirtual 43, 3) := by decide +kernel
theorem dL_operators_10 : decode cL_operators 10 = .ok (.i2l, 1) := by decide +kernel
theorem dL_operators_11 : decode cL_operators 11 = .ok (.lastore, 1) := by decide +kernel
theorem dL_operators_12 : decode cL_operators 12 = .ok (.goto 11, 3) := by decide +kernel
theorem dL_operators_15 : decode cL_operators 15 = .ok (.astore 5, 2) := by decide +kernel
theorem dL_operators_17 : decode cL_operators 17 = .ok (.iconst 1, 1) := by decide +kernel
theorem dL_operators_18 : decode cL_operators 18 = .ok (.ireturn, 1) := by decide +kernel
theorem dL_operators_19 : decode cL_operators 19 = .ok (.astore 5, 2) := by decide +kernel
theorem dL_operators_21 : decode cL_operators 21 = .ok (.iconst 2, 1) := by decide +kernel
theorem dL_operators_22 : decode cL_operators 22 = .ok (.ireturn, 1) := by decide +kernel
theorem dL_operators_23 : decode cL_operators 23 = .ok (.iconst 0, 1) := by decide +kernel
theorem dL_operators_24 : decode cL_operators 24 = .ok (.ireturn, 1) := by decide +kernel
theorem dL_height_0 : decode cL_height 0 = .ok (.aload_n 3, 1) := by decide +kernel
theorem dL_height_1 : decode cL_height 1 = .ok (.iconst 0, 1) := by decide +kernel
theorem dL_height_2 : decode cL_height 2 = .ok (.aload_n 0, 1) := by decide +kernel
theorem dL_height_3 : decode cL_height 3 = .ok (.iload_n 1, 1) := by decide +kernel
theorem dL_height_4 : decode cL_height 4 = .ok (.iload_n 2, 1) := by decide +kernel
theorem dL_height_5 : decode cL_height 5 = .ok (.invokevirtual 46, 3) := by decide +kernel
theorem dL_height_8 : decode cL_height 8 = .ok (.i2l, 1) := by decide +kernel
theorem dL_height_9 : decode cL_height 9 = .ok (.lastore, 1) := by decide +kernel
theorem dL_height_10 : decode cL_height 10 = .ok (.goto 7, 3) := by decide +kernel
theorem dL_height_13 : decode cL_height 13 = .ok (.astore 4, 2) := by decide +kernel
theorem dL_height_15 : decode cL_height 15 = .ok (.iconst 1, 1) := by decide +kernel
theorem dL_height_16 : decode cL_height 16 = .ok (.ireturn, 1) := by decide +kernel
theorem dL_height_17 : decode cL_height 17 = .ok (.iconst 0, 1) := by decide +kernel
theorem dL_height_18 : decode cL_height 18 = .ok (.ireturn, 1) := by decide +kernel
theorem dL_value_0 : decode cL_value 0 = .ok (.aload 4, 2) := by decide +kernel
theorem dL_value_2 : decode cL_value 2 = .ok (.iconst 0, 1) := by decide +kernel
theorem dL_value_3 : decode cL_value 3 = .ok (.aload_n 0, 1) := by decide +kernel
theorem dL_value_4 : decode cL_value 4 = .ok (.iload_n 1, 1) := by decide +kernel
theorem dL_value_5 : decode cL_value 5 = .ok (.iload_n 2, 1) := by decide +kernel
theorem dL_value_6 : decode cL_value 6 = .ok (.iload_n 3, 1) := by decide +kernel
theorem dL_value_7 : decode cL_value 7 = .ok (.invokevirtual 49, 3) := by decide +kernel
theorem dL_value_10 : decode cL_value 10 = .ok (.i2l, 1) := by decide +kernel
theorem dL_value_11 : decode cL_value 11 = .ok (.lastore, 1) := by decide +kernel
theorem dL_value_12 : decode cL_value 12 = .ok (.goto 11, 3) := by decide +kernel
theorem dL_value_15 : decode cL_value 15 = .ok (.astore 5, 2) := by decide +kernel
theorem dL_value_17 : decode cL_value 17 = .ok (.iconst 1, 1) := by decide +kernel
theorem dL_value_18 : decode cL_value 18 = .ok (.ireturn, 1) := by decide +kernel
theorem dL_value_19 : decode cL_value 19 = .ok (.astore 5, 2) := by decide +kernel
theorem dL_value_21 : decode cL_value 21 = .ok (.iconst 2, 1) := by decide +kernel
theorem dL_value_22 : decode cL_value 22 = .ok (.ireturn, 1) := by decide +kernel
theorem dL_value_23 : decode cL_value 23 = .ok (.iconst 0, 1) := by decide +kernel
theorem dL_value_24 : decode cL_value 24 = .ok (.ireturn, 1) := by decide +kernel
theorem dL_setOption_0 : decode cL_setOption 0 = .ok (.aload_n 3, 1) := by decide +kernel
theorem dL_setOption_1 : decode cL_setOption 1 = .ok (.iconst 0, 1) := by decide +kernel
theorem dL_setOption_2 : decode cL_setOption 2 = .ok (.aload_n 0, 1) := by decide +kernel
theorem dL_setOption_3 : decode cL_setOption 3 = .ok (.iload_n 1, 1) := by decide +kernel
theorem dL_setOption_4 : decode cL_setOption 4 = .ok (.iload_n 2, 1) := by decide +kernel
theorem dL_setOption_5 : decode cL_setOption 5 = .ok (.invokevirtual 52, 3) := by decide +kernel
theorem dL_setOption_8 : decode cL_setOption 8 = .ok (.i2l, 1) := by decide +kernel
theorem dL_setOption_9 : decode cL_setOption 9 = .ok (.lastore, 1) := by decide +kernel
theorem dL_setOption_10 : decode cL_setOption 10 = .ok (.goto 11, 3) := by decide +kernel
theorem dL_setOption_13 : decode cL_setOption 13 = .ok (.astore 4, 2) := by decide +kernel
theorem dL_setOption_15 : decode cL_setOption 15 = .ok (.iconst 1, 1) := by decide +kernel
theorem dL_setOption_16 : decode cL_setOption 16 = .ok (.ireturn, 1) := by decide +kernel
theorem dL_setOption_17 : decode cL_setOption 17 = .ok (.astore 4, 2) := by decide +kernel
theorem dL_setOption_19 : decode cL_setOption 19 = .ok (.iconst 2, 1) := by decide +kernel
theorem dL_setOption_20 : decode cL_setOption 20 = .ok (.ireturn, 1) := by decide +kernel
theorem dL_setOption_21 : decode cL_setOption 21 = .ok (.iconst 0, 1) := by decide +kernel
theorem dL_setOption_22 : decode cL_setOption 22 = .ok (.ireturn, 1) := by decide +kernel
theorem dL_setBarrier_0 : decode cL_setBarrier 0 = .ok (.aload_n 3, 1) := by decide +kernel
theorem dL_setBarrier_1 : decode cL_setBarrier 1 = .ok (.iconst 0, 1) := by decide +kernel
theorem dL_setBarrier_2 : decode cL_setBarrier 2 = .ok (.aload_n 0, 1) := by decide +kernel
theorem dL_setBarrier_3 : decode cL_setBarrier 3 = .ok (.iload_n 1, 1) := by decide +kernel
theorem dL_setBarrier_4 : decode cL_setBarrier 4 = .ok (.iload_n 2, 1) := by decide +kernel
theorem dL_setBarrier_5 : decode cL_setBarrier 5 = .ok (.invokevirtual 55, 3) := by decide +kernel
theorem dL_setBarrier_8 : decode cL_setBarrier 8 = .ok (.ifCond .eq 7, 3) := by decide +kernel
theorem dL_setBarrier_11 : decode cL_setBarrier 11 = .ok (.lconst 1, 1) := by decide +kernel
theorem dL_setBarrier_12 : decode cL_setBarrier 12 = .ok (.goto 4, 3) := by decide +kernel
theorem dL_setBarrier_15 : decode cL_setBarrier 15 = .ok (.lconst 0, 1) := by decide +kernel
theorem dL_setBarrier_16 : decode cL_setBarrier 16 = .ok (.lastore, 1) := by decide +kernel
theorem dL_setBarrier_17 : decode cL_setBarrier 17 = .ok (.goto 7, 3) := by decide +kernel
theorem dL_setBarrier_20 : decode cL_setBarrier 20 = .ok (.astore 4, 2) := by decide +kernel
theorem dL_setBarrier_22 : decode cL_setBarrier 22 = .ok (.iconst 1, 1) := by decide +kernel
theorem dL_setBarrier_23 : decode cL_setBarrier 23 = .ok (.ireturn, 1) := by decide +kernel
theorem dL_setBarrier_24 : decode cL_setBarrier 24 = .ok (.iconst 0, 1) := by decide +kernel
theorem dL_setBarrier_25 : decode cL_setBarrier 25 = .ok (.ireturn, 1) := by decide +kernel
theorem dL_dependenceCount_0 : decode cL_dependenceCount 0 = .ok (.aload_n 3, 1) := by decide +kernel
theorem dL_dependenceCount_1 : decode cL_dependenceCount 1 = .ok (.iconst 0, 1) := by decide +kernel
theorem dL_dependenceCount_2 : decode cL_dependenceCount 2 = .ok (.aload_n 0, 1) := by decide +kernel
theorem dL_dependenceCount_3 : decode cL_dependenceCount 3 = .ok (.iload_n 1, 1) := by decide +kernel
theorem dL_dependenceCount_4 : decode cL_dependenceCount 4 = .ok (.iload_n 2, 1) := by decide +kernel
theorem dL_dependenceCount_5 : decode cL_dependenceCount 5 = .ok (.invokevirtual 59, 3) := by decide +kernel
theorem dL_dependenceCount_8 : decode cL_dependenceCount 8 = .ok (.i2l, 1) := by decide +kernel
theorem dL_dependenceCount_9 : decode cL_dependenceCount 9 = .ok (.lastore, 1) := by decide +kernel
theorem dL_dependenceCount_10 : decode cL_dependenceCount 10 = .ok (.goto 11, 3) := by decide +kernel
theorem dL_dependenceCount_13 : decode cL_dependenceCount 13 = .ok (.astore 4, 2) := by decide +kernel
theorem dL_dependenceCount_15 : decode cL_dependenceCount 15 = .ok (.iconst 1, 1) := by decide +kernel
theorem dL_dependenceCount_16 : decode cL_dependenceCount 16 = .ok (.ireturn, 1) := by decide +kernel
theorem dL_dependenceCount_17 : decode cL_dependenceCount 17 = .ok (.astore 4, 2) := by decide +kernel
theorem dL_dependenceCount_19 : decode cL_dependenceCount 19 = .ok (.iconst 2, 1) := by decide +kernel
theorem dL_dependenceCount_20 : decode cL_dependenceCount 20 = .ok (.ireturn, 1) := by decide +kernel
theorem dL_dependenceCount_21 : decode cL_dependenceCount 21 = .ok (.iconst 0, 1) := by decide +kernel
theorem dL_dependenceCount_22 : decode cL_dependenceCount 22 = .ok (.ireturn, 1) := by decide +kernel
theorem dL_dependence_0 : decode cL_dependence 0 = .ok (.aload 5, 2) := by decide +kernel
theorem dL_dependence_2 : decode cL_dependence 2 = .ok (.iconst 0, 1) := by decide +kernel
theorem dL_dependence_3 : decode cL_dependence 3 = .ok (.aload_n 0, 1) := by decide +kernel
theorem dL_dependence_4 : decode cL_dependence 4 = .ok (.iload_n 1, 1) := by decide +kernel
theorem dL_dependence_5 : decode cL_dependence 5 = .ok (.iload_n 2, 1) := by decide +kernel
theorem dL_dependence_6 : decode cL_dependence 6 = .ok (.iload_n 3, 1) := by decide +kernel
theorem dL_dependence_7 : decode cL_dependence 7 = .ok (.iload 4, 2) := by decide +kernel
theorem dL_dependence_9 : decode cL_dependence 9 = .ok (.invokevirtual 62, 3) := by decide +kernel
theorem dL_dependence_12 : decode cL_dependence 12 = .ok (.i2l, 1) := by decide +kernel
theorem dL_dependence_13 : decode cL_dependence 13 = .ok (.lastore, 1) := by decide +kernel
theorem dL_dependence_14 : decode cL_dependence 14 = .ok (.goto 15, 3) := by decide +kernel
theorem dL_dependence_17 : decode cL_dependence 17 = .ok (.astore 6, 2) := by decide +kernel
theorem dL_dependence_19 : decode cL_dependence 19 = .ok (.iconst 1, 1) := by decide +kernel
theorem dL_dependence_20 : decode cL_dependence 20 = .ok (.ireturn, 1) := by decide +kernel
theorem dL_dependence_21 : decode cL_dependence 21 = .ok (.astore 6, 2) := by decide +kernel
theorem dL_dependence_23 : decode cL_dependence 23 = .ok (.iconst 2, 1) := by decide +kernel
theorem dL_dependence_24 : decode cL_dependence 24 = .ok (.ireturn, 1) := by decide +kernel
theorem dL_dependence_25 : decode cL_dependence 25 = .ok (.astore 6, 2) := by decide +kernel
theorem dL_dependence_27 : decode cL_dependence 27 = .ok (.iconst 3, 1) := by decide +kernel
theorem dL_dependence_28 : decode cL_dependence 28 = .ok (.ireturn, 1) := by decide +kernel
theorem dL_dependence_29 : decode cL_dependence 29 = .ok (.iconst 0, 1) := by decide +kernel
theorem dL_dependence_30 : decode cL_dependence 30 = .ok (.ireturn, 1) := by decide +kernel
theorem dL_required_0 : decode cL_required 0 = .ok (.aload_n 3, 1) := by decide +kernel
theorem dL_required_1 : decode cL_required 1 = .ok (.iconst 0, 1) := by decide +kernel
theorem dL_required_2 : decode cL_required 2 = .ok (.aload_n 0, 1) := by decide +kernel
theorem dL_required_3 : decode cL_required 3 = .ok (.iload_n 1, 1) := by decide +kernel
theorem dL_required_4 : decode cL_required 4 = .ok (.iload_n 2, 1) := by decide +kernel
theorem dL_required_5 : decode cL_required 5 = .ok (.invokevirtual 68, 3) := by decide +kernel
theorem dL_required_8 : decode cL_required 8 = .ok (.i2l, 1) := by decide +kernel
theorem dL_required_9 : decode cL_required 9 = .ok (.lastore, 1) := by decide +kernel
theorem dL_required_10 : decode cL_required 10 = .ok (.goto 15, 3) := by decide +kernel
theorem dL_required_13 : decode cL_required 13 = .ok (.astore 4, 2) := by decide +kernel
theorem dL_required_15 : decode cL_required 15 = .ok (.iconst 1, 1) := by decide +kernel
theorem dL_required_16 : decode cL_required 16 = .ok (.ireturn, 1) := by decide +kernel
theorem dL_required_17 : decode cL_required 17 = .ok (.astore 4, 2) := by decide +kernel
theorem dL_required_19 : decode cL_required 19 = .ok (.iconst 2, 1) := by decide +kernel
theorem dL_required_20 : decode cL_required 20 = .ok (.ireturn, 1) := by decide +kernel
theorem dL_required_21 : decode cL_required 21 = .ok (.astore 4, 2) := by decide +kernel
theorem dL_required_23 : decode cL_required 23 = .ok (.iconst 3, 1) := by decide +kernel
theorem dL_required_24 : decode cL_required 24 = .ok (.ireturn, 1) := by decide +kernel
theorem dL_required_25 : decode cL_required 25 = .ok (.iconst 0, 1) := by decide +kernel
theorem dL_required_26 : decode cL_required 26 = .ok (.ireturn, 1) := by decide +kernel
theorem dL_isAllowed_0 : decode cL_isAllowed 0 = .ok (.aload_n 3, 1) := by decide +kernel
theorem dL_isAllowed_1 : decode cL_isAllowed 1 = .ok (.iconst 0, 1) := by decide +kernel
theorem dL_isAllowed_2 : decode cL_isAllowed 2 = .ok (.aload_n 0, 1) := by decide +kernel
theorem dL_isAllowed_3 : decode cL_isAllowed 3 = .ok (.iload_n 1, 1) := by decide +kernel
theorem dL_isAllowed_4 : decode cL_isAllowed 4 = .ok (.iload_n 2, 1) := by decide +kernel
theorem dL_isAllowed_5 : decode cL_isAllowed 5 = .ok (.invokevirtual 71, 3) := by decide +kernel
theorem dL_isAllowed_8 : decode cL_isAllowed 8 = .ok (.ifCond .eq 7, 3) := by decide +kernel
theorem dL_isAllowed_11 : decode cL_isAllowed 11 = .ok (.lconst 1, 1) := by decide +kernel
theorem dL_isAllowed_12 : decode cL_isAllowed 12 = .ok (.goto 4, 3) := by decide +kernel
theorem dL_isAllowed_15 : decode cL_isAllowed 15 = .ok (.lconst 0, 1) := by decide +kernel
theorem dL_isAllowed_16 : decode cL_isAllowed 16 = .ok (.lastore, 1) := by decide +kernel
theorem dL_isAllowed_17 : decode cL_isAllowed 17 = .ok (.goto 11, 3) := by decide +kernel
theorem dL_isAllowed_20 : decode cL_isAllowed 20 = .ok (.astore 4, 2) := by decide +kernel
theorem dL_isAllowed_22 : decode cL_isAllowed 22 = .ok (.iconst 1, 1) := by decide +kernel
theorem dL_isAllowed_23 : decode cL_isAllowed 23 = .ok (.ireturn, 1) := by decide +kernel
theorem dL_isAllowed_24 : decode cL_isAllowed 24 = .ok (.astore 4, 2) := by decide +kernel
theorem dL_isAllowed_26 : decode cL_isAllowed 26 = .ok (.iconst 2, 1) := by decide +kernel
theorem dL_isAllowed_27 : decode cL_isAllowed 27 = .ok (.ireturn, 1) := by decide +kernel
theorem dL_isAllowed_28 : decode cL_isAllowed 28 = .ok (.iconst 0, 1) := by decide +kernel
theorem dL_isAllowed_29 : decode cL_isAllowed 29 = .ok (.ireturn, 1) := by decide +kernel
theorem dL_groupCount_0 : decode cL_groupCount 0 = .ok (.aload_n 2, 1) := by decide +kernel
theorem dL_groupCount_1 : decode cL_groupCount 1 = .ok (.iconst 0, 1) := by decide +kernel
theorem dL_groupCount_2 : decode cL_groupCount 2 = .ok (.aload_n 0, 1) := by decide +kernel
theorem dL_groupCount_3 : decode cL_groupCount 3 = .ok (.iload_n 1, 1) := by decide +kernel
theorem dL_groupCount_4 : decode cL_groupCount 4 = .ok (.invokevirtual 75, 3) := by decide +kernel
theorem dL_groupCount_7 : decode cL_groupCount 7 = .ok (.i2l, 1) := by decide +kernel
theorem dL_groupCount_8 : decode cL_groupCount 8 = .ok (.lastore, 1) := by decide +kernel
theorem dL_groupCount_9 : decode cL_groupCount 9 = .ok (.goto 6, 3) := by decide +kernel
theorem dL_groupCount_12 : decode cL_groupCount 12 = .ok (.astore_n 3, 1) := by decide +kernel
theorem dL_groupCount_13 : decode cL_groupCount 13 = .ok (.iconst 1, 1) := by decide +kernel
theorem dL_groupCount_14 : decode cL_groupCount 14 = .ok (.ireturn, 1) := by decide +kernel
theorem dL_groupCount_15 : decode cL_groupCount 15 = .ok (.iconst 0, 1) := by decide +kernel
theorem dL_groupCount_16 : decode cL_groupCount 16 = .ok (.ireturn, 1) := by decide +kernel
theorem dL_groupOf_0 : decode cL_groupOf 0 = .ok (.aload_n 3, 1) := by decide +kernel
theorem dL_groupOf_1 : decode cL_groupOf 1 = .ok (.iconst 0, 1) := by decide +kernel
theorem dL_groupOf_2 : decode cL_groupOf 2 = .ok (.aload_n 0, 1) := by decide +kernel
theorem dL_groupOf_3 : decode cL_groupOf 3 = .ok (.iload_n 1, 1) := by decide +kernel
theorem dL_groupOf_4 : decode cL_groupOf 4 = .ok (.iload_n 2, 1) := by decide +kernel
theorem dL_groupOf_5 : decode cL_groupOf 5 = .ok (.invokevirtual 78, 3) := by decide +kernel
theorem dL_groupOf_8 : decode cL_groupOf 8 = .ok (.i2l, 1) := by decide +kernel
theorem dL_groupOf_9 : decode cL_groupOf 9 = .ok (.lastore, 1) := by decide +kernel
theorem dL_groupOf_10 : decode cL_groupOf 10 = .ok (.goto 11, 3) := by decide +kernel
theorem dL_groupOf_13 : decode cL_groupOf 13 = .ok (.astore 4, 2) := by decide +kernel
theorem dL_groupOf_15 : decode cL_groupOf 15 = .ok (.iconst 1, 1) := by decide +kernel
theorem dL_groupOf_16 : decode cL_groupOf 16 = .ok (.ireturn, 1) := by decide +kernel
theorem dL_groupOf_17 : decode cL_groupOf 17 = .ok (.astore 4, 2) := by decide +kernel
theorem dL_groupOf_19 : decode cL_groupOf 19 = .ok (.iconst 2, 1) := by decide +kernel
theorem dL_groupOf_20 : decode cL_groupOf 20 = .ok (.ireturn, 1) := by decide +kernel
theorem dL_groupOf_21 : decode cL_groupOf 21 = .ok (.iconst 0, 1) := by decide +kernel
theorem dL_groupOf_22 : decode cL_groupOf 22 = .ok (.ireturn, 1) := by decide +kernel
theorem dL_shift_0 : decode cL_shift 0 = .ok (.aload_n 3, 1) := by decide +kernel
theorem dL_shift_1 : decode cL_shift 1 = .ok (.iconst 0, 1) := by decide +kernel
theorem dL_shift_2 : decode cL_shift 2 = .ok (.aload_n 0, 1) := by decide +kernel
theorem dL_shift_3 : decode cL_shift 3 = .ok (.iload_n 1, 1) := by decide +kernel
theorem dL_shift_4 : decode cL_shift 4 = .ok (.iload_n 2, 1) := by decide +kernel
theorem dL_shift_5 : decode cL_shift 5 = .ok (.invokevirtual 81, 3) := by decide +kernel
theorem dL_shift_8 : decode cL_shift 8 = .ok (.i2l, 1) := by decide +kernel
theorem dL_shift_9 : decode cL_shift 9 = .ok (.lastore, 1) := by decide +kernel
theorem dL_shift_10 : decode cL_shift 10 = .ok (.goto 11, 3) := by decide +kernel
theorem dL_shift_13 : decode cL_shift 13 = .ok (.astore 4, 2) := by decide +kernel
theorem dL_shift_15 : decode cL_shift 15 = .ok (.iconst 1, 1) := by decide +kernel
theorem dL_shift_16 : decode cL_shift 16 = .ok (.ireturn, 1) := by decide +kernel
theorem dL_shift_17 : decode cL_shift 17 = .ok (.astore 4, 2) := by decide +kernel
theorem dL_shift_19 : decode cL_shift 19 = .ok (.iconst 2, 1) := by decide +kernel
theorem dL_shift_20 : decode cL_shift 20 = .ok (.ireturn, 1) := by decide +kernel
theorem dL_shift_21 : decode cL_shift 21 = .ok (.iconst 0, 1) := by decide +kernel
theorem dL_shift_22 : decode cL_shift 22 = .ok (.ireturn, 1) := by decide +kernel
theorem dL_step_0 : decode cL_step 0 = .ok (.aload 4, 2) := by decide +kernel
theorem dL_step_2 : decode cL_step 2 = .ok (.iconst 0, 1) := by decide +kernel
theorem dL_step_3 : decode cL_step 3 = .ok (.aload_n 0, 1) := by decide +kernel
theorem dL_step_4 : decode cL_step 4 = .ok (.iload_n 1, 1) := by decide +kernel
theorem dL_step_5 : decode cL_step 5 = .ok (.iload_n 2, 1) := by decide +kernel
theorem dL_step_6 : decode cL_step 6 = .ok (.iload_n 3, 1) := by decide +kernel
theorem dL_step_7 : decode cL_step 7 = .ok (.invokevirtual 84, 3) := by decide +kernel
theorem dL_step_10 : decode cL_step 10 = .ok (.i2l, 1) := by decide +kernel
theorem dL_step_11 : decode cL_step 11 = .ok (.lastore, 1) := by decide +kernel
theorem dL_step_12 : decode cL_step 12 = .ok (.goto 15, 3) := by decide +kernel
theorem dL_step_15 : decode cL_step 15 = .ok (.astore 5, 2) := by decide +kernel
theorem dL_step_17 : decode cL_step 17 = .ok (.iconst 1, 1) := by decide +kernel
theorem dL_step_18 : decode cL_step 18 = .ok (.ireturn, 1) := by decide +kernel
theorem dL_step_19 : decode cL_step 19 = .ok (.astore 5, 2) := by decide +kernel
theorem dL_step_21 : decode cL_step 21 = .ok (.iconst 2, 1) := by decide +kernel
theorem dL_step_22 : decode cL_step 22 = .ok (.ireturn, 1) := by decide +kernel
theorem dL_step_23 : decode cL_step 23 = .ok (.astore 5, 2) := by decide +kernel
theorem dL_step_25 : decode cL_step 25 = .ok (.iconst 3, 1) := by decide +kernel
theorem dL_step_26 : decode cL_step 26 = .ok (.ireturn, 1) := by decide +kernel
theorem dL_step_27 : decode cL_step 27 = .ok (.iconst 0, 1) := by decide +kernel
theorem dL_step_28 : decode cL_step 28 = .ok (.ireturn, 1) := by decide +kernel
theorem dL_peeled_0 : decode cL_peeled 0 = .ok (.aload 4, 2) := by decide +kernel
theorem dL_peeled_2 : decode cL_peeled 2 = .ok (.iconst 0, 1) := by decide +kernel
theorem dL_peeled_3 : decode cL_peeled 3 = .ok (.aload_n 0, 1) := by decide +kernel
theorem dL_peeled_4 : decode cL_peeled 4 = .ok (.iload_n 1, 1) := by decide +kernel
theorem dL_peeled_5 : decode cL_peeled 5 = .ok (.iload_n 2, 1) := by decide +kernel
theorem dL_peeled_6 : decode cL_peeled 6 = .ok (.iload_n 3, 1) := by decide +kernel
theorem dL_peeled_7 : decode cL_peeled 7 = .ok (.invokevirtual 87, 3) := by decide +kernel
theorem dL_peeled_10 : decode cL_peeled 10 = .ok (.i2l, 1) := by decide +kernel
theorem dL_peeled_11 : decode cL_peeled 11 = .ok (.lastore, 1) := by decide +kernel
theorem dL_peeled_12 : decode cL_peeled 12 = .ok (.goto 11, 3) := by decide +kernel
theorem dL_peeled_15 : decode cL_peeled 15 = .ok (.astore 5, 2) := by decide +kernel
theorem dL_peeled_17 : decode cL_peeled 17 = .ok (.iconst 1, 1) := by decide +kernel
theorem dL_peeled_18 : decode cL_peeled 18 = .ok (.ireturn, 1) := by decide +kernel
theorem dL_peeled_19 : decode cL_peeled 19 = .ok (.astore 5, 2) := by decide +kernel
theorem dL_peeled_21 : decode cL_peeled 21 = .ok (.iconst 2, 1) := by decide +kernel
theorem dL_peeled_22 : decode cL_peeled 22 = .ok (.ireturn, 1) := by decide +kernel
theorem dL_peeled_23 : decode cL_peeled 23 = .ok (.iconst 0, 1) := by decide +kernel
theorem dL_peeled_24 : decode cL_peeled 24 = .ok (.ireturn, 1) := by decide +kernel
theorem dL_carried_0 : decode cL_carried 0 = .ok (.aload_n 3, 1) := by decide +kernel
theorem dL_carried_1 : decode cL_carried 1 = .ok (.iconst 0, 1) := by decide +kernel
theorem dL_carried_2 : decode cL_carried 2 = .ok (.aload_n 0, 1) := by decide +kernel
theorem dL_carried_3 : decode cL_carried 3 = .ok (.iload_n 1, 1) := by decide +kernel
theorem dL_carried_4 : decode cL_carried 4 = .ok (.iload_n 2, 1) := by decide +kernel
theorem dL_carried_5 : decode cL_carried 5 = .ok (.invokevirtual 90, 3) := by decide +kernel
theorem dL_carried_8 : decode cL_carried 8 = .ok (.i2l, 1) := by decide +kernel
theorem dL_carried_9 : decode cL_carried 9 = .ok (.lastore, 1) := by decide +kernel
theorem dL_carried_10 : decode cL_carried 10 = .ok (.goto 11, 3) := by decide +kernel
theorem dL_carried_13 : decode cL_carried 13 = .ok (.astore 4, 2) := by decide +kernel
theorem dL_carried_15 : decode cL_carried 15 = .ok (.iconst 1, 1) := by decide +kernel
theorem dL_carried_16 : decode cL_carried 16 = .ok (.ireturn, 1) := by decide +kernel
theorem dL_carried_17 : decode cL_carried 17 = .ok (.astore 4, 2) := by decide +kernel
theorem dL_carried_19 : decode cL_carried 19 = .ok (.iconst 2, 1) := by decide +kernel
theorem dL_carried_20 : decode cL_carried 20 = .ok (.ireturn, 1) := by decide +kernel
theorem dL_carried_21 : decode cL_carried 21 = .ok (.iconst 0, 1) := by decide +kernel
theorem dL_carried_22 : decode cL_carried 22 = .ok (.ireturn, 1) := by decide +kernel
theorem dL_reads_0 : decode cL_reads 0 = .ok (.aload_n 3, 1) := by decide +kernel
theorem dL_reads_1 : decode cL_reads 1 = .ok (.iconst 0, 1) := by decide +kernel
theorem dL_reads_2 : decode cL_reads 2 = .ok (.aload_n 0, 1) := by decide +kernel
theorem dL_reads_3 : decode cL_reads 3 = .ok (.iload_n 1, 1) := by decide +kernel
theorem dL_reads_4 : decode cL_reads 4 = .ok (.iload_n 2, 1) := by decide +kernel
theorem dL_reads_5 : decode cL_reads 5 = .ok (.invokevirtual 93, 3) := by decide +kernel
theorem dL_reads_8 : decode cL_reads 8 = .ok (.i2l, 1) := by decide +kernel
theorem dL_reads_9 : decode cL_reads 9 = .ok (.lastore, 1) := by decide +kernel
theorem dL_reads_10 : decode cL_reads 10 = .ok (.goto 7, 3) := by decide +kernel
theorem dL_reads_13 : decode cL_reads 13 = .ok (.astore 4, 2) := by decide +kernel
theorem dL_reads_15 : decode cL_reads 15 = .ok (.iconst 1, 1) := by decide +kernel
theorem dL_reads_16 : decode cL_reads 16 = .ok (.ireturn, 1) := by decide +kernel
theorem dL_reads_17 : decode cL_reads 17 = .ok (.iconst 0, 1) := by decide +kernel
theorem dL_reads_18 : decode cL_reads 18 = .ok (.ireturn, 1) := by decide +kernel
theorem dL_hits_0 : decode cL_hits 0 = .ok (.aload_n 3, 1) := by decide +kernel
theorem dL_hits_1 : decode cL_hits 1 = .ok (.iconst 0, 1) := by decide +kernel
theorem dL_hits_2 : decode cL_hits 2 = .ok (.aload_n 0, 1) := by decide +kernel
theorem dL_hits_3 : decode cL_hits 3 = .ok (.iload_n 1, 1) := by decide +kernel
theorem dL_hits_4 : decode cL_hits 4 = .ok (.iload_n 2, 1) := by decide +kernel
theorem dL_hits_5 : decode cL_hits 5 = .ok (.invokevirtual 96, 3) := by decide +kernel
theorem dL_hits_8 : decode cL_hits 8 = .ok (.i2l, 1) := by decide +kernel
theorem dL_hits_9 : decode cL_hits 9 = .ok (.lastore, 1) := by decide +kernel
theorem dL_hits_10 : decode cL_hits 10 = .ok (.goto 11, 3) := by decide +kernel
theorem dL_hits_13 : decode cL_hits 13 = .ok (.astore 4, 2) := by decide +kernel
theorem dL_hits_15 : decode cL_hits 15 = .ok (.iconst 1, 1) := by decide +kernel
theorem dL_hits_16 : decode cL_hits 16 = .ok (.ireturn, 1) := by decide +kernel
theorem dL_hits_17 : decode cL_hits 17 = .ok (.astore 4, 2) := by decide +kernel
theorem dL_hits_19 : decode cL_hits 19 = .ok (.iconst 2, 1) := by decide +kernel
theorem dL_hits_20 : decode cL_hits 20 = .ok (.ireturn, 1) := by decide +kernel
theorem dL_hits_21 : decode cL_hits 21 = .ok (.iconst 0, 1) := by decide +kernel
theorem dL_hits_22 : decode cL_hits 22 = .ok (.ireturn, 1) := by decide +kernel
theorem dL_run_0 : decode cL_run 0 = .ok (.aload_n 2, 1) := by decide +kernel
theorem dL_run_1 : decode cL_run 1 = .ok (.iconst 0, 1) := by decide +kernel
theorem dL_run_2 : decode cL_run 2 = .ok (.aload_n 0, 1) := by decide +kernel
theorem dL_run_3 : decode cL_run 3 = .ok (.iload_n 1, 1) := by decide +kernel
theorem dL_run_4 : decode cL_run 4 = .ok (.invokevirtual 99, 3) := by decide +kernel
theorem dL_run_7 : decode cL_run 7 = .ok (.i2l, 1) := by decide +kernel
theorem dL_run_8 : decode cL_run 8 = .ok (.lastore, 1) := by decide +kernel
theorem dL_run_9 : decode cL_run 9 = .ok (.goto 6, 3) := by decide +kernel
theorem dL_run_12 : decode cL_run 12 = .ok (.astore_n 3, 1) := by decide +kernel
theorem dL_run_13 : decode cL_run 13 = .ok (.iconst 1, 1) := by decide +kernel
theorem dL_run_14 : decode cL_run 14 = .ok (.ireturn, 1) := by decide +kernel
theorem dL_run_15 : decode cL_run 15 = .ok (.iconst 0, 1) := by decide +kernel
theorem dL_run_16 : decode cL_run 16 = .ok (.ireturn, 1) := by decide +kernel
theorem dL_cell_0 : decode cL_cell 0 = .ok (.aload 4, 2) := by decide +kernel
theorem dL_cell_2 : decode cL_cell 2 = .ok (.iconst 0, 1) := by decide +kernel
theorem dL_cell_3 : decode cL_cell 3 = .ok (.aload_n 0, 1) := by decide +kernel
theorem dL_cell_4 : decode cL_cell 4 = .ok (.iload_n 1, 1) := by decide +kernel
theorem dL_cell_5 : decode cL_cell 5 = .ok (.iload_n 2, 1) := by decide +kernel
theorem dL_cell_6 : decode cL_cell 6 = .ok (.iload_n 3, 1) := by decide +kernel
theorem dL_cell_7 : decode cL_cell 7 = .ok (.invokevirtual 102, 3) := by decide +kernel
theorem dL_cell_10 : decode cL_cell 10 = .ok (.i2l, 1) := by decide +kernel
theorem dL_cell_11 : decode cL_cell 11 = .ok (.lastore, 1) := by decide +kernel
theorem dL_cell_12 : decode cL_cell 12 = .ok (.goto 11, 3) := by decide +kernel
theorem dL_cell_15 : decode cL_cell 15 = .ok (.astore 5, 2) := by decide +kernel
theorem dL_cell_17 : decode cL_cell 17 = .ok (.iconst 1, 1) := by decide +kernel
theorem dL_cell_18 : decode cL_cell 18 = .ok (.ireturn, 1) := by decide +kernel
theorem dL_cell_19 : decode cL_cell 19 = .ok (.astore 5, 2) := by decide +kernel
theorem dL_cell_21 : decode cL_cell 21 = .ok (.iconst 2, 1) := by decide +kernel
theorem dL_cell_22 : decode cL_cell 22 = .ok (.ireturn, 1) := by decide +kernel
theorem dL_cell_23 : decode cL_cell 23 = .ok (.iconst 0, 1) := by decide +kernel
theorem dL_cell_24 : decode cL_cell 24 = .ok (.ireturn, 1) := by decide +kernel
theorem dL_changed_0 : decode cL_changed 0 = .ok (.aload_n 2, 1) := by decide +kernel
theorem dL_changed_1 : decode cL_changed 1 = .ok (.iconst 0, 1) := by decide +kernel
theorem dL_changed_2 : decode cL_changed 2 = .ok (.aload_n 0, 1) := by decide +kernel
theorem dL_changed_3 : decode cL_changed 3 = .ok (.iload_n 1, 1) := by decide +kernel
theorem dL_changed_4 : decode cL_changed 4 = .ok (.invokevirtual 105, 3) := by decide +kernel
theorem dL_changed_7 : decode cL_changed 7 = .ok (.i2l, 1) := by decide +kernel
theorem dL_changed_8 : decode cL_changed 8 = .ok (.lastore, 1) := by decide +kernel
theorem dL_changed_9 : decode cL_changed 9 = .ok (.goto 6, 3) := by decide +kernel
theorem dL_changed_12 : decode cL_changed 12 = .ok (.astore_n 3, 1) := by decide +kernel
theorem dL_changed_13 : decode cL_changed 13 = .ok (.iconst 1, 1) := by decide +kernel
theorem dL_changed_14 : decode cL_changed 14 = .ok (.ireturn, 1) := by decide +kernel
theorem dL_changed_15 : decode cL_changed 15 = .ok (.iconst 0, 1) := by decide +kernel
theorem dL_changed_16 : decode cL_changed 16 = .ok (.ireturn, 1) := by decide +kernel
theorem dL_restore_0 : decode cL_restore 0 = .ok (.aload_n 0, 1) := by decide +kernel
theorem dL_restore_1 : decode cL_restore 1 = .ok (.invokevirtual 108, 3) := by decide +kernel
theorem dL_restore_4 : decode cL_restore 4 = .ok (.goto 6, 3) := by decide +kernel
theorem dL_restore_7 : decode cL_restore 7 = .ok (.astore_n 1, 1) := by decide +kernel
theorem dL_restore_8 : decode cL_restore 8 = .ok (.iconst 1, 1) := by decide +kernel
theorem dL_restore_9 : decode cL_restore 9 = .ok (.ireturn, 1) := by decide +kernel
theorem dL_restore_10 : decode cL_restore 10 = .ok (.iconst 0, 1) := by decide +kernel
theorem dL_restore_11 : decode cL_restore 11 = .ok (.ireturn, 1) := by decide +kernel
theorem dL_law_0 : decode cL_law 0 = .ok (.new 8, 3) := by decide +kernel
theorem dL_law_3 : decode cL_law 3 = .ok (.dup, 1) := by decide +kernel
theorem dL_law_4 : decode cL_law 4 = .ok (.invokespecial 111, 3) := by decide +kernel
theorem dL_law_7 : decode cL_law 7 = .ok (.astore_n 1, 1) := by decide +kernel
theorem dL_law_8 : decode cL_law 8 = .ok (.new 112, 3) := by decide +kernel
theorem dL_law_11 : decode cL_law 11 = .ok (.dup, 1) := by decide +kernel
theorem dL_law_12 : decode cL_law 12 = .ok (.invokespecial 114, 3) := by decide +kernel
theorem dL_law_15 : decode cL_law 15 = .ok (.astore_n 2, 1) := by decide +kernel
theorem dL_law_16 : decode cL_law 16 = .ok (.iconst 1, 1) := by decide +kernel
theorem dL_law_17 : decode cL_law 17 = .ok (.newarray .long, 2) := by decide +kernel
theorem dL_law_19 : decode cL_law 19 = .ok (.astore_n 3, 1) := by decide +kernel
theorem dL_law_20 : decode cL_law 20 = .ok (.iconst 0, 1) := by decide +kernel
theorem dL_law_21 : decode cL_law 21 = .ok (.istore 4, 2) := by decide +kernel
theorem dL_law_23 : decode cL_law 23 = .ok (.iload 4, 2) := by decide +kernel
theorem dL_law_25 : decode cL_law 25 = .ok (.aload_n 0, 1) := by decide +kernel
theorem dL_law_26 : decode cL_law 26 = .ok (.arraylength, 1) := by decide +kernel
theorem dL_law_27 : decode cL_law 27 = .ok (.iconst 5, 1) := by decide +kernel
theorem dL_law_28 : decode cL_law 28 = .ok (.isub, 1) := by decide +kernel
theorem dL_law_29 : decode cL_law 29 = .ok (.if_icmp .gt 2152, 3) := by decide +kernel
theorem dL_law_32 : decode cL_law 32 = .ok (.aload_n 0, 1) := by decide +kernel
theorem dL_law_33 : decode cL_law 33 = .ok (.iload 4, 2) := by decide +kernel
theorem dL_law_35 : decode cL_law 35 = .ok (.iaload, 1) := by decide +kernel
theorem dL_law_36 : decode cL_law 36 = .ok (.bipush 31, 2) := by decide +kernel
theorem dL_law_38 : decode cL_law 38 = .ok (.iand, 1) := by decide +kernel
theorem dL_law_39 : decode cL_law 39 = .ok (.tableswitch 2136 0 31 #[141, 197, 241, 254, 310, 323, 391, 471, 527, 583, 663, 743, 811, 891, 959, 1050, 1118, 1210, 1278, 1353, 1409, 1477, 1545, 1625, 1705, 1773, 1841, 1909, 1965, 2045, 2101, 2112], 141) := by decide +kernel
theorem dL_law_180 : decode cL_law 180 = .ok (.aload_n 1, 1) := by decide +kernel
theorem dL_law_181 : decode cL_law 181 = .ok (.aload_n 0, 1) := by decide +kernel
theorem dL_law_182 : decode cL_law 182 = .ok (.iload 4, 2) := by decide +kernel
theorem dL_law_184 : decode cL_law 184 = .ok (.iconst 1, 1) := by decide +kernel
theorem dL_law_185 : decode cL_law 185 = .ok (.iadd, 1) := by decide +kernel
theorem dL_law_186 : decode cL_law 186 = .ok (.iaload, 1) := by decide +kernel
theorem dL_law_187 : decode cL_law 187 = .ok (.aload_n 3, 1) := by decide +kernel
theorem dL_law_188 : decode cL_law 188 = .ok (.invokestatic 115, 3) := by decide +kernel
theorem dL_law_191 : decode cL_law 191 = .ok (.istore 5, 2) := by decide +kernel
theorem dL_law_193 : decode cL_law 193 = .ok (.aload_n 2, 1) := by decide +kernel
theorem dL_law_194 : decode cL_law 194 = .ok (.aload_n 0, 1) := by decide +kernel
theorem dL_law_195 : decode cL_law 195 = .ok (.iload 4, 2) := by decide +kernel
theorem dL_law_197 : decode cL_law 197 = .ok (.iconst 1, 1) := by decide +kernel
theorem dL_law_198 : decode cL_law 198 = .ok (.iadd, 1) := by decide +kernel
theorem dL_law_199 : decode cL_law 199 = .ok (.iaload, 1) := by decide +kernel
theorem dL_law_200 : decode cL_law 200 = .ok (.invokevirtual 120, 3) := by decide +kernel
theorem dL_law_203 : decode cL_law 203 = .ok (.istore 6, 2) := by decide +kernel
theorem dL_law_205 : decode cL_law 205 = .ok (.aload_n 2, 1) := by decide +kernel
theorem dL_law_206 : decode cL_law 206 = .ok (.invokevirtual 121, 3) := by decide +kernel
theorem dL_law_209 : decode cL_law 209 = .ok (.iload 5, 2) := by decide +kernel
theorem dL_law_211 : decode cL_law 211 = .ok (.if_icmp .eq 5, 3) := by decide +kernel
theorem dL_law_214 : decode cL_law 214 = .ok (.iconst 0, 1) := by decide +kernel
theorem dL_law_215 : decode cL_law 215 = .ok (.ireturn, 1) := by decide +kernel
theorem dL_law_216 : decode cL_law 216 = .ok (.iload 5, 2) := by decide +kernel
theorem dL_law_218 : decode cL_law 218 = .ok (.ifCond .ne 15, 3) := by decide +kernel
theorem dL_law_221 : decode cL_law 221 = .ok (.aload_n 3, 1) := by decide +kernel
theorem dL_law_222 : decode cL_law 222 = .ok (.iconst 0, 1) := by decide +kernel
theorem dL_law_223 : decode cL_law 223 = .ok (.laload, 1) := by decide +kernel
theorem dL_law_224 : decode cL_law 224 = .ok (.iload 6, 2) := by decide +kernel
theorem dL_law_226 : decode cL_law 226 = .ok (.i2l, 1) := by decide +kernel
theorem dL_law_227 : decode cL_law 227 = .ok (.lcmp, 1) := by decide +kernel
