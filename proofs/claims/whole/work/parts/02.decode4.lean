theorem dX12_number_15 : decode cX12_number 15 = .ok (.invokestatic 53, 3) := by decide +kernel
theorem dX12_number_18 : decode cX12_number 18 = .ok (.ifCond .ne 13, 3) := by decide +kernel
theorem dX12_number_21 : decode cX12_number 21 = .ok (.aload_n 0, 1) := by decide +kernel
theorem dX12_number_22 : decode cX12_number 22 = .ok (.aload_n 0, 1) := by decide +kernel
theorem dX12_number_23 : decode cX12_number 23 = .ok (.getfield 68, 3) := by decide +kernel
theorem dX12_number_26 : decode cX12_number 26 = .ok (.invokevirtual 82, 3) := by decide +kernel
theorem dX12_number_29 : decode cX12_number 29 = .ok (.iconst 0, 1) := by decide +kernel
theorem dX12_number_30 : decode cX12_number 30 = .ok (.ireturn, 1) := by decide +kernel
theorem dX12_number_31 : decode cX12_number 31 = .ok (.aload_n 0, 1) := by decide +kernel
theorem dX12_number_32 : decode cX12_number 32 = .ok (.invokevirtual 78, 3) := by decide +kernel
theorem dX12_number_35 : decode cX12_number 35 = .ok (.bipush 48, 2) := by decide +kernel
theorem dX12_number_37 : decode cX12_number 37 = .ok (.isub, 1) := by decide +kernel
theorem dX12_number_38 : decode cX12_number 38 = .ok (.istore_n 1, 1) := by decide +kernel
theorem dX12_number_39 : decode cX12_number 39 = .ok (.aload_n 0, 1) := by decide +kernel
theorem dX12_number_40 : decode cX12_number 40 = .ok (.dup, 1) := by decide +kernel
theorem dX12_number_41 : decode cX12_number 41 = .ok (.getfield 68, 3) := by decide +kernel
theorem dX12_number_44 : decode cX12_number 44 = .ok (.iconst 1, 1) := by decide +kernel
theorem dX12_number_45 : decode cX12_number 45 = .ok (.iadd, 1) := by decide +kernel
theorem dX12_number_46 : decode cX12_number 46 = .ok (.putfield 68, 3) := by decide +kernel
theorem dX12_number_49 : decode cX12_number 49 = .ok (.iload_n 1, 1) := by decide +kernel
theorem dX12_number_50 : decode cX12_number 50 = .ok (.ifCond .le 40, 3) := by decide +kernel
theorem dX12_number_53 : decode cX12_number 53 = .ok (.aload_n 0, 1) := by decide +kernel
theorem dX12_number_54 : decode cX12_number 54 = .ok (.invokevirtual 78, 3) := by decide +kernel
theorem dX12_number_57 : decode cX12_number 57 = .ok (.bipush 48, 2) := by decide +kernel
theorem dX12_number_59 : decode cX12_number 59 = .ok (.bipush 57, 2) := by decide +kernel
theorem dX12_number_61 : decode cX12_number 61 = .ok (.invokestatic 53, 3) := by decide +kernel
theorem dX12_number_64 : decode cX12_number 64 = .ok (.ifCond .eq 26, 3) := by decide +kernel
theorem dX12_number_67 : decode cX12_number 67 = .ok (.bipush 10, 2) := by decide +kernel
theorem dX12_number_69 : decode cX12_number 69 = .ok (.iload_n 1, 1) := by decide +kernel
theorem dX12_number_70 : decode cX12_number 70 = .ok (.imul, 1) := by decide +kernel
theorem dX12_number_71 : decode cX12_number 71 = .ok (.aload_n 0, 1) := by decide +kernel
theorem dX12_number_72 : decode cX12_number 72 = .ok (.invokevirtual 78, 3) := by decide +kernel
theorem dX12_number_75 : decode cX12_number 75 = .ok (.iadd, 1) := by decide +kernel
theorem dX12_number_76 : decode cX12_number 76 = .ok (.bipush 48, 2) := by decide +kernel
theorem dX12_number_78 : decode cX12_number 78 = .ok (.isub, 1) := by decide +kernel
theorem dX12_number_79 : decode cX12_number 79 = .ok (.istore_n 1, 1) := by decide +kernel
theorem dX12_number_80 : decode cX12_number 80 = .ok (.aload_n 0, 1) := by decide +kernel
theorem dX12_number_81 : decode cX12_number 81 = .ok (.dup, 1) := by decide +kernel
theorem dX12_number_82 : decode cX12_number 82 = .ok (.getfield 68, 3) := by decide +kernel
theorem dX12_number_85 : decode cX12_number 85 = .ok (.iconst 1, 1) := by decide +kernel
theorem dX12_number_86 : decode cX12_number 86 = .ok (.iadd, 1) := by decide +kernel
theorem dX12_number_87 : decode cX12_number 87 = .ok (.putfield 68, 3) := by decide +kernel
theorem dX12_number_90 : decode cX12_number 90 = .ok (.iload_n 1, 1) := by decide +kernel
theorem dX12_number_91 : decode cX12_number 91 = .ok (.ireturn, 1) := by decide +kernel
theorem dX12_bounded_0 : decode cX12_bounded 0 = .ok (.aload_n 0, 1) := by decide +kernel
theorem dX12_bounded_1 : decode cX12_bounded 1 = .ok (.getfield 68, 3) := by decide +kernel
theorem dX12_bounded_4 : decode cX12_bounded 4 = .ok (.istore_n 2, 1) := by decide +kernel
theorem dX12_bounded_5 : decode cX12_bounded 5 = .ok (.aload_n 0, 1) := by decide +kernel
theorem dX12_bounded_6 : decode cX12_bounded 6 = .ok (.invokevirtual 86, 3) := by decide +kernel
theorem dX12_bounded_9 : decode cX12_bounded 9 = .ok (.istore_n 3, 1) := by decide +kernel
theorem dX12_bounded_10 : decode cX12_bounded 10 = .ok (.iload_n 3, 1) := by decide +kernel
theorem dX12_bounded_11 : decode cX12_bounded 11 = .ok (.iload_n 1, 1) := by decide +kernel
theorem dX12_bounded_12 : decode cX12_bounded 12 = .ok (.bipush 30, 2) := by decide +kernel
theorem dX12_bounded_14 : decode cX12_bounded 14 = .ok (.invokestatic 53, 3) := by decide +kernel
theorem dX12_bounded_17 : decode cX12_bounded 17 = .ok (.ifCond .ne 8, 3) := by decide +kernel
theorem dX12_bounded_20 : decode cX12_bounded 20 = .ok (.aload_n 0, 1) := by decide +kernel
theorem dX12_bounded_21 : decode cX12_bounded 21 = .ok (.iload_n 2, 1) := by decide +kernel
theorem dX12_bounded_22 : decode cX12_bounded 22 = .ok (.invokevirtual 82, 3) := by decide +kernel
theorem dX12_bounded_25 : decode cX12_bounded 25 = .ok (.iload_n 3, 1) := by decide +kernel
theorem dX12_bounded_26 : decode cX12_bounded 26 = .ok (.ireturn, 1) := by decide +kernel
theorem dX12_set_0 : decode cX12_set 0 = .ok (.aload_n 0, 1) := by decide +kernel
theorem dX12_set_1 : decode cX12_set 1 = .ok (.getfield 29, 3) := by decide +kernel
theorem dX12_set_4 : decode cX12_set 4 = .ok (.sipush 585, 3) := by decide +kernel
theorem dX12_set_7 : decode cX12_set 7 = .ok (.aload_n 0, 1) := by decide +kernel
theorem dX12_set_8 : decode cX12_set 8 = .ok (.getfield 89, 3) := by decide +kernel
theorem dX12_set_11 : decode cX12_set 11 = .ok (.imul, 1) := by decide +kernel
theorem dX12_set_12 : decode cX12_set 12 = .ok (.iload_n 1, 1) := by decide +kernel
theorem dX12_set_13 : decode cX12_set 13 = .ok (.iadd, 1) := by decide +kernel
theorem dX12_set_14 : decode cX12_set 14 = .ok (.iload_n 2, 1) := by decide +kernel
theorem dX12_set_15 : decode cX12_set 15 = .ok (.iastore, 1) := by decide +kernel
theorem dX12_set_16 : decode cX12_set 16 = .ok (.return_, 1) := by decide +kernel
theorem dX12_get_0 : decode cX12_get 0 = .ok (.aload_n 0, 1) := by decide +kernel
theorem dX12_get_1 : decode cX12_get 1 = .ok (.getfield 29, 3) := by decide +kernel
theorem dX12_get_4 : decode cX12_get 4 = .ok (.sipush 585, 3) := by decide +kernel
theorem dX12_get_7 : decode cX12_get 7 = .ok (.aload_n 0, 1) := by decide +kernel
theorem dX12_get_8 : decode cX12_get 8 = .ok (.getfield 89, 3) := by decide +kernel
theorem dX12_get_11 : decode cX12_get 11 = .ok (.imul, 1) := by decide +kernel
theorem dX12_get_12 : decode cX12_get 12 = .ok (.iload_n 1, 1) := by decide +kernel
theorem dX12_get_13 : decode cX12_get 13 = .ok (.iadd, 1) := by decide +kernel
theorem dX12_get_14 : decode cX12_get 14 = .ok (.iaload, 1) := by decide +kernel
theorem dX12_get_15 : decode cX12_get 15 = .ok (.ireturn, 1) := by decide +kernel
theorem dX12_reference_0 : decode cX12_reference 0 = .ok (.aload_n 0, 1) := by decide +kernel
theorem dX12_reference_1 : decode cX12_reference 1 = .ok (.invokevirtual 78, 3) := by decide +kernel
theorem dX12_reference_4 : decode cX12_reference 4 = .ok (.bipush 97, 2) := by decide +kernel
theorem dX12_reference_6 : decode cX12_reference 6 = .ok (.isub, 1) := by decide +kernel
theorem dX12_reference_7 : decode cX12_reference 7 = .ok (.istore_n 1, 1) := by decide +kernel
theorem dX12_reference_8 : decode cX12_reference 8 = .ok (.aload_n 0, 1) := by decide +kernel
theorem dX12_reference_9 : decode cX12_reference 9 = .ok (.getfield 74, 3) := by decide +kernel
theorem dX12_reference_12 : decode cX12_reference 12 = .ok (.ifCond .ne 12, 3) := by decide +kernel
theorem dX12_reference_15 : decode cX12_reference 15 = .ok (.iload_n 1, 1) := by decide +kernel
theorem dX12_reference_16 : decode cX12_reference 16 = .ok (.iconst 0, 1) := by decide +kernel
theorem dX12_reference_17 : decode cX12_reference 17 = .ok (.iconst 4, 1) := by decide +kernel
theorem dX12_reference_18 : decode cX12_reference 18 = .ok (.invokestatic 53, 3) := by decide +kernel
theorem dX12_reference_21 : decode cX12_reference 21 = .ok (.ifCond .ne 13, 3) := by decide +kernel
theorem dX12_reference_24 : decode cX12_reference 24 = .ok (.aload_n 0, 1) := by decide +kernel
theorem dX12_reference_25 : decode cX12_reference 25 = .ok (.aload_n 0, 1) := by decide +kernel
theorem dX12_reference_26 : decode cX12_reference 26 = .ok (.getfield 68, 3) := by decide +kernel
theorem dX12_reference_29 : decode cX12_reference 29 = .ok (.invokevirtual 82, 3) := by decide +kernel
theorem dX12_reference_32 : decode cX12_reference 32 = .ok (.iconst (-1), 1) := by decide +kernel
theorem dX12_reference_33 : decode cX12_reference 33 = .ok (.ireturn, 1) := by decide +kernel
theorem dX12_reference_34 : decode cX12_reference 34 = .ok (.aload_n 0, 1) := by decide +kernel
theorem dX12_reference_35 : decode cX12_reference 35 = .ok (.dup, 1) := by decide +kernel
theorem dX12_reference_36 : decode cX12_reference 36 = .ok (.getfield 68, 3) := by decide +kernel
theorem dX12_reference_39 : decode cX12_reference 39 = .ok (.iconst 1, 1) := by decide +kernel
theorem dX12_reference_40 : decode cX12_reference 40 = .ok (.iadd, 1) := by decide +kernel
theorem dX12_reference_41 : decode cX12_reference 41 = .ok (.putfield 68, 3) := by decide +kernel
theorem dX12_reference_44 : decode cX12_reference 44 = .ok (.aload_n 0, 1) := by decide +kernel
theorem dX12_reference_45 : decode cX12_reference 45 = .ok (.bipush 91, 2) := by decide +kernel
theorem dX12_reference_47 : decode cX12_reference 47 = .ok (.invokevirtual 92, 3) := by decide +kernel
theorem dX12_reference_50 : decode cX12_reference 50 = .ok (.aload_n 0, 1) := by decide +kernel
theorem dX12_reference_51 : decode cX12_reference 51 = .ok (.bipush 105, 2) := by decide +kernel
theorem dX12_reference_53 : decode cX12_reference 53 = .ok (.invokevirtual 92, 3) := by decide +kernel
theorem dX12_reference_56 : decode cX12_reference 56 = .ok (.aload_n 0, 1) := by decide +kernel
theorem dX12_reference_57 : decode cX12_reference 57 = .ok (.invokevirtual 78, 3) := by decide +kernel
theorem dX12_reference_60 : decode cX12_reference 60 = .ok (.bipush 43, 2) := by decide +kernel
theorem dX12_reference_62 : decode cX12_reference 62 = .ok (.if_icmp .ne 7, 3) := by decide +kernel
theorem dX12_reference_65 : decode cX12_reference 65 = .ok (.iconst 1, 1) := by decide +kernel
theorem dX12_reference_66 : decode cX12_reference 66 = .ok (.goto 17, 3) := by decide +kernel
theorem dX12_reference_69 : decode cX12_reference 69 = .ok (.aload_n 0, 1) := by decide +kernel
theorem dX12_reference_70 : decode cX12_reference 70 = .ok (.invokevirtual 78, 3) := by decide +kernel
theorem dX12_reference_73 : decode cX12_reference 73 = .ok (.bipush 45, 2) := by decide +kernel
theorem dX12_reference_75 : decode cX12_reference 75 = .ok (.if_icmp .ne 7, 3) := by decide +kernel
theorem dX12_reference_78 : decode cX12_reference 78 = .ok (.iconst (-1), 1) := by decide +kernel
theorem dX12_reference_79 : decode cX12_reference 79 = .ok (.goto 4, 3) := by decide +kernel
theorem dX12_reference_82 : decode cX12_reference 82 = .ok (.iconst 0, 1) := by decide +kernel
theorem dX12_reference_83 : decode cX12_reference 83 = .ok (.istore_n 2, 1) := by decide +kernel
theorem dX12_reference_84 : decode cX12_reference 84 = .ok (.iconst 0, 1) := by decide +kernel
theorem dX12_reference_85 : decode cX12_reference 85 = .ok (.istore_n 3, 1) := by decide +kernel
theorem dX12_reference_86 : decode cX12_reference 86 = .ok (.aload_n 0, 1) := by decide +kernel
theorem dX12_reference_87 : decode cX12_reference 87 = .ok (.getfield 74, 3) := by decide +kernel
theorem dX12_reference_90 : decode cX12_reference 90 = .ok (.ifCond .ne 62, 3) := by decide +kernel
theorem dX12_reference_93 : decode cX12_reference 93 = .ok (.iload_n 2, 1) := by decide +kernel
theorem dX12_reference_94 : decode cX12_reference 94 = .ok (.ifCond .eq 58, 3) := by decide +kernel
theorem dX12_reference_97 : decode cX12_reference 97 = .ok (.aload_n 0, 1) := by decide +kernel
theorem dX12_reference_98 : decode cX12_reference 98 = .ok (.dup, 1) := by decide +kernel
theorem dX12_reference_99 : decode cX12_reference 99 = .ok (.getfield 68, 3) := by decide +kernel
theorem dX12_reference_102 : decode cX12_reference 102 = .ok (.iconst 1, 1) := by decide +kernel
theorem dX12_reference_103 : decode cX12_reference 103 = .ok (.iadd, 1) := by decide +kernel
theorem dX12_reference_104 : decode cX12_reference 104 = .ok (.putfield 68, 3) := by decide +kernel
theorem dX12_reference_107 : decode cX12_reference 107 = .ok (.aload_n 0, 1) := by decide +kernel
theorem dX12_reference_108 : decode cX12_reference 108 = .ok (.invokevirtual 78, 3) := by decide +kernel
theorem dX12_reference_111 : decode cX12_reference 111 = .ok (.bipush 48, 2) := by decide +kernel
theorem dX12_reference_113 : decode cX12_reference 113 = .ok (.bipush 57, 2) := by decide +kernel
theorem dX12_reference_115 : decode cX12_reference 115 = .ok (.invokestatic 53, 3) := by decide +kernel
theorem dX12_reference_118 : decode cX12_reference 118 = .ok (.ifCond .eq 26, 3) := by decide +kernel
theorem dX12_reference_121 : decode cX12_reference 121 = .ok (.iload_n 2, 1) := by decide +kernel
theorem dX12_reference_122 : decode cX12_reference 122 = .ok (.aload_n 0, 1) := by decide +kernel
theorem dX12_reference_123 : decode cX12_reference 123 = .ok (.invokevirtual 78, 3) := by decide +kernel
theorem dX12_reference_126 : decode cX12_reference 126 = .ok (.bipush 48, 2) := by decide +kernel
theorem dX12_reference_128 : decode cX12_reference 128 = .ok (.isub, 1) := by decide +kernel
theorem dX12_reference_129 : decode cX12_reference 129 = .ok (.imul, 1) := by decide +kernel
theorem dX12_reference_130 : decode cX12_reference 130 = .ok (.istore_n 3, 1) := by decide +kernel
theorem dX12_reference_131 : decode cX12_reference 131 = .ok (.aload_n 0, 1) := by decide +kernel
theorem dX12_reference_132 : decode cX12_reference 132 = .ok (.dup, 1) := by decide +kernel
theorem dX12_reference_133 : decode cX12_reference 133 = .ok (.getfield 68, 3) := by decide +kernel
theorem dX12_reference_136 : decode cX12_reference 136 = .ok (.iconst 1, 1) := by decide +kernel
theorem dX12_reference_137 : decode cX12_reference 137 = .ok (.iadd, 1) := by decide +kernel
theorem dX12_reference_138 : decode cX12_reference 138 = .ok (.putfield 68, 3) := by decide +kernel
theorem dX12_reference_141 : decode cX12_reference 141 = .ok (.goto 11, 3) := by decide +kernel
theorem dX12_reference_144 : decode cX12_reference 144 = .ok (.aload_n 0, 1) := by decide +kernel
theorem dX12_reference_145 : decode cX12_reference 145 = .ok (.aload_n 0, 1) := by decide +kernel
theorem dX12_reference_146 : decode cX12_reference 146 = .ok (.getfield 68, 3) := by decide +kernel
theorem dX12_reference_149 : decode cX12_reference 149 = .ok (.invokevirtual 82, 3) := by decide +kernel
theorem dX12_reference_152 : decode cX12_reference 152 = .ok (.aload_n 0, 1) := by decide +kernel
theorem dX12_reference_153 : decode cX12_reference 153 = .ok (.bipush 93, 2) := by decide +kernel
theorem dX12_reference_155 : decode cX12_reference 155 = .ok (.invokevirtual 92, 3) := by decide +kernel
theorem dX12_reference_158 : decode cX12_reference 158 = .ok (.bipush 20, 2) := by decide +kernel
theorem dX12_reference_160 : decode cX12_reference 160 = .ok (.iload_n 1, 1) := by decide +kernel
theorem dX12_reference_161 : decode cX12_reference 161 = .ok (.imul, 1) := by decide +kernel
theorem dX12_reference_162 : decode cX12_reference 162 = .ok (.iload_n 3, 1) := by decide +kernel
theorem dX12_reference_163 : decode cX12_reference 163 = .ok (.iadd, 1) := by decide +kernel
theorem dX12_reference_164 : decode cX12_reference 164 = .ok (.bipush 9, 2) := by decide +kernel
theorem dX12_reference_166 : decode cX12_reference 166 = .ok (.iadd, 1) := by decide +kernel
theorem dX12_reference_167 : decode cX12_reference 167 = .ok (.ireturn, 1) := by decide +kernel
theorem dX12_refers_0 : decode cX12_refers 0 = .ok (.aload_n 0, 1) := by decide +kernel
theorem dX12_refers_1 : decode cX12_refers 1 = .ok (.iconst 4, 1) := by decide +kernel
theorem dX12_refers_2 : decode cX12_refers 2 = .ok (.invokevirtual 95, 3) := by decide +kernel
theorem dX12_refers_5 : decode cX12_refers 5 = .ok (.istore_n 3, 1) := by decide +kernel
theorem dX12_refers_6 : decode cX12_refers 6 = .ok (.aload_n 0, 1) := by decide +kernel
theorem dX12_refers_7 : decode cX12_refers 7 = .ok (.iconst 5, 1) := by decide +kernel
theorem dX12_refers_8 : decode cX12_refers 8 = .ok (.iload_n 3, 1) := by decide +kernel
theorem dX12_refers_9 : decode cX12_refers 9 = .ok (.iadd, 1) := by decide +kernel
theorem dX12_refers_10 : decode cX12_refers 10 = .ok (.iload_n 1, 1) := by decide +kernel
theorem dX12_refers_11 : decode cX12_refers 11 = .ok (.bipush 20, 2) := by decide +kernel
theorem dX12_refers_13 : decode cX12_refers 13 = .ok (.idiv, 1) := by decide +kernel
theorem dX12_refers_14 : decode cX12_refers 14 = .ok (.invokevirtual 98, 3) := by decide +kernel
theorem dX12_refers_17 : decode cX12_refers 17 = .ok (.aload_n 0, 1) := by decide +kernel
theorem dX12_refers_18 : decode cX12_refers 18 = .ok (.bipush 29, 2) := by decide +kernel
theorem dX12_refers_20 : decode cX12_refers 20 = .ok (.iload_n 3, 1) := by decide +kernel
theorem dX12_refers_21 : decode cX12_refers 21 = .ok (.iadd, 1) := by decide +kernel
theorem dX12_refers_22 : decode cX12_refers 22 = .ok (.iload_n 1, 1) := by decide +kernel
theorem dX12_refers_23 : decode cX12_refers 23 = .ok (.bipush 20, 2) := by decide +kernel
theorem dX12_refers_25 : decode cX12_refers 25 = .ok (.irem, 1) := by decide +kernel
theorem dX12_refers_26 : decode cX12_refers 26 = .ok (.bipush 9, 2) := by decide +kernel
theorem dX12_refers_28 : decode cX12_refers 28 = .ok (.isub, 1) := by decide +kernel
theorem dX12_refers_29 : decode cX12_refers 29 = .ok (.invokevirtual 98, 3) := by decide +kernel
theorem dX12_refers_32 : decode cX12_refers 32 = .ok (.aload_n 0, 1) := by decide +kernel
theorem dX12_refers_33 : decode cX12_refers 33 = .ok (.bipush 53, 2) := by decide +kernel
theorem dX12_refers_35 : decode cX12_refers 35 = .ok (.iload_n 3, 1) := by decide +kernel
theorem dX12_refers_36 : decode cX12_refers 36 = .ok (.iadd, 1) := by decide +kernel
theorem dX12_refers_37 : decode cX12_refers 37 = .ok (.iload_n 2, 1) := by decide +kernel
theorem dX12_refers_38 : decode cX12_refers 38 = .ok (.invokevirtual 98, 3) := by decide +kernel
theorem dX12_refers_41 : decode cX12_refers 41 = .ok (.aload_n 0, 1) := by decide +kernel
theorem dX12_refers_42 : decode cX12_refers 42 = .ok (.bipush 77, 2) := by decide +kernel
theorem dX12_refers_44 : decode cX12_refers 44 = .ok (.iload_n 3, 1) := by decide +kernel
theorem dX12_refers_45 : decode cX12_refers 45 = .ok (.iadd, 1) := by decide +kernel
theorem dX12_refers_46 : decode cX12_refers 46 = .ok (.aload_n 0, 1) := by decide +kernel
theorem dX12_refers_47 : decode cX12_refers 47 = .ok (.iconst 3, 1) := by decide +kernel
theorem dX12_refers_48 : decode cX12_refers 48 = .ok (.invokevirtual 95, 3) := by decide +kernel
theorem dX12_refers_51 : decode cX12_refers 51 = .ok (.invokevirtual 98, 3) := by decide +kernel
theorem dX12_refers_54 : decode cX12_refers 54 = .ok (.aload_n 0, 1) := by decide +kernel
theorem dX12_refers_55 : decode cX12_refers 55 = .ok (.iconst 4, 1) := by decide +kernel
theorem dX12_refers_56 : decode cX12_refers 56 = .ok (.iload_n 3, 1) := by decide +kernel
theorem dX12_refers_57 : decode cX12_refers 57 = .ok (.iconst 1, 1) := by decide +kernel
theorem dX12_refers_58 : decode cX12_refers 58 = .ok (.iadd, 1) := by decide +kernel
theorem dX12_refers_59 : decode cX12_refers 59 = .ok (.invokevirtual 98, 3) := by decide +kernel
theorem dX12_refers_62 : decode cX12_refers 62 = .ok (.return_, 1) := by decide +kernel
theorem dX12_token_0 : decode cX12_token 0 = .ok (.aload_n 0, 1) := by decide +kernel
theorem dX12_token_1 : decode cX12_token 1 = .ok (.iconst 3, 1) := by decide +kernel
theorem dX12_token_2 : decode cX12_token 2 = .ok (.invokevirtual 95, 3) := by decide +kernel
theorem dX12_token_5 : decode cX12_token 5 = .ok (.istore_n 2, 1) := by decide +kernel
theorem dX12_token_6 : decode cX12_token 6 = .ok (.aload_n 0, 1) := by decide +kernel
theorem dX12_token_7 : decode cX12_token 7 = .ok (.bipush 101, 2) := by decide +kernel
theorem dX12_token_9 : decode cX12_token 9 = .ok (.iload_n 2, 1) := by decide +kernel
theorem dX12_token_10 : decode cX12_token 10 = .ok (.iadd, 1) := by decide +kernel
theorem dX12_token_11 : decode cX12_token 11 = .ok (.invokevirtual 95, 3) := by decide +kernel
theorem dX12_token_14 : decode cX12_token 14 = .ok (.istore_n 3, 1) := by decide +kernel
theorem dX12_token_15 : decode cX12_token 15 = .ok (.aload_n 0, 1) := by decide +kernel
theorem dX12_token_16 : decode cX12_token 16 = .ok (.bipush 105, 2) := by decide +kernel
theorem dX12_token_18 : decode cX12_token 18 = .ok (.bipush 120, 2) := by decide +kernel
theorem dX12_token_20 : decode cX12_token 20 = .ok (.iload_n 2, 1) := by decide +kernel
theorem dX12_token_21 : decode cX12_token 21 = .ok (.imul, 1) := by decide +kernel
theorem dX12_token_22 : decode cX12_token 22 = .ok (.iadd, 1) := by decide +kernel
theorem dX12_token_23 : decode cX12_token 23 = .ok (.iload_n 3, 1) := by decide +kernel
theorem dX12_token_24 : decode cX12_token 24 = .ok (.iadd, 1) := by decide +kernel
theorem dX12_token_25 : decode cX12_token 25 = .ok (.iload_n 1, 1) := by decide +kernel
theorem dX12_token_26 : decode cX12_token 26 = .ok (.invokevirtual 98, 3) := by decide +kernel
theorem dX12_token_29 : decode cX12_token 29 = .ok (.aload_n 0, 1) := by decide +kernel
theorem dX12_token_30 : decode cX12_token 30 = .ok (.bipush 101, 2) := by decide +kernel
theorem dX12_token_32 : decode cX12_token 32 = .ok (.iload_n 2, 1) := by decide +kernel
theorem dX12_token_33 : decode cX12_token 33 = .ok (.iadd, 1) := by decide +kernel
theorem dX12_token_34 : decode cX12_token 34 = .ok (.iload_n 3, 1) := by decide +kernel
theorem dX12_token_35 : decode cX12_token 35 = .ok (.iconst 1, 1) := by decide +kernel
theorem dX12_token_36 : decode cX12_token 36 = .ok (.iadd, 1) := by decide +kernel
theorem dX12_token_37 : decode cX12_token 37 = .ok (.invokevirtual 98, 3) := by decide +kernel
theorem dX12_token_40 : decode cX12_token 40 = .ok (.return_, 1) := by decide +kernel
theorem dX12_settle_0 : decode cX12_settle 0 = .ok (.aload_n 0, 1) := by decide +kernel
theorem dX12_settle_1 : decode cX12_settle 1 = .ok (.getfield 102, 3) := by decide +kernel
theorem dX12_settle_4 : decode cX12_settle 4 = .ok (.ifCond .le 63, 3) := by decide +kernel
theorem dX12_settle_7 : decode cX12_settle 7 = .ok (.aload_n 0, 1) := by decide +kernel
theorem dX12_settle_8 : decode cX12_settle 8 = .ok (.getfield 32, 3) := by decide +kernel
theorem dX12_settle_11 : decode cX12_settle 11 = .ok (.aload_n 0, 1) := by decide +kernel
theorem dX12_settle_12 : decode cX12_settle 12 = .ok (.getfield 102, 3) := by decide +kernel
theorem dX12_settle_15 : decode cX12_settle 15 = .ok (.iconst 1, 1) := by decide +kernel
theorem dX12_settle_16 : decode cX12_settle 16 = .ok (.isub, 1) := by decide +kernel
theorem dX12_settle_17 : decode cX12_settle 17 = .ok (.iaload, 1) := by decide +kernel
theorem dX12_settle_18 : decode cX12_settle 18 = .ok (.ifCond .eq 49, 3) := by decide +kernel
theorem dX12_settle_21 : decode cX12_settle 21 = .ok (.iload_n 1, 1) := by decide +kernel
theorem dX12_settle_22 : decode cX12_settle 22 = .ok (.ifCond .eq 19, 3) := by decide +kernel
theorem dX12_settle_25 : decode cX12_settle 25 = .ok (.aload_n 0, 1) := by decide +kernel
theorem dX12_settle_26 : decode cX12_settle 26 = .ok (.getfield 32, 3) := by decide +kernel
theorem dX12_settle_29 : decode cX12_settle 29 = .ok (.aload_n 0, 1) := by decide +kernel
theorem dX12_settle_30 : decode cX12_settle 30 = .ok (.getfield 102, 3) := by decide +kernel
theorem dX12_settle_33 : decode cX12_settle 33 = .ok (.iconst 1, 1) := by decide +kernel
theorem dX12_settle_34 : decode cX12_settle 34 = .ok (.isub, 1) := by decide +kernel
theorem dX12_settle_35 : decode cX12_settle 35 = .ok (.iaload, 1) := by decide +kernel
theorem dX12_settle_36 : decode cX12_settle 36 = .ok (.bipush 103, 2) := by decide +kernel
theorem dX12_settle_38 : decode cX12_settle 38 = .ok (.if_icmp .ne 29, 3) := by decide +kernel
theorem dX12_settle_41 : decode cX12_settle 41 = .ok (.aload_n 0, 1) := by decide +kernel
theorem dX12_settle_42 : decode cX12_settle 42 = .ok (.dup, 1) := by decide +kernel
theorem dX12_settle_43 : decode cX12_settle 43 = .ok (.getfield 102, 3) := by decide +kernel
theorem dX12_settle_46 : decode cX12_settle 46 = .ok (.iconst 1, 1) := by decide +kernel
theorem dX12_settle_47 : decode cX12_settle 47 = .ok (.isub, 1) := by decide +kernel
theorem dX12_settle_48 : decode cX12_settle 48 = .ok (.putfield 102, 3) := by decide +kernel
theorem dX12_settle_51 : decode cX12_settle 51 = .ok (.aload_n 0, 1) := by decide +kernel
theorem dX12_settle_52 : decode cX12_settle 52 = .ok (.aload_n 0, 1) := by decide +kernel
theorem dX12_settle_53 : decode cX12_settle 53 = .ok (.getfield 32, 3) := by decide +kernel
theorem dX12_settle_56 : decode cX12_settle 56 = .ok (.aload_n 0, 1) := by decide +kernel
theorem dX12_settle_57 : decode cX12_settle 57 = .ok (.getfield 102, 3) := by decide +kernel
theorem dX12_settle_60 : decode cX12_settle 60 = .ok (.iaload, 1) := by decide +kernel
theorem dX12_settle_61 : decode cX12_settle 61 = .ok (.invokevirtual 105, 3) := by decide +kernel
theorem dX12_settle_64 : decode cX12_settle 64 = .ok (.goto (-64), 3) := by decide +kernel
theorem dX12_settle_67 : decode cX12_settle 67 = .ok (.return_, 1) := by decide +kernel
theorem dX12_factor_0 : decode cX12_factor 0 = .ok (.aload_n 0, 1) := by decide +kernel
theorem dX12_factor_1 : decode cX12_factor 1 = .ok (.invokevirtual 78, 3) := by decide +kernel
theorem dX12_factor_4 : decode cX12_factor 4 = .ok (.istore_n 1, 1) := by decide +kernel
theorem dX12_factor_5 : decode cX12_factor 5 = .ok (.iload_n 1, 1) := by decide +kernel
theorem dX12_factor_6 : decode cX12_factor 6 = .ok (.bipush 48, 2) := by decide +kernel
theorem dX12_factor_8 : decode cX12_factor 8 = .ok (.bipush 57, 2) := by decide +kernel
theorem dX12_factor_10 : decode cX12_factor 10 = .ok (.invokestatic 53, 3) := by decide +kernel
theorem dX12_factor_13 : decode cX12_factor 13 = .ok (.ifCond .eq 14, 3) := by decide +kernel
theorem dX12_factor_16 : decode cX12_factor 16 = .ok (.aload_n 0, 1) := by decide +kernel
theorem dX12_factor_17 : decode cX12_factor 17 = .ok (.aload_n 0, 1) := by decide +kernel
theorem dX12_factor_18 : decode cX12_factor 18 = .ok (.invokevirtual 86, 3) := by decide +kernel
theorem dX12_factor_21 : decode cX12_factor 21 = .ok (.invokevirtual 105, 3) := by decide +kernel
theorem dX12_factor_24 : decode cX12_factor 24 = .ok (.goto 101, 3) := by decide +kernel
theorem dX12_factor_27 : decode cX12_factor 27 = .ok (.iload_n 1, 1) := by decide +kernel
theorem dX12_factor_28 : decode cX12_factor 28 = .ok (.bipush 105, 2) := by decide +kernel
theorem dX12_factor_30 : decode cX12_factor 30 = .ok (.if_icmp .ne 22, 3) := by decide +kernel
theorem dX12_factor_33 : decode cX12_factor 33 = .ok (.aload_n 0, 1) := by decide +kernel
theorem dX12_factor_34 : decode cX12_factor 34 = .ok (.dup, 1) := by decide +kernel
theorem dX12_factor_35 : decode cX12_factor 35 = .ok (.getfield 68, 3) := by decide +kernel
theorem dX12_factor_38 : decode cX12_factor 38 = .ok (.iconst 1, 1) := by decide +kernel
theorem dX12_factor_39 : decode cX12_factor 39 = .ok (.iadd, 1) := by decide +kernel
theorem dX12_factor_40 : decode cX12_factor 40 = .ok (.putfield 68, 3) := by decide +kernel
theorem dX12_factor_43 : decode cX12_factor 43 = .ok (.aload_n 0, 1) := by decide +kernel
theorem dX12_factor_44 : decode cX12_factor 44 = .ok (.bipush 100, 2) := by decide +kernel
theorem dX12_factor_46 : decode cX12_factor 46 = .ok (.invokevirtual 105, 3) := by decide +kernel
theorem dX12_factor_49 : decode cX12_factor 49 = .ok (.goto 76, 3) := by decide +kernel
theorem dX12_factor_52 : decode cX12_factor 52 = .ok (.iload_n 1, 1) := by decide +kernel
theorem dX12_factor_53 : decode cX12_factor 53 = .ok (.bipush 97, 2) := by decide +kernel
theorem dX12_factor_55 : decode cX12_factor 55 = .ok (.bipush 101, 2) := by decide +kernel
theorem dX12_factor_57 : decode cX12_factor 57 = .ok (.invokestatic 53, 3) := by decide +kernel
theorem dX12_factor_60 : decode cX12_factor 60 = .ok (.ifCond .eq 57, 3) := by decide +kernel
theorem dX12_factor_63 : decode cX12_factor 63 = .ok (.aload_n 0, 1) := by decide +kernel
theorem dX12_factor_64 : decode cX12_factor 64 = .ok (.getfield 108, 3) := by decide +kernel
theorem dX12_factor_67 : decode cX12_factor 67 = .ok (.iconst 5, 1) := by decide +kernel
theorem dX12_factor_68 : decode cX12_factor 68 = .ok (.if_icmp .ge 49, 3) := by decide +kernel
theorem dX12_factor_71 : decode cX12_factor 71 = .ok (.aload_n 0, 1) := by decide +kernel
theorem dX12_factor_72 : decode cX12_factor 72 = .ok (.iconst 4, 1) := by decide +kernel
theorem dX12_factor_73 : decode cX12_factor 73 = .ok (.invokevirtual 95, 3) := by decide +kernel
theorem dX12_factor_76 : decode cX12_factor 76 = .ok (.istore_n 2, 1) := by decide +kernel
theorem dX12_factor_77 : decode cX12_factor 77 = .ok (.aload_n 0, 1) := by decide +kernel
theorem dX12_factor_78 : decode cX12_factor 78 = .ok (.invokevirtual 111, 3) := by decide +kernel
theorem dX12_factor_81 : decode cX12_factor 81 = .ok (.istore_n 3, 1) := by decide +kernel
theorem dX12_factor_82 : decode cX12_factor 82 = .ok (.aload_n 0, 1) := by decide +kernel
theorem dX12_factor_83 : decode cX12_factor 83 = .ok (.getfield 74, 3) := by decide +kernel
theorem dX12_factor_86 : decode cX12_factor 86 = .ok (.ifCond .ne 28, 3) := by decide +kernel
theorem dX12_factor_89 : decode cX12_factor 89 = .ok (.aload_n 0, 1) := by decide +kernel
theorem dX12_factor_90 : decode cX12_factor 90 = .ok (.iload_n 3, 1) := by decide +kernel
theorem dX12_factor_91 : decode cX12_factor 91 = .ok (.iconst 0, 1) := by decide +kernel
theorem dX12_factor_92 : decode cX12_factor 92 = .ok (.invokevirtual 114, 3) := by decide +kernel
theorem dX12_factor_95 : decode cX12_factor 95 = .ok (.aload_n 0, 1) := by decide +kernel
theorem dX12_factor_96 : decode cX12_factor 96 = .ok (.sipush 200, 3) := by decide +kernel
theorem dX12_factor_99 : decode cX12_factor 99 = .ok (.iload_n 2, 1) := by decide +kernel
theorem dX12_factor_100 : decode cX12_factor 100 = .ok (.iadd, 1) := by decide +kernel
theorem dX12_factor_101 : decode cX12_factor 101 = .ok (.invokevirtual 105, 3) := by decide +kernel
theorem dX12_factor_104 : decode cX12_factor 104 = .ok (.aload_n 0, 1) := by decide +kernel
theorem dX12_factor_105 : decode cX12_factor 105 = .ok (.dup, 1) := by decide +kernel
theorem dX12_factor_106 : decode cX12_factor 106 = .ok (.getfield 108, 3) := by decide +kernel
theorem dX12_factor_109 : decode cX12_factor 109 = .ok (.iconst 1, 1) := by decide +kernel
theorem dX12_factor_110 : decode cX12_factor 110 = .ok (.iadd, 1) := by decide +kernel
theorem dX12_factor_111 : decode cX12_factor 111 = .ok (.putfield 108, 3) := by decide +kernel
theorem dX12_factor_114 : decode cX12_factor 114 = .ok (.goto 11, 3) := by decide +kernel
theorem dX12_factor_117 : decode cX12_factor 117 = .ok (.aload_n 0, 1) := by decide +kernel
theorem dX12_factor_118 : decode cX12_factor 118 = .ok (.aload_n 0, 1) := by decide +kernel
theorem dX12_factor_119 : decode cX12_factor 119 = .ok (.getfield 68, 3) := by decide +kernel
theorem dX12_factor_122 : decode cX12_factor 122 = .ok (.invokevirtual 82, 3) := by decide +kernel
theorem dX12_factor_125 : decode cX12_factor 125 = .ok (.return_, 1) := by decide +kernel
theorem dX12_sum_0 : decode cX12_sum 0 = .ok (.aload_n 0, 1) := by decide +kernel
theorem dX12_sum_1 : decode cX12_sum 1 = .ok (.iconst 0, 1) := by decide +kernel
theorem dX12_sum_2 : decode cX12_sum 2 = .ok (.putfield 102, 3) := by decide +kernel
theorem dX12_sum_5 : decode cX12_sum 5 = .ok (.aload_n 0, 1) := by decide +kernel
theorem dX12_sum_6 : decode cX12_sum 6 = .ok (.iconst 0, 1) := by decide +kernel
theorem dX12_sum_7 : decode cX12_sum 7 = .ok (.putfield 117, 3) := by decide +kernel
theorem dX12_sum_10 : decode cX12_sum 10 = .ok (.aload_n 0, 1) := by decide +kernel
theorem dX12_sum_11 : decode cX12_sum 11 = .ok (.iconst 0, 1) := by decide +kernel
theorem dX12_sum_12 : decode cX12_sum 12 = .ok (.putfield 108, 3) := by decide +kernel
theorem dX12_sum_15 : decode cX12_sum 15 = .ok (.iconst 1, 1) := by decide +kernel
theorem dX12_sum_16 : decode cX12_sum 16 = .ok (.istore_n 1, 1) := by decide +kernel
theorem dX12_sum_17 : decode cX12_sum 17 = .ok (.iconst 1, 1) := by decide +kernel
theorem dX12_sum_18 : decode cX12_sum 18 = .ok (.istore_n 2, 1) := by decide +kernel
theorem dX12_sum_19 : decode cX12_sum 19 = .ok (.iload_n 2, 1) := by decide +kernel
theorem dX12_sum_20 : decode cX12_sum 20 = .ok (.ifCond .eq 236, 3) := by decide +kernel
theorem dX12_sum_23 : decode cX12_sum 23 = .ok (.aload_n 0, 1) := by decide +kernel
theorem dX12_sum_24 : decode cX12_sum 24 = .ok (.getfield 74, 3) := by decide +kernel
theorem dX12_sum_27 : decode cX12_sum 27 = .ok (.ifCond .ne 229, 3) := by decide +kernel
theorem dX12_sum_30 : decode cX12_sum 30 = .ok (.aload_n 0, 1) := by decide +kernel
theorem dX12_sum_31 : decode cX12_sum 31 = .ok (.invokevirtual 78, 3) := by decide +kernel
theorem dX12_sum_34 : decode cX12_sum 34 = .ok (.istore_n 3, 1) := by decide +kernel
theorem dX12_sum_35 : decode cX12_sum 35 = .ok (.iload_n 1, 1) := by decide +kernel
theorem dX12_sum_36 : decode cX12_sum 36 = .ok (.ifCond .eq 60, 3) := by decide +kernel
theorem dX12_sum_39 : decode cX12_sum 39 = .ok (.iload_n 3, 1) := by decide +kernel
theorem dX12_sum_40 : decode cX12_sum 40 = .ok (.bipush 40, 2) := by decide +kernel
theorem dX12_sum_42 : decode cX12_sum 42 = .ok (.if_icmp .ne 54, 3) := by decide +kernel
theorem dX12_sum_45 : decode cX12_sum 45 = .ok (.aload_n 0, 1) := by decide +kernel
theorem dX12_sum_46 : decode cX12_sum 46 = .ok (.getfield 117, 3) := by decide +kernel
theorem dX12_sum_49 : decode cX12_sum 49 = .ok (.iconst 3, 1) := by decide +kernel
theorem dX12_sum_50 : decode cX12_sum 50 = .ok (.if_icmp .ge 46, 3) := by decide +kernel
theorem dX12_sum_53 : decode cX12_sum 53 = .ok (.aload_n 0, 1) := by decide +kernel
theorem dX12_sum_54 : decode cX12_sum 54 = .ok (.getfield 32, 3) := by decide +kernel
theorem dX12_sum_57 : decode cX12_sum 57 = .ok (.aload_n 0, 1) := by decide +kernel
theorem dX12_sum_58 : decode cX12_sum 58 = .ok (.getfield 102, 3) := by decide +kernel
theorem dX12_sum_61 : decode cX12_sum 61 = .ok (.iconst 0, 1) := by decide +kernel
theorem dX12_sum_62 : decode cX12_sum 62 = .ok (.iastore, 1) := by decide +kernel
theorem dX12_sum_63 : decode cX12_sum 63 = .ok (.aload_n 0, 1) := by decide +kernel
theorem dX12_sum_64 : decode cX12_sum 64 = .ok (.dup, 1) := by decide +kernel
theorem dX12_sum_65 : decode cX12_sum 65 = .ok (.getfield 102, 3) := by decide +kernel
theorem dX12_sum_68 : decode cX12_sum 68 = .ok (.iconst 1, 1) := by decide +kernel
theorem dX12_sum_69 : decode cX12_sum 69 = .ok (.iadd, 1) := by decide +kernel
theorem dX12_sum_70 : decode cX12_sum 70 = .ok (.putfield 102, 3) := by decide +kernel
theorem dX12_sum_73 : decode cX12_sum 73 = .ok (.aload_n 0, 1) := by decide +kernel
theorem dX12_sum_74 : decode cX12_sum 74 = .ok (.dup, 1) := by decide +kernel
theorem dX12_sum_75 : decode cX12_sum 75 = .ok (.getfield 117, 3) := by decide +kernel
theorem dX12_sum_78 : decode cX12_sum 78 = .ok (.iconst 1, 1) := by decide +kernel
theorem dX12_sum_79 : decode cX12_sum 79 = .ok (.iadd, 1) := by decide +kernel
theorem dX12_sum_80 : decode cX12_sum 80 = .ok (.putfield 117, 3) := by decide +kernel
theorem dX12_sum_83 : decode cX12_sum 83 = .ok (.aload_n 0, 1) := by decide +kernel
theorem dX12_sum_84 : decode cX12_sum 84 = .ok (.dup, 1) := by decide +kernel
theorem dX12_sum_85 : decode cX12_sum 85 = .ok (.getfield 68, 3) := by decide +kernel
theorem dX12_sum_88 : decode cX12_sum 88 = .ok (.iconst 1, 1) := by decide +kernel
theorem dX12_sum_89 : decode cX12_sum 89 = .ok (.iadd, 1) := by decide +kernel
theorem dX12_sum_90 : decode cX12_sum 90 = .ok (.putfield 68, 3) := by decide +kernel
theorem dX12_sum_93 : decode cX12_sum 93 = .ok (.goto 160, 3) := by decide +kernel
theorem dX12_sum_96 : decode cX12_sum 96 = .ok (.iload_n 1, 1) := by decide +kernel
theorem dX12_sum_97 : decode cX12_sum 97 = .ok (.ifCond .eq 12, 3) := by decide +kernel
theorem dX12_sum_100 : decode cX12_sum 100 = .ok (.aload_n 0, 1) := by decide +kernel
theorem dX12_sum_101 : decode cX12_sum 101 = .ok (.invokevirtual 120, 3) := by decide +kernel
theorem dX12_sum_104 : decode cX12_sum 104 = .ok (.iconst 0, 1) := by decide +kernel
theorem dX12_sum_105 : decode cX12_sum 105 = .ok (.istore_n 1, 1) := by decide +kernel
theorem dX12_sum_106 : decode cX12_sum 106 = .ok (.goto 147, 3) := by decide +kernel
theorem dX12_sum_109 : decode cX12_sum 109 = .ok (.iload_n 3, 1) := by decide +kernel
theorem dX12_sum_110 : decode cX12_sum 110 = .ok (.bipush 43, 2) := by decide +kernel
theorem dX12_sum_112 : decode cX12_sum 112 = .ok (.if_icmp .eq 15, 3) := by decide +kernel
theorem dX12_sum_115 : decode cX12_sum 115 = .ok (.iload_n 3, 1) := by decide +kernel
theorem dX12_sum_116 : decode cX12_sum 116 = .ok (.bipush 45, 2) := by decide +kernel
theorem dX12_sum_118 : decode cX12_sum 118 = .ok (.if_icmp .eq 9, 3) := by decide +kernel
theorem dX12_sum_121 : decode cX12_sum 121 = .ok (.iload_n 3, 1) := by decide +kernel
theorem dX12_sum_122 : decode cX12_sum 122 = .ok (.bipush 42, 2) := by decide +kernel
theorem dX12_sum_124 : decode cX12_sum 124 = .ok (.if_icmp .ne 76, 3) := by decide +kernel
theorem dX12_sum_127 : decode cX12_sum 127 = .ok (.aload_n 0, 1) := by decide +kernel
theorem dX12_sum_128 : decode cX12_sum 128 = .ok (.iload_n 3, 1) := by decide +kernel
theorem dX12_sum_129 : decode cX12_sum 129 = .ok (.bipush 42, 2) := by decide +kernel
theorem dX12_sum_131 : decode cX12_sum 131 = .ok (.if_icmp .ne 7, 3) := by decide +kernel
theorem dX12_sum_134 : decode cX12_sum 134 = .ok (.iconst 1, 1) := by decide +kernel
theorem dX12_sum_135 : decode cX12_sum 135 = .ok (.goto 4, 3) := by decide +kernel
theorem dX12_sum_138 : decode cX12_sum 138 = .ok (.iconst 0, 1) := by decide +kernel
theorem dX12_sum_139 : decode cX12_sum 139 = .ok (.invokevirtual 123, 3) := by decide +kernel
theorem dX12_sum_142 : decode cX12_sum 142 = .ok (.aload_n 0, 1) := by decide +kernel
theorem dX12_sum_143 : decode cX12_sum 143 = .ok (.getfield 32, 3) := by decide +kernel
theorem dX12_sum_146 : decode cX12_sum 146 = .ok (.aload_n 0, 1) := by decide +kernel
theorem dX12_sum_147 : decode cX12_sum 147 = .ok (.getfield 102, 3) := by decide +kernel
theorem dX12_sum_150 : decode cX12_sum 150 = .ok (.iload_n 3, 1) := by decide +kernel
theorem dX12_sum_151 : decode cX12_sum 151 = .ok (.bipush 43, 2) := by decide +kernel
theorem dX12_sum_153 : decode cX12_sum 153 = .ok (.if_icmp .ne 8, 3) := by decide +kernel
theorem dX12_sum_156 : decode cX12_sum 156 = .ok (.bipush 101, 2) := by decide +kernel
theorem dX12_sum_158 : decode cX12_sum 158 = .ok (.goto 16, 3) := by decide +kernel
theorem dX12_sum_161 : decode cX12_sum 161 = .ok (.iload_n 3, 1) := by decide +kernel
theorem dX12_sum_162 : decode cX12_sum 162 = .ok (.bipush 45, 2) := by decide +kernel
theorem dX12_sum_164 : decode cX12_sum 164 = .ok (.if_icmp .ne 8, 3) := by decide +kernel
theorem dX12_sum_167 : decode cX12_sum 167 = .ok (.bipush 102, 2) := by decide +kernel
theorem dX12_sum_169 : decode cX12_sum 169 = .ok (.goto 5, 3) := by decide +kernel
theorem dX12_sum_172 : decode cX12_sum 172 = .ok (.bipush 103, 2) := by decide +kernel
theorem dX12_sum_174 : decode cX12_sum 174 = .ok (.iastore, 1) := by decide +kernel
theorem dX12_sum_175 : decode cX12_sum 175 = .ok (.aload_n 0, 1) := by decide +kernel
theorem dX12_sum_176 : decode cX12_sum 176 = .ok (.dup, 1) := by decide +kernel
theorem dX12_sum_177 : decode cX12_sum 177 = .ok (.getfield 102, 3) := by decide +kernel
theorem dX12_sum_180 : decode cX12_sum 180 = .ok (.iconst 1, 1) := by decide +kernel
theorem dX12_sum_181 : decode cX12_sum 181 = .ok (.iadd, 1) := by decide +kernel
theorem dX12_sum_182 : decode cX12_sum 182 = .ok (.putfield 102, 3) := by decide +kernel
theorem dX12_sum_185 : decode cX12_sum 185 = .ok (.aload_n 0, 1) := by decide +kernel
theorem dX12_sum_186 : decode cX12_sum 186 = .ok (.dup, 1) := by decide +kernel
theorem dX12_sum_187 : decode cX12_sum 187 = .ok (.getfield 68, 3) := by decide +kernel
theorem dX12_sum_190 : decode cX12_sum 190 = .ok (.iconst 1, 1) := by decide +kernel
theorem dX12_sum_191 : decode cX12_sum 191 = .ok (.iadd, 1) := by decide +kernel
theorem dX12_sum_192 : decode cX12_sum 192 = .ok (.putfield 68, 3) := by decide +kernel
theorem dX12_sum_195 : decode cX12_sum 195 = .ok (.iconst 1, 1) := by decide +kernel
theorem dX12_sum_196 : decode cX12_sum 196 = .ok (.istore_n 1, 1) := by decide +kernel
theorem dX12_sum_197 : decode cX12_sum 197 = .ok (.goto 56, 3) := by decide +kernel
theorem dX12_sum_200 : decode cX12_sum 200 = .ok (.iload_n 3, 1) := by decide +kernel
theorem dX12_sum_201 : decode cX12_sum 201 = .ok (.bipush 41, 2) := by decide +kernel
theorem dX12_sum_203 : decode cX12_sum 203 = .ok (.if_icmp .ne 48, 3) := by decide +kernel
theorem dX12_sum_206 : decode cX12_sum 206 = .ok (.aload_n 0, 1) := by decide +kernel
theorem dX12_sum_207 : decode cX12_sum 207 = .ok (.getfield 117, 3) := by decide +kernel
theorem dX12_sum_210 : decode cX12_sum 210 = .ok (.ifCond .le 41, 3) := by decide +kernel
theorem dX12_sum_213 : decode cX12_sum 213 = .ok (.aload_n 0, 1) := by decide +kernel
theorem dX12_sum_214 : decode cX12_sum 214 = .ok (.iconst 0, 1) := by decide +kernel
theorem dX12_sum_215 : decode cX12_sum 215 = .ok (.invokevirtual 123, 3) := by decide +kernel
theorem dX12_sum_218 : decode cX12_sum 218 = .ok (.aload_n 0, 1) := by decide +kernel
theorem dX12_sum_219 : decode cX12_sum 219 = .ok (.dup, 1) := by decide +kernel
theorem dX12_sum_220 : decode cX12_sum 220 = .ok (.getfield 102, 3) := by decide +kernel
theorem dX12_sum_223 : decode cX12_sum 223 = .ok (.iconst 1, 1) := by decide +kernel
theorem dX12_sum_224 : decode cX12_sum 224 = .ok (.isub, 1) := by decide +kernel
theorem dX12_sum_225 : decode cX12_sum 225 = .ok (.putfield 102, 3) := by decide +kernel
theorem dX12_sum_228 : decode cX12_sum 228 = .ok (.aload_n 0, 1) := by decide +kernel
theorem dX12_sum_229 : decode cX12_sum 229 = .ok (.dup, 1) := by decide +kernel
theorem dX12_sum_230 : decode cX12_sum 230 = .ok (.getfield 117, 3) := by decide +kernel
theorem dX12_sum_233 : decode cX12_sum 233 = .ok (.iconst 1, 1) := by decide +kernel
theorem dX12_sum_234 : decode cX12_sum 234 = .ok (.isub, 1) := by decide +kernel
theorem dX12_sum_235 : decode cX12_sum 235 = .ok (.putfield 117, 3) := by decide +kernel
theorem dX12_sum_238 : decode cX12_sum 238 = .ok (.aload_n 0, 1) := by decide +kernel
theorem dX12_sum_239 : decode cX12_sum 239 = .ok (.dup, 1) := by decide +kernel
theorem dX12_sum_240 : decode cX12_sum 240 = .ok (.getfield 68, 3) := by decide +kernel
theorem dX12_sum_243 : decode cX12_sum 243 = .ok (.iconst 1, 1) := by decide +kernel
theorem dX12_sum_244 : decode cX12_sum 244 = .ok (.iadd, 1) := by decide +kernel
theorem dX12_sum_245 : decode cX12_sum 245 = .ok (.putfield 68, 3) := by decide +kernel
theorem dX12_sum_248 : decode cX12_sum 248 = .ok (.goto 5, 3) := by decide +kernel
theorem dX12_sum_251 : decode cX12_sum 251 = .ok (.iconst 0, 1) := by decide +kernel
theorem dX12_sum_252 : decode cX12_sum 252 = .ok (.istore_n 2, 1) := by decide +kernel
theorem dX12_sum_253 : decode cX12_sum 253 = .ok (.goto (-234), 3) := by decide +kernel
theorem dX12_sum_256 : decode cX12_sum 256 = .ok (.aload_n 0, 1) := by decide +kernel
theorem dX12_sum_257 : decode cX12_sum 257 = .ok (.iconst 0, 1) := by decide +kernel
theorem dX12_sum_258 : decode cX12_sum 258 = .ok (.invokevirtual 123, 3) := by decide +kernel
theorem dX12_sum_261 : decode cX12_sum 261 = .ok (.aload_n 0, 1) := by decide +kernel
theorem dX12_sum_262 : decode cX12_sum 262 = .ok (.getfield 117, 3) := by decide +kernel
theorem dX12_sum_265 : decode cX12_sum 265 = .ok (.ifCond .le 11, 3) := by decide +kernel
theorem dX12_sum_268 : decode cX12_sum 268 = .ok (.aload_n 0, 1) := by decide +kernel
theorem dX12_sum_269 : decode cX12_sum 269 = .ok (.aload_n 0, 1) := by decide +kernel
theorem dX12_sum_270 : decode cX12_sum 270 = .ok (.getfield 68, 3) := by decide +kernel
theorem dX12_sum_273 : decode cX12_sum 273 = .ok (.invokevirtual 82, 3) := by decide +kernel
theorem dX12_sum_276 : decode cX12_sum 276 = .ok (.return_, 1) := by decide +kernel
theorem dX12_statement_0 : decode cX12_statement 0 = .ok (.aload_n 0, 1) := by decide +kernel
theorem dX12_statement_1 : decode cX12_statement 1 = .ok (.invokevirtual 111, 3) := by decide +kernel
theorem dX12_statement_4 : decode cX12_statement 4 = .ok (.istore_n 1, 1) := by decide +kernel
theorem dX12_statement_5 : decode cX12_statement 5 = .ok (.aload_n 0, 1) := by decide +kernel
theorem dX12_statement_6 : decode cX12_statement 6 = .ok (.bipush 61, 2) := by decide +kernel
theorem dX12_statement_8 : decode cX12_statement 8 = .ok (.invokevirtual 92, 3) := by decide +kernel
theorem dX12_statement_11 : decode cX12_statement 11 = .ok (.aload_n 0, 1) := by decide +kernel
theorem dX12_statement_12 : decode cX12_statement 12 = .ok (.getfield 74, 3) := by decide +kernel
theorem dX12_statement_15 : decode cX12_statement 15 = .ok (.ifCond .eq 4, 3) := by decide +kernel
theorem dX12_statement_18 : decode cX12_statement 18 = .ok (.return_, 1) := by decide +kernel
theorem dX12_statement_19 : decode cX12_statement 19 = .ok (.aload_n 0, 1) := by decide +kernel
theorem dX12_statement_20 : decode cX12_statement 20 = .ok (.invokevirtual 127, 3) := by decide +kernel
theorem dX12_statement_23 : decode cX12_statement 23 = .ok (.aload_n 0, 1) := by decide +kernel
theorem dX12_statement_24 : decode cX12_statement 24 = .ok (.getfield 74, 3) := by decide +kernel
theorem dX12_statement_27 : decode cX12_statement 27 = .ok (.ifCond .ne 21, 3) := by decide +kernel
theorem dX12_statement_30 : decode cX12_statement 30 = .ok (.aload_n 0, 1) := by decide +kernel
theorem dX12_statement_31 : decode cX12_statement 31 = .ok (.iload_n 1, 1) := by decide +kernel
theorem dX12_statement_32 : decode cX12_statement 32 = .ok (.iconst 1, 1) := by decide +kernel
theorem dX12_statement_33 : decode cX12_statement 33 = .ok (.invokevirtual 114, 3) := by decide +kernel
theorem dX12_statement_36 : decode cX12_statement 36 = .ok (.aload_n 0, 1) := by decide +kernel
theorem dX12_statement_37 : decode cX12_statement 37 = .ok (.iconst 3, 1) := by decide +kernel
theorem dX12_statement_38 : decode cX12_statement 38 = .ok (.aload_n 0, 1) := by decide +kernel
theorem dX12_statement_39 : decode cX12_statement 39 = .ok (.iconst 3, 1) := by decide +kernel
theorem dX12_statement_40 : decode cX12_statement 40 = .ok (.invokevirtual 95, 3) := by decide +kernel
theorem dX12_statement_43 : decode cX12_statement 43 = .ok (.iconst 1, 1) := by decide +kernel
theorem dX12_statement_44 : decode cX12_statement 44 = .ok (.iadd, 1) := by decide +kernel
theorem dX12_statement_45 : decode cX12_statement 45 = .ok (.invokevirtual 98, 3) := by decide +kernel
theorem dX12_statement_48 : decode cX12_statement 48 = .ok (.return_, 1) := by decide +kernel
theorem dX12_loop_0 : decode cX12_loop 0 = .ok (.iconst 0, 1) := by decide +kernel
theorem dX12_loop_1 : decode cX12_loop 1 = .ok (.istore_n 1, 1) := by decide +kernel
theorem dX12_loop_2 : decode cX12_loop 2 = .ok (.iload_n 1, 1) := by decide +kernel
theorem dX12_loop_3 : decode cX12_loop 3 = .ok (.sipush 585, 3) := by decide +kernel
theorem dX12_loop_6 : decode cX12_loop 6 = .ok (.if_icmp .ge 15, 3) := by decide +kernel
theorem dX12_loop_9 : decode cX12_loop 9 = .ok (.aload_n 0, 1) := by decide +kernel
theorem dX12_loop_10 : decode cX12_loop 10 = .ok (.iload_n 1, 1) := by decide +kernel
theorem dX12_loop_11 : decode cX12_loop 11 = .ok (.iconst 0, 1) := by decide +kernel
theorem dX12_loop_12 : decode cX12_loop 12 = .ok (.invokevirtual 98, 3) := by decide +kernel
theorem dX12_loop_15 : decode cX12_loop 15 = .ok (.iinc 1 1, 3) := by decide +kernel
theorem dX12_loop_18 : decode cX12_loop 18 = .ok (.goto (-16), 3) := by decide +kernel
theorem dX12_loop_21 : decode cX12_loop 21 = .ok (.aload_n 0, 1) := by decide +kernel
theorem dX12_loop_22 : decode cX12_loop 22 = .ok (.bipush 102, 2) := by decide +kernel
theorem dX12_loop_24 : decode cX12_loop 24 = .ok (.invokevirtual 92, 3) := by decide +kernel
theorem dX12_loop_27 : decode cX12_loop 27 = .ok (.aload_n 0, 1) := by decide +kernel
theorem dX12_loop_28 : decode cX12_loop 28 = .ok (.bipush 111, 2) := by decide +kernel
theorem dX12_loop_30 : decode cX12_loop 30 = .ok (.invokevirtual 92, 3) := by decide +kernel
theorem dX12_loop_33 : decode cX12_loop 33 = .ok (.aload_n 0, 1) := by decide +kernel
theorem dX12_loop_34 : decode cX12_loop 34 = .ok (.bipush 114, 2) := by decide +kernel
theorem dX12_loop_36 : decode cX12_loop 36 = .ok (.invokevirtual 92, 3) := by decide +kernel
theorem dX12_loop_39 : decode cX12_loop 39 = .ok (.aload_n 0, 1) := by decide +kernel
theorem dX12_loop_40 : decode cX12_loop 40 = .ok (.bipush 40, 2) := by decide +kernel
theorem dX12_loop_42 : decode cX12_loop 42 = .ok (.invokevirtual 92, 3) := by decide +kernel
theorem dX12_loop_45 : decode cX12_loop 45 = .ok (.aload_n 0, 1) := by decide +kernel
theorem dX12_loop_46 : decode cX12_loop 46 = .ok (.iconst 0, 1) := by decide +kernel
theorem dX12_loop_47 : decode cX12_loop 47 = .ok (.aload_n 0, 1) := by decide +kernel
theorem dX12_loop_48 : decode cX12_loop 48 = .ok (.iconst 0, 1) := by decide +kernel
theorem dX12_loop_49 : decode cX12_loop 49 = .ok (.invokevirtual 130, 3) := by decide +kernel
theorem dX12_loop_52 : decode cX12_loop 52 = .ok (.invokevirtual 98, 3) := by decide +kernel
theorem dX12_loop_55 : decode cX12_loop 55 = .ok (.aload_n 0, 1) := by decide +kernel
theorem dX12_loop_56 : decode cX12_loop 56 = .ok (.bipush 44, 2) := by decide +kernel
theorem dX12_loop_58 : decode cX12_loop 58 = .ok (.invokevirtual 92, 3) := by decide +kernel
theorem dX12_loop_61 : decode cX12_loop 61 = .ok (.aload_n 0, 1) := by decide +kernel
theorem dX12_loop_62 : decode cX12_loop 62 = .ok (.iconst 1, 1) := by decide +kernel
theorem dX12_loop_63 : decode cX12_loop 63 = .ok (.aload_n 0, 1) := by decide +kernel
theorem dX12_loop_64 : decode cX12_loop 64 = .ok (.aload_n 0, 1) := by decide +kernel
theorem dX12_loop_65 : decode cX12_loop 65 = .ok (.iconst 0, 1) := by decide +kernel
theorem dX12_loop_66 : decode cX12_loop 66 = .ok (.invokevirtual 95, 3) := by decide +kernel
theorem dX12_loop_69 : decode cX12_loop 69 = .ok (.invokevirtual 130, 3) := by decide +kernel
theorem dX12_loop_72 : decode cX12_loop 72 = .ok (.invokevirtual 98, 3) := by decide +kernel
theorem dX12_loop_75 : decode cX12_loop 75 = .ok (.aload_n 0, 1) := by decide +kernel
theorem dX12_loop_76 : decode cX12_loop 76 = .ok (.bipush 41, 2) := by decide +kernel
theorem dX12_loop_78 : decode cX12_loop 78 = .ok (.invokevirtual 92, 3) := by decide +kernel
theorem dX12_loop_81 : decode cX12_loop 81 = .ok (.aload_n 0, 1) := by decide +kernel
theorem dX12_loop_82 : decode cX12_loop 82 = .ok (.bipush 123, 2) := by decide +kernel
theorem dX12_loop_84 : decode cX12_loop 84 = .ok (.invokevirtual 92, 3) := by decide +kernel
theorem dX12_loop_87 : decode cX12_loop 87 = .ok (.aload_n 0, 1) := by decide +kernel
theorem dX12_loop_88 : decode cX12_loop 88 = .ok (.getfield 74, 3) := by decide +kernel
theorem dX12_loop_91 : decode cX12_loop 91 = .ok (.ifCond .ne 7, 3) := by decide +kernel
theorem dX12_loop_94 : decode cX12_loop 94 = .ok (.iconst 1, 1) := by decide +kernel
theorem dX12_loop_95 : decode cX12_loop 95 = .ok (.goto 4, 3) := by decide +kernel
theorem dX12_loop_98 : decode cX12_loop 98 = .ok (.iconst 0, 1) := by decide +kernel
theorem dX12_loop_99 : decode cX12_loop 99 = .ok (.istore_n 1, 1) := by decide +kernel
theorem dX12_loop_100 : decode cX12_loop 100 = .ok (.iload_n 1, 1) := by decide +kernel
theorem dX12_loop_101 : decode cX12_loop 101 = .ok (.ifCond .eq 59, 3) := by decide +kernel
theorem dX12_loop_104 : decode cX12_loop 104 = .ok (.aload_n 0, 1) := by decide +kernel
theorem dX12_loop_105 : decode cX12_loop 105 = .ok (.invokevirtual 133, 3) := by decide +kernel
theorem dX12_loop_108 : decode cX12_loop 108 = .ok (.aload_n 0, 1) := by decide +kernel
theorem dX12_loop_109 : decode cX12_loop 109 = .ok (.getfield 74, 3) := by decide +kernel
theorem dX12_loop_112 : decode cX12_loop 112 = .ok (.ifCond .ne 25, 3) := by decide +kernel
theorem dX12_loop_115 : decode cX12_loop 115 = .ok (.aload_n 0, 1) := by decide +kernel
theorem dX12_loop_116 : decode cX12_loop 116 = .ok (.invokevirtual 78, 3) := by decide +kernel
theorem dX12_loop_119 : decode cX12_loop 119 = .ok (.bipush 59, 2) := by decide +kernel
theorem dX12_loop_121 : decode cX12_loop 121 = .ok (.if_icmp .ne 16, 3) := by decide +kernel
theorem dX12_loop_124 : decode cX12_loop 124 = .ok (.aload_n 0, 1) := by decide +kernel
theorem dX12_loop_125 : decode cX12_loop 125 = .ok (.iconst 3, 1) := by decide +kernel
theorem dX12_loop_126 : decode cX12_loop 126 = .ok (.invokevirtual 95, 3) := by decide +kernel
theorem dX12_loop_129 : decode cX12_loop 129 = .ok (.iconst 4, 1) := by decide +kernel
theorem dX12_loop_130 : decode cX12_loop 130 = .ok (.if_icmp .ge 7, 3) := by decide +kernel
theorem dX12_loop_133 : decode cX12_loop 133 = .ok (.iconst 1, 1) := by decide +kernel
theorem dX12_loop_134 : decode cX12_loop 134 = .ok (.goto 4, 3) := by decide +kernel
theorem dX12_loop_137 : decode cX12_loop 137 = .ok (.iconst 0, 1) := by decide +kernel
theorem dX12_loop_138 : decode cX12_loop 138 = .ok (.istore_n 1, 1) := by decide +kernel
theorem dX12_loop_139 : decode cX12_loop 139 = .ok (.aload_n 0, 1) := by decide +kernel
theorem dX12_loop_140 : decode cX12_loop 140 = .ok (.dup, 1) := by decide +kernel
theorem dX12_loop_141 : decode cX12_loop 141 = .ok (.getfield 68, 3) := by decide +kernel
theorem dX12_loop_144 : decode cX12_loop 144 = .ok (.iload_n 1, 1) := by decide +kernel
theorem dX12_loop_145 : decode cX12_loop 145 = .ok (.ifCond .eq 7, 3) := by decide +kernel
theorem dX12_loop_148 : decode cX12_loop 148 = .ok (.iconst 1, 1) := by decide +kernel
theorem dX12_loop_149 : decode cX12_loop 149 = .ok (.goto 4, 3) := by decide +kernel
theorem dX12_loop_152 : decode cX12_loop 152 = .ok (.iconst 0, 1) := by decide +kernel
theorem dX12_loop_153 : decode cX12_loop 153 = .ok (.iadd, 1) := by decide +kernel
theorem dX12_loop_154 : decode cX12_loop 154 = .ok (.putfield 68, 3) := by decide +kernel
theorem dX12_loop_157 : decode cX12_loop 157 = .ok (.goto (-57), 3) := by decide +kernel
theorem dX12_loop_160 : decode cX12_loop 160 = .ok (.aload_n 0, 1) := by decide +kernel
theorem dX12_loop_161 : decode cX12_loop 161 = .ok (.bipush 125, 2) := by decide +kernel
theorem dX12_loop_163 : decode cX12_loop 163 = .ok (.invokevirtual 92, 3) := by decide +kernel
theorem dX12_loop_166 : decode cX12_loop 166 = .ok (.aload_n 0, 1) := by decide +kernel
theorem dX12_loop_167 : decode cX12_loop 167 = .ok (.dup, 1) := by decide +kernel
theorem dX12_loop_168 : decode cX12_loop 168 = .ok (.getfield 89, 3) := by decide +kernel
theorem dX12_loop_171 : decode cX12_loop 171 = .ok (.iconst 1, 1) := by decide +kernel
theorem dX12_loop_172 : decode cX12_loop 172 = .ok (.iadd, 1) := by decide +kernel
theorem dX12_loop_173 : decode cX12_loop 173 = .ok (.putfield 89, 3) := by decide +kernel
theorem dX12_loop_176 : decode cX12_loop 176 = .ok (.return_, 1) := by decide +kernel
theorem dX12_read_0 : decode cX12_read 0 = .ok (.aload_n 0, 1) := by decide +kernel
theorem dX12_read_1 : decode cX12_read 1 = .ok (.iconst 0, 1) := by decide +kernel
theorem dX12_read_2 : decode cX12_read 2 = .ok (.putfield 50, 3) := by decide +kernel
theorem dX12_read_5 : decode cX12_read 5 = .ok (.aload_n 0, 1) := by decide +kernel
theorem dX12_read_6 : decode cX12_read 6 = .ok (.aload_n 0, 1) := by decide +kernel
theorem dX12_read_7 : decode cX12_read 7 = .ok (.getfield 65, 3) := by decide +kernel
theorem dX12_read_10 : decode cX12_read 10 = .ok (.putfield 71, 3) := by decide +kernel
theorem dX12_read_13 : decode cX12_read 13 = .ok (.aload_n 0, 1) := by decide +kernel
theorem dX12_read_14 : decode cX12_read 14 = .ok (.iconst 0, 1) := by decide +kernel
theorem dX12_read_15 : decode cX12_read 15 = .ok (.putfield 65, 3) := by decide +kernel
theorem dX12_read_18 : decode cX12_read 18 = .ok (.aload_n 0, 1) := by decide +kernel
theorem dX12_read_19 : decode cX12_read 19 = .ok (.iconst 0, 1) := by decide +kernel
theorem dX12_read_20 : decode cX12_read 20 = .ok (.putfield 68, 3) := by decide +kernel
theorem dX12_read_23 : decode cX12_read 23 = .ok (.aload_n 0, 1) := by decide +kernel
theorem dX12_read_24 : decode cX12_read 24 = .ok (.iconst 0, 1) := by decide +kernel
theorem dX12_read_25 : decode cX12_read 25 = .ok (.putfield 74, 3) := by decide +kernel
theorem dX12_read_28 : decode cX12_read 28 = .ok (.aload_n 0, 1) := by decide +kernel
theorem dX12_read_29 : decode cX12_read 29 = .ok (.iconst (-1), 1) := by decide +kernel
theorem dX12_read_30 : decode cX12_read 30 = .ok (.putfield 25, 3) := by decide +kernel
theorem dX12_read_33 : decode cX12_read 33 = .ok (.aload_n 0, 1) := by decide +kernel
theorem dX12_read_34 : decode cX12_read 34 = .ok (.iconst 0, 1) := by decide +kernel
theorem dX12_read_35 : decode cX12_read 35 = .ok (.putfield 89, 3) := by decide +kernel
theorem dX12_read_38 : decode cX12_read 38 = .ok (.iconst 1, 1) := by decide +kernel
theorem dX12_read_39 : decode cX12_read 39 = .ok (.istore_n 1, 1) := by decide +kernel
theorem dX12_read_40 : decode cX12_read 40 = .ok (.iload_n 1, 1) := by decide +kernel
theorem dX12_read_41 : decode cX12_read 41 = .ok (.ifCond .eq 34, 3) := by decide +kernel
theorem dX12_read_44 : decode cX12_read 44 = .ok (.aload_n 0, 1) := by decide +kernel
theorem dX12_read_45 : decode cX12_read 45 = .ok (.invokevirtual 136, 3) := by decide +kernel
theorem dX12_read_48 : decode cX12_read 48 = .ok (.aload_n 0, 1) := by decide +kernel
theorem dX12_read_49 : decode cX12_read 49 = .ok (.getfield 74, 3) := by decide +kernel
theorem dX12_read_52 : decode cX12_read 52 = .ok (.ifCond .ne 18, 3) := by decide +kernel
theorem dX12_read_55 : decode cX12_read 55 = .ok (.aload_n 0, 1) := by decide +kernel
theorem dX12_read_56 : decode cX12_read 56 = .ok (.getfield 68, 3) := by decide +kernel
theorem dX12_read_59 : decode cX12_read 59 = .ok (.aload_n 0, 1) := by decide +kernel
theorem dX12_read_60 : decode cX12_read 60 = .ok (.getfield 71, 3) := by decide +kernel
theorem dX12_read_63 : decode cX12_read 63 = .ok (.if_icmp .ge 7, 3) := by decide +kernel
theorem dX12_read_66 : decode cX12_read 66 = .ok (.iconst 1, 1) := by decide +kernel
theorem dX12_read_67 : decode cX12_read 67 = .ok (.goto 4, 3) := by decide +kernel
theorem dX12_read_70 : decode cX12_read 70 = .ok (.iconst 0, 1) := by decide +kernel
theorem dX12_read_71 : decode cX12_read 71 = .ok (.istore_n 1, 1) := by decide +kernel
theorem dX12_read_72 : decode cX12_read 72 = .ok (.goto (-32), 3) := by decide +kernel
theorem dX12_read_75 : decode cX12_read 75 = .ok (.aload_n 0, 1) := by decide +kernel
theorem dX12_read_76 : decode cX12_read 76 = .ok (.getfield 74, 3) := by decide +kernel
theorem dX12_read_79 : decode cX12_read 79 = .ok (.ifCond .eq 9, 3) := by decide +kernel
theorem dX12_read_82 : decode cX12_read 82 = .ok (.aload_n 0, 1) := by decide +kernel
theorem dX12_read_83 : decode cX12_read 83 = .ok (.iconst 1, 1) := by decide +kernel
theorem dX12_read_84 : decode cX12_read 84 = .ok (.invokevirtual 61, 3) := by decide +kernel
theorem dX12_read_87 : decode cX12_read 87 = .ok (.ireturn, 1) := by decide +kernel
theorem dX12_read_88 : decode cX12_read 88 = .ok (.aload_n 0, 1) := by decide +kernel
theorem dX12_read_89 : decode cX12_read 89 = .ok (.getfield 47, 3) := by decide +kernel
theorem dX12_read_92 : decode cX12_read 92 = .ok (.aload_n 0, 1) := by decide +kernel
theorem dX12_read_93 : decode cX12_read 93 = .ok (.getfield 89, 3) := by decide +kernel
theorem dX12_read_96 : decode cX12_read 96 = .ok (.iadd, 1) := by decide +kernel
theorem dX12_read_97 : decode cX12_read 97 = .ok (.bipush 6, 2) := by decide +kernel
theorem dX12_read_99 : decode cX12_read 99 = .ok (.if_icmp .le 9, 3) := by decide +kernel
theorem dX12_read_102 : decode cX12_read 102 = .ok (.aload_n 0, 1) := by decide +kernel
theorem dX12_read_103 : decode cX12_read 103 = .ok (.iconst 2, 1) := by decide +kernel
theorem dX12_read_104 : decode cX12_read 104 = .ok (.invokevirtual 61, 3) := by decide +kernel
theorem dX12_read_107 : decode cX12_read 107 = .ok (.ireturn, 1) := by decide +kernel
theorem dX12_read_108 : decode cX12_read 108 = .ok (.iconst 0, 1) := by decide +kernel
theorem dX12_read_109 : decode cX12_read 109 = .ok (.istore_n 2, 1) := by decide +kernel
theorem dX12_read_110 : decode cX12_read 110 = .ok (.iload_n 2, 1) := by decide +kernel
theorem dX12_read_111 : decode cX12_read 111 = .ok (.sipush 585, 3) := by decide +kernel
theorem dX12_read_114 : decode cX12_read 114 = .ok (.aload_n 0, 1) := by decide +kernel
theorem dX12_read_115 : decode cX12_read 115 = .ok (.getfield 89, 3) := by decide +kernel
theorem dX12_read_118 : decode cX12_read 118 = .ok (.imul, 1) := by decide +kernel
theorem dX12_read_119 : decode cX12_read 119 = .ok (.if_icmp .ge 30, 3) := by decide +kernel
theorem dX12_read_122 : decode cX12_read 122 = .ok (.aload_n 0, 1) := by decide +kernel
theorem dX12_read_123 : decode cX12_read 123 = .ok (.getfield 9, 3) := by decide +kernel
theorem dX12_read_126 : decode cX12_read 126 = .ok (.sipush 585, 3) := by decide +kernel
theorem dX12_read_129 : decode cX12_read 129 = .ok (.aload_n 0, 1) := by decide +kernel
theorem dX12_read_130 : decode cX12_read 130 = .ok (.getfield 47, 3) := by decide +kernel
theorem dX12_read_133 : decode cX12_read 133 = .ok (.imul, 1) := by decide +kernel
theorem dX12_read_134 : decode cX12_read 134 = .ok (.iload_n 2, 1) := by decide +kernel
theorem dX12_read_135 : decode cX12_read 135 = .ok (.iadd, 1) := by decide +kernel
theorem dX12_read_136 : decode cX12_read 136 = .ok (.aload_n 0, 1) := by decide +kernel
theorem dX12_read_137 : decode cX12_read 137 = .ok (.getfield 29, 3) := by decide +kernel
theorem dX12_read_140 : decode cX12_read 140 = .ok (.iload_n 2, 1) := by decide +kernel
theorem dX12_read_141 : decode cX12_read 141 = .ok (.iaload, 1) := by decide +kernel
theorem dX12_read_142 : decode cX12_read 142 = .ok (.iastore, 1) := by decide +kernel
theorem dX12_read_143 : decode cX12_read 143 = .ok (.iinc 2 1, 3) := by decide +kernel
theorem dX12_read_146 : decode cX12_read 146 = .ok (.goto (-36), 3) := by decide +kernel
theorem dX12_read_149 : decode cX12_read 149 = .ok (.aload_n 0, 1) := by decide +kernel
theorem dX12_read_150 : decode cX12_read 150 = .ok (.dup, 1) := by decide +kernel
theorem dX12_read_151 : decode cX12_read 151 = .ok (.getfield 47, 3) := by decide +kernel
theorem dX12_read_154 : decode cX12_read 154 = .ok (.aload_n 0, 1) := by decide +kernel
theorem dX12_read_155 : decode cX12_read 155 = .ok (.getfield 89, 3) := by decide +kernel
theorem dX12_read_158 : decode cX12_read 158 = .ok (.iadd, 1) := by decide +kernel
theorem dX12_read_159 : decode cX12_read 159 = .ok (.putfield 47, 3) := by decide +kernel
theorem dX12_read_162 : decode cX12_read 162 = .ok (.aload_n 0, 1) := by decide +kernel
theorem dX12_read_163 : decode cX12_read 163 = .ok (.getfield 89, 3) := by decide +kernel
theorem dX12_read_166 : decode cX12_read 166 = .ok (.ireturn, 1) := by decide +kernel
theorem dX12_faultPosition_0 : decode cX12_faultPosition 0 = .ok (.aload_n 0, 1) := by decide +kernel
theorem dX12_faultPosition_1 : decode cX12_faultPosition 1 = .ok (.iconst 0, 1) := by decide +kernel
theorem dX12_faultPosition_2 : decode cX12_faultPosition 2 = .ok (.putfield 50, 3) := by decide +kernel
theorem dX12_faultPosition_5 : decode cX12_faultPosition 5 = .ok (.aload_n 0, 1) := by decide +kernel
theorem dX12_faultPosition_6 : decode cX12_faultPosition 6 = .ok (.getfield 25, 3) := by decide +kernel
theorem dX12_faultPosition_9 : decode cX12_faultPosition 9 = .ok (.ireturn, 1) := by decide +kernel
theorem dX12_removeLoop_0 : decode cX12_removeLoop 0 = .ok (.aload_n 0, 1) := by decide +kernel
theorem dX12_removeLoop_1 : decode cX12_removeLoop 1 = .ok (.iconst 0, 1) := by decide +kernel
theorem dX12_removeLoop_2 : decode cX12_removeLoop 2 = .ok (.putfield 50, 3) := by decide +kernel
theorem dX12_removeLoop_5 : decode cX12_removeLoop 5 = .ok (.aload_n 0, 1) := by decide +kernel
theorem dX12_removeLoop_6 : decode cX12_removeLoop 6 = .ok (.iload_n 1, 1) := by decide +kernel
theorem dX12_removeLoop_7 : decode cX12_removeLoop 7 = .ok (.invokevirtual 139, 3) := by decide +kernel
theorem dX12_removeLoop_10 : decode cX12_removeLoop 10 = .ok (.ifCond .ne 9, 3) := by decide +kernel
theorem dX12_removeLoop_13 : decode cX12_removeLoop 13 = .ok (.aload_n 0, 1) := by decide +kernel
theorem dX12_removeLoop_14 : decode cX12_removeLoop 14 = .ok (.iconst 1, 1) := by decide +kernel
theorem dX12_removeLoop_15 : decode cX12_removeLoop 15 = .ok (.invokevirtual 61, 3) := by decide +kernel
theorem dX12_removeLoop_18 : decode cX12_removeLoop 18 = .ok (.ireturn, 1) := by decide +kernel
theorem dX12_removeLoop_19 : decode cX12_removeLoop 19 = .ok (.aload_n 0, 1) := by decide +kernel
theorem dX12_removeLoop_20 : decode cX12_removeLoop 20 = .ok (.dup, 1) := by decide +kernel
theorem dX12_removeLoop_21 : decode cX12_removeLoop 21 = .ok (.getfield 47, 3) := by decide +kernel
theorem dX12_removeLoop_24 : decode cX12_removeLoop 24 = .ok (.iconst 1, 1) := by decide +kernel
theorem dX12_removeLoop_25 : decode cX12_removeLoop 25 = .ok (.isub, 1) := by decide +kernel
theorem dX12_removeLoop_26 : decode cX12_removeLoop 26 = .ok (.putfield 47, 3) := by decide +kernel
theorem dX12_removeLoop_29 : decode cX12_removeLoop 29 = .ok (.sipush 585, 3) := by decide +kernel
theorem dX12_removeLoop_32 : decode cX12_removeLoop 32 = .ok (.iload_n 1, 1) := by decide +kernel
theorem dX12_removeLoop_33 : decode cX12_removeLoop 33 = .ok (.imul, 1) := by decide +kernel
theorem dX12_removeLoop_34 : decode cX12_removeLoop 34 = .ok (.istore_n 2, 1) := by decide +kernel
theorem dX12_removeLoop_35 : decode cX12_removeLoop 35 = .ok (.iload_n 2, 1) := by decide +kernel
theorem dX12_removeLoop_36 : decode cX12_removeLoop 36 = .ok (.sipush 585, 3) := by decide +kernel
theorem dX12_removeLoop_39 : decode cX12_removeLoop 39 = .ok (.aload_n 0, 1) := by decide +kernel
theorem dX12_removeLoop_40 : decode cX12_removeLoop 40 = .ok (.getfield 47, 3) := by decide +kernel
theorem dX12_removeLoop_43 : decode cX12_removeLoop 43 = .ok (.imul, 1) := by decide +kernel
theorem dX12_removeLoop_44 : decode cX12_removeLoop 44 = .ok (.if_icmp .ge 25, 3) := by decide +kernel
theorem dX12_removeLoop_47 : decode cX12_removeLoop 47 = .ok (.aload_n 0, 1) := by decide +kernel
theorem dX12_removeLoop_48 : decode cX12_removeLoop 48 = .ok (.getfield 9, 3) := by decide +kernel
theorem dX12_removeLoop_51 : decode cX12_removeLoop 51 = .ok (.iload_n 2, 1) := by decide +kernel
theorem dX12_removeLoop_52 : decode cX12_removeLoop 52 = .ok (.aload_n 0, 1) := by decide +kernel
theorem dX12_removeLoop_53 : decode cX12_removeLoop 53 = .ok (.getfield 9, 3) := by decide +kernel
theorem dX12_removeLoop_56 : decode cX12_removeLoop 56 = .ok (.iload_n 2, 1) := by decide +kernel
theorem dX12_removeLoop_57 : decode cX12_removeLoop 57 = .ok (.sipush 585, 3) := by decide +kernel
theorem dX12_removeLoop_60 : decode cX12_removeLoop 60 = .ok (.iadd, 1) := by decide +kernel
theorem dX12_removeLoop_61 : decode cX12_removeLoop 61 = .ok (.iaload, 1) := by decide +kernel
theorem dX12_removeLoop_62 : decode cX12_removeLoop 62 = .ok (.iastore, 1) := by decide +kernel
theorem dX12_removeLoop_63 : decode cX12_removeLoop 63 = .ok (.iinc 2 1, 3) := by decide +kernel
theorem dX12_removeLoop_66 : decode cX12_removeLoop 66 = .ok (.goto (-31), 3) := by decide +kernel
theorem dX12_removeLoop_69 : decode cX12_removeLoop 69 = .ok (.aload_n 0, 1) := by decide +kernel
theorem dX12_removeLoop_70 : decode cX12_removeLoop 70 = .ok (.getfield 47, 3) := by decide +kernel
theorem dX12_removeLoop_73 : decode cX12_removeLoop 73 = .ok (.ireturn, 1) := by decide +kernel
theorem dX12_loopCount_0 : decode cX12_loopCount 0 = .ok (.aload_n 0, 1) := by decide +kernel
theorem dX12_loopCount_1 : decode cX12_loopCount 1 = .ok (.iconst 0, 1) := by decide +kernel
theorem dX12_loopCount_2 : decode cX12_loopCount 2 = .ok (.putfield 50, 3) := by decide +kernel
theorem dX12_loopCount_5 : decode cX12_loopCount 5 = .ok (.aload_n 0, 1) := by decide +kernel
theorem dX12_loopCount_6 : decode cX12_loopCount 6 = .ok (.getfield 47, 3) := by decide +kernel
theorem dX12_loopCount_9 : decode cX12_loopCount 9 = .ok (.ireturn, 1) := by decide +kernel
theorem dX12_bound_0 : decode cX12_bound 0 = .ok (.aload_n 0, 1) := by decide +kernel
theorem dX12_bound_1 : decode cX12_bound 1 = .ok (.iconst 0, 1) := by decide +kernel
theorem dX12_bound_2 : decode cX12_bound 2 = .ok (.putfield 50, 3) := by decide +kernel
theorem dX12_bound_5 : decode cX12_bound 5 = .ok (.aload_n 0, 1) := by decide +kernel
theorem dX12_bound_6 : decode cX12_bound 6 = .ok (.iload_n 1, 1) := by decide +kernel
theorem dX12_bound_7 : decode cX12_bound 7 = .ok (.invokevirtual 139, 3) := by decide +kernel
theorem dX12_bound_10 : decode cX12_bound 10 = .ok (.ifCond .ne 9, 3) := by decide +kernel
theorem dX12_bound_13 : decode cX12_bound 13 = .ok (.aload_n 0, 1) := by decide +kernel
theorem dX12_bound_14 : decode cX12_bound 14 = .ok (.iconst 1, 1) := by decide +kernel
theorem dX12_bound_15 : decode cX12_bound 15 = .ok (.invokevirtual 61, 3) := by decide +kernel
theorem dX12_bound_18 : decode cX12_bound 18 = .ok (.ireturn, 1) := by decide +kernel
theorem dX12_bound_19 : decode cX12_bound 19 = .ok (.iload_n 2, 1) := by decide +kernel
theorem dX12_bound_20 : decode cX12_bound 20 = .ok (.iconst 0, 1) := by decide +kernel
theorem dX12_bound_21 : decode cX12_bound 21 = .ok (.iconst 1, 1) := by decide +kernel
theorem dX12_bound_22 : decode cX12_bound 22 = .ok (.invokestatic 53, 3) := by decide +kernel
theorem dX12_bound_25 : decode cX12_bound 25 = .ok (.ifCond .eq 12, 3) := by decide +kernel
theorem dX12_bound_28 : decode cX12_bound 28 = .ok (.aload_n 0, 1) := by decide +kernel
theorem dX12_bound_29 : decode cX12_bound 29 = .ok (.iload_n 1, 1) := by decide +kernel
theorem dX12_bound_30 : decode cX12_bound 30 = .ok (.iload_n 2, 1) := by decide +kernel
theorem dX12_bound_31 : decode cX12_bound 31 = .ok (.invokevirtual 57, 3) := by decide +kernel
theorem dX12_bound_34 : decode cX12_bound 34 = .ok (.goto 8, 3) := by decide +kernel
theorem dX12_bound_37 : decode cX12_bound 37 = .ok (.aload_n 0, 1) := by decide +kernel
theorem dX12_bound_38 : decode cX12_bound 38 = .ok (.iconst 2, 1) := by decide +kernel
theorem dX12_bound_39 : decode cX12_bound 39 = .ok (.invokevirtual 61, 3) := by decide +kernel
theorem dX12_bound_42 : decode cX12_bound 42 = .ok (.ireturn, 1) := by decide +kernel
theorem dX12_setBound_0 : decode cX12_setBound 0 = .ok (.aload_n 0, 1) := by decide +kernel
theorem dX12_setBound_1 : decode cX12_setBound 1 = .ok (.iconst 0, 1) := by decide +kernel
theorem dX12_setBound_2 : decode cX12_setBound 2 = .ok (.putfield 50, 3) := by decide +kernel
theorem dX12_setBound_5 : decode cX12_setBound 5 = .ok (.aload_n 0, 1) := by decide +kernel
theorem dX12_setBound_6 : decode cX12_setBound 6 = .ok (.iload_n 1, 1) := by decide +kernel
theorem dX12_setBound_7 : decode cX12_setBound 7 = .ok (.invokevirtual 139, 3) := by decide +kernel
theorem dX12_setBound_10 : decode cX12_setBound 10 = .ok (.ifCond .ne 9, 3) := by decide +kernel
theorem dX12_setBound_13 : decode cX12_setBound 13 = .ok (.aload_n 0, 1) := by decide +kernel
theorem dX12_setBound_14 : decode cX12_setBound 14 = .ok (.iconst 1, 1) := by decide +kernel
theorem dX12_setBound_15 : decode cX12_setBound 15 = .ok (.invokevirtual 61, 3) := by decide +kernel
theorem dX12_setBound_18 : decode cX12_setBound 18 = .ok (.ireturn, 1) := by decide +kernel
theorem dX12_setBound_19 : decode cX12_setBound 19 = .ok (.iload_n 2, 1) := by decide +kernel
theorem dX12_setBound_20 : decode cX12_setBound 20 = .ok (.ifCond .ne 17, 3) := by decide +kernel
theorem dX12_setBound_23 : decode cX12_setBound 23 = .ok (.iload_n 3, 1) := by decide +kernel
theorem dX12_setBound_24 : decode cX12_setBound 24 = .ok (.iconst 0, 1) := by decide +kernel
theorem dX12_setBound_25 : decode cX12_setBound 25 = .ok (.aload_n 0, 1) := by decide +kernel
theorem dX12_setBound_26 : decode cX12_setBound 26 = .ok (.iload_n 1, 1) := by decide +kernel
theorem dX12_setBound_27 : decode cX12_setBound 27 = .ok (.iconst 1, 1) := by decide +kernel
theorem dX12_setBound_28 : decode cX12_setBound 28 = .ok (.invokevirtual 57, 3) := by decide +kernel
theorem dX12_setBound_31 : decode cX12_setBound 31 = .ok (.invokestatic 53, 3) := by decide +kernel
theorem dX12_setBound_34 : decode cX12_setBound 34 = .ok (.goto 28, 3) := by decide +kernel
theorem dX12_setBound_37 : decode cX12_setBound 37 = .ok (.iload_n 2, 1) := by decide +kernel
theorem dX12_setBound_38 : decode cX12_setBound 38 = .ok (.iconst 1, 1) := by decide +kernel
theorem dX12_setBound_39 : decode cX12_setBound 39 = .ok (.if_icmp .ne 22, 3) := by decide +kernel
theorem dX12_setBound_42 : decode cX12_setBound 42 = .ok (.iload_n 3, 1) := by decide +kernel
theorem dX12_setBound_43 : decode cX12_setBound 43 = .ok (.aload_n 0, 1) := by decide +kernel
theorem dX12_setBound_44 : decode cX12_setBound 44 = .ok (.iload_n 1, 1) := by decide +kernel
theorem dX12_setBound_45 : decode cX12_setBound 45 = .ok (.iconst 0, 1) := by decide +kernel
theorem dX12_setBound_46 : decode cX12_setBound 46 = .ok (.invokevirtual 57, 3) := by decide +kernel
theorem dX12_setBound_49 : decode cX12_setBound 49 = .ok (.bipush 30, 2) := by decide +kernel
theorem dX12_setBound_51 : decode cX12_setBound 51 = .ok (.invokestatic 53, 3) := by decide +kernel
theorem dX12_setBound_54 : decode cX12_setBound 54 = .ok (.ifCond .eq 7, 3) := by decide +kernel
theorem dX12_setBound_57 : decode cX12_setBound 57 = .ok (.iconst 1, 1) := by decide +kernel
theorem dX12_setBound_58 : decode cX12_setBound 58 = .ok (.goto 4, 3) := by decide +kernel
theorem dX12_setBound_61 : decode cX12_setBound 61 = .ok (.iconst 0, 1) := by decide +kernel
theorem dX12_setBound_62 : decode cX12_setBound 62 = .ok (.istore 4, 2) := by decide +kernel
theorem dX12_setBound_64 : decode cX12_setBound 64 = .ok (.iload 4, 2) := by decide +kernel
theorem dX12_setBound_66 : decode cX12_setBound 66 = .ok (.ifCond .ne 9, 3) := by decide +kernel
theorem dX12_setBound_69 : decode cX12_setBound 69 = .ok (.aload_n 0, 1) := by decide +kernel
theorem dX12_setBound_70 : decode cX12_setBound 70 = .ok (.iconst 2, 1) := by decide +kernel
theorem dX12_setBound_71 : decode cX12_setBound 71 = .ok (.invokevirtual 61, 3) := by decide +kernel
theorem dX12_setBound_74 : decode cX12_setBound 74 = .ok (.ireturn, 1) := by decide +kernel
theorem dX12_setBound_75 : decode cX12_setBound 75 = .ok (.aload_n 0, 1) := by decide +kernel
theorem dX12_setBound_76 : decode cX12_setBound 76 = .ok (.iload_n 1, 1) := by decide +kernel
theorem dX12_setBound_77 : decode cX12_setBound 77 = .ok (.iload_n 2, 1) := by decide +kernel
theorem dX12_setBound_78 : decode cX12_setBound 78 = .ok (.invokevirtual 57, 3) := by decide +kernel
theorem dX12_setBound_81 : decode cX12_setBound 81 = .ok (.istore 5, 2) := by decide +kernel
theorem dX12_setBound_83 : decode cX12_setBound 83 = .ok (.aload_n 0, 1) := by decide +kernel
theorem dX12_setBound_84 : decode cX12_setBound 84 = .ok (.getfield 9, 3) := by decide +kernel
theorem dX12_setBound_87 : decode cX12_setBound 87 = .ok (.sipush 585, 3) := by decide +kernel
theorem dX12_setBound_90 : decode cX12_setBound 90 = .ok (.iload_n 1, 1) := by decide +kernel
theorem dX12_setBound_91 : decode cX12_setBound 91 = .ok (.imul, 1) := by decide +kernel
theorem dX12_setBound_92 : decode cX12_setBound 92 = .ok (.iload_n 2, 1) := by decide +kernel
theorem dX12_setBound_93 : decode cX12_setBound 93 = .ok (.iadd, 1) := by decide +kernel
theorem dX12_setBound_94 : decode cX12_setBound 94 = .ok (.iload_n 3, 1) := by decide +kernel
theorem dX12_setBound_95 : decode cX12_setBound 95 = .ok (.iastore, 1) := by decide +kernel
theorem dX12_setBound_96 : decode cX12_setBound 96 = .ok (.iload 5, 2) := by decide +kernel
theorem dX12_setBound_98 : decode cX12_setBound 98 = .ok (.ireturn, 1) := by decide +kernel
theorem dX12_statementCount_0 : decode cX12_statementCount 0 = .ok (.aload_n 0, 1) := by decide +kernel
theorem dX12_statementCount_1 : decode cX12_statementCount 1 = .ok (.iconst 0, 1) := by decide +kernel
theorem dX12_statementCount_2 : decode cX12_statementCount 2 = .ok (.putfield 50, 3) := by decide +kernel
theorem dX12_statementCount_5 : decode cX12_statementCount 5 = .ok (.aload_n 0, 1) := by decide +kernel
theorem dX12_statementCount_6 : decode cX12_statementCount 6 = .ok (.iload_n 1, 1) := by decide +kernel
theorem dX12_statementCount_7 : decode cX12_statementCount 7 = .ok (.invokevirtual 139, 3) := by decide +kernel
theorem dX12_statementCount_10 : decode cX12_statementCount 10 = .ok (.ifCond .eq 12, 3) := by decide +kernel
theorem dX12_statementCount_13 : decode cX12_statementCount 13 = .ok (.aload_n 0, 1) := by decide +kernel
theorem dX12_statementCount_14 : decode cX12_statementCount 14 = .ok (.iload_n 1, 1) := by decide +kernel
theorem dX12_statementCount_15 : decode cX12_statementCount 15 = .ok (.iconst 3, 1) := by decide +kernel
theorem dX12_statementCount_16 : decode cX12_statementCount 16 = .ok (.invokevirtual 57, 3) := by decide +kernel
theorem dX12_statementCount_19 : decode cX12_statementCount 19 = .ok (.goto 8, 3) := by decide +kernel
theorem dX12_statementCount_22 : decode cX12_statementCount 22 = .ok (.aload_n 0, 1) := by decide +kernel
theorem dX12_statementCount_23 : decode cX12_statementCount 23 = .ok (.iconst 1, 1) := by decide +kernel
theorem dX12_statementCount_24 : decode cX12_statementCount 24 = .ok (.invokevirtual 61, 3) := by decide +kernel
theorem dX12_statementCount_27 : decode cX12_statementCount 27 = .ok (.ireturn, 1) := by decide +kernel
theorem dX12_referenceCount_0 : decode cX12_referenceCount 0 = .ok (.aload_n 0, 1) := by decide +kernel
theorem dX12_referenceCount_1 : decode cX12_referenceCount 1 = .ok (.iconst 0, 1) := by decide +kernel
theorem dX12_referenceCount_2 : decode cX12_referenceCount 2 = .ok (.putfield 50, 3) := by decide +kernel
theorem dX12_referenceCount_5 : decode cX12_referenceCount 5 = .ok (.aload_n 0, 1) := by decide +kernel
theorem dX12_referenceCount_6 : decode cX12_referenceCount 6 = .ok (.iload_n 1, 1) := by decide +kernel
theorem dX12_referenceCount_7 : decode cX12_referenceCount 7 = .ok (.invokevirtual 139, 3) := by decide +kernel
theorem dX12_referenceCount_10 : decode cX12_referenceCount 10 = .ok (.ifCond .eq 12, 3) := by decide +kernel
theorem dX12_referenceCount_13 : decode cX12_referenceCount 13 = .ok (.aload_n 0, 1) := by decide +kernel
theorem dX12_referenceCount_14 : decode cX12_referenceCount 14 = .ok (.iload_n 1, 1) := by decide +kernel
theorem dX12_referenceCount_15 : decode cX12_referenceCount 15 = .ok (.iconst 4, 1) := by decide +kernel
theorem dX12_referenceCount_16 : decode cX12_referenceCount 16 = .ok (.invokevirtual 57, 3) := by decide +kernel
theorem dX12_referenceCount_19 : decode cX12_referenceCount 19 = .ok (.goto 8, 3) := by decide +kernel
theorem dX12_referenceCount_22 : decode cX12_referenceCount 22 = .ok (.aload_n 0, 1) := by decide +kernel
theorem dX12_referenceCount_23 : decode cX12_referenceCount 23 = .ok (.iconst 1, 1) := by decide +kernel
theorem dX12_referenceCount_24 : decode cX12_referenceCount 24 = .ok (.invokevirtual 61, 3) := by decide +kernel
theorem dX12_referenceCount_27 : decode cX12_referenceCount 27 = .ok (.ireturn, 1) := by decide +kernel
theorem dX12_reference__0 : decode cX12_reference_ 0 = .ok (.aload_n 0, 1) := by decide +kernel
theorem dX12_reference__1 : decode cX12_reference_ 1 = .ok (.iconst 0, 1) := by decide +kernel
theorem dX12_reference__2 : decode cX12_reference_ 2 = .ok (.putfield 50, 3) := by decide +kernel
theorem dX12_reference__5 : decode cX12_reference_ 5 = .ok (.aload_n 0, 1) := by decide +kernel
theorem dX12_reference__6 : decode cX12_reference_ 6 = .ok (.iload_n 1, 1) := by decide +kernel
theorem dX12_reference__7 : decode cX12_reference_ 7 = .ok (.invokevirtual 139, 3) := by decide +kernel
theorem dX12_reference__10 : decode cX12_reference_ 10 = .ok (.ifCond .eq 19, 3) := by decide +kernel
theorem dX12_reference__13 : decode cX12_reference_ 13 = .ok (.iload_n 2, 1) := by decide +kernel
theorem dX12_reference__14 : decode cX12_reference_ 14 = .ok (.iconst 0, 1) := by decide +kernel
theorem dX12_reference__15 : decode cX12_reference_ 15 = .ok (.aload_n 0, 1) := by decide +kernel
theorem dX12_reference__16 : decode cX12_reference_ 16 = .ok (.iload_n 1, 1) := by decide +kernel
theorem dX12_reference__17 : decode cX12_reference_ 17 = .ok (.iconst 4, 1) := by decide +kernel
theorem dX12_reference__18 : decode cX12_reference_ 18 = .ok (.invokevirtual 57, 3) := by decide +kernel
theorem dX12_reference__21 : decode cX12_reference_ 21 = .ok (.iconst 1, 1) := by decide +kernel
theorem dX12_reference__22 : decode cX12_reference_ 22 = .ok (.isub, 1) := by decide +kernel
theorem dX12_reference__23 : decode cX12_reference_ 23 = .ok (.invokestatic 53, 3) := by decide +kernel
theorem dX12_reference__26 : decode cX12_reference_ 26 = .ok (.ifCond .ne 9, 3) := by decide +kernel
theorem dX12_reference__29 : decode cX12_reference_ 29 = .ok (.aload_n 0, 1) := by decide +kernel
theorem dX12_reference__30 : decode cX12_reference_ 30 = .ok (.iconst 1, 1) := by decide +kernel
theorem dX12_reference__31 : decode cX12_reference_ 31 = .ok (.invokevirtual 61, 3) := by decide +kernel
theorem dX12_reference__34 : decode cX12_reference_ 34 = .ok (.ireturn, 1) := by decide +kernel
theorem dX12_reference__35 : decode cX12_reference_ 35 = .ok (.iload_n 3, 1) := by decide +kernel
theorem dX12_reference__36 : decode cX12_reference_ 36 = .ok (.iconst 0, 1) := by decide +kernel
theorem dX12_reference__37 : decode cX12_reference_ 37 = .ok (.iconst 3, 1) := by decide +kernel
theorem dX12_reference__38 : decode cX12_reference_ 38 = .ok (.invokestatic 53, 3) := by decide +kernel
theorem dX12_reference__41 : decode cX12_reference_ 41 = .ok (.ifCond .eq 19, 3) := by decide +kernel
theorem dX12_reference__44 : decode cX12_reference_ 44 = .ok (.aload_n 0, 1) := by decide +kernel
theorem dX12_reference__45 : decode cX12_reference_ 45 = .ok (.iload_n 1, 1) := by decide +kernel
theorem dX12_reference__46 : decode cX12_reference_ 46 = .ok (.iconst 5, 1) := by decide +kernel
theorem dX12_reference__47 : decode cX12_reference_ 47 = .ok (.bipush 24, 2) := by decide +kernel
theorem dX12_reference__49 : decode cX12_reference_ 49 = .ok (.iload_n 3, 1) := by decide +kernel
theorem dX12_reference__50 : decode cX12_reference_ 50 = .ok (.imul, 1) := by decide +kernel
theorem dX12_reference__51 : decode cX12_reference_ 51 = .ok (.iadd, 1) := by decide +kernel
theorem dX12_reference__52 : decode cX12_reference_ 52 = .ok (.iload_n 2, 1) := by decide +kernel
theorem dX12_reference__53 : decode cX12_reference_ 53 = .ok (.iadd, 1) := by decide +kernel
theorem dX12_reference__54 : decode cX12_reference_ 54 = .ok (.invokevirtual 57, 3) := by decide +kernel
theorem dX12_reference__57 : decode cX12_reference_ 57 = .ok (.goto 8, 3) := by decide +kernel
theorem dX12_reference__60 : decode cX12_reference_ 60 = .ok (.aload_n 0, 1) := by decide +kernel
theorem dX12_reference__61 : decode cX12_reference_ 61 = .ok (.iconst 2, 1) := by decide +kernel
theorem dX12_reference__62 : decode cX12_reference_ 62 = .ok (.invokevirtual 61, 3) := by decide +kernel
theorem dX12_reference__65 : decode cX12_reference_ 65 = .ok (.ireturn, 1) := by decide +kernel
theorem dX12_isStatement_0 : decode cX12_isStatement 0 = .ok (.aload_n 0, 1) := by decide +kernel
theorem dX12_isStatement_1 : decode cX12_isStatement 1 = .ok (.iload_n 1, 1) := by decide +kernel
theorem dX12_isStatement_2 : decode cX12_isStatement 2 = .ok (.invokevirtual 139, 3) := by decide +kernel
theorem dX12_isStatement_5 : decode cX12_isStatement 5 = .ok (.ifCond .eq 23, 3) := by decide +kernel
theorem dX12_isStatement_8 : decode cX12_isStatement 8 = .ok (.iload_n 2, 1) := by decide +kernel
theorem dX12_isStatement_9 : decode cX12_isStatement 9 = .ok (.iconst 0, 1) := by decide +kernel
theorem dX12_isStatement_10 : decode cX12_isStatement 10 = .ok (.aload_n 0, 1) := by decide +kernel
theorem dX12_isStatement_11 : decode cX12_isStatement 11 = .ok (.iload_n 1, 1) := by decide +kernel
theorem dX12_isStatement_12 : decode cX12_isStatement 12 = .ok (.iconst 3, 1) := by decide +kernel
theorem dX12_isStatement_13 : decode cX12_isStatement 13 = .ok (.invokevirtual 57, 3) := by decide +kernel
theorem dX12_isStatement_16 : decode cX12_isStatement 16 = .ok (.iconst 1, 1) := by decide +kernel
theorem dX12_isStatement_17 : decode cX12_isStatement 17 = .ok (.isub, 1) := by decide +kernel
theorem dX12_isStatement_18 : decode cX12_isStatement 18 = .ok (.invokestatic 53, 3) := by decide +kernel
theorem dX12_isStatement_21 : decode cX12_isStatement 21 = .ok (.ifCond .eq 7, 3) := by decide +kernel
theorem dX12_isStatement_24 : decode cX12_isStatement 24 = .ok (.iconst 1, 1) := by decide +kernel
theorem dX12_isStatement_25 : decode cX12_isStatement 25 = .ok (.goto 4, 3) := by decide +kernel
theorem dX12_isStatement_28 : decode cX12_isStatement 28 = .ok (.iconst 0, 1) := by decide +kernel
theorem dX12_isStatement_29 : decode cX12_isStatement 29 = .ok (.ireturn, 1) := by decide +kernel
theorem dX12_tokenOf_0 : decode cX12_tokenOf 0 = .ok (.aload_n 0, 1) := by decide +kernel
theorem dX12_tokenOf_1 : decode cX12_tokenOf 1 = .ok (.iload_n 1, 1) := by decide +kernel
theorem dX12_tokenOf_2 : decode cX12_tokenOf 2 = .ok (.bipush 105, 2) := by decide +kernel
theorem dX12_tokenOf_4 : decode cX12_tokenOf 4 = .ok (.bipush 120, 2) := by decide +kernel
theorem dX12_tokenOf_6 : decode cX12_tokenOf 6 = .ok (.iload_n 2, 1) := by decide +kernel
theorem dX12_tokenOf_7 : decode cX12_tokenOf 7 = .ok (.imul, 1) := by decide +kernel
theorem dX12_tokenOf_8 : decode cX12_tokenOf 8 = .ok (.iadd, 1) := by decide +kernel
theorem dX12_tokenOf_9 : decode cX12_tokenOf 9 = .ok (.iload_n 3, 1) := by decide +kernel
theorem dX12_tokenOf_10 : decode cX12_tokenOf 10 = .ok (.iadd, 1) := by decide +kernel
theorem dX12_tokenOf_11 : decode cX12_tokenOf 11 = .ok (.invokevirtual 57, 3) := by decide +kernel
theorem dX12_tokenOf_14 : decode cX12_tokenOf 14 = .ok (.ireturn, 1) := by decide +kernel
theorem dX12_operators_0 : decode cX12_operators 0 = .ok (.aload_n 0, 1) := by decide +kernel
theorem dX12_operators_1 : decode cX12_operators 1 = .ok (.iconst 0, 1) := by decide +kernel
theorem dX12_operators_2 : decode cX12_operators 2 = .ok (.putfield 50, 3) := by decide +kernel
theorem dX12_operators_5 : decode cX12_operators 5 = .ok (.aload_n 0, 1) := by decide +kernel
theorem dX12_operators_6 : decode cX12_operators 6 = .ok (.iload_n 1, 1) := by decide +kernel
theorem dX12_operators_7 : decode cX12_operators 7 = .ok (.iload_n 2, 1) := by decide +kernel
theorem dX12_operators_8 : decode cX12_operators 8 = .ok (.invokevirtual 143, 3) := by decide +kernel
theorem dX12_operators_11 : decode cX12_operators 11 = .ok (.ifCond .ne 9, 3) := by decide +kernel
theorem dX12_operators_14 : decode cX12_operators 14 = .ok (.aload_n 0, 1) := by decide +kernel
theorem dX12_operators_15 : decode cX12_operators 15 = .ok (.iconst 1, 1) := by decide +kernel
theorem dX12_operators_16 : decode cX12_operators 16 = .ok (.invokevirtual 61, 3) := by decide +kernel
theorem dX12_operators_19 : decode cX12_operators 19 = .ok (.ireturn, 1) := by decide +kernel
theorem dX12_operators_20 : decode cX12_operators 20 = .ok (.iload_n 3, 1) := by decide +kernel
theorem dX12_operators_21 : decode cX12_operators 21 = .ok (.iconst 0, 1) := by decide +kernel
theorem dX12_operators_22 : decode cX12_operators 22 = .ok (.iconst 2, 1) := by decide +kernel
theorem dX12_operators_23 : decode cX12_operators 23 = .ok (.invokestatic 53, 3) := by decide +kernel
theorem dX12_operators_26 : decode cX12_operators 26 = .ok (.ifCond .ne 9, 3) := by decide +kernel
theorem dX12_operators_29 : decode cX12_operators 29 = .ok (.aload_n 0, 1) := by decide +kernel
theorem dX12_operators_30 : decode cX12_operators 30 = .ok (.iconst 2, 1) := by decide +kernel
theorem dX12_operators_31 : decode cX12_operators 31 = .ok (.invokevirtual 61, 3) := by decide +kernel
theorem dX12_operators_34 : decode cX12_operators 34 = .ok (.ireturn, 1) := by decide +kernel
theorem dX12_operators_35 : decode cX12_operators 35 = .ok (.iconst 0, 1) := by decide +kernel
theorem dX12_operators_36 : decode cX12_operators 36 = .ok (.istore 4, 2) := by decide +kernel
theorem dX12_operators_38 : decode cX12_operators 38 = .ok (.iconst 0, 1) := by decide +kernel
theorem dX12_operators_39 : decode cX12_operators 39 = .ok (.istore 5, 2) := by decide +kernel
theorem dX12_operators_41 : decode cX12_operators 41 = .ok (.iload 5, 2) := by decide +kernel
theorem dX12_operators_43 : decode cX12_operators 43 = .ok (.aload_n 0, 1) := by decide +kernel
theorem dX12_operators_44 : decode cX12_operators 44 = .ok (.iload_n 1, 1) := by decide +kernel
theorem dX12_operators_45 : decode cX12_operators 45 = .ok (.bipush 101, 2) := by decide +kernel
theorem dX12_operators_47 : decode cX12_operators 47 = .ok (.iload_n 2, 1) := by decide +kernel
theorem dX12_operators_48 : decode cX12_operators 48 = .ok (.iadd, 1) := by decide +kernel
theorem dX12_operators_49 : decode cX12_operators 49 = .ok (.invokevirtual 57, 3) := by decide +kernel
theorem dX12_operators_52 : decode cX12_operators 52 = .ok (.if_icmp .ge 34, 3) := by decide +kernel
theorem dX12_operators_55 : decode cX12_operators 55 = .ok (.iload 4, 2) := by decide +kernel
theorem dX12_operators_57 : decode cX12_operators 57 = .ok (.aload_n 0, 1) := by decide +kernel
theorem dX12_operators_58 : decode cX12_operators 58 = .ok (.iload_n 1, 1) := by decide +kernel
theorem dX12_operators_59 : decode cX12_operators 59 = .ok (.iload_n 2, 1) := by decide +kernel
theorem dX12_operators_60 : decode cX12_operators 60 = .ok (.iload 5, 2) := by decide +kernel
theorem dX12_operators_62 : decode cX12_operators 62 = .ok (.invokevirtual 147, 3) := by decide +kernel
theorem dX12_operators_65 : decode cX12_operators 65 = .ok (.bipush 101, 2) := by decide +kernel
theorem dX12_operators_67 : decode cX12_operators 67 = .ok (.iload_n 3, 1) := by decide +kernel
theorem dX12_operators_68 : decode cX12_operators 68 = .ok (.iadd, 1) := by decide +kernel
theorem dX12_operators_69 : decode cX12_operators 69 = .ok (.if_icmp .ne 7, 3) := by decide +kernel
theorem dX12_operators_72 : decode cX12_operators 72 = .ok (.iconst 1, 1) := by decide +kernel
theorem dX12_operators_73 : decode cX12_operators 73 = .ok (.goto 4, 3) := by decide +kernel
theorem dX12_operators_76 : decode cX12_operators 76 = .ok (.iconst 0, 1) := by decide +kernel
theorem dX12_operators_77 : decode cX12_operators 77 = .ok (.iadd, 1) := by decide +kernel
theorem dX12_operators_78 : decode cX12_operators 78 = .ok (.istore 4, 2) := by decide +kernel
theorem dX12_operators_80 : decode cX12_operators 80 = .ok (.iinc 5 1, 3) := by decide +kernel
theorem dX12_operators_83 : decode cX12_operators 83 = .ok (.goto (-42), 3) := by decide +kernel
theorem dX12_operators_86 : decode cX12_operators 86 = .ok (.iload 4, 2) := by decide +kernel
theorem dX12_operators_88 : decode cX12_operators 88 = .ok (.ireturn, 1) := by decide +kernel
theorem dX12_height_0 : decode cX12_height 0 = .ok (.aload_n 0, 1) := by decide +kernel
theorem dX12_height_1 : decode cX12_height 1 = .ok (.iconst 0, 1) := by decide +kernel
theorem dX12_height_2 : decode cX12_height 2 = .ok (.putfield 50, 3) := by decide +kernel
theorem dX12_height_5 : decode cX12_height 5 = .ok (.aload_n 0, 1) := by decide +kernel
theorem dX12_height_6 : decode cX12_height 6 = .ok (.iload_n 1, 1) := by decide +kernel
theorem dX12_height_7 : decode cX12_height 7 = .ok (.iload_n 2, 1) := by decide +kernel
theorem dX12_height_8 : decode cX12_height 8 = .ok (.invokevirtual 143, 3) := by decide +kernel
theorem dX12_height_11 : decode cX12_height 11 = .ok (.ifCond .ne 9, 3) := by decide +kernel
theorem dX12_height_14 : decode cX12_height 14 = .ok (.aload_n 0, 1) := by decide +kernel
theorem dX12_height_15 : decode cX12_height 15 = .ok (.iconst 1, 1) := by decide +kernel
theorem dX12_height_16 : decode cX12_height 16 = .ok (.invokevirtual 61, 3) := by decide +kernel
theorem dX12_height_19 : decode cX12_height 19 = .ok (.ireturn, 1) := by decide +kernel
theorem dX12_height_20 : decode cX12_height 20 = .ok (.iconst 0, 1) := by decide +kernel
theorem dX12_height_21 : decode cX12_height 21 = .ok (.istore_n 3, 1) := by decide +kernel
theorem dX12_height_22 : decode cX12_height 22 = .ok (.iconst 0, 1) := by decide +kernel
theorem dX12_height_23 : decode cX12_height 23 = .ok (.istore 4, 2) := by decide +kernel
theorem dX12_height_25 : decode cX12_height 25 = .ok (.iload 4, 2) := by decide +kernel
theorem dX12_height_27 : decode cX12_height 27 = .ok (.aload_n 0, 1) := by decide +kernel
theorem dX12_height_28 : decode cX12_height 28 = .ok (.iload_n 1, 1) := by decide +kernel
theorem dX12_height_29 : decode cX12_height 29 = .ok (.bipush 101, 2) := by decide +kernel
theorem dX12_height_31 : decode cX12_height 31 = .ok (.iload_n 2, 1) := by decide +kernel
theorem dX12_height_32 : decode cX12_height 32 = .ok (.iadd, 1) := by decide +kernel
theorem dX12_height_33 : decode cX12_height 33 = .ok (.invokevirtual 57, 3) := by decide +kernel
theorem dX12_height_36 : decode cX12_height 36 = .ok (.if_icmp .ge 74, 3) := by decide +kernel
theorem dX12_height_39 : decode cX12_height 39 = .ok (.aload_n 0, 1) := by decide +kernel
theorem dX12_height_40 : decode cX12_height 40 = .ok (.iload_n 1, 1) := by decide +kernel
theorem dX12_height_41 : decode cX12_height 41 = .ok (.iload_n 2, 1) := by decide +kernel
theorem dX12_height_42 : decode cX12_height 42 = .ok (.iload 4, 2) := by decide +kernel
theorem dX12_height_44 : decode cX12_height 44 = .ok (.invokevirtual 147, 3) := by decide +kernel
theorem dX12_height_47 : decode cX12_height 47 = .ok (.istore 5, 2) := by decide +kernel
theorem dX12_height_49 : decode cX12_height 49 = .ok (.iload 5, 2) := by decide +kernel
theorem dX12_height_51 : decode cX12_height 51 = .ok (.bipush 101, 2) := by decide +kernel
theorem dX12_height_53 : decode cX12_height 53 = .ok (.bipush 103, 2) := by decide +kernel
theorem dX12_height_55 : decode cX12_height 55 = .ok (.invokestatic 53, 3) := by decide +kernel
theorem dX12_height_58 : decode cX12_height 58 = .ok (.ifCond .eq 36, 3) := by decide +kernel
theorem dX12_height_61 : decode cX12_height 61 = .ok (.iinc 3 (-1), 3) := by decide +kernel
theorem dX12_height_64 : decode cX12_height 64 = .ok (.aload_n 0, 1) := by decide +kernel
theorem dX12_height_65 : decode cX12_height 65 = .ok (.getfield 35, 3) := by decide +kernel
theorem dX12_height_68 : decode cX12_height 68 = .ok (.iload_n 3, 1) := by decide +kernel
theorem dX12_height_69 : decode cX12_height 69 = .ok (.iconst 1, 1) := by decide +kernel
theorem dX12_height_70 : decode cX12_height 70 = .ok (.isub, 1) := by decide +kernel
theorem dX12_height_71 : decode cX12_height 71 = .ok (.iconst 1, 1) := by decide +kernel
theorem dX12_height_72 : decode cX12_height 72 = .ok (.aload_n 0, 1) := by decide +kernel
theorem dX12_height_73 : decode cX12_height 73 = .ok (.getfield 35, 3) := by decide +kernel
theorem dX12_height_76 : decode cX12_height 76 = .ok (.iload_n 3, 1) := by decide +kernel
theorem dX12_height_77 : decode cX12_height 77 = .ok (.iconst 1, 1) := by decide +kernel
theorem dX12_height_78 : decode cX12_height 78 = .ok (.isub, 1) := by decide +kernel
theorem dX12_height_79 : decode cX12_height 79 = .ok (.iaload, 1) := by decide +kernel
theorem dX12_height_80 : decode cX12_height 80 = .ok (.aload_n 0, 1) := by decide +kernel
theorem dX12_height_81 : decode cX12_height 81 = .ok (.getfield 35, 3) := by decide +kernel
theorem dX12_height_84 : decode cX12_height 84 = .ok (.iload_n 3, 1) := by decide +kernel
theorem dX12_height_85 : decode cX12_height 85 = .ok (.iaload, 1) := by decide +kernel
theorem dX12_height_86 : decode cX12_height 86 = .ok (.invokestatic 151, 3) := by decide +kernel
theorem dX12_height_89 : decode cX12_height 89 = .ok (.iadd, 1) := by decide +kernel
theorem dX12_height_90 : decode cX12_height 90 = .ok (.iastore, 1) := by decide +kernel
theorem dX12_height_91 : decode cX12_height 91 = .ok (.goto 13, 3) := by decide +kernel
theorem dX12_height_94 : decode cX12_height 94 = .ok (.aload_n 0, 1) := by decide +kernel
theorem dX12_height_95 : decode cX12_height 95 = .ok (.getfield 35, 3) := by decide +kernel
theorem dX12_height_98 : decode cX12_height 98 = .ok (.iload_n 3, 1) := by decide +kernel
theorem dX12_height_99 : decode cX12_height 99 = .ok (.iconst 1, 1) := by decide +kernel
theorem dX12_height_100 : decode cX12_height 100 = .ok (.iastore, 1) := by decide +kernel
theorem dX12_height_101 : decode cX12_height 101 = .ok (.iinc 3 1, 3) := by decide +kernel
theorem dX12_height_104 : decode cX12_height 104 = .ok (.iinc 4 1, 3) := by decide +kernel
theorem dX12_height_107 : decode cX12_height 107 = .ok (.goto (-82), 3) := by decide +kernel
theorem dX12_height_110 : decode cX12_height 110 = .ok (.aload_n 0, 1) := by decide +kernel
theorem dX12_height_111 : decode cX12_height 111 = .ok (.getfield 35, 3) := by decide +kernel
theorem dX12_height_114 : decode cX12_height 114 = .ok (.iconst 0, 1) := by decide +kernel
theorem dX12_height_115 : decode cX12_height 115 = .ok (.iaload, 1) := by decide +kernel
theorem dX12_height_116 : decode cX12_height 116 = .ok (.ireturn, 1) := by decide +kernel
theorem dX12_initial_0 : decode cX12_initial 0 = .ok (.iload_n 1, 1) := by decide +kernel
theorem dX12_initial_1 : decode cX12_initial 1 = .ok (.iconst 1, 1) := by decide +kernel
theorem dX12_initial_2 : decode cX12_initial 2 = .ok (.iadd, 1) := by decide +kernel
theorem dX12_initial_3 : decode cX12_initial 3 = .ok (.aload_n 0, 1) := by decide +kernel
theorem dX12_initial_4 : decode cX12_initial 4 = .ok (.getfield 13, 3) := by decide +kernel
theorem dX12_initial_7 : decode cX12_initial 7 = .ok (.iconst 2, 1) := by decide +kernel
theorem dX12_initial_8 : decode cX12_initial 8 = .ok (.iaload, 1) := by decide +kernel
theorem dX12_initial_9 : decode cX12_initial 9 = .ok (.imul, 1) := by decide +kernel
theorem dX12_initial_10 : decode cX12_initial 10 = .ok (.bipush 7, 2) := by decide +kernel
theorem dX12_initial_12 : decode cX12_initial 12 = .ok (.iload_n 2, 1) := by decide +kernel
theorem dX12_initial_13 : decode cX12_initial 13 = .ok (.imul, 1) := by decide +kernel
theorem dX12_initial_14 : decode cX12_initial 14 = .ok (.iadd, 1) := by decide +kernel
theorem dX12_initial_15 : decode cX12_initial 15 = .ok (.ireturn, 1) := by decide +kernel
theorem dX12_begin_0 : decode cX12_begin 0 = .ok (.iconst 0, 1) := by decide +kernel
theorem dX12_begin_1 : decode cX12_begin 1 = .ok (.istore_n 1, 1) := by decide +kernel
theorem dX12_begin_2 : decode cX12_begin 2 = .ok (.iload_n 1, 1) := by decide +kernel
theorem dX12_begin_3 : decode cX12_begin 3 = .ok (.sipush 245, 3) := by decide +kernel
theorem dX12_begin_6 : decode cX12_begin 6 = .ok (.if_icmp .ge 30, 3) := by decide +kernel
theorem dX12_begin_9 : decode cX12_begin 9 = .ok (.aload_n 0, 1) := by decide +kernel
theorem dX12_begin_10 : decode cX12_begin 10 = .ok (.getfield 38, 3) := by decide +kernel
theorem dX12_begin_13 : decode cX12_begin 13 = .ok (.iload_n 1, 1) := by decide +kernel
theorem dX12_begin_14 : decode cX12_begin 14 = .ok (.aload_n 0, 1) := by decide +kernel
theorem dX12_begin_15 : decode cX12_begin 15 = .ok (.iload_n 1, 1) := by decide +kernel
theorem dX12_begin_16 : decode cX12_begin 16 = .ok (.bipush 49, 2) := by decide +kernel
theorem dX12_begin_18 : decode cX12_begin 18 = .ok (.idiv, 1) := by decide +kernel
theorem dX12_begin_19 : decode cX12_begin 19 = .ok (.iload_n 1, 1) := by decide +kernel
theorem dX12_begin_20 : decode cX12_begin 20 = .ok (.bipush 49, 2) := by decide +kernel
theorem dX12_begin_22 : decode cX12_begin 22 = .ok (.irem, 1) := by decide +kernel
theorem dX12_begin_23 : decode cX12_begin 23 = .ok (.bipush 9, 2) := by decide +kernel
theorem dX12_begin_25 : decode cX12_begin 25 = .ok (.isub, 1) := by decide +kernel
theorem dX12_begin_26 : decode cX12_begin 26 = .ok (.invokevirtual 156, 3) := by decide +kernel
theorem dX12_begin_29 : decode cX12_begin 29 = .ok (.iastore, 1) := by decide +kernel
theorem dX12_begin_30 : decode cX12_begin 30 = .ok (.iinc 1 1, 3) := by decide +kernel
theorem dX12_begin_33 : decode cX12_begin 33 = .ok (.goto (-31), 3) := by decide +kernel
theorem dX12_begin_36 : decode cX12_begin 36 = .ok (.return_, 1) := by decide +kernel
theorem dX12_place_0 : decode cX12_place 0 = .ok (.bipush 49, 2) := by decide +kernel
theorem dX12_place_2 : decode cX12_place 2 = .ok (.aload_n 0, 1) := by decide +kernel
theorem dX12_place_3 : decode cX12_place 3 = .ok (.iload_n 1, 1) := by decide +kernel
theorem dX12_place_4 : decode cX12_place 4 = .ok (.iload_n 2, 1) := by decide +kernel
theorem dX12_place_5 : decode cX12_place 5 = .ok (.invokevirtual 159, 3) := by decide +kernel
theorem dX12_place_8 : decode cX12_place 8 = .ok (.imul, 1) := by decide +kernel
theorem dX12_place_9 : decode cX12_place 9 = .ok (.iload_n 3, 1) := by decide +kernel
theorem dX12_place_10 : decode cX12_place 10 = .ok (.iadd, 1) := by decide +kernel
theorem dX12_place_11 : decode cX12_place 11 = .ok (.aload_n 0, 1) := by decide +kernel
theorem dX12_place_12 : decode cX12_place 12 = .ok (.iload_n 1, 1) := by decide +kernel
theorem dX12_place_13 : decode cX12_place 13 = .ok (.iload_n 2, 1) := by decide +kernel
theorem dX12_place_14 : decode cX12_place 14 = .ok (.invokevirtual 162, 3) := by decide +kernel
theorem dX12_place_17 : decode cX12_place 17 = .ok (.iadd, 1) := by decide +kernel
theorem dX12_place_18 : decode cX12_place 18 = .ok (.bipush 9, 2) := by decide +kernel
theorem dX12_place_20 : decode cX12_place 20 = .ok (.iadd, 1) := by decide +kernel
theorem dX12_place_21 : decode cX12_place 21 = .ok (.ireturn, 1) := by decide +kernel
theorem dX12_valueOf_0 : decode cX12_valueOf 0 = .ok (.iconst 0, 1) := by decide +kernel
theorem dX12_valueOf_1 : decode cX12_valueOf 1 = .ok (.istore 4, 2) := by decide +kernel
theorem dX12_valueOf_3 : decode cX12_valueOf 3 = .ok (.iconst 0, 1) := by decide +kernel
theorem dX12_valueOf_4 : decode cX12_valueOf 4 = .ok (.istore 5, 2) := by decide +kernel
theorem dX12_valueOf_6 : decode cX12_valueOf 6 = .ok (.iload 5, 2) := by decide +kernel
theorem dX12_valueOf_8 : decode cX12_valueOf 8 = .ok (.aload_n 0, 1) := by decide +kernel
theorem dX12_valueOf_9 : decode cX12_valueOf 9 = .ok (.iload_n 1, 1) := by decide +kernel
theorem dX12_valueOf_10 : decode cX12_valueOf 10 = .ok (.bipush 101, 2) := by decide +kernel
theorem dX12_valueOf_12 : decode cX12_valueOf 12 = .ok (.iload_n 2, 1) := by decide +kernel
theorem dX12_valueOf_13 : decode cX12_valueOf 13 = .ok (.iadd, 1) := by decide +kernel
theorem dX12_valueOf_14 : decode cX12_valueOf 14 = .ok (.invokevirtual 57, 3) := by decide +kernel
theorem dX12_valueOf_17 : decode cX12_valueOf 17 = .ok (.if_icmp .ge 151, 3) := by decide +kernel
theorem dX12_valueOf_20 : decode cX12_valueOf 20 = .ok (.aload_n 0, 1) := by decide +kernel
theorem dX12_valueOf_21 : decode cX12_valueOf 21 = .ok (.iload_n 1, 1) := by decide +kernel
theorem dX12_valueOf_22 : decode cX12_valueOf 22 = .ok (.iload_n 2, 1) := by decide +kernel
theorem dX12_valueOf_23 : decode cX12_valueOf 23 = .ok (.iload 5, 2) := by decide +kernel
theorem dX12_valueOf_25 : decode cX12_valueOf 25 = .ok (.invokevirtual 147, 3) := by decide +kernel
theorem dX12_valueOf_28 : decode cX12_valueOf 28 = .ok (.istore 6, 2) := by decide +kernel
theorem dX12_valueOf_30 : decode cX12_valueOf 30 = .ok (.iload 6, 2) := by decide +kernel
theorem dX12_valueOf_32 : decode cX12_valueOf 32 = .ok (.bipush 101, 2) := by decide +kernel
theorem dX12_valueOf_34 : decode cX12_valueOf 34 = .ok (.bipush 103, 2) := by decide +kernel
theorem dX12_valueOf_36 : decode cX12_valueOf 36 = .ok (.invokestatic 53, 3) := by decide +kernel
theorem dX12_valueOf_39 : decode cX12_valueOf 39 = .ok (.ifCond .eq 73, 3) := by decide +kernel
theorem dX12_valueOf_42 : decode cX12_valueOf 42 = .ok (.iinc 4 (-1), 3) := by decide +kernel
theorem dX12_valueOf_45 : decode cX12_valueOf 45 = .ok (.aload_n 0, 1) := by decide +kernel
theorem dX12_valueOf_46 : decode cX12_valueOf 46 = .ok (.getfield 35, 3) := by decide +kernel
theorem dX12_valueOf_49 : decode cX12_valueOf 49 = .ok (.iload 4, 2) := by decide +kernel
theorem dX12_valueOf_51 : decode cX12_valueOf 51 = .ok (.iconst 1, 1) := by decide +kernel
theorem dX12_valueOf_52 : decode cX12_valueOf 52 = .ok (.isub, 1) := by decide +kernel
theorem dX12_valueOf_53 : decode cX12_valueOf 53 = .ok (.iaload, 1) := by decide +kernel
theorem dX12_valueOf_54 : decode cX12_valueOf 54 = .ok (.istore 7, 2) := by decide +kernel
theorem dX12_valueOf_56 : decode cX12_valueOf 56 = .ok (.aload_n 0, 1) := by decide +kernel
theorem dX12_valueOf_57 : decode cX12_valueOf 57 = .ok (.getfield 35, 3) := by decide +kernel
theorem dX12_valueOf_60 : decode cX12_valueOf 60 = .ok (.iload 4, 2) := by decide +kernel
theorem dX12_valueOf_62 : decode cX12_valueOf 62 = .ok (.iaload, 1) := by decide +kernel
theorem dX12_valueOf_63 : decode cX12_valueOf 63 = .ok (.istore 8, 2) := by decide +kernel
theorem dX12_valueOf_65 : decode cX12_valueOf 65 = .ok (.aload_n 0, 1) := by decide +kernel
theorem dX12_valueOf_66 : decode cX12_valueOf 66 = .ok (.getfield 35, 3) := by decide +kernel
theorem dX12_valueOf_69 : decode cX12_valueOf 69 = .ok (.iload 4, 2) := by decide +kernel
theorem dX12_valueOf_71 : decode cX12_valueOf 71 = .ok (.iconst 1, 1) := by decide +kernel
theorem dX12_valueOf_72 : decode cX12_valueOf 72 = .ok (.isub, 1) := by decide +kernel
theorem dX12_valueOf_73 : decode cX12_valueOf 73 = .ok (.iload 6, 2) := by decide +kernel
theorem dX12_valueOf_75 : decode cX12_valueOf 75 = .ok (.bipush 101, 2) := by decide +kernel
theorem dX12_valueOf_77 : decode cX12_valueOf 77 = .ok (.if_icmp .ne 11, 3) := by decide +kernel
theorem dX12_valueOf_80 : decode cX12_valueOf 80 = .ok (.iload 7, 2) := by decide +kernel
theorem dX12_valueOf_82 : decode cX12_valueOf 82 = .ok (.iload 8, 2) := by decide +kernel
theorem dX12_valueOf_84 : decode cX12_valueOf 84 = .ok (.iadd, 1) := by decide +kernel
theorem dX12_valueOf_85 : decode cX12_valueOf 85 = .ok (.goto 23, 3) := by decide +kernel
theorem dX12_valueOf_88 : decode cX12_valueOf 88 = .ok (.iload 6, 2) := by decide +kernel
theorem dX12_valueOf_90 : decode cX12_valueOf 90 = .ok (.bipush 102, 2) := by decide +kernel
theorem dX12_valueOf_92 : decode cX12_valueOf 92 = .ok (.if_icmp .ne 11, 3) := by decide +kernel
theorem dX12_valueOf_95 : decode cX12_valueOf 95 = .ok (.iload 7, 2) := by decide +kernel
theorem dX12_valueOf_97 : decode cX12_valueOf 97 = .ok (.iload 8, 2) := by decide +kernel
theorem dX12_valueOf_99 : decode cX12_valueOf 99 = .ok (.isub, 1) := by decide +kernel
theorem dX12_valueOf_100 : decode cX12_valueOf 100 = .ok (.goto 8, 3) := by decide +kernel
theorem dX12_valueOf_103 : decode cX12_valueOf 103 = .ok (.iload 7, 2) := by decide +kernel
theorem dX12_valueOf_105 : decode cX12_valueOf 105 = .ok (.iload 8, 2) := by decide +kernel
theorem dX12_valueOf_107 : decode cX12_valueOf 107 = .ok (.imul, 1) := by decide +kernel
theorem dX12_valueOf_108 : decode cX12_valueOf 108 = .ok (.iastore, 1) := by decide +kernel
theorem dX12_valueOf_109 : decode cX12_valueOf 109 = .ok (.goto 53, 3) := by decide +kernel
theorem dX12_valueOf_112 : decode cX12_valueOf 112 = .ok (.aload_n 0, 1) := by decide +kernel
theorem dX12_valueOf_113 : decode cX12_valueOf 113 = .ok (.getfield 35, 3) := by decide +kernel
theorem dX12_valueOf_116 : decode cX12_valueOf 116 = .ok (.iload 4, 2) := by decide +kernel
theorem dX12_valueOf_118 : decode cX12_valueOf 118 = .ok (.iload 6, 2) := by decide +kernel
theorem dX12_valueOf_120 : decode cX12_valueOf 120 = .ok (.bipush 100, 2) := by decide +kernel
theorem dX12_valueOf_122 : decode cX12_valueOf 122 = .ok (.if_icmp .ge 8, 3) := by decide +kernel
theorem dX12_valueOf_125 : decode cX12_valueOf 125 = .ok (.iload 6, 2) := by decide +kernel
theorem dX12_valueOf_127 : decode cX12_valueOf 127 = .ok (.goto 31, 3) := by decide +kernel
theorem dX12_valueOf_130 : decode cX12_valueOf 130 = .ok (.iload 6, 2) := by decide +kernel
theorem dX12_valueOf_132 : decode cX12_valueOf 132 = .ok (.bipush 100, 2) := by decide +kernel
theorem dX12_valueOf_134 : decode cX12_valueOf 134 = .ok (.if_icmp .ne 7, 3) := by decide +kernel
theorem dX12_valueOf_137 : decode cX12_valueOf 137 = .ok (.iload_n 3, 1) := by decide +kernel
theorem dX12_valueOf_138 : decode cX12_valueOf 138 = .ok (.goto 20, 3) := by decide +kernel
theorem dX12_valueOf_141 : decode cX12_valueOf 141 = .ok (.aload_n 0, 1) := by decide +kernel
