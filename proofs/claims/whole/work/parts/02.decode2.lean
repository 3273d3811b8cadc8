theorem dX5_weigh_128 : decode cX5_weigh 128 = .ok (.iaload, 1) := by decide +kernel
theorem dX5_weigh_129 : decode cX5_weigh 129 = .ok (.iadd, 1) := by decide +kernel
theorem dX5_weigh_130 : decode cX5_weigh 130 = .ok (.istore 5, 2) := by decide +kernel
theorem dX5_weigh_132 : decode cX5_weigh 132 = .ok (.aload_n 0, 1) := by decide +kernel
theorem dX5_weigh_133 : decode cX5_weigh 133 = .ok (.getfield 28, 3) := by decide +kernel
theorem dX5_weigh_136 : decode cX5_weigh 136 = .ok (.iload_n 2, 1) := by decide +kernel
theorem dX5_weigh_137 : decode cX5_weigh 137 = .ok (.iaload, 1) := by decide +kernel
theorem dX5_weigh_138 : decode cX5_weigh 138 = .ok (.ifCond .eq 36, 3) := by decide +kernel
theorem dX5_weigh_141 : decode cX5_weigh 141 = .ok (.iload 4, 2) := by decide +kernel
theorem dX5_weigh_143 : decode cX5_weigh 143 = .ok (.aload_n 0, 1) := by decide +kernel
theorem dX5_weigh_144 : decode cX5_weigh 144 = .ok (.getfield 22, 3) := by decide +kernel
theorem dX5_weigh_147 : decode cX5_weigh 147 = .ok (.iload_n 2, 1) := by decide +kernel
theorem dX5_weigh_148 : decode cX5_weigh 148 = .ok (.iaload, 1) := by decide +kernel
theorem dX5_weigh_149 : decode cX5_weigh 149 = .ok (.if_icmp .gt 25, 3) := by decide +kernel
theorem dX5_weigh_152 : decode cX5_weigh 152 = .ok (.iload 4, 2) := by decide +kernel
theorem dX5_weigh_154 : decode cX5_weigh 154 = .ok (.aload_n 0, 1) := by decide +kernel
theorem dX5_weigh_155 : decode cX5_weigh 155 = .ok (.getfield 22, 3) := by decide +kernel
theorem dX5_weigh_158 : decode cX5_weigh 158 = .ok (.iload_n 2, 1) := by decide +kernel
theorem dX5_weigh_159 : decode cX5_weigh 159 = .ok (.iaload, 1) := by decide +kernel
theorem dX5_weigh_160 : decode cX5_weigh 160 = .ok (.if_icmp .ne 37, 3) := by decide +kernel
theorem dX5_weigh_163 : decode cX5_weigh 163 = .ok (.iload 5, 2) := by decide +kernel
theorem dX5_weigh_165 : decode cX5_weigh 165 = .ok (.aload_n 0, 1) := by decide +kernel
theorem dX5_weigh_166 : decode cX5_weigh 166 = .ok (.getfield 25, 3) := by decide +kernel
theorem dX5_weigh_169 : decode cX5_weigh 169 = .ok (.iload_n 2, 1) := by decide +kernel
theorem dX5_weigh_170 : decode cX5_weigh 170 = .ok (.iaload, 1) := by decide +kernel
theorem dX5_weigh_171 : decode cX5_weigh 171 = .ok (.if_icmp .ge 26, 3) := by decide +kernel
theorem dX5_weigh_174 : decode cX5_weigh 174 = .ok (.aload_n 0, 1) := by decide +kernel
theorem dX5_weigh_175 : decode cX5_weigh 175 = .ok (.getfield 22, 3) := by decide +kernel
theorem dX5_weigh_178 : decode cX5_weigh 178 = .ok (.iload_n 2, 1) := by decide +kernel
theorem dX5_weigh_179 : decode cX5_weigh 179 = .ok (.iload 4, 2) := by decide +kernel
theorem dX5_weigh_181 : decode cX5_weigh 181 = .ok (.iastore, 1) := by decide +kernel
theorem dX5_weigh_182 : decode cX5_weigh 182 = .ok (.aload_n 0, 1) := by decide +kernel
theorem dX5_weigh_183 : decode cX5_weigh 183 = .ok (.getfield 25, 3) := by decide +kernel
theorem dX5_weigh_186 : decode cX5_weigh 186 = .ok (.iload_n 2, 1) := by decide +kernel
theorem dX5_weigh_187 : decode cX5_weigh 187 = .ok (.iload 5, 2) := by decide +kernel
theorem dX5_weigh_189 : decode cX5_weigh 189 = .ok (.iastore, 1) := by decide +kernel
theorem dX5_weigh_190 : decode cX5_weigh 190 = .ok (.aload_n 0, 1) := by decide +kernel
theorem dX5_weigh_191 : decode cX5_weigh 191 = .ok (.getfield 28, 3) := by decide +kernel
theorem dX5_weigh_194 : decode cX5_weigh 194 = .ok (.iload_n 2, 1) := by decide +kernel
theorem dX5_weigh_195 : decode cX5_weigh 195 = .ok (.iload_n 3, 1) := by decide +kernel
theorem dX5_weigh_196 : decode cX5_weigh 196 = .ok (.iastore, 1) := by decide +kernel
theorem dX5_weigh_197 : decode cX5_weigh 197 = .ok (.iinc 3 (-1), 3) := by decide +kernel
theorem dX5_weigh_200 : decode cX5_weigh 200 = .ok (.goto (-143), 3) := by decide +kernel
theorem dX5_weigh_203 : decode cX5_weigh 203 = .ok (.iinc 2 (-1), 3) := by decide +kernel
theorem dX5_weigh_206 : decode cX5_weigh 206 = .ok (.goto (-175), 3) := by decide +kernel
theorem dX5_weigh_209 : decode cX5_weigh 209 = .ok (.return_, 1) := by decide +kernel
theorem dX5_groupWith_0 : decode cX5_groupWith 0 = .ok (.iconst 0, 1) := by decide +kernel
theorem dX5_groupWith_1 : decode cX5_groupWith 1 = .ok (.istore_n 2, 1) := by decide +kernel
theorem dX5_groupWith_2 : decode cX5_groupWith 2 = .ok (.iconst 1, 1) := by decide +kernel
theorem dX5_groupWith_3 : decode cX5_groupWith 3 = .ok (.istore_n 3, 1) := by decide +kernel
theorem dX5_groupWith_4 : decode cX5_groupWith 4 = .ok (.iload_n 3, 1) := by decide +kernel
theorem dX5_groupWith_5 : decode cX5_groupWith 5 = .ok (.aload_n 0, 1) := by decide +kernel
theorem dX5_groupWith_6 : decode cX5_groupWith 6 = .ok (.getfield 61, 3) := by decide +kernel
theorem dX5_groupWith_9 : decode cX5_groupWith 9 = .ok (.if_icmp .ge 27, 3) := by decide +kernel
theorem dX5_groupWith_12 : decode cX5_groupWith 12 = .ok (.iload_n 3, 1) := by decide +kernel
theorem dX5_groupWith_13 : decode cX5_groupWith 13 = .ok (.bipush 6, 2) := by decide +kernel
theorem dX5_groupWith_15 : decode cX5_groupWith 15 = .ok (.if_icmp .gt 21, 3) := by decide +kernel
theorem dX5_groupWith_18 : decode cX5_groupWith 18 = .ok (.aload_n 0, 1) := by decide +kernel
theorem dX5_groupWith_19 : decode cX5_groupWith 19 = .ok (.getfield 18, 3) := by decide +kernel
theorem dX5_groupWith_22 : decode cX5_groupWith 22 = .ok (.iload_n 3, 1) := by decide +kernel
theorem dX5_groupWith_23 : decode cX5_groupWith 23 = .ok (.iaload, 1) := by decide +kernel
theorem dX5_groupWith_24 : decode cX5_groupWith 24 = .ok (.iload_n 1, 1) := by decide +kernel
theorem dX5_groupWith_25 : decode cX5_groupWith 25 = .ok (.if_icmp .gt 5, 3) := by decide +kernel
theorem dX5_groupWith_28 : decode cX5_groupWith 28 = .ok (.iload_n 3, 1) := by decide +kernel
theorem dX5_groupWith_29 : decode cX5_groupWith 29 = .ok (.istore_n 2, 1) := by decide +kernel
theorem dX5_groupWith_30 : decode cX5_groupWith 30 = .ok (.iinc 3 1, 3) := by decide +kernel
theorem dX5_groupWith_33 : decode cX5_groupWith 33 = .ok (.goto (-29), 3) := by decide +kernel
theorem dX5_groupWith_36 : decode cX5_groupWith 36 = .ok (.iload_n 2, 1) := by decide +kernel
theorem dX5_groupWith_37 : decode cX5_groupWith 37 = .ok (.ireturn, 1) := by decide +kernel
theorem dX5_takeGroup_0 : decode cX5_takeGroup 0 = .ok (.iload_n 1, 1) := by decide +kernel
theorem dX5_takeGroup_1 : decode cX5_takeGroup 1 = .ok (.ifCond .lt 32, 3) := by decide +kernel
theorem dX5_takeGroup_4 : decode cX5_takeGroup 4 = .ok (.iload_n 1, 1) := by decide +kernel
theorem dX5_takeGroup_5 : decode cX5_takeGroup 5 = .ok (.bipush 6, 2) := by decide +kernel
theorem dX5_takeGroup_7 : decode cX5_takeGroup 7 = .ok (.if_icmp .ge 26, 3) := by decide +kernel
theorem dX5_takeGroup_10 : decode cX5_takeGroup 10 = .ok (.aload_n 0, 1) := by decide +kernel
theorem dX5_takeGroup_11 : decode cX5_takeGroup 11 = .ok (.getfield 45, 3) := by decide +kernel
theorem dX5_takeGroup_14 : decode cX5_takeGroup 14 = .ok (.aload_n 0, 1) := by decide +kernel
theorem dX5_takeGroup_15 : decode cX5_takeGroup 15 = .ok (.getfield 18, 3) := by decide +kernel
theorem dX5_takeGroup_18 : decode cX5_takeGroup 18 = .ok (.iload_n 1, 1) := by decide +kernel
theorem dX5_takeGroup_19 : decode cX5_takeGroup 19 = .ok (.iaload, 1) := by decide +kernel
theorem dX5_takeGroup_20 : decode cX5_takeGroup 20 = .ok (.aload_n 0, 1) := by decide +kernel
theorem dX5_takeGroup_21 : decode cX5_takeGroup 21 = .ok (.getfield 18, 3) := by decide +kernel
theorem dX5_takeGroup_24 : decode cX5_takeGroup 24 = .ok (.iload_n 1, 1) := by decide +kernel
theorem dX5_takeGroup_25 : decode cX5_takeGroup 25 = .ok (.iconst 1, 1) := by decide +kernel
theorem dX5_takeGroup_26 : decode cX5_takeGroup 26 = .ok (.iadd, 1) := by decide +kernel
theorem dX5_takeGroup_27 : decode cX5_takeGroup 27 = .ok (.iaload, 1) := by decide +kernel
theorem dX5_takeGroup_28 : decode cX5_takeGroup 28 = .ok (.iconst 1, 1) := by decide +kernel
theorem dX5_takeGroup_29 : decode cX5_takeGroup 29 = .ok (.isub, 1) := by decide +kernel
theorem dX5_takeGroup_30 : decode cX5_takeGroup 30 = .ok (.invokevirtual 82, 3) := by decide +kernel
theorem dX5_takeGroup_33 : decode cX5_takeGroup 33 = .ok (.return_, 1) := by decide +kernel
theorem dX5_execute_0 : decode cX5_execute 0 = .ok (.aload_n 0, 1) := by decide +kernel
theorem dX5_execute_1 : decode cX5_execute 1 = .ok (.getfield 35, 3) := by decide +kernel
theorem dX5_execute_4 : decode cX5_execute 4 = .ok (.aload_n 0, 1) := by decide +kernel
theorem dX5_execute_5 : decode cX5_execute 5 = .ok (.getfield 41, 3) := by decide +kernel
theorem dX5_execute_8 : decode cX5_execute 8 = .ok (.getfield 53, 3) := by decide +kernel
theorem dX5_execute_11 : decode cX5_execute 11 = .ok (.if_icmp .ne 4, 3) := by decide +kernel
theorem dX5_execute_14 : decode cX5_execute 14 = .ok (.return_, 1) := by decide +kernel
theorem dX5_execute_15 : decode cX5_execute 15 = .ok (.aload_n 0, 1) := by decide +kernel
theorem dX5_execute_16 : decode cX5_execute 16 = .ok (.getfield 12, 3) := by decide +kernel
theorem dX5_execute_19 : decode cX5_execute 19 = .ok (.aload_n 0, 1) := by decide +kernel
theorem dX5_execute_20 : decode cX5_execute 20 = .ok (.getfield 41, 3) := by decide +kernel
theorem dX5_execute_23 : decode cX5_execute 23 = .ok (.getfield 86, 3) := by decide +kernel
theorem dX5_execute_26 : decode cX5_execute 26 = .ok (.iconst 2, 1) := by decide +kernel
theorem dX5_execute_27 : decode cX5_execute 27 = .ok (.iaload, 1) := by decide +kernel
theorem dX5_execute_28 : decode cX5_execute 28 = .ok (.invokevirtual 102, 3) := by decide +kernel
theorem dX5_execute_31 : decode cX5_execute 31 = .ok (.iconst 0, 1) := by decide +kernel
theorem dX5_execute_32 : decode cX5_execute 32 = .ok (.istore_n 1, 1) := by decide +kernel
theorem dX5_execute_33 : decode cX5_execute 33 = .ok (.iload_n 1, 1) := by decide +kernel
theorem dX5_execute_34 : decode cX5_execute 34 = .ok (.aload_n 0, 1) := by decide +kernel
theorem dX5_execute_35 : decode cX5_execute 35 = .ok (.getfield 61, 3) := by decide +kernel
theorem dX5_execute_38 : decode cX5_execute 38 = .ok (.if_icmp .ge 25, 3) := by decide +kernel
theorem dX5_execute_41 : decode cX5_execute 41 = .ok (.aload_n 0, 1) := by decide +kernel
theorem dX5_execute_42 : decode cX5_execute 42 = .ok (.iload_n 1, 1) := by decide +kernel
theorem dX5_execute_43 : decode cX5_execute 43 = .ok (.invokevirtual 103, 3) := by decide +kernel
theorem dX5_execute_46 : decode cX5_execute 46 = .ok (.aload_n 0, 1) := by decide +kernel
theorem dX5_execute_47 : decode cX5_execute 47 = .ok (.getfield 45, 3) := by decide +kernel
theorem dX5_execute_50 : decode cX5_execute 50 = .ok (.aload_n 0, 1) := by decide +kernel
theorem dX5_execute_51 : decode cX5_execute 51 = .ok (.getfield 12, 3) := by decide +kernel
theorem dX5_execute_54 : decode cX5_execute 54 = .ok (.invokevirtual 95, 3) := by decide +kernel
theorem dX5_execute_57 : decode cX5_execute 57 = .ok (.iinc 1 1, 3) := by decide +kernel
theorem dX5_execute_60 : decode cX5_execute 60 = .ok (.goto (-27), 3) := by decide +kernel
theorem dX5_execute_63 : decode cX5_execute 63 = .ok (.aload_n 0, 1) := by decide +kernel
theorem dX5_execute_64 : decode cX5_execute 64 = .ok (.aload_n 0, 1) := by decide +kernel
theorem dX5_execute_65 : decode cX5_execute 65 = .ok (.getfield 41, 3) := by decide +kernel
theorem dX5_execute_68 : decode cX5_execute 68 = .ok (.getfield 53, 3) := by decide +kernel
theorem dX5_execute_71 : decode cX5_execute 71 = .ok (.putfield 35, 3) := by decide +kernel
theorem dX5_execute_74 : decode cX5_execute 74 = .ok (.return_, 1) := by decide +kernel
theorem dX6_init_0 : decode cX6_init 0 = .ok (.aload_n 0, 1) := by decide +kernel
theorem dX6_init_1 : decode cX6_init 1 = .ok (.invokespecial 3, 3) := by decide +kernel
theorem dX6_init_4 : decode cX6_init 4 = .ok (.aload_n 0, 1) := by decide +kernel
theorem dX6_init_5 : decode cX6_init 5 = .ok (.bipush 6, 2) := by decide +kernel
theorem dX6_init_7 : decode cX6_init 7 = .ok (.anewarray 9, 3) := by decide +kernel
theorem dX6_init_10 : decode cX6_init 10 = .ok (.putfield 11, 3) := by decide +kernel
theorem dX6_init_13 : decode cX6_init 13 = .ok (.aload_n 0, 1) := by decide +kernel
theorem dX6_init_14 : decode cX6_init 14 = .ok (.iconst 3, 1) := by decide +kernel
theorem dX6_init_15 : decode cX6_init 15 = .ok (.newarray .int, 2) := by decide +kernel
theorem dX6_init_17 : decode cX6_init 17 = .ok (.putfield 17, 3) := by decide +kernel
theorem dX6_init_20 : decode cX6_init 20 = .ok (.new 21, 3) := by decide +kernel
theorem dX6_init_23 : decode cX6_init 23 = .ok (.dup, 1) := by decide +kernel
theorem dX6_init_24 : decode cX6_init 24 = .ok (.invokespecial 23, 3) := by decide +kernel
theorem dX6_init_27 : decode cX6_init 27 = .ok (.astore_n 1, 1) := by decide +kernel
theorem dX6_init_28 : decode cX6_init 28 = .ok (.iconst 0, 1) := by decide +kernel
theorem dX6_init_29 : decode cX6_init 29 = .ok (.istore_n 2, 1) := by decide +kernel
theorem dX6_init_30 : decode cX6_init 30 = .ok (.iload_n 2, 1) := by decide +kernel
theorem dX6_init_31 : decode cX6_init 31 = .ok (.aload_n 0, 1) := by decide +kernel
theorem dX6_init_32 : decode cX6_init 32 = .ok (.getfield 11, 3) := by decide +kernel
theorem dX6_init_35 : decode cX6_init 35 = .ok (.arraylength, 1) := by decide +kernel
theorem dX6_init_36 : decode cX6_init 36 = .ok (.if_icmp .ge 23, 3) := by decide +kernel
theorem dX6_init_39 : decode cX6_init 39 = .ok (.aload_n 0, 1) := by decide +kernel
theorem dX6_init_40 : decode cX6_init 40 = .ok (.getfield 11, 3) := by decide +kernel
theorem dX6_init_43 : decode cX6_init 43 = .ok (.iload_n 2, 1) := by decide +kernel
theorem dX6_init_44 : decode cX6_init 44 = .ok (.new 9, 3) := by decide +kernel
theorem dX6_init_47 : decode cX6_init 47 = .ok (.dup, 1) := by decide +kernel
theorem dX6_init_48 : decode cX6_init 48 = .ok (.aload_n 1, 1) := by decide +kernel
theorem dX6_init_49 : decode cX6_init 49 = .ok (.invokespecial 24, 3) := by decide +kernel
theorem dX6_init_52 : decode cX6_init 52 = .ok (.aastore, 1) := by decide +kernel
theorem dX6_init_53 : decode cX6_init 53 = .ok (.iinc 2 1, 3) := by decide +kernel
theorem dX6_init_56 : decode cX6_init 56 = .ok (.goto (-26), 3) := by decide +kernel
theorem dX6_init_59 : decode cX6_init 59 = .ok (.aload_n 0, 1) := by decide +kernel
theorem dX6_init_60 : decode cX6_init 60 = .ok (.getfield 17, 3) := by decide +kernel
theorem dX6_init_63 : decode cX6_init 63 = .ok (.iconst 0, 1) := by decide +kernel
theorem dX6_init_64 : decode cX6_init 64 = .ok (.bipush 9, 2) := by decide +kernel
theorem dX6_init_66 : decode cX6_init 66 = .ok (.iastore, 1) := by decide +kernel
theorem dX6_init_67 : decode cX6_init 67 = .ok (.aload_n 0, 1) := by decide +kernel
theorem dX6_init_68 : decode cX6_init 68 = .ok (.getfield 17, 3) := by decide +kernel
theorem dX6_init_71 : decode cX6_init 71 = .ok (.iconst 1, 1) := by decide +kernel
theorem dX6_init_72 : decode cX6_init 72 = .ok (.iconst 3, 1) := by decide +kernel
theorem dX6_init_73 : decode cX6_init 73 = .ok (.iastore, 1) := by decide +kernel
theorem dX6_init_74 : decode cX6_init 74 = .ok (.aload_n 0, 1) := by decide +kernel
theorem dX6_init_75 : decode cX6_init 75 = .ok (.getfield 17, 3) := by decide +kernel
theorem dX6_init_78 : decode cX6_init 78 = .ok (.iconst 2, 1) := by decide +kernel
theorem dX6_init_79 : decode cX6_init 79 = .ok (.iconst 1, 1) := by decide +kernel
theorem dX6_init_80 : decode cX6_init 80 = .ok (.iastore, 1) := by decide +kernel
theorem dX6_init_81 : decode cX6_init 81 = .ok (.return_, 1) := by decide +kernel
theorem dX6_hasLoop_0 : decode cX6_hasLoop 0 = .ok (.iload_n 1, 1) := by decide +kernel
theorem dX6_hasLoop_1 : decode cX6_hasLoop 1 = .ok (.ifCond .lt 21, 3) := by decide +kernel
theorem dX6_hasLoop_4 : decode cX6_hasLoop 4 = .ok (.iload_n 1, 1) := by decide +kernel
theorem dX6_hasLoop_5 : decode cX6_hasLoop 5 = .ok (.aload_n 0, 1) := by decide +kernel
theorem dX6_hasLoop_6 : decode cX6_hasLoop 6 = .ok (.getfield 27, 3) := by decide +kernel
theorem dX6_hasLoop_9 : decode cX6_hasLoop 9 = .ok (.if_icmp .ge 13, 3) := by decide +kernel
theorem dX6_hasLoop_12 : decode cX6_hasLoop 12 = .ok (.iload_n 1, 1) := by decide +kernel
theorem dX6_hasLoop_13 : decode cX6_hasLoop 13 = .ok (.bipush 6, 2) := by decide +kernel
theorem dX6_hasLoop_15 : decode cX6_hasLoop 15 = .ok (.if_icmp .ge 7, 3) := by decide +kernel
theorem dX6_hasLoop_18 : decode cX6_hasLoop 18 = .ok (.iconst 1, 1) := by decide +kernel
theorem dX6_hasLoop_19 : decode cX6_hasLoop 19 = .ok (.goto 4, 3) := by decide +kernel
theorem dX6_hasLoop_22 : decode cX6_hasLoop 22 = .ok (.iconst 0, 1) := by decide +kernel
theorem dX6_hasLoop_23 : decode cX6_hasLoop 23 = .ok (.ireturn, 1) := by decide +kernel
theorem dX6_add_0 : decode cX6_add 0 = .ok (.aload_n 0, 1) := by decide +kernel
theorem dX6_add_1 : decode cX6_add 1 = .ok (.getfield 27, 3) := by decide +kernel
theorem dX6_add_4 : decode cX6_add 4 = .ok (.bipush 6, 2) := by decide +kernel
theorem dX6_add_6 : decode cX6_add 6 = .ok (.if_icmp .ge 36, 3) := by decide +kernel
theorem dX6_add_9 : decode cX6_add 9 = .ok (.aload_n 0, 1) := by decide +kernel
theorem dX6_add_10 : decode cX6_add 10 = .ok (.getfield 11, 3) := by decide +kernel
theorem dX6_add_13 : decode cX6_add 13 = .ok (.aload_n 0, 1) := by decide +kernel
theorem dX6_add_14 : decode cX6_add 14 = .ok (.getfield 27, 3) := by decide +kernel
theorem dX6_add_17 : decode cX6_add 17 = .ok (.aaload, 1) := by decide +kernel
theorem dX6_add_18 : decode cX6_add 18 = .ok (.aload_n 1, 1) := by decide +kernel
theorem dX6_add_19 : decode cX6_add 19 = .ok (.invokevirtual 31, 3) := by decide +kernel
theorem dX6_add_22 : decode cX6_add 22 = .ok (.aload_n 0, 1) := by decide +kernel
theorem dX6_add_23 : decode cX6_add 23 = .ok (.dup, 1) := by decide +kernel
theorem dX6_add_24 : decode cX6_add 24 = .ok (.getfield 27, 3) := by decide +kernel
theorem dX6_add_27 : decode cX6_add 27 = .ok (.iconst 1, 1) := by decide +kernel
theorem dX6_add_28 : decode cX6_add 28 = .ok (.iadd, 1) := by decide +kernel
theorem dX6_add_29 : decode cX6_add 29 = .ok (.putfield 27, 3) := by decide +kernel
theorem dX6_add_32 : decode cX6_add 32 = .ok (.aload_n 0, 1) := by decide +kernel
theorem dX6_add_33 : decode cX6_add 33 = .ok (.dup, 1) := by decide +kernel
theorem dX6_add_34 : decode cX6_add 34 = .ok (.getfield 35, 3) := by decide +kernel
theorem dX6_add_37 : decode cX6_add 37 = .ok (.iconst 1, 1) := by decide +kernel
theorem dX6_add_38 : decode cX6_add 38 = .ok (.iadd, 1) := by decide +kernel
theorem dX6_add_39 : decode cX6_add 39 = .ok (.putfield 35, 3) := by decide +kernel
theorem dX6_add_42 : decode cX6_add 42 = .ok (.return_, 1) := by decide +kernel
theorem dX6_remove_0 : decode cX6_remove 0 = .ok (.aload_n 0, 1) := by decide +kernel
theorem dX6_remove_1 : decode cX6_remove 1 = .ok (.iload_n 1, 1) := by decide +kernel
theorem dX6_remove_2 : decode cX6_remove 2 = .ok (.invokevirtual 38, 3) := by decide +kernel
theorem dX6_remove_5 : decode cX6_remove 5 = .ok (.ifCond .eq 66, 3) := by decide +kernel
theorem dX6_remove_8 : decode cX6_remove 8 = .ok (.iload_n 1, 1) := by decide +kernel
theorem dX6_remove_9 : decode cX6_remove 9 = .ok (.istore_n 2, 1) := by decide +kernel
theorem dX6_remove_10 : decode cX6_remove 10 = .ok (.iload_n 2, 1) := by decide +kernel
theorem dX6_remove_11 : decode cX6_remove 11 = .ok (.iconst 1, 1) := by decide +kernel
theorem dX6_remove_12 : decode cX6_remove 12 = .ok (.iadd, 1) := by decide +kernel
theorem dX6_remove_13 : decode cX6_remove 13 = .ok (.aload_n 0, 1) := by decide +kernel
theorem dX6_remove_14 : decode cX6_remove 14 = .ok (.getfield 27, 3) := by decide +kernel
theorem dX6_remove_17 : decode cX6_remove 17 = .ok (.if_icmp .ge 34, 3) := by decide +kernel
theorem dX6_remove_20 : decode cX6_remove 20 = .ok (.iload_n 2, 1) := by decide +kernel
theorem dX6_remove_21 : decode cX6_remove 21 = .ok (.iconst 1, 1) := by decide +kernel
theorem dX6_remove_22 : decode cX6_remove 22 = .ok (.iadd, 1) := by decide +kernel
theorem dX6_remove_23 : decode cX6_remove 23 = .ok (.bipush 6, 2) := by decide +kernel
theorem dX6_remove_25 : decode cX6_remove 25 = .ok (.if_icmp .ge 26, 3) := by decide +kernel
theorem dX6_remove_28 : decode cX6_remove 28 = .ok (.aload_n 0, 1) := by decide +kernel
theorem dX6_remove_29 : decode cX6_remove 29 = .ok (.getfield 11, 3) := by decide +kernel
theorem dX6_remove_32 : decode cX6_remove 32 = .ok (.iload_n 2, 1) := by decide +kernel
theorem dX6_remove_33 : decode cX6_remove 33 = .ok (.aaload, 1) := by decide +kernel
theorem dX6_remove_34 : decode cX6_remove 34 = .ok (.aload_n 0, 1) := by decide +kernel
theorem dX6_remove_35 : decode cX6_remove 35 = .ok (.getfield 11, 3) := by decide +kernel
theorem dX6_remove_38 : decode cX6_remove 38 = .ok (.iload_n 2, 1) := by decide +kernel
theorem dX6_remove_39 : decode cX6_remove 39 = .ok (.iconst 1, 1) := by decide +kernel
theorem dX6_remove_40 : decode cX6_remove 40 = .ok (.iadd, 1) := by decide +kernel
theorem dX6_remove_41 : decode cX6_remove 41 = .ok (.aaload, 1) := by decide +kernel
theorem dX6_remove_42 : decode cX6_remove 42 = .ok (.invokevirtual 31, 3) := by decide +kernel
theorem dX6_remove_45 : decode cX6_remove 45 = .ok (.iinc 2 1, 3) := by decide +kernel
theorem dX6_remove_48 : decode cX6_remove 48 = .ok (.goto (-38), 3) := by decide +kernel
theorem dX6_remove_51 : decode cX6_remove 51 = .ok (.aload_n 0, 1) := by decide +kernel
theorem dX6_remove_52 : decode cX6_remove 52 = .ok (.dup, 1) := by decide +kernel
theorem dX6_remove_53 : decode cX6_remove 53 = .ok (.getfield 27, 3) := by decide +kernel
theorem dX6_remove_56 : decode cX6_remove 56 = .ok (.iconst 1, 1) := by decide +kernel
theorem dX6_remove_57 : decode cX6_remove 57 = .ok (.isub, 1) := by decide +kernel
theorem dX6_remove_58 : decode cX6_remove 58 = .ok (.putfield 27, 3) := by decide +kernel
theorem dX6_remove_61 : decode cX6_remove 61 = .ok (.aload_n 0, 1) := by decide +kernel
theorem dX6_remove_62 : decode cX6_remove 62 = .ok (.dup, 1) := by decide +kernel
theorem dX6_remove_63 : decode cX6_remove 63 = .ok (.getfield 35, 3) := by decide +kernel
theorem dX6_remove_66 : decode cX6_remove 66 = .ok (.iconst 1, 1) := by decide +kernel
theorem dX6_remove_67 : decode cX6_remove 67 = .ok (.iadd, 1) := by decide +kernel
theorem dX6_remove_68 : decode cX6_remove 68 = .ok (.putfield 35, 3) := by decide +kernel
theorem dX6_remove_71 : decode cX6_remove 71 = .ok (.return_, 1) := by decide +kernel
theorem dX6_replaceBounds_0 : decode cX6_replaceBounds 0 = .ok (.aload_n 0, 1) := by decide +kernel
theorem dX6_replaceBounds_1 : decode cX6_replaceBounds 1 = .ok (.iload_n 1, 1) := by decide +kernel
theorem dX6_replaceBounds_2 : decode cX6_replaceBounds 2 = .ok (.invokevirtual 38, 3) := by decide +kernel
theorem dX6_replaceBounds_5 : decode cX6_replaceBounds 5 = .ok (.ifCond .eq 33, 3) := by decide +kernel
theorem dX6_replaceBounds_8 : decode cX6_replaceBounds 8 = .ok (.aload_n 0, 1) := by decide +kernel
theorem dX6_replaceBounds_9 : decode cX6_replaceBounds 9 = .ok (.getfield 11, 3) := by decide +kernel
theorem dX6_replaceBounds_12 : decode cX6_replaceBounds 12 = .ok (.iload_n 1, 1) := by decide +kernel
theorem dX6_replaceBounds_13 : decode cX6_replaceBounds 13 = .ok (.aaload, 1) := by decide +kernel
theorem dX6_replaceBounds_14 : decode cX6_replaceBounds 14 = .ok (.iload_n 2, 1) := by decide +kernel
theorem dX6_replaceBounds_15 : decode cX6_replaceBounds 15 = .ok (.putfield 42, 3) := by decide +kernel
theorem dX6_replaceBounds_18 : decode cX6_replaceBounds 18 = .ok (.aload_n 0, 1) := by decide +kernel
theorem dX6_replaceBounds_19 : decode cX6_replaceBounds 19 = .ok (.getfield 11, 3) := by decide +kernel
theorem dX6_replaceBounds_22 : decode cX6_replaceBounds 22 = .ok (.iload_n 1, 1) := by decide +kernel
theorem dX6_replaceBounds_23 : decode cX6_replaceBounds 23 = .ok (.aaload, 1) := by decide +kernel
theorem dX6_replaceBounds_24 : decode cX6_replaceBounds 24 = .ok (.iload_n 3, 1) := by decide +kernel
theorem dX6_replaceBounds_25 : decode cX6_replaceBounds 25 = .ok (.putfield 45, 3) := by decide +kernel
theorem dX6_replaceBounds_28 : decode cX6_replaceBounds 28 = .ok (.aload_n 0, 1) := by decide +kernel
theorem dX6_replaceBounds_29 : decode cX6_replaceBounds 29 = .ok (.dup, 1) := by decide +kernel
theorem dX6_replaceBounds_30 : decode cX6_replaceBounds 30 = .ok (.getfield 35, 3) := by decide +kernel
theorem dX6_replaceBounds_33 : decode cX6_replaceBounds 33 = .ok (.iconst 1, 1) := by decide +kernel
theorem dX6_replaceBounds_34 : decode cX6_replaceBounds 34 = .ok (.iadd, 1) := by decide +kernel
theorem dX6_replaceBounds_35 : decode cX6_replaceBounds 35 = .ok (.putfield 35, 3) := by decide +kernel
theorem dX6_replaceBounds_38 : decode cX6_replaceBounds 38 = .ok (.return_, 1) := by decide +kernel
theorem dX6_replaceBarrier_0 : decode cX6_replaceBarrier 0 = .ok (.aload_n 0, 1) := by decide +kernel
theorem dX6_replaceBarrier_1 : decode cX6_replaceBarrier 1 = .ok (.iload_n 1, 1) := by decide +kernel
theorem dX6_replaceBarrier_2 : decode cX6_replaceBarrier 2 = .ok (.invokevirtual 38, 3) := by decide +kernel
theorem dX6_replaceBarrier_5 : decode cX6_replaceBarrier 5 = .ok (.ifCond .eq 23, 3) := by decide +kernel
theorem dX6_replaceBarrier_8 : decode cX6_replaceBarrier 8 = .ok (.aload_n 0, 1) := by decide +kernel
theorem dX6_replaceBarrier_9 : decode cX6_replaceBarrier 9 = .ok (.getfield 11, 3) := by decide +kernel
theorem dX6_replaceBarrier_12 : decode cX6_replaceBarrier 12 = .ok (.iload_n 1, 1) := by decide +kernel
theorem dX6_replaceBarrier_13 : decode cX6_replaceBarrier 13 = .ok (.aaload, 1) := by decide +kernel
theorem dX6_replaceBarrier_14 : decode cX6_replaceBarrier 14 = .ok (.iload_n 2, 1) := by decide +kernel
theorem dX6_replaceBarrier_15 : decode cX6_replaceBarrier 15 = .ok (.putfield 48, 3) := by decide +kernel
theorem dX6_replaceBarrier_18 : decode cX6_replaceBarrier 18 = .ok (.aload_n 0, 1) := by decide +kernel
theorem dX6_replaceBarrier_19 : decode cX6_replaceBarrier 19 = .ok (.dup, 1) := by decide +kernel
theorem dX6_replaceBarrier_20 : decode cX6_replaceBarrier 20 = .ok (.getfield 35, 3) := by decide +kernel
theorem dX6_replaceBarrier_23 : decode cX6_replaceBarrier 23 = .ok (.iconst 1, 1) := by decide +kernel
theorem dX6_replaceBarrier_24 : decode cX6_replaceBarrier 24 = .ok (.iadd, 1) := by decide +kernel
theorem dX6_replaceBarrier_25 : decode cX6_replaceBarrier 25 = .ok (.putfield 35, 3) := by decide +kernel
theorem dX6_replaceBarrier_28 : decode cX6_replaceBarrier 28 = .ok (.return_, 1) := by decide +kernel
theorem dX6_replaceOption_0 : decode cX6_replaceOption 0 = .ok (.iload_n 1, 1) := by decide +kernel
theorem dX6_replaceOption_1 : decode cX6_replaceOption 1 = .ok (.ifCond .lt 25, 3) := by decide +kernel
theorem dX6_replaceOption_4 : decode cX6_replaceOption 4 = .ok (.iload_n 1, 1) := by decide +kernel
theorem dX6_replaceOption_5 : decode cX6_replaceOption 5 = .ok (.iconst 3, 1) := by decide +kernel
theorem dX6_replaceOption_6 : decode cX6_replaceOption 6 = .ok (.if_icmp .ge 20, 3) := by decide +kernel
theorem dX6_replaceOption_9 : decode cX6_replaceOption 9 = .ok (.aload_n 0, 1) := by decide +kernel
theorem dX6_replaceOption_10 : decode cX6_replaceOption 10 = .ok (.getfield 17, 3) := by decide +kernel
theorem dX6_replaceOption_13 : decode cX6_replaceOption 13 = .ok (.iload_n 1, 1) := by decide +kernel
theorem dX6_replaceOption_14 : decode cX6_replaceOption 14 = .ok (.iload_n 2, 1) := by decide +kernel
theorem dX6_replaceOption_15 : decode cX6_replaceOption 15 = .ok (.iastore, 1) := by decide +kernel
theorem dX6_replaceOption_16 : decode cX6_replaceOption 16 = .ok (.aload_n 0, 1) := by decide +kernel
theorem dX6_replaceOption_17 : decode cX6_replaceOption 17 = .ok (.dup, 1) := by decide +kernel
theorem dX6_replaceOption_18 : decode cX6_replaceOption 18 = .ok (.getfield 35, 3) := by decide +kernel
theorem dX6_replaceOption_21 : decode cX6_replaceOption 21 = .ok (.iconst 1, 1) := by decide +kernel
theorem dX6_replaceOption_22 : decode cX6_replaceOption 22 = .ok (.iadd, 1) := by decide +kernel
theorem dX6_replaceOption_23 : decode cX6_replaceOption 23 = .ok (.putfield 35, 3) := by decide +kernel
theorem dX6_replaceOption_26 : decode cX6_replaceOption 26 = .ok (.return_, 1) := by decide +kernel
theorem dX6_copyFrom_0 : decode cX6_copyFrom 0 = .ok (.iconst 0, 1) := by decide +kernel
theorem dX6_copyFrom_1 : decode cX6_copyFrom 1 = .ok (.istore_n 2, 1) := by decide +kernel
theorem dX6_copyFrom_2 : decode cX6_copyFrom 2 = .ok (.iload_n 2, 1) := by decide +kernel
theorem dX6_copyFrom_3 : decode cX6_copyFrom 3 = .ok (.bipush 6, 2) := by decide +kernel
theorem dX6_copyFrom_5 : decode cX6_copyFrom 5 = .ok (.if_icmp .ge 24, 3) := by decide +kernel
theorem dX6_copyFrom_8 : decode cX6_copyFrom 8 = .ok (.aload_n 0, 1) := by decide +kernel
theorem dX6_copyFrom_9 : decode cX6_copyFrom 9 = .ok (.getfield 11, 3) := by decide +kernel
theorem dX6_copyFrom_12 : decode cX6_copyFrom 12 = .ok (.iload_n 2, 1) := by decide +kernel
theorem dX6_copyFrom_13 : decode cX6_copyFrom 13 = .ok (.aaload, 1) := by decide +kernel
theorem dX6_copyFrom_14 : decode cX6_copyFrom 14 = .ok (.aload_n 1, 1) := by decide +kernel
theorem dX6_copyFrom_15 : decode cX6_copyFrom 15 = .ok (.getfield 11, 3) := by decide +kernel
theorem dX6_copyFrom_18 : decode cX6_copyFrom 18 = .ok (.iload_n 2, 1) := by decide +kernel
theorem dX6_copyFrom_19 : decode cX6_copyFrom 19 = .ok (.aaload, 1) := by decide +kernel
theorem dX6_copyFrom_20 : decode cX6_copyFrom 20 = .ok (.invokevirtual 31, 3) := by decide +kernel
theorem dX6_copyFrom_23 : decode cX6_copyFrom 23 = .ok (.iinc 2 1, 3) := by decide +kernel
theorem dX6_copyFrom_26 : decode cX6_copyFrom 26 = .ok (.goto (-24), 3) := by decide +kernel
theorem dX6_copyFrom_29 : decode cX6_copyFrom 29 = .ok (.iconst 0, 1) := by decide +kernel
theorem dX6_copyFrom_30 : decode cX6_copyFrom 30 = .ok (.istore_n 2, 1) := by decide +kernel
theorem dX6_copyFrom_31 : decode cX6_copyFrom 31 = .ok (.iload_n 2, 1) := by decide +kernel
theorem dX6_copyFrom_32 : decode cX6_copyFrom 32 = .ok (.iconst 3, 1) := by decide +kernel
theorem dX6_copyFrom_33 : decode cX6_copyFrom 33 = .ok (.if_icmp .ge 21, 3) := by decide +kernel
theorem dX6_copyFrom_36 : decode cX6_copyFrom 36 = .ok (.aload_n 0, 1) := by decide +kernel
theorem dX6_copyFrom_37 : decode cX6_copyFrom 37 = .ok (.getfield 17, 3) := by decide +kernel
theorem dX6_copyFrom_40 : decode cX6_copyFrom 40 = .ok (.iload_n 2, 1) := by decide +kernel
theorem dX6_copyFrom_41 : decode cX6_copyFrom 41 = .ok (.aload_n 1, 1) := by decide +kernel
theorem dX6_copyFrom_42 : decode cX6_copyFrom 42 = .ok (.getfield 17, 3) := by decide +kernel
theorem dX6_copyFrom_45 : decode cX6_copyFrom 45 = .ok (.iload_n 2, 1) := by decide +kernel
theorem dX6_copyFrom_46 : decode cX6_copyFrom 46 = .ok (.iaload, 1) := by decide +kernel
theorem dX6_copyFrom_47 : decode cX6_copyFrom 47 = .ok (.iastore, 1) := by decide +kernel
theorem dX6_copyFrom_48 : decode cX6_copyFrom 48 = .ok (.iinc 2 1, 3) := by decide +kernel
theorem dX6_copyFrom_51 : decode cX6_copyFrom 51 = .ok (.goto (-20), 3) := by decide +kernel
theorem dX6_copyFrom_54 : decode cX6_copyFrom 54 = .ok (.aload_n 0, 1) := by decide +kernel
theorem dX6_copyFrom_55 : decode cX6_copyFrom 55 = .ok (.aload_n 1, 1) := by decide +kernel
theorem dX6_copyFrom_56 : decode cX6_copyFrom 56 = .ok (.getfield 27, 3) := by decide +kernel
theorem dX6_copyFrom_59 : decode cX6_copyFrom 59 = .ok (.putfield 27, 3) := by decide +kernel
theorem dX6_copyFrom_62 : decode cX6_copyFrom 62 = .ok (.aload_n 0, 1) := by decide +kernel
theorem dX6_copyFrom_63 : decode cX6_copyFrom 63 = .ok (.dup, 1) := by decide +kernel
theorem dX6_copyFrom_64 : decode cX6_copyFrom 64 = .ok (.getfield 35, 3) := by decide +kernel
theorem dX6_copyFrom_67 : decode cX6_copyFrom 67 = .ok (.iconst 1, 1) := by decide +kernel
theorem dX6_copyFrom_68 : decode cX6_copyFrom 68 = .ok (.iadd, 1) := by decide +kernel
theorem dX6_copyFrom_69 : decode cX6_copyFrom 69 = .ok (.putfield 35, 3) := by decide +kernel
theorem dX6_copyFrom_72 : decode cX6_copyFrom 72 = .ok (.return_, 1) := by decide +kernel
theorem dX7_init_0 : decode cX7_init 0 = .ok (.aload_n 0, 1) := by decide +kernel
theorem dX7_init_1 : decode cX7_init 1 = .ok (.invokespecial 3, 3) := by decide +kernel
theorem dX7_init_4 : decode cX7_init 4 = .ok (.aload_n 0, 1) := by decide +kernel
theorem dX7_init_5 : decode cX7_init 5 = .ok (.iconst 3, 1) := by decide +kernel
theorem dX7_init_6 : decode cX7_init 6 = .ok (.newarray .int, 2) := by decide +kernel
theorem dX7_init_8 : decode cX7_init 8 = .ok (.putfield 9, 3) := by decide +kernel
theorem dX7_init_11 : decode cX7_init 11 = .ok (.return_, 1) := by decide +kernel
theorem dX8_init_0 : decode cX8_init 0 = .ok (.aload_n 0, 1) := by decide +kernel
theorem dX8_init_1 : decode cX8_init 1 = .ok (.invokespecial 3, 3) := by decide +kernel
theorem dX8_init_4 : decode cX8_init 4 = .ok (.aload_n 0, 1) := by decide +kernel
theorem dX8_init_5 : decode cX8_init 5 = .ok (.bipush 120, 2) := by decide +kernel
theorem dX8_init_7 : decode cX8_init 7 = .ok (.newarray .char, 2) := by decide +kernel
theorem dX8_init_9 : decode cX8_init 9 = .ok (.putfield 9, 3) := by decide +kernel
theorem dX8_init_12 : decode cX8_init 12 = .ok (.aload_n 0, 1) := by decide +kernel
theorem dX8_init_13 : decode cX8_init 13 = .ok (.bipush 8, 2) := by decide +kernel
theorem dX8_init_15 : decode cX8_init 15 = .ok (.anewarray 15, 3) := by decide +kernel
theorem dX8_init_18 : decode cX8_init 18 = .ok (.putfield 17, 3) := by decide +kernel
theorem dX8_init_21 : decode cX8_init 21 = .ok (.aload_n 0, 1) := by decide +kernel
theorem dX8_init_22 : decode cX8_init 22 = .ok (.iconst (-1), 1) := by decide +kernel
theorem dX8_init_23 : decode cX8_init 23 = .ok (.putfield 21, 3) := by decide +kernel
theorem dX8_init_26 : decode cX8_init 26 = .ok (.new 25, 3) := by decide +kernel
theorem dX8_init_29 : decode cX8_init 29 = .ok (.dup, 1) := by decide +kernel
theorem dX8_init_30 : decode cX8_init 30 = .ok (.invokespecial 27, 3) := by decide +kernel
theorem dX8_init_33 : decode cX8_init 33 = .ok (.astore_n 1, 1) := by decide +kernel
theorem dX8_init_34 : decode cX8_init 34 = .ok (.iconst 0, 1) := by decide +kernel
theorem dX8_init_35 : decode cX8_init 35 = .ok (.istore_n 2, 1) := by decide +kernel
theorem dX8_init_36 : decode cX8_init 36 = .ok (.iload_n 2, 1) := by decide +kernel
theorem dX8_init_37 : decode cX8_init 37 = .ok (.aload_n 0, 1) := by decide +kernel
theorem dX8_init_38 : decode cX8_init 38 = .ok (.getfield 17, 3) := by decide +kernel
theorem dX8_init_41 : decode cX8_init 41 = .ok (.arraylength, 1) := by decide +kernel
theorem dX8_init_42 : decode cX8_init 42 = .ok (.if_icmp .ge 23, 3) := by decide +kernel
theorem dX8_init_45 : decode cX8_init 45 = .ok (.aload_n 0, 1) := by decide +kernel
theorem dX8_init_46 : decode cX8_init 46 = .ok (.getfield 17, 3) := by decide +kernel
theorem dX8_init_49 : decode cX8_init 49 = .ok (.iload_n 2, 1) := by decide +kernel
theorem dX8_init_50 : decode cX8_init 50 = .ok (.new 15, 3) := by decide +kernel
theorem dX8_init_53 : decode cX8_init 53 = .ok (.dup, 1) := by decide +kernel
theorem dX8_init_54 : decode cX8_init 54 = .ok (.aload_n 1, 1) := by decide +kernel
theorem dX8_init_55 : decode cX8_init 55 = .ok (.invokespecial 28, 3) := by decide +kernel
theorem dX8_init_58 : decode cX8_init 58 = .ok (.aastore, 1) := by decide +kernel
theorem dX8_init_59 : decode cX8_init 59 = .ok (.iinc 2 1, 3) := by decide +kernel
theorem dX8_init_62 : decode cX8_init 62 = .ok (.goto (-26), 3) := by decide +kernel
theorem dX8_init_65 : decode cX8_init 65 = .ok (.return_, 1) := by decide +kernel
theorem dX8_add_0 : decode cX8_add 0 = .ok (.iload_n 1, 1) := by decide +kernel
theorem dX8_add_1 : decode cX8_add 1 = .ok (.ifCond .eq 33, 3) := by decide +kernel
theorem dX8_add_4 : decode cX8_add 4 = .ok (.aload_n 0, 1) := by decide +kernel
theorem dX8_add_5 : decode cX8_add 5 = .ok (.getfield 31, 3) := by decide +kernel
theorem dX8_add_8 : decode cX8_add 8 = .ok (.bipush 120, 2) := by decide +kernel
theorem dX8_add_10 : decode cX8_add 10 = .ok (.if_icmp .ge 24, 3) := by decide +kernel
theorem dX8_add_13 : decode cX8_add 13 = .ok (.aload_n 0, 1) := by decide +kernel
theorem dX8_add_14 : decode cX8_add 14 = .ok (.getfield 9, 3) := by decide +kernel
theorem dX8_add_17 : decode cX8_add 17 = .ok (.aload_n 0, 1) := by decide +kernel
theorem dX8_add_18 : decode cX8_add 18 = .ok (.getfield 31, 3) := by decide +kernel
theorem dX8_add_21 : decode cX8_add 21 = .ok (.iload_n 1, 1) := by decide +kernel
theorem dX8_add_22 : decode cX8_add 22 = .ok (.i2c, 1) := by decide +kernel
theorem dX8_add_23 : decode cX8_add 23 = .ok (.castore, 1) := by decide +kernel
theorem dX8_add_24 : decode cX8_add 24 = .ok (.aload_n 0, 1) := by decide +kernel
theorem dX8_add_25 : decode cX8_add 25 = .ok (.dup, 1) := by decide +kernel
theorem dX8_add_26 : decode cX8_add 26 = .ok (.getfield 31, 3) := by decide +kernel
theorem dX8_add_29 : decode cX8_add 29 = .ok (.iconst 1, 1) := by decide +kernel
theorem dX8_add_30 : decode cX8_add 30 = .ok (.iadd, 1) := by decide +kernel
theorem dX8_add_31 : decode cX8_add 31 = .ok (.putfield 31, 3) := by decide +kernel
theorem dX8_add_34 : decode cX8_add 34 = .ok (.return_, 1) := by decide +kernel
theorem dX8_parse_0 : decode cX8_parse 0 = .ok (.aload_n 0, 1) := by decide +kernel
theorem dX8_parse_1 : decode cX8_parse 1 = .ok (.iconst 0, 1) := by decide +kernel
theorem dX8_parse_2 : decode cX8_parse 2 = .ok (.putfield 34, 3) := by decide +kernel
theorem dX8_parse_5 : decode cX8_parse 5 = .ok (.aload_n 0, 1) := by decide +kernel
theorem dX8_parse_6 : decode cX8_parse 6 = .ok (.iconst 0, 1) := by decide +kernel
theorem dX8_parse_7 : decode cX8_parse 7 = .ok (.putfield 37, 3) := by decide +kernel
theorem dX8_parse_10 : decode cX8_parse 10 = .ok (.aload_n 0, 1) := by decide +kernel
theorem dX8_parse_11 : decode cX8_parse 11 = .ok (.iconst (-1), 1) := by decide +kernel
theorem dX8_parse_12 : decode cX8_parse 12 = .ok (.putfield 21, 3) := by decide +kernel
theorem dX8_parse_15 : decode cX8_parse 15 = .ok (.iconst 1, 1) := by decide +kernel
theorem dX8_parse_16 : decode cX8_parse 16 = .ok (.istore_n 1, 1) := by decide +kernel
theorem dX8_parse_17 : decode cX8_parse 17 = .ok (.iconst 0, 1) := by decide +kernel
theorem dX8_parse_18 : decode cX8_parse 18 = .ok (.istore_n 2, 1) := by decide +kernel
theorem dX8_parse_19 : decode cX8_parse 19 = .ok (.iload_n 2, 1) := by decide +kernel
theorem dX8_parse_20 : decode cX8_parse 20 = .ok (.bipush 8, 2) := by decide +kernel
theorem dX8_parse_22 : decode cX8_parse 22 = .ok (.if_icmp .ge 55, 3) := by decide +kernel
theorem dX8_parse_25 : decode cX8_parse 25 = .ok (.iload_n 1, 1) := by decide +kernel
theorem dX8_parse_26 : decode cX8_parse 26 = .ok (.ifCond .eq 51, 3) := by decide +kernel
theorem dX8_parse_29 : decode cX8_parse 29 = .ok (.iconst 0, 1) := by decide +kernel
theorem dX8_parse_30 : decode cX8_parse 30 = .ok (.istore_n 1, 1) := by decide +kernel
theorem dX8_parse_31 : decode cX8_parse 31 = .ok (.aload_n 0, 1) := by decide +kernel
theorem dX8_parse_32 : decode cX8_parse 32 = .ok (.aload_n 0, 1) := by decide +kernel
theorem dX8_parse_33 : decode cX8_parse 33 = .ok (.getfield 17, 3) := by decide +kernel
theorem dX8_parse_36 : decode cX8_parse 36 = .ok (.iload_n 2, 1) := by decide +kernel
theorem dX8_parse_37 : decode cX8_parse 37 = .ok (.aaload, 1) := by decide +kernel
theorem dX8_parse_38 : decode cX8_parse 38 = .ok (.invokevirtual 40, 3) := by decide +kernel
theorem dX8_parse_41 : decode cX8_parse 41 = .ok (.ifCond .eq 30, 3) := by decide +kernel
theorem dX8_parse_44 : decode cX8_parse 44 = .ok (.aload_n 0, 1) := by decide +kernel
theorem dX8_parse_45 : decode cX8_parse 45 = .ok (.dup, 1) := by decide +kernel
theorem dX8_parse_46 : decode cX8_parse 46 = .ok (.getfield 37, 3) := by decide +kernel
theorem dX8_parse_49 : decode cX8_parse 49 = .ok (.iconst 1, 1) := by decide +kernel
theorem dX8_parse_50 : decode cX8_parse 50 = .ok (.iadd, 1) := by decide +kernel
theorem dX8_parse_51 : decode cX8_parse 51 = .ok (.putfield 37, 3) := by decide +kernel
theorem dX8_parse_54 : decode cX8_parse 54 = .ok (.aload_n 0, 1) := by decide +kernel
theorem dX8_parse_55 : decode cX8_parse 55 = .ok (.getfield 34, 3) := by decide +kernel
theorem dX8_parse_58 : decode cX8_parse 58 = .ok (.aload_n 0, 1) := by decide +kernel
theorem dX8_parse_59 : decode cX8_parse 59 = .ok (.getfield 31, 3) := by decide +kernel
theorem dX8_parse_62 : decode cX8_parse 62 = .ok (.if_icmp .ge 7, 3) := by decide +kernel
theorem dX8_parse_65 : decode cX8_parse 65 = .ok (.iconst 1, 1) := by decide +kernel
theorem dX8_parse_66 : decode cX8_parse 66 = .ok (.goto 4, 3) := by decide +kernel
theorem dX8_parse_69 : decode cX8_parse 69 = .ok (.iconst 0, 1) := by decide +kernel
theorem dX8_parse_70 : decode cX8_parse 70 = .ok (.istore_n 1, 1) := by decide +kernel
theorem dX8_parse_71 : decode cX8_parse 71 = .ok (.iinc 2 1, 3) := by decide +kernel
theorem dX8_parse_74 : decode cX8_parse 74 = .ok (.goto (-55), 3) := by decide +kernel
theorem dX8_parse_77 : decode cX8_parse 77 = .ok (.aload_n 0, 1) := by decide +kernel
theorem dX8_parse_78 : decode cX8_parse 78 = .ok (.iconst 0, 1) := by decide +kernel
theorem dX8_parse_79 : decode cX8_parse 79 = .ok (.putfield 31, 3) := by decide +kernel
theorem dX8_parse_82 : decode cX8_parse 82 = .ok (.return_, 1) := by decide +kernel
theorem dX8_parseLoop_0 : decode cX8_parseLoop 0 = .ok (.new 25, 3) := by decide +kernel
theorem dX8_parseLoop_3 : decode cX8_parseLoop 3 = .ok (.dup, 1) := by decide +kernel
theorem dX8_parseLoop_4 : decode cX8_parseLoop 4 = .ok (.invokespecial 27, 3) := by decide +kernel
theorem dX8_parseLoop_7 : decode cX8_parseLoop 7 = .ok (.astore_n 2, 1) := by decide +kernel
theorem dX8_parseLoop_8 : decode cX8_parseLoop 8 = .ok (.aload_n 1, 1) := by decide +kernel
theorem dX8_parseLoop_9 : decode cX8_parseLoop 9 = .ok (.aload_n 2, 1) := by decide +kernel
theorem dX8_parseLoop_10 : decode cX8_parseLoop 10 = .ok (.putfield 44, 3) := by decide +kernel
theorem dX8_parseLoop_13 : decode cX8_parseLoop 13 = .ok (.aload_n 0, 1) := by decide +kernel
theorem dX8_parseLoop_14 : decode cX8_parseLoop 14 = .ok (.ldc 48, 2) := by decide +kernel
theorem dX8_parseLoop_16 : decode cX8_parseLoop 16 = .ok (.invokevirtual 50, 3) := by decide +kernel
theorem dX8_parseLoop_19 : decode cX8_parseLoop 19 = .ok (.ifCond .ne 5, 3) := by decide +kernel
theorem dX8_parseLoop_22 : decode cX8_parseLoop 22 = .ok (.iconst 0, 1) := by decide +kernel
theorem dX8_parseLoop_23 : decode cX8_parseLoop 23 = .ok (.ireturn, 1) := by decide +kernel
theorem dX8_parseLoop_24 : decode cX8_parseLoop 24 = .ok (.aload_n 1, 1) := by decide +kernel
theorem dX8_parseLoop_25 : decode cX8_parseLoop 25 = .ok (.aload_n 0, 1) := by decide +kernel
theorem dX8_parseLoop_26 : decode cX8_parseLoop 26 = .ok (.iconst 0, 1) := by decide +kernel
theorem dX8_parseLoop_27 : decode cX8_parseLoop 27 = .ok (.invokevirtual 54, 3) := by decide +kernel
theorem dX8_parseLoop_30 : decode cX8_parseLoop 30 = .ok (.putfield 58, 3) := by decide +kernel
theorem dX8_parseLoop_33 : decode cX8_parseLoop 33 = .ok (.aload_n 1, 1) := by decide +kernel
theorem dX8_parseLoop_34 : decode cX8_parseLoop 34 = .ok (.getfield 58, 3) := by decide +kernel
theorem dX8_parseLoop_37 : decode cX8_parseLoop 37 = .ok (.iconst (-1), 1) := by decide +kernel
theorem dX8_parseLoop_38 : decode cX8_parseLoop 38 = .ok (.if_icmp .eq 12, 3) := by decide +kernel
theorem dX8_parseLoop_41 : decode cX8_parseLoop 41 = .ok (.aload_n 0, 1) := by decide +kernel
theorem dX8_parseLoop_42 : decode cX8_parseLoop 42 = .ok (.ldc 61, 2) := by decide +kernel
theorem dX8_parseLoop_44 : decode cX8_parseLoop 44 = .ok (.invokevirtual 50, 3) := by decide +kernel
theorem dX8_parseLoop_47 : decode cX8_parseLoop 47 = .ok (.ifCond .ne 5, 3) := by decide +kernel
theorem dX8_parseLoop_50 : decode cX8_parseLoop 50 = .ok (.iconst 0, 1) := by decide +kernel
theorem dX8_parseLoop_51 : decode cX8_parseLoop 51 = .ok (.ireturn, 1) := by decide +kernel
theorem dX8_parseLoop_52 : decode cX8_parseLoop 52 = .ok (.aload_n 1, 1) := by decide +kernel
theorem dX8_parseLoop_53 : decode cX8_parseLoop 53 = .ok (.aload_n 0, 1) := by decide +kernel
theorem dX8_parseLoop_54 : decode cX8_parseLoop 54 = .ok (.aload_n 1, 1) := by decide +kernel
theorem dX8_parseLoop_55 : decode cX8_parseLoop 55 = .ok (.getfield 58, 3) := by decide +kernel
theorem dX8_parseLoop_58 : decode cX8_parseLoop 58 = .ok (.invokevirtual 54, 3) := by decide +kernel
theorem dX8_parseLoop_61 : decode cX8_parseLoop 61 = .ok (.putfield 63, 3) := by decide +kernel
theorem dX8_parseLoop_64 : decode cX8_parseLoop 64 = .ok (.aload_n 1, 1) := by decide +kernel
theorem dX8_parseLoop_65 : decode cX8_parseLoop 65 = .ok (.getfield 63, 3) := by decide +kernel
theorem dX8_parseLoop_68 : decode cX8_parseLoop 68 = .ok (.iconst (-1), 1) := by decide +kernel
theorem dX8_parseLoop_69 : decode cX8_parseLoop 69 = .ok (.if_icmp .eq 12, 3) := by decide +kernel
theorem dX8_parseLoop_72 : decode cX8_parseLoop 72 = .ok (.aload_n 0, 1) := by decide +kernel
theorem dX8_parseLoop_73 : decode cX8_parseLoop 73 = .ok (.ldc 66, 2) := by decide +kernel
theorem dX8_parseLoop_75 : decode cX8_parseLoop 75 = .ok (.invokevirtual 50, 3) := by decide +kernel
theorem dX8_parseLoop_78 : decode cX8_parseLoop 78 = .ok (.ifCond .ne 5, 3) := by decide +kernel
theorem dX8_parseLoop_81 : decode cX8_parseLoop 81 = .ok (.iconst 0, 1) := by decide +kernel
theorem dX8_parseLoop_82 : decode cX8_parseLoop 82 = .ok (.ireturn, 1) := by decide +kernel
theorem dX8_parseLoop_83 : decode cX8_parseLoop 83 = .ok (.iconst 1, 1) := by decide +kernel
theorem dX8_parseLoop_84 : decode cX8_parseLoop 84 = .ok (.istore_n 3, 1) := by decide +kernel
theorem dX8_parseLoop_85 : decode cX8_parseLoop 85 = .ok (.iconst 1, 1) := by decide +kernel
theorem dX8_parseLoop_86 : decode cX8_parseLoop 86 = .ok (.istore 4, 2) := by decide +kernel
theorem dX8_parseLoop_88 : decode cX8_parseLoop 88 = .ok (.iload 4, 2) := by decide +kernel
theorem dX8_parseLoop_90 : decode cX8_parseLoop 90 = .ok (.iconst 4, 1) := by decide +kernel
theorem dX8_parseLoop_91 : decode cX8_parseLoop 91 = .ok (.if_icmp .gt 62, 3) := by decide +kernel
theorem dX8_parseLoop_94 : decode cX8_parseLoop 94 = .ok (.iload_n 3, 1) := by decide +kernel
theorem dX8_parseLoop_95 : decode cX8_parseLoop 95 = .ok (.ifCond .eq 58, 3) := by decide +kernel
theorem dX8_parseLoop_98 : decode cX8_parseLoop 98 = .ok (.aload_n 0, 1) := by decide +kernel
theorem dX8_parseLoop_99 : decode cX8_parseLoop 99 = .ok (.aload_n 2, 1) := by decide +kernel
theorem dX8_parseLoop_100 : decode cX8_parseLoop 100 = .ok (.invokevirtual 68, 3) := by decide +kernel
theorem dX8_parseLoop_103 : decode cX8_parseLoop 103 = .ok (.ifCond .ne 5, 3) := by decide +kernel
theorem dX8_parseLoop_106 : decode cX8_parseLoop 106 = .ok (.iconst 0, 1) := by decide +kernel
theorem dX8_parseLoop_107 : decode cX8_parseLoop 107 = .ok (.ireturn, 1) := by decide +kernel
theorem dX8_parseLoop_108 : decode cX8_parseLoop 108 = .ok (.iload 4, 2) := by decide +kernel
theorem dX8_parseLoop_110 : decode cX8_parseLoop 110 = .ok (.iconst 4, 1) := by decide +kernel
theorem dX8_parseLoop_111 : decode cX8_parseLoop 111 = .ok (.if_icmp .ge 16, 3) := by decide +kernel
theorem dX8_parseLoop_114 : decode cX8_parseLoop 114 = .ok (.aload_n 0, 1) := by decide +kernel
theorem dX8_parseLoop_115 : decode cX8_parseLoop 115 = .ok (.invokevirtual 72, 3) := by decide +kernel
theorem dX8_parseLoop_118 : decode cX8_parseLoop 118 = .ok (.bipush 59, 2) := by decide +kernel
theorem dX8_parseLoop_120 : decode cX8_parseLoop 120 = .ok (.if_icmp .ne 7, 3) := by decide +kernel
theorem dX8_parseLoop_123 : decode cX8_parseLoop 123 = .ok (.iconst 1, 1) := by decide +kernel
theorem dX8_parseLoop_124 : decode cX8_parseLoop 124 = .ok (.goto 4, 3) := by decide +kernel
theorem dX8_parseLoop_127 : decode cX8_parseLoop 127 = .ok (.iconst 0, 1) := by decide +kernel
theorem dX8_parseLoop_128 : decode cX8_parseLoop 128 = .ok (.istore_n 3, 1) := by decide +kernel
theorem dX8_parseLoop_129 : decode cX8_parseLoop 129 = .ok (.aload_n 0, 1) := by decide +kernel
theorem dX8_parseLoop_130 : decode cX8_parseLoop 130 = .ok (.dup, 1) := by decide +kernel
theorem dX8_parseLoop_131 : decode cX8_parseLoop 131 = .ok (.getfield 34, 3) := by decide +kernel
theorem dX8_parseLoop_134 : decode cX8_parseLoop 134 = .ok (.iload_n 3, 1) := by decide +kernel
theorem dX8_parseLoop_135 : decode cX8_parseLoop 135 = .ok (.ifCond .eq 7, 3) := by decide +kernel
theorem dX8_parseLoop_138 : decode cX8_parseLoop 138 = .ok (.iconst 1, 1) := by decide +kernel
theorem dX8_parseLoop_139 : decode cX8_parseLoop 139 = .ok (.goto 4, 3) := by decide +kernel
theorem dX8_parseLoop_142 : decode cX8_parseLoop 142 = .ok (.iconst 0, 1) := by decide +kernel
theorem dX8_parseLoop_143 : decode cX8_parseLoop 143 = .ok (.iadd, 1) := by decide +kernel
theorem dX8_parseLoop_144 : decode cX8_parseLoop 144 = .ok (.putfield 34, 3) := by decide +kernel
theorem dX8_parseLoop_147 : decode cX8_parseLoop 147 = .ok (.iinc 4 1, 3) := by decide +kernel
theorem dX8_parseLoop_150 : decode cX8_parseLoop 150 = .ok (.goto (-62), 3) := by decide +kernel
theorem dX8_parseLoop_153 : decode cX8_parseLoop 153 = .ok (.aload_n 0, 1) := by decide +kernel
theorem dX8_parseLoop_154 : decode cX8_parseLoop 154 = .ok (.ldc 76, 2) := by decide +kernel
theorem dX8_parseLoop_156 : decode cX8_parseLoop 156 = .ok (.invokevirtual 50, 3) := by decide +kernel
theorem dX8_parseLoop_159 : decode cX8_parseLoop 159 = .ok (.ireturn, 1) := by decide +kernel
theorem dX8_parseBound_0 : decode cX8_parseBound 0 = .ok (.aload_n 0, 1) := by decide +kernel
theorem dX8_parseBound_1 : decode cX8_parseBound 1 = .ok (.getfield 34, 3) := by decide +kernel
theorem dX8_parseBound_4 : decode cX8_parseBound 4 = .ok (.istore_n 2, 1) := by decide +kernel
theorem dX8_parseBound_5 : decode cX8_parseBound 5 = .ok (.aload_n 0, 1) := by decide +kernel
theorem dX8_parseBound_6 : decode cX8_parseBound 6 = .ok (.invokevirtual 78, 3) := by decide +kernel
theorem dX8_parseBound_9 : decode cX8_parseBound 9 = .ok (.istore_n 3, 1) := by decide +kernel
theorem dX8_parseBound_10 : decode cX8_parseBound 10 = .ok (.iload_n 3, 1) := by decide +kernel
theorem dX8_parseBound_11 : decode cX8_parseBound 11 = .ok (.iconst (-1), 1) := by decide +kernel
theorem dX8_parseBound_12 : decode cX8_parseBound 12 = .ok (.if_icmp .eq 21, 3) := by decide +kernel
theorem dX8_parseBound_15 : decode cX8_parseBound 15 = .ok (.iload_n 3, 1) := by decide +kernel
theorem dX8_parseBound_16 : decode cX8_parseBound 16 = .ok (.iload_n 1, 1) := by decide +kernel
theorem dX8_parseBound_17 : decode cX8_parseBound 17 = .ok (.if_icmp .lt 9, 3) := by decide +kernel
theorem dX8_parseBound_20 : decode cX8_parseBound 20 = .ok (.iload_n 3, 1) := by decide +kernel
theorem dX8_parseBound_21 : decode cX8_parseBound 21 = .ok (.bipush 30, 2) := by decide +kernel
theorem dX8_parseBound_23 : decode cX8_parseBound 23 = .ok (.if_icmp .le 10, 3) := by decide +kernel
theorem dX8_parseBound_26 : decode cX8_parseBound 26 = .ok (.aload_n 0, 1) := by decide +kernel
theorem dX8_parseBound_27 : decode cX8_parseBound 27 = .ok (.iload_n 2, 1) := by decide +kernel
theorem dX8_parseBound_28 : decode cX8_parseBound 28 = .ok (.putfield 21, 3) := by decide +kernel
theorem dX8_parseBound_31 : decode cX8_parseBound 31 = .ok (.iconst (-1), 1) := by decide +kernel
theorem dX8_parseBound_32 : decode cX8_parseBound 32 = .ok (.ireturn, 1) := by decide +kernel
theorem dX8_parseBound_33 : decode cX8_parseBound 33 = .ok (.iload_n 3, 1) := by decide +kernel
theorem dX8_parseBound_34 : decode cX8_parseBound 34 = .ok (.ireturn, 1) := by decide +kernel
theorem dX8_parseStatement_0 : decode cX8_parseStatement 0 = .ok (.aload_n 1, 1) := by decide +kernel
theorem dX8_parseStatement_1 : decode cX8_parseStatement 1 = .ok (.invokevirtual 82, 3) := by decide +kernel
theorem dX8_parseStatement_4 : decode cX8_parseStatement 4 = .ok (.aload_n 0, 1) := by decide +kernel
theorem dX8_parseStatement_5 : decode cX8_parseStatement 5 = .ok (.invokevirtual 85, 3) := by decide +kernel
theorem dX8_parseStatement_8 : decode cX8_parseStatement 8 = .ok (.istore_n 2, 1) := by decide +kernel
theorem dX8_parseStatement_9 : decode cX8_parseStatement 9 = .ok (.iload_n 2, 1) := by decide +kernel
theorem dX8_parseStatement_10 : decode cX8_parseStatement 10 = .ok (.iconst (-1), 1) := by decide +kernel
theorem dX8_parseStatement_11 : decode cX8_parseStatement 11 = .ok (.if_icmp .eq 12, 3) := by decide +kernel
theorem dX8_parseStatement_14 : decode cX8_parseStatement 14 = .ok (.aload_n 0, 1) := by decide +kernel
theorem dX8_parseStatement_15 : decode cX8_parseStatement 15 = .ok (.ldc 88, 2) := by decide +kernel
theorem dX8_parseStatement_17 : decode cX8_parseStatement 17 = .ok (.invokevirtual 50, 3) := by decide +kernel
theorem dX8_parseStatement_20 : decode cX8_parseStatement 20 = .ok (.ifCond .ne 5, 3) := by decide +kernel
theorem dX8_parseStatement_23 : decode cX8_parseStatement 23 = .ok (.iconst 0, 1) := by decide +kernel
theorem dX8_parseStatement_24 : decode cX8_parseStatement 24 = .ok (.ireturn, 1) := by decide +kernel
theorem dX8_parseStatement_25 : decode cX8_parseStatement 25 = .ok (.aload_n 0, 1) := by decide +kernel
theorem dX8_parseStatement_26 : decode cX8_parseStatement 26 = .ok (.aload_n 1, 1) := by decide +kernel
theorem dX8_parseStatement_27 : decode cX8_parseStatement 27 = .ok (.iconst 0, 1) := by decide +kernel
theorem dX8_parseStatement_28 : decode cX8_parseStatement 28 = .ok (.invokevirtual 90, 3) := by decide +kernel
theorem dX8_parseStatement_31 : decode cX8_parseStatement 31 = .ok (.istore_n 3, 1) := by decide +kernel
theorem dX8_parseStatement_32 : decode cX8_parseStatement 32 = .ok (.iload_n 3, 1) := by decide +kernel
theorem dX8_parseStatement_33 : decode cX8_parseStatement 33 = .ok (.iconst (-1), 1) := by decide +kernel
theorem dX8_parseStatement_34 : decode cX8_parseStatement 34 = .ok (.if_icmp .ne 5, 3) := by decide +kernel
theorem dX8_parseStatement_37 : decode cX8_parseStatement 37 = .ok (.iconst 0, 1) := by decide +kernel
theorem dX8_parseStatement_38 : decode cX8_parseStatement 38 = .ok (.ireturn, 1) := by decide +kernel
theorem dX8_parseStatement_39 : decode cX8_parseStatement 39 = .ok (.aload_n 1, 1) := by decide +kernel
theorem dX8_parseStatement_40 : decode cX8_parseStatement 40 = .ok (.iload_n 2, 1) := by decide +kernel
theorem dX8_parseStatement_41 : decode cX8_parseStatement 41 = .ok (.iload_n 3, 1) := by decide +kernel
theorem dX8_parseStatement_42 : decode cX8_parseStatement 42 = .ok (.invokevirtual 94, 3) := by decide +kernel
theorem dX8_parseStatement_45 : decode cX8_parseStatement 45 = .ok (.iconst 1, 1) := by decide +kernel
theorem dX8_parseStatement_46 : decode cX8_parseStatement 46 = .ok (.ireturn, 1) := by decide +kernel
theorem dX8_parseSum_0 : decode cX8_parseSum 0 = .ok (.aload_n 0, 1) := by decide +kernel
theorem dX8_parseSum_1 : decode cX8_parseSum 1 = .ok (.aload_n 1, 1) := by decide +kernel
theorem dX8_parseSum_2 : decode cX8_parseSum 2 = .ok (.iload_n 2, 1) := by decide +kernel
theorem dX8_parseSum_3 : decode cX8_parseSum 3 = .ok (.invokevirtual 98, 3) := by decide +kernel
theorem dX8_parseSum_6 : decode cX8_parseSum 6 = .ok (.istore_n 3, 1) := by decide +kernel
theorem dX8_parseSum_7 : decode cX8_parseSum 7 = .ok (.iconst 0, 1) := by decide +kernel
theorem dX8_parseSum_8 : decode cX8_parseSum 8 = .ok (.istore 4, 2) := by decide +kernel
theorem dX8_parseSum_10 : decode cX8_parseSum 10 = .ok (.iload 4, 2) := by decide +kernel
theorem dX8_parseSum_12 : decode cX8_parseSum 12 = .ok (.bipush 120, 2) := by decide +kernel
theorem dX8_parseSum_14 : decode cX8_parseSum 14 = .ok (.if_icmp .ge 72, 3) := by decide +kernel
theorem dX8_parseSum_17 : decode cX8_parseSum 17 = .ok (.iload_n 3, 1) := by decide +kernel
theorem dX8_parseSum_18 : decode cX8_parseSum 18 = .ok (.iconst (-1), 1) := by decide +kernel
theorem dX8_parseSum_19 : decode cX8_parseSum 19 = .ok (.if_icmp .eq 67, 3) := by decide +kernel
theorem dX8_parseSum_22 : decode cX8_parseSum 22 = .ok (.aload_n 0, 1) := by decide +kernel
theorem dX8_parseSum_23 : decode cX8_parseSum 23 = .ok (.invokevirtual 72, 3) := by decide +kernel
theorem dX8_parseSum_26 : decode cX8_parseSum 26 = .ok (.bipush 43, 2) := by decide +kernel
theorem dX8_parseSum_28 : decode cX8_parseSum 28 = .ok (.if_icmp .eq 12, 3) := by decide +kernel
theorem dX8_parseSum_31 : decode cX8_parseSum 31 = .ok (.aload_n 0, 1) := by decide +kernel
theorem dX8_parseSum_32 : decode cX8_parseSum 32 = .ok (.invokevirtual 72, 3) := by decide +kernel
theorem dX8_parseSum_35 : decode cX8_parseSum 35 = .ok (.bipush 45, 2) := by decide +kernel
theorem dX8_parseSum_37 : decode cX8_parseSum 37 = .ok (.if_icmp .ne 49, 3) := by decide +kernel
theorem dX8_parseSum_40 : decode cX8_parseSum 40 = .ok (.aload_n 0, 1) := by decide +kernel
theorem dX8_parseSum_41 : decode cX8_parseSum 41 = .ok (.invokevirtual 72, 3) := by decide +kernel
theorem dX8_parseSum_44 : decode cX8_parseSum 44 = .ok (.bipush 43, 2) := by decide +kernel
theorem dX8_parseSum_46 : decode cX8_parseSum 46 = .ok (.if_icmp .ne 7, 3) := by decide +kernel
theorem dX8_parseSum_49 : decode cX8_parseSum 49 = .ok (.iconst 0, 1) := by decide +kernel
theorem dX8_parseSum_50 : decode cX8_parseSum 50 = .ok (.goto 4, 3) := by decide +kernel
theorem dX8_parseSum_53 : decode cX8_parseSum 53 = .ok (.iconst 1, 1) := by decide +kernel
theorem dX8_parseSum_54 : decode cX8_parseSum 54 = .ok (.istore 5, 2) := by decide +kernel
theorem dX8_parseSum_56 : decode cX8_parseSum 56 = .ok (.aload_n 0, 1) := by decide +kernel
theorem dX8_parseSum_57 : decode cX8_parseSum 57 = .ok (.dup, 1) := by decide +kernel
theorem dX8_parseSum_58 : decode cX8_parseSum 58 = .ok (.getfield 34, 3) := by decide +kernel
theorem dX8_parseSum_61 : decode cX8_parseSum 61 = .ok (.iconst 1, 1) := by decide +kernel
theorem dX8_parseSum_62 : decode cX8_parseSum 62 = .ok (.iadd, 1) := by decide +kernel
theorem dX8_parseSum_63 : decode cX8_parseSum 63 = .ok (.putfield 34, 3) := by decide +kernel
theorem dX8_parseSum_66 : decode cX8_parseSum 66 = .ok (.aload_n 1, 1) := by decide +kernel
theorem dX8_parseSum_67 : decode cX8_parseSum 67 = .ok (.iload 5, 2) := by decide +kernel
theorem dX8_parseSum_69 : decode cX8_parseSum 69 = .ok (.iload_n 3, 1) := by decide +kernel
theorem dX8_parseSum_70 : decode cX8_parseSum 70 = .ok (.aload_n 0, 1) := by decide +kernel
theorem dX8_parseSum_71 : decode cX8_parseSum 71 = .ok (.aload_n 1, 1) := by decide +kernel
theorem dX8_parseSum_72 : decode cX8_parseSum 72 = .ok (.iload_n 2, 1) := by decide +kernel
theorem dX8_parseSum_73 : decode cX8_parseSum 73 = .ok (.invokevirtual 98, 3) := by decide +kernel
theorem dX8_parseSum_76 : decode cX8_parseSum 76 = .ok (.invokestatic 101, 3) := by decide +kernel
theorem dX8_parseSum_79 : decode cX8_parseSum 79 = .ok (.istore_n 3, 1) := by decide +kernel
theorem dX8_parseSum_80 : decode cX8_parseSum 80 = .ok (.iinc 4 1, 3) := by decide +kernel
theorem dX8_parseSum_83 : decode cX8_parseSum 83 = .ok (.goto (-73), 3) := by decide +kernel
theorem dX8_parseSum_86 : decode cX8_parseSum 86 = .ok (.iload_n 3, 1) := by decide +kernel
theorem dX8_parseSum_87 : decode cX8_parseSum 87 = .ok (.ireturn, 1) := by decide +kernel
theorem dX8_parseProduct_0 : decode cX8_parseProduct 0 = .ok (.aload_n 0, 1) := by decide +kernel
theorem dX8_parseProduct_1 : decode cX8_parseProduct 1 = .ok (.aload_n 1, 1) := by decide +kernel
theorem dX8_parseProduct_2 : decode cX8_parseProduct 2 = .ok (.iload_n 2, 1) := by decide +kernel
theorem dX8_parseProduct_3 : decode cX8_parseProduct 3 = .ok (.invokevirtual 105, 3) := by decide +kernel
theorem dX8_parseProduct_6 : decode cX8_parseProduct 6 = .ok (.istore_n 3, 1) := by decide +kernel
theorem dX8_parseProduct_7 : decode cX8_parseProduct 7 = .ok (.iconst 0, 1) := by decide +kernel
theorem dX8_parseProduct_8 : decode cX8_parseProduct 8 = .ok (.istore 4, 2) := by decide +kernel
theorem dX8_parseProduct_10 : decode cX8_parseProduct 10 = .ok (.iload 4, 2) := by decide +kernel
theorem dX8_parseProduct_12 : decode cX8_parseProduct 12 = .ok (.bipush 120, 2) := by decide +kernel
theorem dX8_parseProduct_14 : decode cX8_parseProduct 14 = .ok (.if_icmp .ge 46, 3) := by decide +kernel
theorem dX8_parseProduct_17 : decode cX8_parseProduct 17 = .ok (.iload_n 3, 1) := by decide +kernel
theorem dX8_parseProduct_18 : decode cX8_parseProduct 18 = .ok (.iconst (-1), 1) := by decide +kernel
theorem dX8_parseProduct_19 : decode cX8_parseProduct 19 = .ok (.if_icmp .eq 41, 3) := by decide +kernel
theorem dX8_parseProduct_22 : decode cX8_parseProduct 22 = .ok (.aload_n 0, 1) := by decide +kernel
theorem dX8_parseProduct_23 : decode cX8_parseProduct 23 = .ok (.invokevirtual 72, 3) := by decide +kernel
theorem dX8_parseProduct_26 : decode cX8_parseProduct 26 = .ok (.bipush 42, 2) := by decide +kernel
theorem dX8_parseProduct_28 : decode cX8_parseProduct 28 = .ok (.if_icmp .ne 32, 3) := by decide +kernel
theorem dX8_parseProduct_31 : decode cX8_parseProduct 31 = .ok (.aload_n 0, 1) := by decide +kernel
theorem dX8_parseProduct_32 : decode cX8_parseProduct 32 = .ok (.dup, 1) := by decide +kernel
theorem dX8_parseProduct_33 : decode cX8_parseProduct 33 = .ok (.getfield 34, 3) := by decide +kernel
theorem dX8_parseProduct_36 : decode cX8_parseProduct 36 = .ok (.iconst 1, 1) := by decide +kernel
theorem dX8_parseProduct_37 : decode cX8_parseProduct 37 = .ok (.iadd, 1) := by decide +kernel
theorem dX8_parseProduct_38 : decode cX8_parseProduct 38 = .ok (.putfield 34, 3) := by decide +kernel
theorem dX8_parseProduct_41 : decode cX8_parseProduct 41 = .ok (.aload_n 1, 1) := by decide +kernel
theorem dX8_parseProduct_42 : decode cX8_parseProduct 42 = .ok (.iconst 2, 1) := by decide +kernel
theorem dX8_parseProduct_43 : decode cX8_parseProduct 43 = .ok (.iload_n 3, 1) := by decide +kernel
theorem dX8_parseProduct_44 : decode cX8_parseProduct 44 = .ok (.aload_n 0, 1) := by decide +kernel
theorem dX8_parseProduct_45 : decode cX8_parseProduct 45 = .ok (.aload_n 1, 1) := by decide +kernel
theorem dX8_parseProduct_46 : decode cX8_parseProduct 46 = .ok (.iload_n 2, 1) := by decide +kernel
theorem dX8_parseProduct_47 : decode cX8_parseProduct 47 = .ok (.invokevirtual 105, 3) := by decide +kernel
theorem dX8_parseProduct_50 : decode cX8_parseProduct 50 = .ok (.invokestatic 101, 3) := by decide +kernel
theorem dX8_parseProduct_53 : decode cX8_parseProduct 53 = .ok (.istore_n 3, 1) := by decide +kernel
theorem dX8_parseProduct_54 : decode cX8_parseProduct 54 = .ok (.iinc 4 1, 3) := by decide +kernel
theorem dX8_parseProduct_57 : decode cX8_parseProduct 57 = .ok (.goto (-47), 3) := by decide +kernel
theorem dX8_parseProduct_60 : decode cX8_parseProduct 60 = .ok (.iload_n 3, 1) := by decide +kernel
theorem dX8_parseProduct_61 : decode cX8_parseProduct 61 = .ok (.ireturn, 1) := by decide +kernel
theorem dX8_join_0 : decode cX8_join 0 = .ok (.iload_n 3, 1) := by decide +kernel
theorem dX8_join_1 : decode cX8_join 1 = .ok (.iconst (-1), 1) := by decide +kernel
theorem dX8_join_2 : decode cX8_join 2 = .ok (.if_icmp .ne 5, 3) := by decide +kernel
theorem dX8_join_5 : decode cX8_join 5 = .ok (.iconst (-1), 1) := by decide +kernel
theorem dX8_join_6 : decode cX8_join 6 = .ok (.ireturn, 1) := by decide +kernel
theorem dX8_join_7 : decode cX8_join 7 = .ok (.aload_n 0, 1) := by decide +kernel
theorem dX8_join_8 : decode cX8_join 8 = .ok (.iload_n 1, 1) := by decide +kernel
theorem dX8_join_9 : decode cX8_join 9 = .ok (.invokevirtual 108, 3) := by decide +kernel
theorem dX8_join_12 : decode cX8_join 12 = .ok (.iload_n 2, 1) := by decide +kernel
theorem dX8_join_13 : decode cX8_join 13 = .ok (.iload_n 3, 1) := by decide +kernel
theorem dX8_join_14 : decode cX8_join 14 = .ok (.invokestatic 112, 3) := by decide +kernel
theorem dX8_join_17 : decode cX8_join 17 = .ok (.iconst 1, 1) := by decide +kernel
theorem dX8_join_18 : decode cX8_join 18 = .ok (.iadd, 1) := by decide +kernel
theorem dX8_join_19 : decode cX8_join 19 = .ok (.ireturn, 1) := by decide +kernel
theorem dX8_parseFactor_0 : decode cX8_parseFactor 0 = .ok (.aload_n 0, 1) := by decide +kernel
theorem dX8_parseFactor_1 : decode cX8_parseFactor 1 = .ok (.invokevirtual 72, 3) := by decide +kernel
theorem dX8_parseFactor_4 : decode cX8_parseFactor 4 = .ok (.istore_n 3, 1) := by decide +kernel
theorem dX8_parseFactor_5 : decode cX8_parseFactor 5 = .ok (.iload_n 3, 1) := by decide +kernel
theorem dX8_parseFactor_6 : decode cX8_parseFactor 6 = .ok (.invokestatic 118, 3) := by decide +kernel
theorem dX8_parseFactor_9 : decode cX8_parseFactor 9 = .ok (.ifCond .eq 14, 3) := by decide +kernel
theorem dX8_parseFactor_12 : decode cX8_parseFactor 12 = .ok (.aload_n 1, 1) := by decide +kernel
theorem dX8_parseFactor_13 : decode cX8_parseFactor 13 = .ok (.iconst 3, 1) := by decide +kernel
theorem dX8_parseFactor_14 : decode cX8_parseFactor 14 = .ok (.aload_n 0, 1) := by decide +kernel
theorem dX8_parseFactor_15 : decode cX8_parseFactor 15 = .ok (.invokevirtual 78, 3) := by decide +kernel
theorem dX8_parseFactor_18 : decode cX8_parseFactor 18 = .ok (.invokevirtual 122, 3) := by decide +kernel
theorem dX8_parseFactor_21 : decode cX8_parseFactor 21 = .ok (.iconst 1, 1) := by decide +kernel
theorem dX8_parseFactor_22 : decode cX8_parseFactor 22 = .ok (.ireturn, 1) := by decide +kernel
theorem dX8_parseFactor_23 : decode cX8_parseFactor 23 = .ok (.iload_n 3, 1) := by decide +kernel
theorem dX8_parseFactor_24 : decode cX8_parseFactor 24 = .ok (.bipush 105, 2) := by decide +kernel
theorem dX8_parseFactor_26 : decode cX8_parseFactor 26 = .ok (.if_icmp .ne 21, 3) := by decide +kernel
theorem dX8_parseFactor_29 : decode cX8_parseFactor 29 = .ok (.aload_n 0, 1) := by decide +kernel
theorem dX8_parseFactor_30 : decode cX8_parseFactor 30 = .ok (.dup, 1) := by decide +kernel
theorem dX8_parseFactor_31 : decode cX8_parseFactor 31 = .ok (.getfield 34, 3) := by decide +kernel
theorem dX8_parseFactor_34 : decode cX8_parseFactor 34 = .ok (.iconst 1, 1) := by decide +kernel
theorem dX8_parseFactor_35 : decode cX8_parseFactor 35 = .ok (.iadd, 1) := by decide +kernel
theorem dX8_parseFactor_36 : decode cX8_parseFactor 36 = .ok (.putfield 34, 3) := by decide +kernel
theorem dX8_parseFactor_39 : decode cX8_parseFactor 39 = .ok (.aload_n 1, 1) := by decide +kernel
theorem dX8_parseFactor_40 : decode cX8_parseFactor 40 = .ok (.iconst 4, 1) := by decide +kernel
theorem dX8_parseFactor_41 : decode cX8_parseFactor 41 = .ok (.iconst 0, 1) := by decide +kernel
theorem dX8_parseFactor_42 : decode cX8_parseFactor 42 = .ok (.invokevirtual 122, 3) := by decide +kernel
theorem dX8_parseFactor_45 : decode cX8_parseFactor 45 = .ok (.iconst 1, 1) := by decide +kernel
theorem dX8_parseFactor_46 : decode cX8_parseFactor 46 = .ok (.ireturn, 1) := by decide +kernel
theorem dX8_parseFactor_47 : decode cX8_parseFactor 47 = .ok (.iload_n 3, 1) := by decide +kernel
theorem dX8_parseFactor_48 : decode cX8_parseFactor 48 = .ok (.bipush 40, 2) := by decide +kernel
theorem dX8_parseFactor_50 : decode cX8_parseFactor 50 = .ok (.if_icmp .ne 50, 3) := by decide +kernel
theorem dX8_parseFactor_53 : decode cX8_parseFactor 53 = .ok (.iload_n 2, 1) := by decide +kernel
theorem dX8_parseFactor_54 : decode cX8_parseFactor 54 = .ok (.iconst 3, 1) := by decide +kernel
theorem dX8_parseFactor_55 : decode cX8_parseFactor 55 = .ok (.if_icmp .ge 45, 3) := by decide +kernel
theorem dX8_parseFactor_58 : decode cX8_parseFactor 58 = .ok (.aload_n 0, 1) := by decide +kernel
theorem dX8_parseFactor_59 : decode cX8_parseFactor 59 = .ok (.dup, 1) := by decide +kernel
theorem dX8_parseFactor_60 : decode cX8_parseFactor 60 = .ok (.getfield 34, 3) := by decide +kernel
theorem dX8_parseFactor_63 : decode cX8_parseFactor 63 = .ok (.iconst 1, 1) := by decide +kernel
theorem dX8_parseFactor_64 : decode cX8_parseFactor 64 = .ok (.iadd, 1) := by decide +kernel
theorem dX8_parseFactor_65 : decode cX8_parseFactor 65 = .ok (.putfield 34, 3) := by decide +kernel
theorem dX8_parseFactor_68 : decode cX8_parseFactor 68 = .ok (.aload_n 0, 1) := by decide +kernel
theorem dX8_parseFactor_69 : decode cX8_parseFactor 69 = .ok (.aload_n 1, 1) := by decide +kernel
theorem dX8_parseFactor_70 : decode cX8_parseFactor 70 = .ok (.iload_n 2, 1) := by decide +kernel
theorem dX8_parseFactor_71 : decode cX8_parseFactor 71 = .ok (.iconst 1, 1) := by decide +kernel
theorem dX8_parseFactor_72 : decode cX8_parseFactor 72 = .ok (.iadd, 1) := by decide +kernel
theorem dX8_parseFactor_73 : decode cX8_parseFactor 73 = .ok (.invokevirtual 90, 3) := by decide +kernel
theorem dX8_parseFactor_76 : decode cX8_parseFactor 76 = .ok (.istore 4, 2) := by decide +kernel
theorem dX8_parseFactor_78 : decode cX8_parseFactor 78 = .ok (.iload 4, 2) := by decide +kernel
theorem dX8_parseFactor_80 : decode cX8_parseFactor 80 = .ok (.iconst (-1), 1) := by decide +kernel
theorem dX8_parseFactor_81 : decode cX8_parseFactor 81 = .ok (.if_icmp .eq 17, 3) := by decide +kernel
theorem dX8_parseFactor_84 : decode cX8_parseFactor 84 = .ok (.aload_n 0, 1) := by decide +kernel
theorem dX8_parseFactor_85 : decode cX8_parseFactor 85 = .ok (.ldc 125, 2) := by decide +kernel
theorem dX8_parseFactor_87 : decode cX8_parseFactor 87 = .ok (.invokevirtual 50, 3) := by decide +kernel
theorem dX8_parseFactor_90 : decode cX8_parseFactor 90 = .ok (.ifCond .eq 8, 3) := by decide +kernel
theorem dX8_parseFactor_93 : decode cX8_parseFactor 93 = .ok (.iload 4, 2) := by decide +kernel
theorem dX8_parseFactor_95 : decode cX8_parseFactor 95 = .ok (.goto 4, 3) := by decide +kernel
theorem dX8_parseFactor_98 : decode cX8_parseFactor 98 = .ok (.iconst (-1), 1) := by decide +kernel
theorem dX8_parseFactor_99 : decode cX8_parseFactor 99 = .ok (.ireturn, 1) := by decide +kernel
theorem dX8_parseFactor_100 : decode cX8_parseFactor 100 = .ok (.aload_n 1, 1) := by decide +kernel
theorem dX8_parseFactor_101 : decode cX8_parseFactor 101 = .ok (.invokevirtual 127, 3) := by decide +kernel
theorem dX8_parseFactor_104 : decode cX8_parseFactor 104 = .ok (.getfield 131, 3) := by decide +kernel
theorem dX8_parseFactor_107 : decode cX8_parseFactor 107 = .ok (.iconst 5, 1) := by decide +kernel
theorem dX8_parseFactor_108 : decode cX8_parseFactor 108 = .ok (.if_icmp .lt 13, 3) := by decide +kernel
theorem dX8_parseFactor_111 : decode cX8_parseFactor 111 = .ok (.aload_n 0, 1) := by decide +kernel
theorem dX8_parseFactor_112 : decode cX8_parseFactor 112 = .ok (.aload_n 0, 1) := by decide +kernel
theorem dX8_parseFactor_113 : decode cX8_parseFactor 113 = .ok (.getfield 34, 3) := by decide +kernel
theorem dX8_parseFactor_116 : decode cX8_parseFactor 116 = .ok (.putfield 21, 3) := by decide +kernel
theorem dX8_parseFactor_119 : decode cX8_parseFactor 119 = .ok (.iconst (-1), 1) := by decide +kernel
theorem dX8_parseFactor_120 : decode cX8_parseFactor 120 = .ok (.ireturn, 1) := by decide +kernel
theorem dX8_parseFactor_121 : decode cX8_parseFactor 121 = .ok (.aload_n 0, 1) := by decide +kernel
theorem dX8_parseFactor_122 : decode cX8_parseFactor 122 = .ok (.invokevirtual 85, 3) := by decide +kernel
theorem dX8_parseFactor_125 : decode cX8_parseFactor 125 = .ok (.istore 4, 2) := by decide +kernel
theorem dX8_parseFactor_127 : decode cX8_parseFactor 127 = .ok (.iload 4, 2) := by decide +kernel
theorem dX8_parseFactor_129 : decode cX8_parseFactor 129 = .ok (.iconst (-1), 1) := by decide +kernel
theorem dX8_parseFactor_130 : decode cX8_parseFactor 130 = .ok (.if_icmp .eq 9, 3) := by decide +kernel
theorem dX8_parseFactor_133 : decode cX8_parseFactor 133 = .ok (.aload_n 1, 1) := by decide +kernel
theorem dX8_parseFactor_134 : decode cX8_parseFactor 134 = .ok (.iload 4, 2) := by decide +kernel
theorem dX8_parseFactor_136 : decode cX8_parseFactor 136 = .ok (.invokevirtual 136, 3) := by decide +kernel
theorem dX8_parseFactor_139 : decode cX8_parseFactor 139 = .ok (.iload 4, 2) := by decide +kernel
theorem dX8_parseFactor_141 : decode cX8_parseFactor 141 = .ok (.iconst (-1), 1) := by decide +kernel
theorem dX8_parseFactor_142 : decode cX8_parseFactor 142 = .ok (.if_icmp .ne 7, 3) := by decide +kernel
theorem dX8_parseFactor_145 : decode cX8_parseFactor 145 = .ok (.iconst (-1), 1) := by decide +kernel
theorem dX8_parseFactor_146 : decode cX8_parseFactor 146 = .ok (.goto 4, 3) := by decide +kernel
theorem dX8_parseFactor_149 : decode cX8_parseFactor 149 = .ok (.iconst 1, 1) := by decide +kernel
theorem dX8_parseFactor_150 : decode cX8_parseFactor 150 = .ok (.ireturn, 1) := by decide +kernel
theorem dX8_parseReference_0 : decode cX8_parseReference 0 = .ok (.aload_n 0, 1) := by decide +kernel
theorem dX8_parseReference_1 : decode cX8_parseReference 1 = .ok (.invokevirtual 72, 3) := by decide +kernel
theorem dX8_parseReference_4 : decode cX8_parseReference 4 = .ok (.bipush 97, 2) := by decide +kernel
theorem dX8_parseReference_6 : decode cX8_parseReference 6 = .ok (.isub, 1) := by decide +kernel
theorem dX8_parseReference_7 : decode cX8_parseReference 7 = .ok (.istore_n 1, 1) := by decide +kernel
theorem dX8_parseReference_8 : decode cX8_parseReference 8 = .ok (.iload_n 1, 1) := by decide +kernel
theorem dX8_parseReference_9 : decode cX8_parseReference 9 = .ok (.ifCond .lt 8, 3) := by decide +kernel
theorem dX8_parseReference_12 : decode cX8_parseReference 12 = .ok (.iload_n 1, 1) := by decide +kernel
theorem dX8_parseReference_13 : decode cX8_parseReference 13 = .ok (.iconst 5, 1) := by decide +kernel
theorem dX8_parseReference_14 : decode cX8_parseReference 14 = .ok (.if_icmp .lt 13, 3) := by decide +kernel
theorem dX8_parseReference_17 : decode cX8_parseReference 17 = .ok (.aload_n 0, 1) := by decide +kernel
theorem dX8_parseReference_18 : decode cX8_parseReference 18 = .ok (.aload_n 0, 1) := by decide +kernel
theorem dX8_parseReference_19 : decode cX8_parseReference 19 = .ok (.getfield 34, 3) := by decide +kernel
theorem dX8_parseReference_22 : decode cX8_parseReference 22 = .ok (.putfield 21, 3) := by decide +kernel
theorem dX8_parseReference_25 : decode cX8_parseReference 25 = .ok (.iconst (-1), 1) := by decide +kernel
theorem dX8_parseReference_26 : decode cX8_parseReference 26 = .ok (.ireturn, 1) := by decide +kernel
theorem dX8_parseReference_27 : decode cX8_parseReference 27 = .ok (.aload_n 0, 1) := by decide +kernel
theorem dX8_parseReference_28 : decode cX8_parseReference 28 = .ok (.dup, 1) := by decide +kernel
theorem dX8_parseReference_29 : decode cX8_parseReference 29 = .ok (.getfield 34, 3) := by decide +kernel
theorem dX8_parseReference_32 : decode cX8_parseReference 32 = .ok (.iconst 1, 1) := by decide +kernel
theorem dX8_parseReference_33 : decode cX8_parseReference 33 = .ok (.iadd, 1) := by decide +kernel
theorem dX8_parseReference_34 : decode cX8_parseReference 34 = .ok (.putfield 34, 3) := by decide +kernel
theorem dX8_parseReference_37 : decode cX8_parseReference 37 = .ok (.aload_n 0, 1) := by decide +kernel
theorem dX8_parseReference_38 : decode cX8_parseReference 38 = .ok (.ldc 139, 2) := by decide +kernel
theorem dX8_parseReference_40 : decode cX8_parseReference 40 = .ok (.invokevirtual 50, 3) := by decide +kernel
theorem dX8_parseReference_43 : decode cX8_parseReference 43 = .ok (.ifCond .ne 5, 3) := by decide +kernel
theorem dX8_parseReference_46 : decode cX8_parseReference 46 = .ok (.iconst (-1), 1) := by decide +kernel
theorem dX8_parseReference_47 : decode cX8_parseReference 47 = .ok (.ireturn, 1) := by decide +kernel
theorem dX8_parseReference_48 : decode cX8_parseReference 48 = .ok (.aload_n 0, 1) := by decide +kernel
theorem dX8_parseReference_49 : decode cX8_parseReference 49 = .ok (.invokevirtual 72, 3) := by decide +kernel
theorem dX8_parseReference_52 : decode cX8_parseReference 52 = .ok (.istore_n 2, 1) := by decide +kernel
theorem dX8_parseReference_53 : decode cX8_parseReference 53 = .ok (.iconst 0, 1) := by decide +kernel
theorem dX8_parseReference_54 : decode cX8_parseReference 54 = .ok (.istore_n 3, 1) := by decide +kernel
theorem dX8_parseReference_55 : decode cX8_parseReference 55 = .ok (.iload_n 2, 1) := by decide +kernel
theorem dX8_parseReference_56 : decode cX8_parseReference 56 = .ok (.bipush 43, 2) := by decide +kernel
theorem dX8_parseReference_58 : decode cX8_parseReference 58 = .ok (.if_icmp .eq 9, 3) := by decide +kernel
theorem dX8_parseReference_61 : decode cX8_parseReference 61 = .ok (.iload_n 2, 1) := by decide +kernel
theorem dX8_parseReference_62 : decode cX8_parseReference 62 = .ok (.bipush 45, 2) := by decide +kernel
theorem dX8_parseReference_64 : decode cX8_parseReference 64 = .ok (.if_icmp .ne 67, 3) := by decide +kernel
theorem dX8_parseReference_67 : decode cX8_parseReference 67 = .ok (.aload_n 0, 1) := by decide +kernel
theorem dX8_parseReference_68 : decode cX8_parseReference 68 = .ok (.dup, 1) := by decide +kernel
theorem dX8_parseReference_69 : decode cX8_parseReference 69 = .ok (.getfield 34, 3) := by decide +kernel
theorem dX8_parseReference_72 : decode cX8_parseReference 72 = .ok (.iconst 1, 1) := by decide +kernel
theorem dX8_parseReference_73 : decode cX8_parseReference 73 = .ok (.iadd, 1) := by decide +kernel
theorem dX8_parseReference_74 : decode cX8_parseReference 74 = .ok (.putfield 34, 3) := by decide +kernel
theorem dX8_parseReference_77 : decode cX8_parseReference 77 = .ok (.aload_n 0, 1) := by decide +kernel
theorem dX8_parseReference_78 : decode cX8_parseReference 78 = .ok (.invokevirtual 72, 3) := by decide +kernel
theorem dX8_parseReference_81 : decode cX8_parseReference 81 = .ok (.invokestatic 118, 3) := by decide +kernel
theorem dX8_parseReference_84 : decode cX8_parseReference 84 = .ok (.ifCond .ne 13, 3) := by decide +kernel
theorem dX8_parseReference_87 : decode cX8_parseReference 87 = .ok (.aload_n 0, 1) := by decide +kernel
theorem dX8_parseReference_88 : decode cX8_parseReference 88 = .ok (.aload_n 0, 1) := by decide +kernel
theorem dX8_parseReference_89 : decode cX8_parseReference 89 = .ok (.getfield 34, 3) := by decide +kernel
theorem dX8_parseReference_92 : decode cX8_parseReference 92 = .ok (.putfield 21, 3) := by decide +kernel
theorem dX8_parseReference_95 : decode cX8_parseReference 95 = .ok (.iconst (-1), 1) := by decide +kernel
theorem dX8_parseReference_96 : decode cX8_parseReference 96 = .ok (.ireturn, 1) := by decide +kernel
theorem dX8_parseReference_97 : decode cX8_parseReference 97 = .ok (.iload_n 2, 1) := by decide +kernel
theorem dX8_parseReference_98 : decode cX8_parseReference 98 = .ok (.bipush 43, 2) := by decide +kernel
theorem dX8_parseReference_100 : decode cX8_parseReference 100 = .ok (.if_icmp .ne 13, 3) := by decide +kernel
theorem dX8_parseReference_103 : decode cX8_parseReference 103 = .ok (.aload_n 0, 1) := by decide +kernel
theorem dX8_parseReference_104 : decode cX8_parseReference 104 = .ok (.invokevirtual 72, 3) := by decide +kernel
theorem dX8_parseReference_107 : decode cX8_parseReference 107 = .ok (.bipush 48, 2) := by decide +kernel
theorem dX8_parseReference_109 : decode cX8_parseReference 109 = .ok (.isub, 1) := by decide +kernel
theorem dX8_parseReference_110 : decode cX8_parseReference 110 = .ok (.goto 10, 3) := by decide +kernel
theorem dX8_parseReference_113 : decode cX8_parseReference 113 = .ok (.bipush 48, 2) := by decide +kernel
theorem dX8_parseReference_115 : decode cX8_parseReference 115 = .ok (.aload_n 0, 1) := by decide +kernel
theorem dX8_parseReference_116 : decode cX8_parseReference 116 = .ok (.invokevirtual 72, 3) := by decide +kernel
theorem dX8_parseReference_119 : decode cX8_parseReference 119 = .ok (.isub, 1) := by decide +kernel
theorem dX8_parseReference_120 : decode cX8_parseReference 120 = .ok (.istore_n 3, 1) := by decide +kernel
theorem dX8_parseReference_121 : decode cX8_parseReference 121 = .ok (.aload_n 0, 1) := by decide +kernel
theorem dX8_parseReference_122 : decode cX8_parseReference 122 = .ok (.dup, 1) := by decide +kernel
theorem dX8_parseReference_123 : decode cX8_parseReference 123 = .ok (.getfield 34, 3) := by decide +kernel
theorem dX8_parseReference_126 : decode cX8_parseReference 126 = .ok (.iconst 1, 1) := by decide +kernel
theorem dX8_parseReference_127 : decode cX8_parseReference 127 = .ok (.iadd, 1) := by decide +kernel
theorem dX8_parseReference_128 : decode cX8_parseReference 128 = .ok (.putfield 34, 3) := by decide +kernel
theorem dX8_parseReference_131 : decode cX8_parseReference 131 = .ok (.aload_n 0, 1) := by decide +kernel
theorem dX8_parseReference_132 : decode cX8_parseReference 132 = .ok (.ldc 141, 2) := by decide +kernel
theorem dX8_parseReference_134 : decode cX8_parseReference 134 = .ok (.invokevirtual 50, 3) := by decide +kernel
theorem dX8_parseReference_137 : decode cX8_parseReference 137 = .ok (.ifCond .eq 15, 3) := by decide +kernel
theorem dX8_parseReference_140 : decode cX8_parseReference 140 = .ok (.iload_n 1, 1) := by decide +kernel
theorem dX8_parseReference_141 : decode cX8_parseReference 141 = .ok (.bipush 49, 2) := by decide +kernel
theorem dX8_parseReference_143 : decode cX8_parseReference 143 = .ok (.imul, 1) := by decide +kernel
theorem dX8_parseReference_144 : decode cX8_parseReference 144 = .ok (.iload_n 3, 1) := by decide +kernel
theorem dX8_parseReference_145 : decode cX8_parseReference 145 = .ok (.iadd, 1) := by decide +kernel
theorem dX8_parseReference_146 : decode cX8_parseReference 146 = .ok (.bipush (-9), 2) := by decide +kernel
theorem dX8_parseReference_148 : decode cX8_parseReference 148 = .ok (.isub, 1) := by decide +kernel
theorem dX8_parseReference_149 : decode cX8_parseReference 149 = .ok (.goto 4, 3) := by decide +kernel
theorem dX8_parseReference_152 : decode cX8_parseReference 152 = .ok (.iconst (-1), 1) := by decide +kernel
theorem dX8_parseReference_153 : decode cX8_parseReference 153 = .ok (.ireturn, 1) := by decide +kernel
theorem dX8_parseNumber_0 : decode cX8_parseNumber 0 = .ok (.aload_n 0, 1) := by decide +kernel
theorem dX8_parseNumber_1 : decode cX8_parseNumber 1 = .ok (.invokevirtual 72, 3) := by decide +kernel
theorem dX8_parseNumber_4 : decode cX8_parseNumber 4 = .ok (.invokestatic 118, 3) := by decide +kernel
theorem dX8_parseNumber_7 : decode cX8_parseNumber 7 = .ok (.ifCond .ne 13, 3) := by decide +kernel
theorem dX8_parseNumber_10 : decode cX8_parseNumber 10 = .ok (.aload_n 0, 1) := by decide +kernel
theorem dX8_parseNumber_11 : decode cX8_parseNumber 11 = .ok (.aload_n 0, 1) := by decide +kernel
theorem dX8_parseNumber_12 : decode cX8_parseNumber 12 = .ok (.getfield 34, 3) := by decide +kernel
theorem dX8_parseNumber_15 : decode cX8_parseNumber 15 = .ok (.putfield 21, 3) := by decide +kernel
theorem dX8_parseNumber_18 : decode cX8_parseNumber 18 = .ok (.iconst (-1), 1) := by decide +kernel
theorem dX8_parseNumber_19 : decode cX8_parseNumber 19 = .ok (.ireturn, 1) := by decide +kernel
theorem dX8_parseNumber_20 : decode cX8_parseNumber 20 = .ok (.aload_n 0, 1) := by decide +kernel
theorem dX8_parseNumber_21 : decode cX8_parseNumber 21 = .ok (.invokevirtual 72, 3) := by decide +kernel
theorem dX8_parseNumber_24 : decode cX8_parseNumber 24 = .ok (.bipush 48, 2) := by decide +kernel
theorem dX8_parseNumber_26 : decode cX8_parseNumber 26 = .ok (.isub, 1) := by decide +kernel
theorem dX8_parseNumber_27 : decode cX8_parseNumber 27 = .ok (.istore_n 1, 1) := by decide +kernel
theorem dX8_parseNumber_28 : decode cX8_parseNumber 28 = .ok (.aload_n 0, 1) := by decide +kernel
theorem dX8_parseNumber_29 : decode cX8_parseNumber 29 = .ok (.dup, 1) := by decide +kernel
theorem dX8_parseNumber_30 : decode cX8_parseNumber 30 = .ok (.getfield 34, 3) := by decide +kernel
theorem dX8_parseNumber_33 : decode cX8_parseNumber 33 = .ok (.iconst 1, 1) := by decide +kernel
theorem dX8_parseNumber_34 : decode cX8_parseNumber 34 = .ok (.iadd, 1) := by decide +kernel
theorem dX8_parseNumber_35 : decode cX8_parseNumber 35 = .ok (.putfield 34, 3) := by decide +kernel
theorem dX8_parseNumber_38 : decode cX8_parseNumber 38 = .ok (.iload_n 1, 1) := by decide +kernel
theorem dX8_parseNumber_39 : decode cX8_parseNumber 39 = .ok (.ifCond .eq 36, 3) := by decide +kernel
theorem dX8_parseNumber_42 : decode cX8_parseNumber 42 = .ok (.aload_n 0, 1) := by decide +kernel
theorem dX8_parseNumber_43 : decode cX8_parseNumber 43 = .ok (.invokevirtual 72, 3) := by decide +kernel
theorem dX8_parseNumber_46 : decode cX8_parseNumber 46 = .ok (.invokestatic 118, 3) := by decide +kernel
theorem dX8_parseNumber_49 : decode cX8_parseNumber 49 = .ok (.ifCond .eq 26, 3) := by decide +kernel
theorem dX8_parseNumber_52 : decode cX8_parseNumber 52 = .ok (.bipush 10, 2) := by decide +kernel
theorem dX8_parseNumber_54 : decode cX8_parseNumber 54 = .ok (.iload_n 1, 1) := by decide +kernel
theorem dX8_parseNumber_55 : decode cX8_parseNumber 55 = .ok (.imul, 1) := by decide +kernel
theorem dX8_parseNumber_56 : decode cX8_parseNumber 56 = .ok (.aload_n 0, 1) := by decide +kernel
theorem dX8_parseNumber_57 : decode cX8_parseNumber 57 = .ok (.invokevirtual 72, 3) := by decide +kernel
theorem dX8_parseNumber_60 : decode cX8_parseNumber 60 = .ok (.iadd, 1) := by decide +kernel
theorem dX8_parseNumber_61 : decode cX8_parseNumber 61 = .ok (.bipush 48, 2) := by decide +kernel
theorem dX8_parseNumber_63 : decode cX8_parseNumber 63 = .ok (.isub, 1) := by decide +kernel
theorem dX8_parseNumber_64 : decode cX8_parseNumber 64 = .ok (.istore_n 1, 1) := by decide +kernel
theorem dX8_parseNumber_65 : decode cX8_parseNumber 65 = .ok (.aload_n 0, 1) := by decide +kernel
theorem dX8_parseNumber_66 : decode cX8_parseNumber 66 = .ok (.dup, 1) := by decide +kernel
theorem dX8_parseNumber_67 : decode cX8_parseNumber 67 = .ok (.getfield 34, 3) := by decide +kernel
theorem dX8_parseNumber_70 : decode cX8_parseNumber 70 = .ok (.iconst 1, 1) := by decide +kernel
theorem dX8_parseNumber_71 : decode cX8_parseNumber 71 = .ok (.iadd, 1) := by decide +kernel
theorem dX8_parseNumber_72 : decode cX8_parseNumber 72 = .ok (.putfield 34, 3) := by decide +kernel
theorem dX8_parseNumber_75 : decode cX8_parseNumber 75 = .ok (.iload_n 1, 1) := by decide +kernel
theorem dX8_parseNumber_76 : decode cX8_parseNumber 76 = .ok (.ireturn, 1) := by decide +kernel
theorem dX8_expect_0 : decode cX8_expect 0 = .ok (.iconst 0, 1) := by decide +kernel
theorem dX8_expect_1 : decode cX8_expect 1 = .ok (.istore_n 2, 1) := by decide +kernel
theorem dX8_expect_2 : decode cX8_expect 2 = .ok (.iload_n 2, 1) := by decide +kernel
theorem dX8_expect_3 : decode cX8_expect 3 = .ok (.aload_n 1, 1) := by decide +kernel
theorem dX8_expect_4 : decode cX8_expect 4 = .ok (.invokevirtual 143, 3) := by decide +kernel
theorem dX8_expect_7 : decode cX8_expect 7 = .ok (.if_icmp .ge 41, 3) := by decide +kernel
theorem dX8_expect_10 : decode cX8_expect 10 = .ok (.aload_n 0, 1) := by decide +kernel
theorem dX8_expect_11 : decode cX8_expect 11 = .ok (.invokevirtual 72, 3) := by decide +kernel
theorem dX8_expect_14 : decode cX8_expect 14 = .ok (.aload_n 1, 1) := by decide +kernel
theorem dX8_expect_15 : decode cX8_expect 15 = .ok (.iload_n 2, 1) := by decide +kernel
theorem dX8_expect_16 : decode cX8_expect 16 = .ok (.invokevirtual 147, 3) := by decide +kernel
theorem dX8_expect_19 : decode cX8_expect 19 = .ok (.if_icmp .eq 13, 3) := by decide +kernel
theorem dX8_expect_22 : decode cX8_expect 22 = .ok (.aload_n 0, 1) := by decide +kernel
theorem dX8_expect_23 : decode cX8_expect 23 = .ok (.aload_n 0, 1) := by decide +kernel
theorem dX8_expect_24 : decode cX8_expect 24 = .ok (.getfield 34, 3) := by decide +kernel
theorem dX8_expect_27 : decode cX8_expect 27 = .ok (.putfield 21, 3) := by decide +kernel
theorem dX8_expect_30 : decode cX8_expect 30 = .ok (.iconst 0, 1) := by decide +kernel
theorem dX8_expect_31 : decode cX8_expect 31 = .ok (.ireturn, 1) := by decide +kernel
theorem dX8_expect_32 : decode cX8_expect 32 = .ok (.aload_n 0, 1) := by decide +kernel
theorem dX8_expect_33 : decode cX8_expect 33 = .ok (.dup, 1) := by decide +kernel
theorem dX8_expect_34 : decode cX8_expect 34 = .ok (.getfield 34, 3) := by decide +kernel
theorem dX8_expect_37 : decode cX8_expect 37 = .ok (.iconst 1, 1) := by decide +kernel
theorem dX8_expect_38 : decode cX8_expect 38 = .ok (.iadd, 1) := by decide +kernel
theorem dX8_expect_39 : decode cX8_expect 39 = .ok (.putfield 34, 3) := by decide +kernel
theorem dX8_expect_42 : decode cX8_expect 42 = .ok (.iinc 2 1, 3) := by decide +kernel
theorem dX8_expect_45 : decode cX8_expect 45 = .ok (.goto (-43), 3) := by decide +kernel
theorem dX8_expect_48 : decode cX8_expect 48 = .ok (.iconst 1, 1) := by decide +kernel
theorem dX8_expect_49 : decode cX8_expect 49 = .ok (.ireturn, 1) := by decide +kernel
theorem dX8_peek_0 : decode cX8_peek 0 = .ok (.aload_n 0, 1) := by decide +kernel
theorem dX8_peek_1 : decode cX8_peek 1 = .ok (.getfield 34, 3) := by decide +kernel
theorem dX8_peek_4 : decode cX8_peek 4 = .ok (.ifCond .lt 35, 3) := by decide +kernel
theorem dX8_peek_7 : decode cX8_peek 7 = .ok (.aload_n 0, 1) := by decide +kernel
theorem dX8_peek_8 : decode cX8_peek 8 = .ok (.getfield 34, 3) := by decide +kernel
theorem dX8_peek_11 : decode cX8_peek 11 = .ok (.aload_n 0, 1) := by decide +kernel
theorem dX8_peek_12 : decode cX8_peek 12 = .ok (.getfield 31, 3) := by decide +kernel
theorem dX8_peek_15 : decode cX8_peek 15 = .ok (.if_icmp .ge 24, 3) := by decide +kernel
theorem dX8_peek_18 : decode cX8_peek 18 = .ok (.aload_n 0, 1) := by decide +kernel
theorem dX8_peek_19 : decode cX8_peek 19 = .ok (.getfield 34, 3) := by decide +kernel
theorem dX8_peek_22 : decode cX8_peek 22 = .ok (.bipush 120, 2) := by decide +kernel
theorem dX8_peek_24 : decode cX8_peek 24 = .ok (.if_icmp .ge 15, 3) := by decide +kernel
theorem dX8_peek_27 : decode cX8_peek 27 = .ok (.aload_n 0, 1) := by decide +kernel
theorem dX8_peek_28 : decode cX8_peek 28 = .ok (.getfield 9, 3) := by decide +kernel
theorem dX8_peek_31 : decode cX8_peek 31 = .ok (.aload_n 0, 1) := by decide +kernel
theorem dX8_peek_32 : decode cX8_peek 32 = .ok (.getfield 34, 3) := by decide +kernel
theorem dX8_peek_35 : decode cX8_peek 35 = .ok (.caload, 1) := by decide +kernel
theorem dX8_peek_36 : decode cX8_peek 36 = .ok (.goto 4, 3) := by decide +kernel
theorem dX8_peek_39 : decode cX8_peek 39 = .ok (.iconst 0, 1) := by decide +kernel
theorem dX8_peek_40 : decode cX8_peek 40 = .ok (.ireturn, 1) := by decide +kernel
theorem dX8_isDigit_0 : decode cX8_isDigit 0 = .ok (.iload_n 0, 1) := by decide +kernel
theorem dX8_isDigit_1 : decode cX8_isDigit 1 = .ok (.bipush 48, 2) := by decide +kernel
theorem dX8_isDigit_3 : decode cX8_isDigit 3 = .ok (.if_icmp .lt 13, 3) := by decide +kernel
theorem dX8_isDigit_6 : decode cX8_isDigit 6 = .ok (.iload_n 0, 1) := by decide +kernel
theorem dX8_isDigit_7 : decode cX8_isDigit 7 = .ok (.bipush 57, 2) := by decide +kernel
theorem dX8_isDigit_9 : decode cX8_isDigit 9 = .ok (.if_icmp .gt 7, 3) := by decide +kernel
theorem dX8_isDigit_12 : decode cX8_isDigit 12 = .ok (.iconst 1, 1) := by decide +kernel
theorem dX8_isDigit_13 : decode cX8_isDigit 13 = .ok (.goto 4, 3) := by decide +kernel
theorem dX8_isDigit_16 : decode cX8_isDigit 16 = .ok (.iconst 0, 1) := by decide +kernel
theorem dX8_isDigit_17 : decode cX8_isDigit 17 = .ok (.ireturn, 1) := by decide +kernel
theorem dX9_init_0 : decode cX9_init 0 = .ok (.aload_n 0, 1) := by decide +kernel
theorem dX9_init_1 : decode cX9_init 1 = .ok (.invokespecial 3, 3) := by decide +kernel
theorem dX9_init_4 : decode cX9_init 4 = .ok (.aload_n 0, 1) := by decide +kernel
theorem dX9_init_5 : decode cX9_init 5 = .ok (.sipush 245, 3) := by decide +kernel
theorem dX9_init_8 : decode cX9_init 8 = .ok (.newarray .int, 2) := by decide +kernel
theorem dX9_init_10 : decode cX9_init 10 = .ok (.putfield 9, 3) := by decide +kernel
theorem dX9_init_13 : decode cX9_init 13 = .ok (.return_, 1) := by decide +kernel
theorem dX9_begin_0 : decode cX9_begin 0 = .ok (.aload_n 0, 1) := by decide +kernel
theorem dX9_begin_1 : decode cX9_begin 1 = .ok (.iload_n 1, 1) := by decide +kernel
theorem dX9_begin_2 : decode cX9_begin 2 = .ok (.putfield 15, 3) := by decide +kernel
theorem dX9_begin_5 : decode cX9_begin 5 = .ok (.aload_n 0, 1) := by decide +kernel
theorem dX9_begin_6 : decode cX9_begin 6 = .ok (.iconst 0, 1) := by decide +kernel
theorem dX9_begin_7 : decode cX9_begin 7 = .ok (.putfield 19, 3) := by decide +kernel
theorem dX9_begin_10 : decode cX9_begin 10 = .ok (.aload_n 0, 1) := by decide +kernel
theorem dX9_begin_11 : decode cX9_begin 11 = .ok (.iconst 0, 1) := by decide +kernel
theorem dX9_begin_12 : decode cX9_begin 12 = .ok (.putfield 22, 3) := by decide +kernel
theorem dX9_begin_15 : decode cX9_begin 15 = .ok (.aload_n 0, 1) := by decide +kernel
theorem dX9_begin_16 : decode cX9_begin 16 = .ok (.iconst 0, 1) := by decide +kernel
theorem dX9_begin_17 : decode cX9_begin 17 = .ok (.putfield 25, 3) := by decide +kernel
theorem dX9_begin_20 : decode cX9_begin 20 = .ok (.aload_n 0, 1) := by decide +kernel
theorem dX9_begin_21 : decode cX9_begin 21 = .ok (.invokevirtual 28, 3) := by decide +kernel
theorem dX9_begin_24 : decode cX9_begin 24 = .ok (.return_, 1) := by decide +kernel
theorem dX9_forget_0 : decode cX9_forget 0 = .ok (.iconst 0, 1) := by decide +kernel
theorem dX9_forget_1 : decode cX9_forget 1 = .ok (.istore_n 1, 1) := by decide +kernel
theorem dX9_forget_2 : decode cX9_forget 2 = .ok (.iload_n 1, 1) := by decide +kernel
theorem dX9_forget_3 : decode cX9_forget 3 = .ok (.sipush 245, 3) := by decide +kernel
theorem dX9_forget_6 : decode cX9_forget 6 = .ok (.if_icmp .ge 18, 3) := by decide +kernel
theorem dX9_forget_9 : decode cX9_forget 9 = .ok (.aload_n 0, 1) := by decide +kernel
theorem dX9_forget_10 : decode cX9_forget 10 = .ok (.getfield 9, 3) := by decide +kernel
theorem dX9_forget_13 : decode cX9_forget 13 = .ok (.iload_n 1, 1) := by decide +kernel
theorem dX9_forget_14 : decode cX9_forget 14 = .ok (.sipush (-1000), 3) := by decide +kernel
theorem dX9_forget_17 : decode cX9_forget 17 = .ok (.iastore, 1) := by decide +kernel
theorem dX9_forget_18 : decode cX9_forget 18 = .ok (.iinc 1 1, 3) := by decide +kernel
theorem dX9_forget_21 : decode cX9_forget 21 = .ok (.goto (-19), 3) := by decide +kernel
theorem dX9_forget_24 : decode cX9_forget 24 = .ok (.return_, 1) := by decide +kernel
theorem dX9_iterate_0 : decode cX9_iterate 0 = .ok (.iconst 0, 1) := by decide +kernel
theorem dX9_iterate_1 : decode cX9_iterate 1 = .ok (.istore 4, 2) := by decide +kernel
theorem dX9_iterate_3 : decode cX9_iterate 3 = .ok (.iload 4, 2) := by decide +kernel
theorem dX9_iterate_5 : decode cX9_iterate 5 = .ok (.aload_n 2, 1) := by decide +kernel
theorem dX9_iterate_6 : decode cX9_iterate 6 = .ok (.getfield 31, 3) := by decide +kernel
theorem dX9_iterate_9 : decode cX9_iterate 9 = .ok (.if_icmp .ge 125, 3) := by decide +kernel
theorem dX9_iterate_12 : decode cX9_iterate 12 = .ok (.iload 4, 2) := by decide +kernel
theorem dX9_iterate_14 : decode cX9_iterate 14 = .ok (.bipush 24, 2) := by decide +kernel
theorem dX9_iterate_16 : decode cX9_iterate 16 = .ok (.if_icmp .ge 118, 3) := by decide +kernel
theorem dX9_iterate_19 : decode cX9_iterate 19 = .ok (.aload_n 2, 1) := by decide +kernel
theorem dX9_iterate_20 : decode cX9_iterate 20 = .ok (.getfield 36, 3) := by decide +kernel
theorem dX9_iterate_23 : decode cX9_iterate 23 = .ok (.iload 4, 2) := by decide +kernel
theorem dX9_iterate_25 : decode cX9_iterate 25 = .ok (.iaload, 1) := by decide +kernel
theorem dX9_iterate_26 : decode cX9_iterate 26 = .ok (.iload_n 3, 1) := by decide +kernel
theorem dX9_iterate_27 : decode cX9_iterate 27 = .ok (.iadd, 1) := by decide +kernel
theorem dX9_iterate_28 : decode cX9_iterate 28 = .ok (.istore 5, 2) := by decide +kernel
theorem dX9_iterate_30 : decode cX9_iterate 30 = .ok (.iload 5, 2) := by decide +kernel
theorem dX9_iterate_32 : decode cX9_iterate 32 = .ok (.ifCond .lt 96, 3) := by decide +kernel
theorem dX9_iterate_35 : decode cX9_iterate 35 = .ok (.iload 5, 2) := by decide +kernel
theorem dX9_iterate_37 : decode cX9_iterate 37 = .ok (.sipush 245, 3) := by decide +kernel
theorem dX9_iterate_40 : decode cX9_iterate 40 = .ok (.if_icmp .ge 88, 3) := by decide +kernel
theorem dX9_iterate_43 : decode cX9_iterate 43 = .ok (.iload_n 1, 1) := by decide +kernel
theorem dX9_iterate_44 : decode cX9_iterate 44 = .ok (.aload_n 0, 1) := by decide +kernel
theorem dX9_iterate_45 : decode cX9_iterate 45 = .ok (.getfield 9, 3) := by decide +kernel
theorem dX9_iterate_48 : decode cX9_iterate 48 = .ok (.iload 5, 2) := by decide +kernel
theorem dX9_iterate_50 : decode cX9_iterate 50 = .ok (.iaload, 1) := by decide +kernel
theorem dX9_iterate_51 : decode cX9_iterate 51 = .ok (.isub, 1) := by decide +kernel
theorem dX9_iterate_52 : decode cX9_iterate 52 = .ok (.istore 6, 2) := by decide +kernel
theorem dX9_iterate_54 : decode cX9_iterate 54 = .ok (.aload_n 0, 1) := by decide +kernel
theorem dX9_iterate_55 : decode cX9_iterate 55 = .ok (.getfield 9, 3) := by decide +kernel
theorem dX9_iterate_58 : decode cX9_iterate 58 = .ok (.iload 5, 2) := by decide +kernel
theorem dX9_iterate_60 : decode cX9_iterate 60 = .ok (.iload_n 1, 1) := by decide +kernel
theorem dX9_iterate_61 : decode cX9_iterate 61 = .ok (.iastore, 1) := by decide +kernel
theorem dX9_iterate_62 : decode cX9_iterate 62 = .ok (.aload_n 0, 1) := by decide +kernel
theorem dX9_iterate_63 : decode cX9_iterate 63 = .ok (.dup, 1) := by decide +kernel
theorem dX9_iterate_64 : decode cX9_iterate 64 = .ok (.getfield 19, 3) := by decide +kernel
theorem dX9_iterate_67 : decode cX9_iterate 67 = .ok (.aload_n 2, 1) := by decide +kernel
theorem dX9_iterate_68 : decode cX9_iterate 68 = .ok (.getfield 39, 3) := by decide +kernel
theorem dX9_iterate_71 : decode cX9_iterate 71 = .ok (.iload 4, 2) := by decide +kernel
theorem dX9_iterate_73 : decode cX9_iterate 73 = .ok (.baload, 1) := by decide +kernel
theorem dX9_iterate_74 : decode cX9_iterate 74 = .ok (.ifCond .eq 7, 3) := by decide +kernel
theorem dX9_iterate_77 : decode cX9_iterate 77 = .ok (.iconst 0, 1) := by decide +kernel
theorem dX9_iterate_78 : decode cX9_iterate 78 = .ok (.goto 4, 3) := by decide +kernel
theorem dX9_iterate_81 : decode cX9_iterate 81 = .ok (.iconst 1, 1) := by decide +kernel
theorem dX9_iterate_82 : decode cX9_iterate 82 = .ok (.iadd, 1) := by decide +kernel
theorem dX9_iterate_83 : decode cX9_iterate 83 = .ok (.putfield 19, 3) := by decide +kernel
theorem dX9_iterate_86 : decode cX9_iterate 86 = .ok (.aload_n 2, 1) := by decide +kernel
theorem dX9_iterate_87 : decode cX9_iterate 87 = .ok (.getfield 39, 3) := by decide +kernel
theorem dX9_iterate_90 : decode cX9_iterate 90 = .ok (.iload 4, 2) := by decide +kernel
theorem dX9_iterate_92 : decode cX9_iterate 92 = .ok (.baload, 1) := by decide +kernel
theorem dX9_iterate_93 : decode cX9_iterate 93 = .ok (.ifCond .ne 35, 3) := by decide +kernel
theorem dX9_iterate_96 : decode cX9_iterate 96 = .ok (.iload 6, 2) := by decide +kernel
theorem dX9_iterate_98 : decode cX9_iterate 98 = .ok (.aload_n 0, 1) := by decide +kernel
theorem dX9_iterate_99 : decode cX9_iterate 99 = .ok (.getfield 15, 3) := by decide +kernel
theorem dX9_iterate_102 : decode cX9_iterate 102 = .ok (.if_icmp .gt 26, 3) := by decide +kernel
theorem dX9_iterate_105 : decode cX9_iterate 105 = .ok (.aload_n 0, 1) := by decide +kernel
theorem dX9_iterate_106 : decode cX9_iterate 106 = .ok (.dup, 1) := by decide +kernel
theorem dX9_iterate_107 : decode cX9_iterate 107 = .ok (.getfield 22, 3) := by decide +kernel
theorem dX9_iterate_110 : decode cX9_iterate 110 = .ok (.iconst 1, 1) := by decide +kernel
theorem dX9_iterate_111 : decode cX9_iterate 111 = .ok (.iadd, 1) := by decide +kernel
theorem dX9_iterate_112 : decode cX9_iterate 112 = .ok (.putfield 22, 3) := by decide +kernel
theorem dX9_iterate_115 : decode cX9_iterate 115 = .ok (.aload_n 0, 1) := by decide +kernel
theorem dX9_iterate_116 : decode cX9_iterate 116 = .ok (.aload_n 0, 1) := by decide +kernel
theorem dX9_iterate_117 : decode cX9_iterate 117 = .ok (.getfield 25, 3) := by decide +kernel
theorem dX9_iterate_120 : decode cX9_iterate 120 = .ok (.iload 6, 2) := by decide +kernel
theorem dX9_iterate_122 : decode cX9_iterate 122 = .ok (.invokestatic 43, 3) := by decide +kernel
theorem dX9_iterate_125 : decode cX9_iterate 125 = .ok (.putfield 25, 3) := by decide +kernel
theorem dX9_iterate_128 : decode cX9_iterate 128 = .ok (.iinc 4 1, 3) := by decide +kernel
theorem dX9_iterate_131 : decode cX9_iterate 131 = .ok (.goto (-128), 3) := by decide +kernel
theorem dX9_iterate_134 : decode cX9_iterate 134 = .ok (.return_, 1) := by decide +kernel
theorem dX11_init_0 : decode cX11_init 0 = .ok (.aload_n 0, 1) := by decide +kernel
theorem dX11_init_1 : decode cX11_init 1 = .ok (.invokespecial 3, 3) := by decide +kernel
theorem dX11_init_4 : decode cX11_init 4 = .ok (.aload_n 0, 1) := by decide +kernel
theorem dX11_init_5 : decode cX11_init 5 = .ok (.new 9, 3) := by decide +kernel
theorem dX11_init_8 : decode cX11_init 8 = .ok (.dup, 1) := by decide +kernel
theorem dX11_init_9 : decode cX11_init 9 = .ok (.invokespecial 11, 3) := by decide +kernel
theorem dX11_init_12 : decode cX11_init 12 = .ok (.putfield 12, 3) := by decide +kernel
theorem dX11_init_15 : decode cX11_init 15 = .ok (.aload_n 0, 1) := by decide +kernel
theorem dX11_init_16 : decode cX11_init 16 = .ok (.new 16, 3) := by decide +kernel
theorem dX11_init_19 : decode cX11_init 19 = .ok (.dup, 1) := by decide +kernel
theorem dX11_init_20 : decode cX11_init 20 = .ok (.invokespecial 18, 3) := by decide +kernel
theorem dX11_init_23 : decode cX11_init 23 = .ok (.putfield 19, 3) := by decide +kernel
theorem dX11_init_26 : decode cX11_init 26 = .ok (.aload_n 0, 1) := by decide +kernel
theorem dX11_init_27 : decode cX11_init 27 = .ok (.new 16, 3) := by decide +kernel
theorem dX11_init_30 : decode cX11_init 30 = .ok (.dup, 1) := by decide +kernel
theorem dX11_init_31 : decode cX11_init 31 = .ok (.invokespecial 18, 3) := by decide +kernel
theorem dX11_init_34 : decode cX11_init 34 = .ok (.putfield 23, 3) := by decide +kernel
theorem dX11_init_37 : decode cX11_init 37 = .ok (.aload_n 0, 1) := by decide +kernel
theorem dX11_init_38 : decode cX11_init 38 = .ok (.new 26, 3) := by decide +kernel
theorem dX11_init_41 : decode cX11_init 41 = .ok (.dup, 1) := by decide +kernel
theorem dX11_init_42 : decode cX11_init 42 = .ok (.invokespecial 28, 3) := by decide +kernel
theorem dX11_init_45 : decode cX11_init 45 = .ok (.putfield 29, 3) := by decide +kernel
theorem dX11_init_48 : decode cX11_init 48 = .ok (.aload_n 0, 1) := by decide +kernel
theorem dX11_init_49 : decode cX11_init 49 = .ok (.new 33, 3) := by decide +kernel
theorem dX11_init_52 : decode cX11_init 52 = .ok (.dup, 1) := by decide +kernel
theorem dX11_init_53 : decode cX11_init 53 = .ok (.aload_n 0, 1) := by decide +kernel
theorem dX11_init_54 : decode cX11_init 54 = .ok (.getfield 19, 3) := by decide +kernel
theorem dX11_init_57 : decode cX11_init 57 = .ok (.aload_n 0, 1) := by decide +kernel
theorem dX11_init_58 : decode cX11_init 58 = .ok (.getfield 29, 3) := by decide +kernel
theorem dX11_init_61 : decode cX11_init 61 = .ok (.invokespecial 35, 3) := by decide +kernel
theorem dX11_init_64 : decode cX11_init 64 = .ok (.putfield 38, 3) := by decide +kernel
theorem dX11_init_67 : decode cX11_init 67 = .ok (.aload_n 0, 1) := by decide +kernel
theorem dX11_init_68 : decode cX11_init 68 = .ok (.new 42, 3) := by decide +kernel
theorem dX11_init_71 : decode cX11_init 71 = .ok (.dup, 1) := by decide +kernel
theorem dX11_init_72 : decode cX11_init 72 = .ok (.invokespecial 44, 3) := by decide +kernel
theorem dX11_init_75 : decode cX11_init 75 = .ok (.putfield 45, 3) := by decide +kernel
theorem dX11_init_78 : decode cX11_init 78 = .ok (.aload_n 0, 1) := by decide +kernel
theorem dX11_init_79 : decode cX11_init 79 = .ok (.new 49, 3) := by decide +kernel
theorem dX11_init_82 : decode cX11_init 82 = .ok (.dup, 1) := by decide +kernel
theorem dX11_init_83 : decode cX11_init 83 = .ok (.invokespecial 51, 3) := by decide +kernel
theorem dX11_init_86 : decode cX11_init 86 = .ok (.putfield 52, 3) := by decide +kernel
theorem dX11_init_89 : decode cX11_init 89 = .ok (.aload_n 0, 1) := by decide +kernel
theorem dX11_init_90 : decode cX11_init 90 = .ok (.iconst 3, 1) := by decide +kernel
theorem dX11_init_91 : decode cX11_init 91 = .ok (.anewarray 56, 3) := by decide +kernel
theorem dX11_init_94 : decode cX11_init 94 = .ok (.putfield 58, 3) := by decide +kernel
theorem dX11_init_97 : decode cX11_init 97 = .ok (.aload_n 0, 1) := by decide +kernel
theorem dX11_init_98 : decode cX11_init 98 = .ok (.iconst 0, 1) := by decide +kernel
theorem dX11_init_99 : decode cX11_init 99 = .ok (.putfield 62, 3) := by decide +kernel
theorem dX11_init_102 : decode cX11_init 102 = .ok (.iconst 0, 1) := by decide +kernel
theorem dX11_init_103 : decode cX11_init 103 = .ok (.istore_n 1, 1) := by decide +kernel
theorem dX11_init_104 : decode cX11_init 104 = .ok (.iload_n 1, 1) := by decide +kernel
theorem dX11_init_105 : decode cX11_init 105 = .ok (.aload_n 0, 1) := by decide +kernel
theorem dX11_init_106 : decode cX11_init 106 = .ok (.getfield 58, 3) := by decide +kernel
theorem dX11_init_109 : decode cX11_init 109 = .ok (.arraylength, 1) := by decide +kernel
theorem dX11_init_110 : decode cX11_init 110 = .ok (.if_icmp .ge 35, 3) := by decide +kernel
theorem dX11_init_113 : decode cX11_init 113 = .ok (.aload_n 0, 1) := by decide +kernel
theorem dX11_init_114 : decode cX11_init 114 = .ok (.getfield 58, 3) := by decide +kernel
theorem dX11_init_117 : decode cX11_init 117 = .ok (.iload_n 1, 1) := by decide +kernel
theorem dX11_init_118 : decode cX11_init 118 = .ok (.new 56, 3) := by decide +kernel
theorem dX11_init_121 : decode cX11_init 121 = .ok (.dup, 1) := by decide +kernel
theorem dX11_init_122 : decode cX11_init 122 = .ok (.iload_n 1, 1) := by decide +kernel
theorem dX11_init_123 : decode cX11_init 123 = .ok (.aload_n 0, 1) := by decide +kernel
theorem dX11_init_124 : decode cX11_init 124 = .ok (.getfield 19, 3) := by decide +kernel
theorem dX11_init_127 : decode cX11_init 127 = .ok (.aload_n 0, 1) := by decide +kernel
theorem dX11_init_128 : decode cX11_init 128 = .ok (.getfield 38, 3) := by decide +kernel
theorem dX11_init_131 : decode cX11_init 131 = .ok (.aload_n 0, 1) := by decide +kernel
theorem dX11_init_132 : decode cX11_init 132 = .ok (.getfield 45, 3) := by decide +kernel
theorem dX11_init_135 : decode cX11_init 135 = .ok (.invokespecial 66, 3) := by decide +kernel
theorem dX11_init_138 : decode cX11_init 138 = .ok (.aastore, 1) := by decide +kernel
theorem dX11_init_139 : decode cX11_init 139 = .ok (.iinc 1 1, 3) := by decide +kernel
theorem dX11_init_142 : decode cX11_init 142 = .ok (.goto (-38), 3) := by decide +kernel
theorem dX11_init_145 : decode cX11_init 145 = .ok (.return_, 1) := by decide +kernel
theorem dX11_append_0 : decode cX11_append 0 = .ok (.iconst 0, 1) := by decide +kernel
theorem dX11_append_1 : decode cX11_append 1 = .ok (.istore_n 2, 1) := by decide +kernel
theorem dX11_append_2 : decode cX11_append 2 = .ok (.bipush 24, 2) := by decide +kernel
theorem dX11_append_4 : decode cX11_append 4 = .ok (.istore_n 3, 1) := by decide +kernel
theorem dX11_append_5 : decode cX11_append 5 = .ok (.iload_n 3, 1) := by decide +kernel
theorem dX11_append_6 : decode cX11_append 6 = .ok (.ifCond .lt 60, 3) := by decide +kernel
theorem dX11_append_9 : decode cX11_append 9 = .ok (.iload_n 1, 1) := by decide +kernel
theorem dX11_append_10 : decode cX11_append 10 = .ok (.iload_n 3, 1) := by decide +kernel
theorem dX11_append_11 : decode cX11_append 11 = .ok (.iushr, 1) := by decide +kernel
theorem dX11_append_12 : decode cX11_append 12 = .ok (.sipush 255, 3) := by decide +kernel
theorem dX11_append_15 : decode cX11_append 15 = .ok (.iand, 1) := by decide +kernel
theorem dX11_append_16 : decode cX11_append 16 = .ok (.istore 4, 2) := by decide +kernel
theorem dX11_append_18 : decode cX11_append 18 = .ok (.iload 4, 2) := by decide +kernel
theorem dX11_append_20 : decode cX11_append 20 = .ok (.ifCond .eq 27, 3) := by decide +kernel
theorem dX11_append_23 : decode cX11_append 23 = .ok (.iload 4, 2) := by decide +kernel
theorem dX11_append_25 : decode cX11_append 25 = .ok (.bipush 33, 2) := by decide +kernel
theorem dX11_append_27 : decode cX11_append 27 = .ok (.if_icmp .lt 10, 3) := by decide +kernel
theorem dX11_append_30 : decode cX11_append 30 = .ok (.iload 4, 2) := by decide +kernel
theorem dX11_append_32 : decode cX11_append 32 = .ok (.bipush 126, 2) := by decide +kernel
theorem dX11_append_34 : decode cX11_append 34 = .ok (.if_icmp .le 13, 3) := by decide +kernel
theorem dX11_append_37 : decode cX11_append 37 = .ok (.new 69, 3) := by decide +kernel
theorem dX11_append_40 : decode cX11_append 40 = .ok (.dup, 1) := by decide +kernel
theorem dX11_append_41 : decode cX11_append 41 = .ok (.ldc 71, 2) := by decide +kernel
theorem dX11_append_43 : decode cX11_append 43 = .ok (.invokespecial 73, 3) := by decide +kernel
theorem dX11_append_46 : decode cX11_append 46 = .ok (.athrow, 1) := by decide +kernel
theorem dX11_append_47 : decode cX11_append 47 = .ok (.iload_n 2, 1) := by decide +kernel
theorem dX11_append_48 : decode cX11_append 48 = .ok (.iload 4, 2) := by decide +kernel
theorem dX11_append_50 : decode cX11_append 50 = .ok (.ifCond .ne 7, 3) := by decide +kernel
theorem dX11_append_53 : decode cX11_append 53 = .ok (.iconst 0, 1) := by decide +kernel
theorem dX11_append_54 : decode cX11_append 54 = .ok (.goto 4, 3) := by decide +kernel
theorem dX11_append_57 : decode cX11_append 57 = .ok (.iconst 1, 1) := by decide +kernel
theorem dX11_append_58 : decode cX11_append 58 = .ok (.iadd, 1) := by decide +kernel
theorem dX11_append_59 : decode cX11_append 59 = .ok (.istore_n 2, 1) := by decide +kernel
theorem dX11_append_60 : decode cX11_append 60 = .ok (.iinc 3 (-8), 3) := by decide +kernel
theorem dX11_append_63 : decode cX11_append 63 = .ok (.goto (-58), 3) := by decide +kernel
theorem dX11_append_66 : decode cX11_append 66 = .ok (.aload_n 0, 1) := by decide +kernel
theorem dX11_append_67 : decode cX11_append 67 = .ok (.getfield 12, 3) := by decide +kernel
theorem dX11_append_70 : decode cX11_append 70 = .ok (.getfield 76, 3) := by decide +kernel
theorem dX11_append_73 : decode cX11_append 73 = .ok (.iload_n 2, 1) := by decide +kernel
theorem dX11_append_74 : decode cX11_append 74 = .ok (.iadd, 1) := by decide +kernel
theorem dX11_append_75 : decode cX11_append 75 = .ok (.bipush 120, 2) := by decide +kernel
theorem dX11_append_77 : decode cX11_append 77 = .ok (.if_icmp .le 13, 3) := by decide +kernel
theorem dX11_append_80 : decode cX11_append 80 = .ok (.new 80, 3) := by decide +kernel
theorem dX11_append_83 : decode cX11_append 83 = .ok (.dup, 1) := by decide +kernel
theorem dX11_append_84 : decode cX11_append 84 = .ok (.ldc 82, 2) := by decide +kernel
theorem dX11_append_86 : decode cX11_append 86 = .ok (.invokespecial 84, 3) := by decide +kernel
theorem dX11_append_89 : decode cX11_append 89 = .ok (.athrow, 1) := by decide +kernel
theorem dX11_append_90 : decode cX11_append 90 = .ok (.bipush 24, 2) := by decide +kernel
theorem dX11_append_92 : decode cX11_append 92 = .ok (.istore_n 3, 1) := by decide +kernel
