theorem dX12_valueOf_142 : decode cX12_valueOf 142 = .ok (.getfield 38, 3) := by decide +kernel
theorem dX12_valueOf_145 : decode cX12_valueOf 145 = .ok (.aload_n 0, 1) := by decide +kernel
theorem dX12_valueOf_146 : decode cX12_valueOf 146 = .ok (.iload_n 1, 1) := by decide +kernel
theorem dX12_valueOf_147 : decode cX12_valueOf 147 = .ok (.iload 6, 2) := by decide +kernel
theorem dX12_valueOf_149 : decode cX12_valueOf 149 = .ok (.sipush 200, 3) := by decide +kernel
theorem dX12_valueOf_152 : decode cX12_valueOf 152 = .ok (.isub, 1) := by decide +kernel
theorem dX12_valueOf_153 : decode cX12_valueOf 153 = .ok (.iload_n 3, 1) := by decide +kernel
theorem dX12_valueOf_154 : decode cX12_valueOf 154 = .ok (.invokevirtual 165, 3) := by decide +kernel
theorem dX12_valueOf_157 : decode cX12_valueOf 157 = .ok (.iaload, 1) := by decide +kernel
theorem dX12_valueOf_158 : decode cX12_valueOf 158 = .ok (.iastore, 1) := by decide +kernel
theorem dX12_valueOf_159 : decode cX12_valueOf 159 = .ok (.iinc 4 1, 3) := by decide +kernel
theorem dX12_valueOf_162 : decode cX12_valueOf 162 = .ok (.iinc 5 1, 3) := by decide +kernel
theorem dX12_valueOf_165 : decode cX12_valueOf 165 = .ok (.goto (-159), 3) := by decide +kernel
theorem dX12_valueOf_168 : decode cX12_valueOf 168 = .ok (.aload_n 0, 1) := by decide +kernel
theorem dX12_valueOf_169 : decode cX12_valueOf 169 = .ok (.getfield 35, 3) := by decide +kernel
theorem dX12_valueOf_172 : decode cX12_valueOf 172 = .ok (.iconst 0, 1) := by decide +kernel
theorem dX12_valueOf_173 : decode cX12_valueOf 173 = .ok (.iaload, 1) := by decide +kernel
theorem dX12_valueOf_174 : decode cX12_valueOf 174 = .ok (.ireturn, 1) := by decide +kernel
theorem dX12_isIteration_0 : decode cX12_isIteration 0 = .ok (.iload_n 2, 1) := by decide +kernel
theorem dX12_isIteration_1 : decode cX12_isIteration 1 = .ok (.aload_n 0, 1) := by decide +kernel
theorem dX12_isIteration_2 : decode cX12_isIteration 2 = .ok (.iload_n 1, 1) := by decide +kernel
theorem dX12_isIteration_3 : decode cX12_isIteration 3 = .ok (.iconst 0, 1) := by decide +kernel
theorem dX12_isIteration_4 : decode cX12_isIteration 4 = .ok (.invokevirtual 57, 3) := by decide +kernel
theorem dX12_isIteration_7 : decode cX12_isIteration 7 = .ok (.aload_n 0, 1) := by decide +kernel
theorem dX12_isIteration_8 : decode cX12_isIteration 8 = .ok (.iload_n 1, 1) := by decide +kernel
theorem dX12_isIteration_9 : decode cX12_isIteration 9 = .ok (.iconst 1, 1) := by decide +kernel
theorem dX12_isIteration_10 : decode cX12_isIteration 10 = .ok (.invokevirtual 57, 3) := by decide +kernel
theorem dX12_isIteration_13 : decode cX12_isIteration 13 = .ok (.invokestatic 53, 3) := by decide +kernel
theorem dX12_isIteration_16 : decode cX12_isIteration 16 = .ok (.ireturn, 1) := by decide +kernel
theorem dX12_value_0 : decode cX12_value 0 = .ok (.aload_n 0, 1) := by decide +kernel
theorem dX12_value_1 : decode cX12_value 1 = .ok (.iconst 0, 1) := by decide +kernel
theorem dX12_value_2 : decode cX12_value 2 = .ok (.putfield 50, 3) := by decide +kernel
theorem dX12_value_5 : decode cX12_value 5 = .ok (.aload_n 0, 1) := by decide +kernel
theorem dX12_value_6 : decode cX12_value 6 = .ok (.iload_n 1, 1) := by decide +kernel
theorem dX12_value_7 : decode cX12_value 7 = .ok (.iload_n 2, 1) := by decide +kernel
theorem dX12_value_8 : decode cX12_value 8 = .ok (.invokevirtual 143, 3) := by decide +kernel
theorem dX12_value_11 : decode cX12_value 11 = .ok (.ifCond .ne 9, 3) := by decide +kernel
theorem dX12_value_14 : decode cX12_value 14 = .ok (.aload_n 0, 1) := by decide +kernel
theorem dX12_value_15 : decode cX12_value 15 = .ok (.iconst 1, 1) := by decide +kernel
theorem dX12_value_16 : decode cX12_value 16 = .ok (.invokevirtual 61, 3) := by decide +kernel
theorem dX12_value_19 : decode cX12_value 19 = .ok (.ireturn, 1) := by decide +kernel
theorem dX12_value_20 : decode cX12_value 20 = .ok (.aload_n 0, 1) := by decide +kernel
theorem dX12_value_21 : decode cX12_value 21 = .ok (.iload_n 1, 1) := by decide +kernel
theorem dX12_value_22 : decode cX12_value 22 = .ok (.iload_n 3, 1) := by decide +kernel
theorem dX12_value_23 : decode cX12_value 23 = .ok (.invokevirtual 168, 3) := by decide +kernel
theorem dX12_value_26 : decode cX12_value 26 = .ok (.ifCond .ne 9, 3) := by decide +kernel
theorem dX12_value_29 : decode cX12_value 29 = .ok (.aload_n 0, 1) := by decide +kernel
theorem dX12_value_30 : decode cX12_value 30 = .ok (.iconst 2, 1) := by decide +kernel
theorem dX12_value_31 : decode cX12_value 31 = .ok (.invokevirtual 61, 3) := by decide +kernel
theorem dX12_value_34 : decode cX12_value 34 = .ok (.ireturn, 1) := by decide +kernel
theorem dX12_value_35 : decode cX12_value 35 = .ok (.aload_n 0, 1) := by decide +kernel
theorem dX12_value_36 : decode cX12_value 36 = .ok (.invokevirtual 171, 3) := by decide +kernel
theorem dX12_value_39 : decode cX12_value 39 = .ok (.aload_n 0, 1) := by decide +kernel
theorem dX12_value_40 : decode cX12_value 40 = .ok (.iload_n 1, 1) := by decide +kernel
theorem dX12_value_41 : decode cX12_value 41 = .ok (.iload_n 2, 1) := by decide +kernel
theorem dX12_value_42 : decode cX12_value 42 = .ok (.iload_n 3, 1) := by decide +kernel
theorem dX12_value_43 : decode cX12_value 43 = .ok (.invokevirtual 174, 3) := by decide +kernel
theorem dX12_value_46 : decode cX12_value 46 = .ok (.ireturn, 1) := by decide +kernel
theorem dX12_setOption_0 : decode cX12_setOption 0 = .ok (.aload_n 0, 1) := by decide +kernel
theorem dX12_setOption_1 : decode cX12_setOption 1 = .ok (.iconst 0, 1) := by decide +kernel
theorem dX12_setOption_2 : decode cX12_setOption 2 = .ok (.putfield 50, 3) := by decide +kernel
theorem dX12_setOption_5 : decode cX12_setOption 5 = .ok (.iload_n 1, 1) := by decide +kernel
theorem dX12_setOption_6 : decode cX12_setOption 6 = .ok (.iconst 0, 1) := by decide +kernel
theorem dX12_setOption_7 : decode cX12_setOption 7 = .ok (.iconst 2, 1) := by decide +kernel
theorem dX12_setOption_8 : decode cX12_setOption 8 = .ok (.invokestatic 53, 3) := by decide +kernel
theorem dX12_setOption_11 : decode cX12_setOption 11 = .ok (.ifCond .ne 9, 3) := by decide +kernel
theorem dX12_setOption_14 : decode cX12_setOption 14 = .ok (.aload_n 0, 1) := by decide +kernel
theorem dX12_setOption_15 : decode cX12_setOption 15 = .ok (.iconst 1, 1) := by decide +kernel
theorem dX12_setOption_16 : decode cX12_setOption 16 = .ok (.invokevirtual 61, 3) := by decide +kernel
theorem dX12_setOption_19 : decode cX12_setOption 19 = .ok (.ireturn, 1) := by decide +kernel
theorem dX12_setOption_20 : decode cX12_setOption 20 = .ok (.iload_n 1, 1) := by decide +kernel
theorem dX12_setOption_21 : decode cX12_setOption 21 = .ok (.iconst 2, 1) := by decide +kernel
theorem dX12_setOption_22 : decode cX12_setOption 22 = .ok (.if_icmp .ge 28, 3) := by decide +kernel
theorem dX12_setOption_25 : decode cX12_setOption 25 = .ok (.iload_n 2, 1) := by decide +kernel
theorem dX12_setOption_26 : decode cX12_setOption 26 = .ok (.iconst 0, 1) := by decide +kernel
theorem dX12_setOption_27 : decode cX12_setOption 27 = .ok (.iload_n 1, 1) := by decide +kernel
theorem dX12_setOption_28 : decode cX12_setOption 28 = .ok (.ifCond .ne 8, 3) := by decide +kernel
theorem dX12_setOption_31 : decode cX12_setOption 31 = .ok (.bipush 20, 2) := by decide +kernel
theorem dX12_setOption_33 : decode cX12_setOption 33 = .ok (.goto 5, 3) := by decide +kernel
theorem dX12_setOption_36 : decode cX12_setOption 36 = .ok (.bipush 9, 2) := by decide +kernel
theorem dX12_setOption_38 : decode cX12_setOption 38 = .ok (.invokestatic 53, 3) := by decide +kernel
theorem dX12_setOption_41 : decode cX12_setOption 41 = .ok (.ifCond .ne 9, 3) := by decide +kernel
theorem dX12_setOption_44 : decode cX12_setOption 44 = .ok (.aload_n 0, 1) := by decide +kernel
theorem dX12_setOption_45 : decode cX12_setOption 45 = .ok (.iconst 2, 1) := by decide +kernel
theorem dX12_setOption_46 : decode cX12_setOption 46 = .ok (.invokevirtual 61, 3) := by decide +kernel
theorem dX12_setOption_49 : decode cX12_setOption 49 = .ok (.ireturn, 1) := by decide +kernel
theorem dX12_setOption_50 : decode cX12_setOption 50 = .ok (.aload_n 0, 1) := by decide +kernel
theorem dX12_setOption_51 : decode cX12_setOption 51 = .ok (.getfield 13, 3) := by decide +kernel
theorem dX12_setOption_54 : decode cX12_setOption 54 = .ok (.iload_n 1, 1) := by decide +kernel
theorem dX12_setOption_55 : decode cX12_setOption 55 = .ok (.iaload, 1) := by decide +kernel
theorem dX12_setOption_56 : decode cX12_setOption 56 = .ok (.istore_n 3, 1) := by decide +kernel
theorem dX12_setOption_57 : decode cX12_setOption 57 = .ok (.aload_n 0, 1) := by decide +kernel
theorem dX12_setOption_58 : decode cX12_setOption 58 = .ok (.getfield 13, 3) := by decide +kernel
theorem dX12_setOption_61 : decode cX12_setOption 61 = .ok (.iload_n 1, 1) := by decide +kernel
theorem dX12_setOption_62 : decode cX12_setOption 62 = .ok (.iload_n 2, 1) := by decide +kernel
theorem dX12_setOption_63 : decode cX12_setOption 63 = .ok (.iastore, 1) := by decide +kernel
theorem dX12_setOption_64 : decode cX12_setOption 64 = .ok (.iload_n 3, 1) := by decide +kernel
theorem dX12_setOption_65 : decode cX12_setOption 65 = .ok (.ireturn, 1) := by decide +kernel
theorem dX12_setBarrier_0 : decode cX12_setBarrier 0 = .ok (.aload_n 0, 1) := by decide +kernel
theorem dX12_setBarrier_1 : decode cX12_setBarrier 1 = .ok (.iconst 0, 1) := by decide +kernel
theorem dX12_setBarrier_2 : decode cX12_setBarrier 2 = .ok (.putfield 50, 3) := by decide +kernel
theorem dX12_setBarrier_5 : decode cX12_setBarrier 5 = .ok (.aload_n 0, 1) := by decide +kernel
theorem dX12_setBarrier_6 : decode cX12_setBarrier 6 = .ok (.iload_n 1, 1) := by decide +kernel
theorem dX12_setBarrier_7 : decode cX12_setBarrier 7 = .ok (.invokevirtual 139, 3) := by decide +kernel
theorem dX12_setBarrier_10 : decode cX12_setBarrier 10 = .ok (.ifCond .ne 17, 3) := by decide +kernel
theorem dX12_setBarrier_13 : decode cX12_setBarrier 13 = .ok (.aload_n 0, 1) := by decide +kernel
theorem dX12_setBarrier_14 : decode cX12_setBarrier 14 = .ok (.iconst 1, 1) := by decide +kernel
theorem dX12_setBarrier_15 : decode cX12_setBarrier 15 = .ok (.invokevirtual 61, 3) := by decide +kernel
theorem dX12_setBarrier_18 : decode cX12_setBarrier 18 = .ok (.ifCond .eq 7, 3) := by decide +kernel
theorem dX12_setBarrier_21 : decode cX12_setBarrier 21 = .ok (.iconst 1, 1) := by decide +kernel
theorem dX12_setBarrier_22 : decode cX12_setBarrier 22 = .ok (.goto 4, 3) := by decide +kernel
theorem dX12_setBarrier_25 : decode cX12_setBarrier 25 = .ok (.iconst 0, 1) := by decide +kernel
theorem dX12_setBarrier_26 : decode cX12_setBarrier 26 = .ok (.ireturn, 1) := by decide +kernel
theorem dX12_setBarrier_27 : decode cX12_setBarrier 27 = .ok (.aload_n 0, 1) := by decide +kernel
theorem dX12_setBarrier_28 : decode cX12_setBarrier 28 = .ok (.iload_n 1, 1) := by decide +kernel
theorem dX12_setBarrier_29 : decode cX12_setBarrier 29 = .ok (.iconst 2, 1) := by decide +kernel
theorem dX12_setBarrier_30 : decode cX12_setBarrier 30 = .ok (.invokevirtual 57, 3) := by decide +kernel
theorem dX12_setBarrier_33 : decode cX12_setBarrier 33 = .ok (.iconst 1, 1) := by decide +kernel
theorem dX12_setBarrier_34 : decode cX12_setBarrier 34 = .ok (.if_icmp .ne 7, 3) := by decide +kernel
theorem dX12_setBarrier_37 : decode cX12_setBarrier 37 = .ok (.iconst 1, 1) := by decide +kernel
theorem dX12_setBarrier_38 : decode cX12_setBarrier 38 = .ok (.goto 4, 3) := by decide +kernel
theorem dX12_setBarrier_41 : decode cX12_setBarrier 41 = .ok (.iconst 0, 1) := by decide +kernel
theorem dX12_setBarrier_42 : decode cX12_setBarrier 42 = .ok (.istore_n 3, 1) := by decide +kernel
theorem dX12_setBarrier_43 : decode cX12_setBarrier 43 = .ok (.aload_n 0, 1) := by decide +kernel
theorem dX12_setBarrier_44 : decode cX12_setBarrier 44 = .ok (.getfield 9, 3) := by decide +kernel
theorem dX12_setBarrier_47 : decode cX12_setBarrier 47 = .ok (.sipush 585, 3) := by decide +kernel
theorem dX12_setBarrier_50 : decode cX12_setBarrier 50 = .ok (.iload_n 1, 1) := by decide +kernel
theorem dX12_setBarrier_51 : decode cX12_setBarrier 51 = .ok (.imul, 1) := by decide +kernel
theorem dX12_setBarrier_52 : decode cX12_setBarrier 52 = .ok (.iconst 2, 1) := by decide +kernel
theorem dX12_setBarrier_53 : decode cX12_setBarrier 53 = .ok (.iadd, 1) := by decide +kernel
theorem dX12_setBarrier_54 : decode cX12_setBarrier 54 = .ok (.iload_n 2, 1) := by decide +kernel
theorem dX12_setBarrier_55 : decode cX12_setBarrier 55 = .ok (.ifCond .eq 7, 3) := by decide +kernel
theorem dX12_setBarrier_58 : decode cX12_setBarrier 58 = .ok (.iconst 1, 1) := by decide +kernel
theorem dX12_setBarrier_59 : decode cX12_setBarrier 59 = .ok (.goto 4, 3) := by decide +kernel
theorem dX12_setBarrier_62 : decode cX12_setBarrier 62 = .ok (.iconst 0, 1) := by decide +kernel
theorem dX12_setBarrier_63 : decode cX12_setBarrier 63 = .ok (.iastore, 1) := by decide +kernel
theorem dX12_setBarrier_64 : decode cX12_setBarrier 64 = .ok (.iload_n 3, 1) := by decide +kernel
theorem dX12_setBarrier_65 : decode cX12_setBarrier 65 = .ok (.ireturn, 1) := by decide +kernel
theorem dX12_isDependence_0 : decode cX12_isDependence 0 = .ok (.aload_n 0, 1) := by decide +kernel
theorem dX12_isDependence_1 : decode cX12_isDependence 1 = .ok (.iload_n 1, 1) := by decide +kernel
theorem dX12_isDependence_2 : decode cX12_isDependence 2 = .ok (.iload_n 2, 1) := by decide +kernel
theorem dX12_isDependence_3 : decode cX12_isDependence 3 = .ok (.invokevirtual 159, 3) := by decide +kernel
theorem dX12_isDependence_6 : decode cX12_isDependence 6 = .ok (.aload_n 0, 1) := by decide +kernel
theorem dX12_isDependence_7 : decode cX12_isDependence 7 = .ok (.iload_n 3, 1) := by decide +kernel
theorem dX12_isDependence_8 : decode cX12_isDependence 8 = .ok (.iload 4, 2) := by decide +kernel
theorem dX12_isDependence_10 : decode cX12_isDependence 10 = .ok (.invokevirtual 159, 3) := by decide +kernel
theorem dX12_isDependence_13 : decode cX12_isDependence 13 = .ok (.if_icmp .ne 26, 3) := by decide +kernel
theorem dX12_isDependence_16 : decode cX12_isDependence 16 = .ok (.aload_n 0, 1) := by decide +kernel
theorem dX12_isDependence_17 : decode cX12_isDependence 17 = .ok (.iload_n 1, 1) := by decide +kernel
theorem dX12_isDependence_18 : decode cX12_isDependence 18 = .ok (.iload_n 2, 1) := by decide +kernel
theorem dX12_isDependence_19 : decode cX12_isDependence 19 = .ok (.invokevirtual 177, 3) := by decide +kernel
theorem dX12_isDependence_22 : decode cX12_isDependence 22 = .ok (.ifCond .ne 13, 3) := by decide +kernel
theorem dX12_isDependence_25 : decode cX12_isDependence 25 = .ok (.aload_n 0, 1) := by decide +kernel
theorem dX12_isDependence_26 : decode cX12_isDependence 26 = .ok (.iload_n 3, 1) := by decide +kernel
theorem dX12_isDependence_27 : decode cX12_isDependence 27 = .ok (.iload 4, 2) := by decide +kernel
theorem dX12_isDependence_29 : decode cX12_isDependence 29 = .ok (.invokevirtual 177, 3) := by decide +kernel
theorem dX12_isDependence_32 : decode cX12_isDependence 32 = .ok (.ifCond .eq 7, 3) := by decide +kernel
theorem dX12_isDependence_35 : decode cX12_isDependence 35 = .ok (.iconst 1, 1) := by decide +kernel
theorem dX12_isDependence_36 : decode cX12_isDependence 36 = .ok (.goto 4, 3) := by decide +kernel
theorem dX12_isDependence_39 : decode cX12_isDependence 39 = .ok (.iconst 0, 1) := by decide +kernel
theorem dX12_isDependence_40 : decode cX12_isDependence 40 = .ok (.istore 5, 2) := by decide +kernel
theorem dX12_isDependence_42 : decode cX12_isDependence 42 = .ok (.aload_n 0, 1) := by decide +kernel
theorem dX12_isDependence_43 : decode cX12_isDependence 43 = .ok (.iload_n 1, 1) := by decide +kernel
theorem dX12_isDependence_44 : decode cX12_isDependence 44 = .ok (.iload_n 2, 1) := by decide +kernel
theorem dX12_isDependence_45 : decode cX12_isDependence 45 = .ok (.invokevirtual 162, 3) := by decide +kernel
theorem dX12_isDependence_48 : decode cX12_isDependence 48 = .ok (.aload_n 0, 1) := by decide +kernel
theorem dX12_isDependence_49 : decode cX12_isDependence 49 = .ok (.iload_n 3, 1) := by decide +kernel
theorem dX12_isDependence_50 : decode cX12_isDependence 50 = .ok (.iload 4, 2) := by decide +kernel
theorem dX12_isDependence_52 : decode cX12_isDependence 52 = .ok (.invokevirtual 162, 3) := by decide +kernel
theorem dX12_isDependence_55 : decode cX12_isDependence 55 = .ok (.isub, 1) := by decide +kernel
theorem dX12_isDependence_56 : decode cX12_isDependence 56 = .ok (.istore 6, 2) := by decide +kernel
theorem dX12_isDependence_58 : decode cX12_isDependence 58 = .ok (.iload 5, 2) := by decide +kernel
theorem dX12_isDependence_60 : decode cX12_isDependence 60 = .ok (.ifCond .eq 43, 3) := by decide +kernel
theorem dX12_isDependence_63 : decode cX12_isDependence 63 = .ok (.aload_n 0, 1) := by decide +kernel
theorem dX12_isDependence_64 : decode cX12_isDependence 64 = .ok (.iload_n 1, 1) := by decide +kernel
theorem dX12_isDependence_65 : decode cX12_isDependence 65 = .ok (.iconst 0, 1) := by decide +kernel
theorem dX12_isDependence_66 : decode cX12_isDependence 66 = .ok (.invokevirtual 57, 3) := by decide +kernel
theorem dX12_isDependence_69 : decode cX12_isDependence 69 = .ok (.iload 6, 2) := by decide +kernel
theorem dX12_isDependence_71 : decode cX12_isDependence 71 = .ok (.iadd, 1) := by decide +kernel
theorem dX12_isDependence_72 : decode cX12_isDependence 72 = .ok (.aload_n 0, 1) := by decide +kernel
theorem dX12_isDependence_73 : decode cX12_isDependence 73 = .ok (.iload_n 3, 1) := by decide +kernel
theorem dX12_isDependence_74 : decode cX12_isDependence 74 = .ok (.iconst 1, 1) := by decide +kernel
theorem dX12_isDependence_75 : decode cX12_isDependence 75 = .ok (.invokevirtual 57, 3) := by decide +kernel
theorem dX12_isDependence_78 : decode cX12_isDependence 78 = .ok (.if_icmp .gt 25, 3) := by decide +kernel
theorem dX12_isDependence_81 : decode cX12_isDependence 81 = .ok (.aload_n 0, 1) := by decide +kernel
theorem dX12_isDependence_82 : decode cX12_isDependence 82 = .ok (.iload_n 3, 1) := by decide +kernel
theorem dX12_isDependence_83 : decode cX12_isDependence 83 = .ok (.iconst 0, 1) := by decide +kernel
theorem dX12_isDependence_84 : decode cX12_isDependence 84 = .ok (.invokevirtual 57, 3) := by decide +kernel
theorem dX12_isDependence_87 : decode cX12_isDependence 87 = .ok (.aload_n 0, 1) := by decide +kernel
theorem dX12_isDependence_88 : decode cX12_isDependence 88 = .ok (.iload_n 1, 1) := by decide +kernel
theorem dX12_isDependence_89 : decode cX12_isDependence 89 = .ok (.iconst 1, 1) := by decide +kernel
theorem dX12_isDependence_90 : decode cX12_isDependence 90 = .ok (.invokevirtual 57, 3) := by decide +kernel
theorem dX12_isDependence_93 : decode cX12_isDependence 93 = .ok (.iload 6, 2) := by decide +kernel
theorem dX12_isDependence_95 : decode cX12_isDependence 95 = .ok (.iadd, 1) := by decide +kernel
theorem dX12_isDependence_96 : decode cX12_isDependence 96 = .ok (.if_icmp .gt 7, 3) := by decide +kernel
theorem dX12_isDependence_99 : decode cX12_isDependence 99 = .ok (.iconst 1, 1) := by decide +kernel
theorem dX12_isDependence_100 : decode cX12_isDependence 100 = .ok (.goto 4, 3) := by decide +kernel
theorem dX12_isDependence_103 : decode cX12_isDependence 103 = .ok (.iconst 0, 1) := by decide +kernel
theorem dX12_isDependence_104 : decode cX12_isDependence 104 = .ok (.ireturn, 1) := by decide +kernel
theorem dX12_dependences_0 : decode cX12_dependences 0 = .ok (.iconst 0, 1) := by decide +kernel
theorem dX12_dependences_1 : decode cX12_dependences 1 = .ok (.istore 4, 2) := by decide +kernel
theorem dX12_dependences_3 : decode cX12_dependences 3 = .ok (.aload_n 0, 1) := by decide +kernel
theorem dX12_dependences_4 : decode cX12_dependences 4 = .ok (.bipush (-100), 2) := by decide +kernel
theorem dX12_dependences_6 : decode cX12_dependences 6 = .ok (.putfield 180, 3) := by decide +kernel
theorem dX12_dependences_9 : decode cX12_dependences 9 = .ok (.iconst 0, 1) := by decide +kernel
theorem dX12_dependences_10 : decode cX12_dependences 10 = .ok (.istore 5, 2) := by decide +kernel
theorem dX12_dependences_12 : decode cX12_dependences 12 = .ok (.iload 5, 2) := by decide +kernel
theorem dX12_dependences_14 : decode cX12_dependences 14 = .ok (.aload_n 0, 1) := by decide +kernel
theorem dX12_dependences_15 : decode cX12_dependences 15 = .ok (.iload_n 1, 1) := by decide +kernel
theorem dX12_dependences_16 : decode cX12_dependences 16 = .ok (.iconst 4, 1) := by decide +kernel
theorem dX12_dependences_17 : decode cX12_dependences 17 = .ok (.invokevirtual 57, 3) := by decide +kernel
theorem dX12_dependences_20 : decode cX12_dependences 20 = .ok (.if_icmp .ge 109, 3) := by decide +kernel
theorem dX12_dependences_23 : decode cX12_dependences 23 = .ok (.iconst 0, 1) := by decide +kernel
theorem dX12_dependences_24 : decode cX12_dependences 24 = .ok (.istore 6, 2) := by decide +kernel
theorem dX12_dependences_26 : decode cX12_dependences 26 = .ok (.iload 6, 2) := by decide +kernel
theorem dX12_dependences_28 : decode cX12_dependences 28 = .ok (.aload_n 0, 1) := by decide +kernel
theorem dX12_dependences_29 : decode cX12_dependences 29 = .ok (.iload_n 2, 1) := by decide +kernel
theorem dX12_dependences_30 : decode cX12_dependences 30 = .ok (.iconst 4, 1) := by decide +kernel
theorem dX12_dependences_31 : decode cX12_dependences 31 = .ok (.invokevirtual 57, 3) := by decide +kernel
theorem dX12_dependences_34 : decode cX12_dependences 34 = .ok (.if_icmp .ge 89, 3) := by decide +kernel
theorem dX12_dependences_37 : decode cX12_dependences 37 = .ok (.aload_n 0, 1) := by decide +kernel
theorem dX12_dependences_38 : decode cX12_dependences 38 = .ok (.iload_n 1, 1) := by decide +kernel
theorem dX12_dependences_39 : decode cX12_dependences 39 = .ok (.iload 5, 2) := by decide +kernel
theorem dX12_dependences_41 : decode cX12_dependences 41 = .ok (.iload_n 2, 1) := by decide +kernel
theorem dX12_dependences_42 : decode cX12_dependences 42 = .ok (.iload 6, 2) := by decide +kernel
theorem dX12_dependences_44 : decode cX12_dependences 44 = .ok (.invokevirtual 183, 3) := by decide +kernel
theorem dX12_dependences_47 : decode cX12_dependences 47 = .ok (.ifCond .eq 70, 3) := by decide +kernel
theorem dX12_dependences_50 : decode cX12_dependences 50 = .ok (.aload_n 0, 1) := by decide +kernel
theorem dX12_dependences_51 : decode cX12_dependences 51 = .ok (.iload 4, 2) := by decide +kernel
theorem dX12_dependences_53 : decode cX12_dependences 53 = .ok (.iload_n 3, 1) := by decide +kernel
theorem dX12_dependences_54 : decode cX12_dependences 54 = .ok (.if_icmp .ne 8, 3) := by decide +kernel
theorem dX12_dependences_57 : decode cX12_dependences 57 = .ok (.iload 5, 2) := by decide +kernel
theorem dX12_dependences_59 : decode cX12_dependences 59 = .ok (.goto 7, 3) := by decide +kernel
theorem dX12_dependences_62 : decode cX12_dependences 62 = .ok (.aload_n 0, 1) := by decide +kernel
theorem dX12_dependences_63 : decode cX12_dependences 63 = .ok (.getfield 187, 3) := by decide +kernel
theorem dX12_dependences_66 : decode cX12_dependences 66 = .ok (.putfield 187, 3) := by decide +kernel
theorem dX12_dependences_69 : decode cX12_dependences 69 = .ok (.aload_n 0, 1) := by decide +kernel
theorem dX12_dependences_70 : decode cX12_dependences 70 = .ok (.iload 4, 2) := by decide +kernel
theorem dX12_dependences_72 : decode cX12_dependences 72 = .ok (.iload_n 3, 1) := by decide +kernel
theorem dX12_dependences_73 : decode cX12_dependences 73 = .ok (.if_icmp .ne 8, 3) := by decide +kernel
theorem dX12_dependences_76 : decode cX12_dependences 76 = .ok (.iload 6, 2) := by decide +kernel
theorem dX12_dependences_78 : decode cX12_dependences 78 = .ok (.goto 7, 3) := by decide +kernel
theorem dX12_dependences_81 : decode cX12_dependences 81 = .ok (.aload_n 0, 1) := by decide +kernel
theorem dX12_dependences_82 : decode cX12_dependences 82 = .ok (.getfield 190, 3) := by decide +kernel
theorem dX12_dependences_85 : decode cX12_dependences 85 = .ok (.putfield 190, 3) := by decide +kernel
theorem dX12_dependences_88 : decode cX12_dependences 88 = .ok (.aload_n 0, 1) := by decide +kernel
theorem dX12_dependences_89 : decode cX12_dependences 89 = .ok (.aload_n 0, 1) := by decide +kernel
theorem dX12_dependences_90 : decode cX12_dependences 90 = .ok (.getfield 180, 3) := by decide +kernel
theorem dX12_dependences_93 : decode cX12_dependences 93 = .ok (.aload_n 0, 1) := by decide +kernel
theorem dX12_dependences_94 : decode cX12_dependences 94 = .ok (.iload_n 2, 1) := by decide +kernel
theorem dX12_dependences_95 : decode cX12_dependences 95 = .ok (.iload 6, 2) := by decide +kernel
theorem dX12_dependences_97 : decode cX12_dependences 97 = .ok (.invokevirtual 162, 3) := by decide +kernel
theorem dX12_dependences_100 : decode cX12_dependences 100 = .ok (.aload_n 0, 1) := by decide +kernel
theorem dX12_dependences_101 : decode cX12_dependences 101 = .ok (.iload_n 1, 1) := by decide +kernel
theorem dX12_dependences_102 : decode cX12_dependences 102 = .ok (.iload 5, 2) := by decide +kernel
theorem dX12_dependences_104 : decode cX12_dependences 104 = .ok (.invokevirtual 162, 3) := by decide +kernel
theorem dX12_dependences_107 : decode cX12_dependences 107 = .ok (.isub, 1) := by decide +kernel
theorem dX12_dependences_108 : decode cX12_dependences 108 = .ok (.invokestatic 151, 3) := by decide +kernel
theorem dX12_dependences_111 : decode cX12_dependences 111 = .ok (.putfield 180, 3) := by decide +kernel
theorem dX12_dependences_114 : decode cX12_dependences 114 = .ok (.iinc 4 1, 3) := by decide +kernel
theorem dX12_dependences_117 : decode cX12_dependences 117 = .ok (.iinc 6 1, 3) := by decide +kernel
theorem dX12_dependences_120 : decode cX12_dependences 120 = .ok (.goto (-94), 3) := by decide +kernel
theorem dX12_dependences_123 : decode cX12_dependences 123 = .ok (.iinc 5 1, 3) := by decide +kernel
theorem dX12_dependences_126 : decode cX12_dependences 126 = .ok (.goto (-114), 3) := by decide +kernel
theorem dX12_dependences_129 : decode cX12_dependences 129 = .ok (.iload 4, 2) := by decide +kernel
theorem dX12_dependences_131 : decode cX12_dependences 131 = .ok (.ireturn, 1) := by decide +kernel
theorem dX12_wrong_0 : decode cX12_wrong 0 = .ok (.aload_n 0, 1) := by decide +kernel
theorem dX12_wrong_1 : decode cX12_wrong 1 = .ok (.iload_n 1, 1) := by decide +kernel
theorem dX12_wrong_2 : decode cX12_wrong 2 = .ok (.invokevirtual 139, 3) := by decide +kernel
theorem dX12_wrong_5 : decode cX12_wrong 5 = .ok (.ifCond .eq 11, 3) := by decide +kernel
theorem dX12_wrong_8 : decode cX12_wrong 8 = .ok (.aload_n 0, 1) := by decide +kernel
theorem dX12_wrong_9 : decode cX12_wrong 9 = .ok (.iload_n 2, 1) := by decide +kernel
theorem dX12_wrong_10 : decode cX12_wrong 10 = .ok (.invokevirtual 139, 3) := by decide +kernel
theorem dX12_wrong_13 : decode cX12_wrong 13 = .ok (.ifCond .ne 7, 3) := by decide +kernel
theorem dX12_wrong_16 : decode cX12_wrong 16 = .ok (.iconst 1, 1) := by decide +kernel
theorem dX12_wrong_17 : decode cX12_wrong 17 = .ok (.goto 13, 3) := by decide +kernel
theorem dX12_wrong_20 : decode cX12_wrong 20 = .ok (.iload_n 1, 1) := by decide +kernel
theorem dX12_wrong_21 : decode cX12_wrong 21 = .ok (.iload_n 2, 1) := by decide +kernel
theorem dX12_wrong_22 : decode cX12_wrong 22 = .ok (.if_icmp .lt 7, 3) := by decide +kernel
theorem dX12_wrong_25 : decode cX12_wrong 25 = .ok (.iconst 2, 1) := by decide +kernel
theorem dX12_wrong_26 : decode cX12_wrong 26 = .ok (.goto 4, 3) := by decide +kernel
theorem dX12_wrong_29 : decode cX12_wrong 29 = .ok (.iconst 0, 1) := by decide +kernel
theorem dX12_wrong_30 : decode cX12_wrong 30 = .ok (.ireturn, 1) := by decide +kernel
theorem dX12_dependenceCount_0 : decode cX12_dependenceCount 0 = .ok (.aload_n 0, 1) := by decide +kernel
theorem dX12_dependenceCount_1 : decode cX12_dependenceCount 1 = .ok (.aload_n 0, 1) := by decide +kernel
theorem dX12_dependenceCount_2 : decode cX12_dependenceCount 2 = .ok (.iload_n 1, 1) := by decide +kernel
theorem dX12_dependenceCount_3 : decode cX12_dependenceCount 3 = .ok (.iload_n 2, 1) := by decide +kernel
theorem dX12_dependenceCount_4 : decode cX12_dependenceCount 4 = .ok (.invokevirtual 193, 3) := by decide +kernel
theorem dX12_dependenceCount_7 : decode cX12_dependenceCount 7 = .ok (.putfield 50, 3) := by decide +kernel
theorem dX12_dependenceCount_10 : decode cX12_dependenceCount 10 = .ok (.aload_n 0, 1) := by decide +kernel
theorem dX12_dependenceCount_11 : decode cX12_dependenceCount 11 = .ok (.getfield 50, 3) := by decide +kernel
theorem dX12_dependenceCount_14 : decode cX12_dependenceCount 14 = .ok (.ifCond .le 7, 3) := by decide +kernel
theorem dX12_dependenceCount_17 : decode cX12_dependenceCount 17 = .ok (.iconst 0, 1) := by decide +kernel
theorem dX12_dependenceCount_18 : decode cX12_dependenceCount 18 = .ok (.goto 10, 3) := by decide +kernel
theorem dX12_dependenceCount_21 : decode cX12_dependenceCount 21 = .ok (.aload_n 0, 1) := by decide +kernel
theorem dX12_dependenceCount_22 : decode cX12_dependenceCount 22 = .ok (.iload_n 1, 1) := by decide +kernel
theorem dX12_dependenceCount_23 : decode cX12_dependenceCount 23 = .ok (.iload_n 2, 1) := by decide +kernel
theorem dX12_dependenceCount_24 : decode cX12_dependenceCount 24 = .ok (.iconst (-1), 1) := by decide +kernel
theorem dX12_dependenceCount_25 : decode cX12_dependenceCount 25 = .ok (.invokevirtual 196, 3) := by decide +kernel
theorem dX12_dependenceCount_28 : decode cX12_dependenceCount 28 = .ok (.ireturn, 1) := by decide +kernel
theorem dX12_dependence_0 : decode cX12_dependence 0 = .ok (.aload_n 0, 1) := by decide +kernel
theorem dX12_dependence_1 : decode cX12_dependence 1 = .ok (.aload_n 0, 1) := by decide +kernel
theorem dX12_dependence_2 : decode cX12_dependence 2 = .ok (.iload_n 1, 1) := by decide +kernel
theorem dX12_dependence_3 : decode cX12_dependence 3 = .ok (.invokevirtual 139, 3) := by decide +kernel
theorem dX12_dependence_6 : decode cX12_dependence 6 = .ok (.ifCond .eq 21, 3) := by decide +kernel
theorem dX12_dependence_9 : decode cX12_dependence 9 = .ok (.aload_n 0, 1) := by decide +kernel
theorem dX12_dependence_10 : decode cX12_dependence 10 = .ok (.iload_n 2, 1) := by decide +kernel
theorem dX12_dependence_11 : decode cX12_dependence 11 = .ok (.invokevirtual 139, 3) := by decide +kernel
theorem dX12_dependence_14 : decode cX12_dependence 14 = .ok (.ifCond .eq 13, 3) := by decide +kernel
theorem dX12_dependence_17 : decode cX12_dependence 17 = .ok (.iload 4, 2) := by decide +kernel
theorem dX12_dependence_19 : decode cX12_dependence 19 = .ok (.iconst 0, 1) := by decide +kernel
theorem dX12_dependence_20 : decode cX12_dependence 20 = .ok (.iconst 2, 1) := by decide +kernel
theorem dX12_dependence_21 : decode cX12_dependence 21 = .ok (.invokestatic 53, 3) := by decide +kernel
theorem dX12_dependence_24 : decode cX12_dependence 24 = .ok (.ifCond .ne 7, 3) := by decide +kernel
theorem dX12_dependence_27 : decode cX12_dependence 27 = .ok (.iconst 1, 1) := by decide +kernel
theorem dX12_dependence_28 : decode cX12_dependence 28 = .ok (.goto 9, 3) := by decide +kernel
theorem dX12_dependence_31 : decode cX12_dependence 31 = .ok (.aload_n 0, 1) := by decide +kernel
theorem dX12_dependence_32 : decode cX12_dependence 32 = .ok (.iload_n 1, 1) := by decide +kernel
theorem dX12_dependence_33 : decode cX12_dependence 33 = .ok (.iload_n 2, 1) := by decide +kernel
theorem dX12_dependence_34 : decode cX12_dependence 34 = .ok (.invokevirtual 193, 3) := by decide +kernel
theorem dX12_dependence_37 : decode cX12_dependence 37 = .ok (.putfield 50, 3) := by decide +kernel
theorem dX12_dependence_40 : decode cX12_dependence 40 = .ok (.aload_n 0, 1) := by decide +kernel
theorem dX12_dependence_41 : decode cX12_dependence 41 = .ok (.getfield 50, 3) := by decide +kernel
theorem dX12_dependence_44 : decode cX12_dependence 44 = .ok (.ifCond .le 5, 3) := by decide +kernel
theorem dX12_dependence_47 : decode cX12_dependence 47 = .ok (.iconst 0, 1) := by decide +kernel
theorem dX12_dependence_48 : decode cX12_dependence 48 = .ok (.ireturn, 1) := by decide +kernel
theorem dX12_dependence_49 : decode cX12_dependence 49 = .ok (.iload_n 3, 1) := by decide +kernel
theorem dX12_dependence_50 : decode cX12_dependence 50 = .ok (.iconst 0, 1) := by decide +kernel
theorem dX12_dependence_51 : decode cX12_dependence 51 = .ok (.aload_n 0, 1) := by decide +kernel
theorem dX12_dependence_52 : decode cX12_dependence 52 = .ok (.iload_n 1, 1) := by decide +kernel
theorem dX12_dependence_53 : decode cX12_dependence 53 = .ok (.iload_n 2, 1) := by decide +kernel
theorem dX12_dependence_54 : decode cX12_dependence 54 = .ok (.iload_n 3, 1) := by decide +kernel
theorem dX12_dependence_55 : decode cX12_dependence 55 = .ok (.invokevirtual 196, 3) := by decide +kernel
theorem dX12_dependence_58 : decode cX12_dependence 58 = .ok (.iconst 1, 1) := by decide +kernel
theorem dX12_dependence_59 : decode cX12_dependence 59 = .ok (.isub, 1) := by decide +kernel
theorem dX12_dependence_60 : decode cX12_dependence 60 = .ok (.invokestatic 53, 3) := by decide +kernel
theorem dX12_dependence_63 : decode cX12_dependence 63 = .ok (.ifCond .ne 9, 3) := by decide +kernel
theorem dX12_dependence_66 : decode cX12_dependence 66 = .ok (.aload_n 0, 1) := by decide +kernel
theorem dX12_dependence_67 : decode cX12_dependence 67 = .ok (.iconst 3, 1) := by decide +kernel
theorem dX12_dependence_68 : decode cX12_dependence 68 = .ok (.invokevirtual 61, 3) := by decide +kernel
theorem dX12_dependence_71 : decode cX12_dependence 71 = .ok (.ireturn, 1) := by decide +kernel
theorem dX12_dependence_72 : decode cX12_dependence 72 = .ok (.aload_n 0, 1) := by decide +kernel
theorem dX12_dependence_73 : decode cX12_dependence 73 = .ok (.iload_n 1, 1) := by decide +kernel
theorem dX12_dependence_74 : decode cX12_dependence 74 = .ok (.aload_n 0, 1) := by decide +kernel
theorem dX12_dependence_75 : decode cX12_dependence 75 = .ok (.getfield 187, 3) := by decide +kernel
theorem dX12_dependence_78 : decode cX12_dependence 78 = .ok (.invokevirtual 177, 3) := by decide +kernel
theorem dX12_dependence_81 : decode cX12_dependence 81 = .ok (.ifCond .ne 7, 3) := by decide +kernel
theorem dX12_dependence_84 : decode cX12_dependence 84 = .ok (.iconst 1, 1) := by decide +kernel
theorem dX12_dependence_85 : decode cX12_dependence 85 = .ok (.goto 20, 3) := by decide +kernel
theorem dX12_dependence_88 : decode cX12_dependence 88 = .ok (.aload_n 0, 1) := by decide +kernel
theorem dX12_dependence_89 : decode cX12_dependence 89 = .ok (.iload_n 2, 1) := by decide +kernel
theorem dX12_dependence_90 : decode cX12_dependence 90 = .ok (.aload_n 0, 1) := by decide +kernel
theorem dX12_dependence_91 : decode cX12_dependence 91 = .ok (.getfield 190, 3) := by decide +kernel
theorem dX12_dependence_94 : decode cX12_dependence 94 = .ok (.invokevirtual 177, 3) := by decide +kernel
theorem dX12_dependence_97 : decode cX12_dependence 97 = .ok (.ifCond .eq 7, 3) := by decide +kernel
theorem dX12_dependence_100 : decode cX12_dependence 100 = .ok (.iconst 2, 1) := by decide +kernel
theorem dX12_dependence_101 : decode cX12_dependence 101 = .ok (.goto 4, 3) := by decide +kernel
theorem dX12_dependence_104 : decode cX12_dependence 104 = .ok (.iconst 0, 1) := by decide +kernel
theorem dX12_dependence_105 : decode cX12_dependence 105 = .ok (.istore 5, 2) := by decide +kernel
theorem dX12_dependence_107 : decode cX12_dependence 107 = .ok (.iload 4, 2) := by decide +kernel
theorem dX12_dependence_109 : decode cX12_dependence 109 = .ok (.ifCond .ne 15, 3) := by decide +kernel
theorem dX12_dependence_112 : decode cX12_dependence 112 = .ok (.aload_n 0, 1) := by decide +kernel
theorem dX12_dependence_113 : decode cX12_dependence 113 = .ok (.iload_n 1, 1) := by decide +kernel
theorem dX12_dependence_114 : decode cX12_dependence 114 = .ok (.aload_n 0, 1) := by decide +kernel
theorem dX12_dependence_115 : decode cX12_dependence 115 = .ok (.getfield 187, 3) := by decide +kernel
theorem dX12_dependence_118 : decode cX12_dependence 118 = .ok (.invokevirtual 159, 3) := by decide +kernel
theorem dX12_dependence_121 : decode cX12_dependence 121 = .ok (.goto 33, 3) := by decide +kernel
theorem dX12_dependence_124 : decode cX12_dependence 124 = .ok (.iload 4, 2) := by decide +kernel
theorem dX12_dependence_126 : decode cX12_dependence 126 = .ok (.iconst 1, 1) := by decide +kernel
theorem dX12_dependence_127 : decode cX12_dependence 127 = .ok (.if_icmp .ne 8, 3) := by decide +kernel
theorem dX12_dependence_130 : decode cX12_dependence 130 = .ok (.iload 5, 2) := by decide +kernel
theorem dX12_dependence_132 : decode cX12_dependence 132 = .ok (.goto 22, 3) := by decide +kernel
theorem dX12_dependence_135 : decode cX12_dependence 135 = .ok (.aload_n 0, 1) := by decide +kernel
theorem dX12_dependence_136 : decode cX12_dependence 136 = .ok (.iload_n 2, 1) := by decide +kernel
theorem dX12_dependence_137 : decode cX12_dependence 137 = .ok (.aload_n 0, 1) := by decide +kernel
theorem dX12_dependence_138 : decode cX12_dependence 138 = .ok (.getfield 190, 3) := by decide +kernel
theorem dX12_dependence_141 : decode cX12_dependence 141 = .ok (.invokevirtual 162, 3) := by decide +kernel
theorem dX12_dependence_144 : decode cX12_dependence 144 = .ok (.aload_n 0, 1) := by decide +kernel
theorem dX12_dependence_145 : decode cX12_dependence 145 = .ok (.iload_n 1, 1) := by decide +kernel
theorem dX12_dependence_146 : decode cX12_dependence 146 = .ok (.aload_n 0, 1) := by decide +kernel
theorem dX12_dependence_147 : decode cX12_dependence 147 = .ok (.getfield 187, 3) := by decide +kernel
theorem dX12_dependence_150 : decode cX12_dependence 150 = .ok (.invokevirtual 162, 3) := by decide +kernel
theorem dX12_dependence_153 : decode cX12_dependence 153 = .ok (.isub, 1) := by decide +kernel
theorem dX12_dependence_154 : decode cX12_dependence 154 = .ok (.ireturn, 1) := by decide +kernel
theorem dX12_required_0 : decode cX12_required 0 = .ok (.aload_n 0, 1) := by decide +kernel
theorem dX12_required_1 : decode cX12_required 1 = .ok (.aload_n 0, 1) := by decide +kernel
theorem dX12_required_2 : decode cX12_required 2 = .ok (.iload_n 1, 1) := by decide +kernel
theorem dX12_required_3 : decode cX12_required 3 = .ok (.iload_n 2, 1) := by decide +kernel
theorem dX12_required_4 : decode cX12_required 4 = .ok (.invokevirtual 193, 3) := by decide +kernel
theorem dX12_required_7 : decode cX12_required 7 = .ok (.putfield 50, 3) := by decide +kernel
theorem dX12_required_10 : decode cX12_required 10 = .ok (.aload_n 0, 1) := by decide +kernel
theorem dX12_required_11 : decode cX12_required 11 = .ok (.getfield 50, 3) := by decide +kernel
theorem dX12_required_14 : decode cX12_required 14 = .ok (.ifCond .le 5, 3) := by decide +kernel
theorem dX12_required_17 : decode cX12_required 17 = .ok (.iconst 0, 1) := by decide +kernel
theorem dX12_required_18 : decode cX12_required 18 = .ok (.ireturn, 1) := by decide +kernel
theorem dX12_required_19 : decode cX12_required 19 = .ok (.aload_n 0, 1) := by decide +kernel
theorem dX12_required_20 : decode cX12_required 20 = .ok (.iload_n 1, 1) := by decide +kernel
theorem dX12_required_21 : decode cX12_required 21 = .ok (.iload_n 2, 1) := by decide +kernel
theorem dX12_required_22 : decode cX12_required 22 = .ok (.iconst (-1), 1) := by decide +kernel
theorem dX12_required_23 : decode cX12_required 23 = .ok (.invokevirtual 196, 3) := by decide +kernel
theorem dX12_required_26 : decode cX12_required 26 = .ok (.ifCond .ne 11, 3) := by decide +kernel
theorem dX12_required_29 : decode cX12_required 29 = .ok (.aload_n 0, 1) := by decide +kernel
theorem dX12_required_30 : decode cX12_required 30 = .ok (.iconst 3, 1) := by decide +kernel
theorem dX12_required_31 : decode cX12_required 31 = .ok (.invokevirtual 61, 3) := by decide +kernel
theorem dX12_required_34 : decode cX12_required 34 = .ok (.goto 7, 3) := by decide +kernel
theorem dX12_required_37 : decode cX12_required 37 = .ok (.aload_n 0, 1) := by decide +kernel
theorem dX12_required_38 : decode cX12_required 38 = .ok (.getfield 180, 3) := by decide +kernel
theorem dX12_required_41 : decode cX12_required 41 = .ok (.ireturn, 1) := by decide +kernel
theorem dX12_layShifts_0 : decode cX12_layShifts 0 = .ok (.iconst 1, 1) := by decide +kernel
theorem dX12_layShifts_1 : decode cX12_layShifts 1 = .ok (.istore_n 3, 1) := by decide +kernel
theorem dX12_layShifts_2 : decode cX12_layShifts 2 = .ok (.iload_n 1, 1) := by decide +kernel
theorem dX12_layShifts_3 : decode cX12_layShifts 3 = .ok (.istore 4, 2) := by decide +kernel
theorem dX12_layShifts_5 : decode cX12_layShifts 5 = .ok (.iload 4, 2) := by decide +kernel
theorem dX12_layShifts_7 : decode cX12_layShifts 7 = .ok (.iload_n 2, 1) := by decide +kernel
theorem dX12_layShifts_8 : decode cX12_layShifts 8 = .ok (.if_icmp .gt 114, 3) := by decide +kernel
theorem dX12_layShifts_11 : decode cX12_layShifts 11 = .ok (.aload_n 0, 1) := by decide +kernel
theorem dX12_layShifts_12 : decode cX12_layShifts 12 = .ok (.getfield 41, 3) := by decide +kernel
theorem dX12_layShifts_15 : decode cX12_layShifts 15 = .ok (.iload 4, 2) := by decide +kernel
theorem dX12_layShifts_17 : decode cX12_layShifts 17 = .ok (.iconst 0, 1) := by decide +kernel
theorem dX12_layShifts_18 : decode cX12_layShifts 18 = .ok (.iastore, 1) := by decide +kernel
theorem dX12_layShifts_19 : decode cX12_layShifts 19 = .ok (.iload_n 1, 1) := by decide +kernel
theorem dX12_layShifts_20 : decode cX12_layShifts 20 = .ok (.istore 5, 2) := by decide +kernel
theorem dX12_layShifts_22 : decode cX12_layShifts 22 = .ok (.iload 5, 2) := by decide +kernel
theorem dX12_layShifts_24 : decode cX12_layShifts 24 = .ok (.iload 4, 2) := by decide +kernel
theorem dX12_layShifts_26 : decode cX12_layShifts 26 = .ok (.if_icmp .ge 50, 3) := by decide +kernel
theorem dX12_layShifts_29 : decode cX12_layShifts 29 = .ok (.aload_n 0, 1) := by decide +kernel
theorem dX12_layShifts_30 : decode cX12_layShifts 30 = .ok (.iload 5, 2) := by decide +kernel
theorem dX12_layShifts_32 : decode cX12_layShifts 32 = .ok (.iload 4, 2) := by decide +kernel
theorem dX12_layShifts_34 : decode cX12_layShifts 34 = .ok (.iconst (-1), 1) := by decide +kernel
theorem dX12_layShifts_35 : decode cX12_layShifts 35 = .ok (.invokevirtual 196, 3) := by decide +kernel
theorem dX12_layShifts_38 : decode cX12_layShifts 38 = .ok (.ifCond .le 32, 3) := by decide +kernel
theorem dX12_layShifts_41 : decode cX12_layShifts 41 = .ok (.aload_n 0, 1) := by decide +kernel
theorem dX12_layShifts_42 : decode cX12_layShifts 42 = .ok (.getfield 41, 3) := by decide +kernel
theorem dX12_layShifts_45 : decode cX12_layShifts 45 = .ok (.iload 4, 2) := by decide +kernel
theorem dX12_layShifts_47 : decode cX12_layShifts 47 = .ok (.aload_n 0, 1) := by decide +kernel
theorem dX12_layShifts_48 : decode cX12_layShifts 48 = .ok (.getfield 41, 3) := by decide +kernel
theorem dX12_layShifts_51 : decode cX12_layShifts 51 = .ok (.iload 4, 2) := by decide +kernel
theorem dX12_layShifts_53 : decode cX12_layShifts 53 = .ok (.iaload, 1) := by decide +kernel
theorem dX12_layShifts_54 : decode cX12_layShifts 54 = .ok (.aload_n 0, 1) := by decide +kernel
theorem dX12_layShifts_55 : decode cX12_layShifts 55 = .ok (.getfield 41, 3) := by decide +kernel
theorem dX12_layShifts_58 : decode cX12_layShifts 58 = .ok (.iload 5, 2) := by decide +kernel
theorem dX12_layShifts_60 : decode cX12_layShifts 60 = .ok (.iaload, 1) := by decide +kernel
theorem dX12_layShifts_61 : decode cX12_layShifts 61 = .ok (.aload_n 0, 1) := by decide +kernel
theorem dX12_layShifts_62 : decode cX12_layShifts 62 = .ok (.getfield 180, 3) := by decide +kernel
theorem dX12_layShifts_65 : decode cX12_layShifts 65 = .ok (.iadd, 1) := by decide +kernel
theorem dX12_layShifts_66 : decode cX12_layShifts 66 = .ok (.invokestatic 151, 3) := by decide +kernel
theorem dX12_layShifts_69 : decode cX12_layShifts 69 = .ok (.iastore, 1) := by decide +kernel
theorem dX12_layShifts_70 : decode cX12_layShifts 70 = .ok (.iinc 5 1, 3) := by decide +kernel
theorem dX12_layShifts_73 : decode cX12_layShifts 73 = .ok (.goto (-51), 3) := by decide +kernel
theorem dX12_layShifts_76 : decode cX12_layShifts 76 = .ok (.iload_n 3, 1) := by decide +kernel
theorem dX12_layShifts_77 : decode cX12_layShifts 77 = .ok (.aload_n 0, 1) := by decide +kernel
theorem dX12_layShifts_78 : decode cX12_layShifts 78 = .ok (.getfield 41, 3) := by decide +kernel
theorem dX12_layShifts_81 : decode cX12_layShifts 81 = .ok (.iload 4, 2) := by decide +kernel
theorem dX12_layShifts_83 : decode cX12_layShifts 83 = .ok (.iaload, 1) := by decide +kernel
theorem dX12_layShifts_84 : decode cX12_layShifts 84 = .ok (.aload_n 0, 1) := by decide +kernel
theorem dX12_layShifts_85 : decode cX12_layShifts 85 = .ok (.getfield 13, 3) := by decide +kernel
theorem dX12_layShifts_88 : decode cX12_layShifts 88 = .ok (.iconst 0, 1) := by decide +kernel
theorem dX12_layShifts_89 : decode cX12_layShifts 89 = .ok (.iaload, 1) := by decide +kernel
theorem dX12_layShifts_90 : decode cX12_layShifts 90 = .ok (.if_icmp .gt 23, 3) := by decide +kernel
theorem dX12_layShifts_93 : decode cX12_layShifts 93 = .ok (.iload 4, 2) := by decide +kernel
theorem dX12_layShifts_95 : decode cX12_layShifts 95 = .ok (.iload_n 1, 1) := by decide +kernel
theorem dX12_layShifts_96 : decode cX12_layShifts 96 = .ok (.if_icmp .eq 13, 3) := by decide +kernel
theorem dX12_layShifts_99 : decode cX12_layShifts 99 = .ok (.aload_n 0, 1) := by decide +kernel
theorem dX12_layShifts_100 : decode cX12_layShifts 100 = .ok (.iload 4, 2) := by decide +kernel
theorem dX12_layShifts_102 : decode cX12_layShifts 102 = .ok (.iconst 2, 1) := by decide +kernel
theorem dX12_layShifts_103 : decode cX12_layShifts 103 = .ok (.invokevirtual 57, 3) := by decide +kernel
theorem dX12_layShifts_106 : decode cX12_layShifts 106 = .ok (.ifCond .ne 7, 3) := by decide +kernel
theorem dX12_layShifts_109 : decode cX12_layShifts 109 = .ok (.iconst 1, 1) := by decide +kernel
theorem dX12_layShifts_110 : decode cX12_layShifts 110 = .ok (.goto 4, 3) := by decide +kernel
theorem dX12_layShifts_113 : decode cX12_layShifts 113 = .ok (.iconst 0, 1) := by decide +kernel
theorem dX12_layShifts_114 : decode cX12_layShifts 114 = .ok (.iand, 1) := by decide +kernel
theorem dX12_layShifts_115 : decode cX12_layShifts 115 = .ok (.istore_n 3, 1) := by decide +kernel
theorem dX12_layShifts_116 : decode cX12_layShifts 116 = .ok (.iinc 4 1, 3) := by decide +kernel
theorem dX12_layShifts_119 : decode cX12_layShifts 119 = .ok (.goto (-114), 3) := by decide +kernel
theorem dX12_layShifts_122 : decode cX12_layShifts 122 = .ok (.iload_n 3, 1) := by decide +kernel
theorem dX12_layShifts_123 : decode cX12_layShifts 123 = .ok (.ifCond .ne 8, 3) := by decide +kernel
theorem dX12_layShifts_126 : decode cX12_layShifts 126 = .ok (.iload_n 1, 1) := by decide +kernel
theorem dX12_layShifts_127 : decode cX12_layShifts 127 = .ok (.iload_n 2, 1) := by decide +kernel
theorem dX12_layShifts_128 : decode cX12_layShifts 128 = .ok (.if_icmp .ne 7, 3) := by decide +kernel
theorem dX12_layShifts_131 : decode cX12_layShifts 131 = .ok (.iconst 1, 1) := by decide +kernel
theorem dX12_layShifts_132 : decode cX12_layShifts 132 = .ok (.goto 4, 3) := by decide +kernel
theorem dX12_layShifts_135 : decode cX12_layShifts 135 = .ok (.iconst 0, 1) := by decide +kernel
theorem dX12_layShifts_136 : decode cX12_layShifts 136 = .ok (.ireturn, 1) := by decide +kernel
theorem dX12_isAllowed_0 : decode cX12_isAllowed 0 = .ok (.aload_n 0, 1) := by decide +kernel
theorem dX12_isAllowed_1 : decode cX12_isAllowed 1 = .ok (.aload_n 0, 1) := by decide +kernel
theorem dX12_isAllowed_2 : decode cX12_isAllowed 2 = .ok (.iload_n 1, 1) := by decide +kernel
theorem dX12_isAllowed_3 : decode cX12_isAllowed 3 = .ok (.invokevirtual 139, 3) := by decide +kernel
theorem dX12_isAllowed_6 : decode cX12_isAllowed 6 = .ok (.ifCond .eq 11, 3) := by decide +kernel
theorem dX12_isAllowed_9 : decode cX12_isAllowed 9 = .ok (.aload_n 0, 1) := by decide +kernel
theorem dX12_isAllowed_10 : decode cX12_isAllowed 10 = .ok (.iload_n 2, 1) := by decide +kernel
theorem dX12_isAllowed_11 : decode cX12_isAllowed 11 = .ok (.invokevirtual 139, 3) := by decide +kernel
theorem dX12_isAllowed_14 : decode cX12_isAllowed 14 = .ok (.ifCond .ne 7, 3) := by decide +kernel
theorem dX12_isAllowed_17 : decode cX12_isAllowed 17 = .ok (.iconst 1, 1) := by decide +kernel
theorem dX12_isAllowed_18 : decode cX12_isAllowed 18 = .ok (.goto 13, 3) := by decide +kernel
theorem dX12_isAllowed_21 : decode cX12_isAllowed 21 = .ok (.iload_n 2, 1) := by decide +kernel
theorem dX12_isAllowed_22 : decode cX12_isAllowed 22 = .ok (.iload_n 1, 1) := by decide +kernel
theorem dX12_isAllowed_23 : decode cX12_isAllowed 23 = .ok (.if_icmp .ge 7, 3) := by decide +kernel
theorem dX12_isAllowed_26 : decode cX12_isAllowed 26 = .ok (.iconst 2, 1) := by decide +kernel
theorem dX12_isAllowed_27 : decode cX12_isAllowed 27 = .ok (.goto 4, 3) := by decide +kernel
theorem dX12_isAllowed_30 : decode cX12_isAllowed 30 = .ok (.iconst 0, 1) := by decide +kernel
theorem dX12_isAllowed_31 : decode cX12_isAllowed 31 = .ok (.putfield 50, 3) := by decide +kernel
theorem dX12_isAllowed_34 : decode cX12_isAllowed 34 = .ok (.aload_n 0, 1) := by decide +kernel
theorem dX12_isAllowed_35 : decode cX12_isAllowed 35 = .ok (.getfield 50, 3) := by decide +kernel
theorem dX12_isAllowed_38 : decode cX12_isAllowed 38 = .ok (.ifCond .ne 16, 3) := by decide +kernel
theorem dX12_isAllowed_41 : decode cX12_isAllowed 41 = .ok (.aload_n 0, 1) := by decide +kernel
theorem dX12_isAllowed_42 : decode cX12_isAllowed 42 = .ok (.iload_n 1, 1) := by decide +kernel
theorem dX12_isAllowed_43 : decode cX12_isAllowed 43 = .ok (.iload_n 2, 1) := by decide +kernel
theorem dX12_isAllowed_44 : decode cX12_isAllowed 44 = .ok (.invokevirtual 199, 3) := by decide +kernel
theorem dX12_isAllowed_47 : decode cX12_isAllowed 47 = .ok (.ifCond .eq 7, 3) := by decide +kernel
theorem dX12_isAllowed_50 : decode cX12_isAllowed 50 = .ok (.iconst 1, 1) := by decide +kernel
theorem dX12_isAllowed_51 : decode cX12_isAllowed 51 = .ok (.goto 4, 3) := by decide +kernel
theorem dX12_isAllowed_54 : decode cX12_isAllowed 54 = .ok (.iconst 0, 1) := by decide +kernel
theorem dX12_isAllowed_55 : decode cX12_isAllowed 55 = .ok (.ireturn, 1) := by decide +kernel
theorem dX12_stepOf_0 : decode cX12_stepOf 0 = .ok (.iload_n 3, 1) := by decide +kernel
theorem dX12_stepOf_1 : decode cX12_stepOf 1 = .ok (.ifCond .eq 9, 3) := by decide +kernel
theorem dX12_stepOf_4 : decode cX12_stepOf 4 = .ok (.sipush 1000, 3) := by decide +kernel
theorem dX12_stepOf_7 : decode cX12_stepOf 7 = .ok (.goto 6, 3) := by decide +kernel
theorem dX12_stepOf_10 : decode cX12_stepOf 10 = .ok (.sipush (-1000), 3) := by decide +kernel
theorem dX12_stepOf_13 : decode cX12_stepOf 13 = .ok (.istore 4, 2) := by decide +kernel
theorem dX12_stepOf_15 : decode cX12_stepOf 15 = .ok (.iload_n 1, 1) := by decide +kernel
theorem dX12_stepOf_16 : decode cX12_stepOf 16 = .ok (.istore 5, 2) := by decide +kernel
theorem dX12_stepOf_18 : decode cX12_stepOf 18 = .ok (.iload 5, 2) := by decide +kernel
theorem dX12_stepOf_20 : decode cX12_stepOf 20 = .ok (.iload_n 2, 1) := by decide +kernel
theorem dX12_stepOf_21 : decode cX12_stepOf 21 = .ok (.if_icmp .gt 57, 3) := by decide +kernel
theorem dX12_stepOf_24 : decode cX12_stepOf 24 = .ok (.aload_n 0, 1) := by decide +kernel
theorem dX12_stepOf_25 : decode cX12_stepOf 25 = .ok (.getfield 41, 3) := by decide +kernel
theorem dX12_stepOf_28 : decode cX12_stepOf 28 = .ok (.iload 5, 2) := by decide +kernel
theorem dX12_stepOf_30 : decode cX12_stepOf 30 = .ok (.iaload, 1) := by decide +kernel
theorem dX12_stepOf_31 : decode cX12_stepOf 31 = .ok (.aload_n 0, 1) := by decide +kernel
theorem dX12_stepOf_32 : decode cX12_stepOf 32 = .ok (.iload 5, 2) := by decide +kernel
theorem dX12_stepOf_34 : decode cX12_stepOf 34 = .ok (.iload_n 3, 1) := by decide +kernel
theorem dX12_stepOf_35 : decode cX12_stepOf 35 = .ok (.ifCond .eq 7, 3) := by decide +kernel
theorem dX12_stepOf_38 : decode cX12_stepOf 38 = .ok (.iconst 0, 1) := by decide +kernel
theorem dX12_stepOf_39 : decode cX12_stepOf 39 = .ok (.goto 4, 3) := by decide +kernel
theorem dX12_stepOf_42 : decode cX12_stepOf 42 = .ok (.iconst 1, 1) := by decide +kernel
theorem dX12_stepOf_43 : decode cX12_stepOf 43 = .ok (.invokevirtual 57, 3) := by decide +kernel
theorem dX12_stepOf_46 : decode cX12_stepOf 46 = .ok (.iadd, 1) := by decide +kernel
theorem dX12_stepOf_47 : decode cX12_stepOf 47 = .ok (.istore 6, 2) := by decide +kernel
theorem dX12_stepOf_49 : decode cX12_stepOf 49 = .ok (.iload_n 3, 1) := by decide +kernel
theorem dX12_stepOf_50 : decode cX12_stepOf 50 = .ok (.ifCond .eq 13, 3) := by decide +kernel
theorem dX12_stepOf_53 : decode cX12_stepOf 53 = .ok (.iload 4, 2) := by decide +kernel
theorem dX12_stepOf_55 : decode cX12_stepOf 55 = .ok (.iload 6, 2) := by decide +kernel
theorem dX12_stepOf_57 : decode cX12_stepOf 57 = .ok (.invokestatic 202, 3) := by decide +kernel
theorem dX12_stepOf_60 : decode cX12_stepOf 60 = .ok (.goto 10, 3) := by decide +kernel
theorem dX12_stepOf_63 : decode cX12_stepOf 63 = .ok (.iload 4, 2) := by decide +kernel
theorem dX12_stepOf_65 : decode cX12_stepOf 65 = .ok (.iload 6, 2) := by decide +kernel
theorem dX12_stepOf_67 : decode cX12_stepOf 67 = .ok (.invokestatic 151, 3) := by decide +kernel
theorem dX12_stepOf_70 : decode cX12_stepOf 70 = .ok (.istore 4, 2) := by decide +kernel
theorem dX12_stepOf_72 : decode cX12_stepOf 72 = .ok (.iinc 5 1, 3) := by decide +kernel
theorem dX12_stepOf_75 : decode cX12_stepOf 75 = .ok (.goto (-57), 3) := by decide +kernel
theorem dX12_stepOf_78 : decode cX12_stepOf 78 = .ok (.iload 4, 2) := by decide +kernel
theorem dX12_stepOf_80 : decode cX12_stepOf 80 = .ok (.ireturn, 1) := by decide +kernel
theorem dX12_hitsOf_0 : decode cX12_hitsOf 0 = .ok (.aload_n 0, 1) := by decide +kernel
theorem dX12_hitsOf_1 : decode cX12_hitsOf 1 = .ok (.iload_n 1, 1) := by decide +kernel
theorem dX12_hitsOf_2 : decode cX12_hitsOf 2 = .ok (.iload_n 2, 1) := by decide +kernel
theorem dX12_hitsOf_3 : decode cX12_hitsOf 3 = .ok (.invokevirtual 199, 3) := by decide +kernel
theorem dX12_hitsOf_6 : decode cX12_hitsOf 6 = .ok (.pop, 1) := by decide +kernel
theorem dX12_hitsOf_7 : decode cX12_hitsOf 7 = .ok (.iconst 0, 1) := by decide +kernel
theorem dX12_hitsOf_8 : decode cX12_hitsOf 8 = .ok (.istore_n 3, 1) := by decide +kernel
theorem dX12_hitsOf_9 : decode cX12_hitsOf 9 = .ok (.iload_n 3, 1) := by decide +kernel
theorem dX12_hitsOf_10 : decode cX12_hitsOf 10 = .ok (.sipush 245, 3) := by decide +kernel
theorem dX12_hitsOf_13 : decode cX12_hitsOf 13 = .ok (.if_icmp .ge 18, 3) := by decide +kernel
theorem dX12_hitsOf_16 : decode cX12_hitsOf 16 = .ok (.aload_n 0, 1) := by decide +kernel
theorem dX12_hitsOf_17 : decode cX12_hitsOf 17 = .ok (.getfield 44, 3) := by decide +kernel
theorem dX12_hitsOf_20 : decode cX12_hitsOf 20 = .ok (.iload_n 3, 1) := by decide +kernel
theorem dX12_hitsOf_21 : decode cX12_hitsOf 21 = .ok (.sipush (-1000), 3) := by decide +kernel
theorem dX12_hitsOf_24 : decode cX12_hitsOf 24 = .ok (.iastore, 1) := by decide +kernel
theorem dX12_hitsOf_25 : decode cX12_hitsOf 25 = .ok (.iinc 3 1, 3) := by decide +kernel
theorem dX12_hitsOf_28 : decode cX12_hitsOf 28 = .ok (.goto (-19), 3) := by decide +kernel
theorem dX12_hitsOf_31 : decode cX12_hitsOf 31 = .ok (.iconst 0, 1) := by decide +kernel
theorem dX12_hitsOf_32 : decode cX12_hitsOf 32 = .ok (.istore_n 3, 1) := by decide +kernel
theorem dX12_hitsOf_33 : decode cX12_hitsOf 33 = .ok (.aload_n 0, 1) := by decide +kernel
theorem dX12_hitsOf_34 : decode cX12_hitsOf 34 = .ok (.iload_n 1, 1) := by decide +kernel
theorem dX12_hitsOf_35 : decode cX12_hitsOf 35 = .ok (.iload_n 2, 1) := by decide +kernel
theorem dX12_hitsOf_36 : decode cX12_hitsOf 36 = .ok (.iconst 0, 1) := by decide +kernel
theorem dX12_hitsOf_37 : decode cX12_hitsOf 37 = .ok (.invokevirtual 205, 3) := by decide +kernel
theorem dX12_hitsOf_40 : decode cX12_hitsOf 40 = .ok (.istore 4, 2) := by decide +kernel
theorem dX12_hitsOf_42 : decode cX12_hitsOf 42 = .ok (.aload_n 0, 1) := by decide +kernel
theorem dX12_hitsOf_43 : decode cX12_hitsOf 43 = .ok (.iload_n 1, 1) := by decide +kernel
theorem dX12_hitsOf_44 : decode cX12_hitsOf 44 = .ok (.iload_n 2, 1) := by decide +kernel
theorem dX12_hitsOf_45 : decode cX12_hitsOf 45 = .ok (.iconst 1, 1) := by decide +kernel
theorem dX12_hitsOf_46 : decode cX12_hitsOf 46 = .ok (.invokevirtual 205, 3) := by decide +kernel
theorem dX12_hitsOf_49 : decode cX12_hitsOf 49 = .ok (.istore 5, 2) := by decide +kernel
theorem dX12_hitsOf_51 : decode cX12_hitsOf 51 = .ok (.iload 5, 2) := by decide +kernel
theorem dX12_hitsOf_53 : decode cX12_hitsOf 53 = .ok (.iload 4, 2) := by decide +kernel
theorem dX12_hitsOf_55 : decode cX12_hitsOf 55 = .ok (.if_icmp .gt 182, 3) := by decide +kernel
theorem dX12_hitsOf_58 : decode cX12_hitsOf 58 = .ok (.iload_n 1, 1) := by decide +kernel
theorem dX12_hitsOf_59 : decode cX12_hitsOf 59 = .ok (.istore 6, 2) := by decide +kernel
theorem dX12_hitsOf_61 : decode cX12_hitsOf 61 = .ok (.iload 6, 2) := by decide +kernel
theorem dX12_hitsOf_63 : decode cX12_hitsOf 63 = .ok (.iload_n 2, 1) := by decide +kernel
theorem dX12_hitsOf_64 : decode cX12_hitsOf 64 = .ok (.if_icmp .gt 167, 3) := by decide +kernel
theorem dX12_hitsOf_67 : decode cX12_hitsOf 67 = .ok (.iload 5, 2) := by decide +kernel
theorem dX12_hitsOf_69 : decode cX12_hitsOf 69 = .ok (.aload_n 0, 1) := by decide +kernel
theorem dX12_hitsOf_70 : decode cX12_hitsOf 70 = .ok (.getfield 41, 3) := by decide +kernel
theorem dX12_hitsOf_73 : decode cX12_hitsOf 73 = .ok (.iload 6, 2) := by decide +kernel
theorem dX12_hitsOf_75 : decode cX12_hitsOf 75 = .ok (.iaload, 1) := by decide +kernel
theorem dX12_hitsOf_76 : decode cX12_hitsOf 76 = .ok (.isub, 1) := by decide +kernel
theorem dX12_hitsOf_77 : decode cX12_hitsOf 77 = .ok (.istore 7, 2) := by decide +kernel
theorem dX12_hitsOf_79 : decode cX12_hitsOf 79 = .ok (.iconst 0, 1) := by decide +kernel
theorem dX12_hitsOf_80 : decode cX12_hitsOf 80 = .ok (.istore 8, 2) := by decide +kernel
theorem dX12_hitsOf_82 : decode cX12_hitsOf 82 = .ok (.iload 8, 2) := by decide +kernel
theorem dX12_hitsOf_84 : decode cX12_hitsOf 84 = .ok (.aload_n 0, 1) := by decide +kernel
theorem dX12_hitsOf_85 : decode cX12_hitsOf 85 = .ok (.iload 6, 2) := by decide +kernel
theorem dX12_hitsOf_87 : decode cX12_hitsOf 87 = .ok (.iconst 4, 1) := by decide +kernel
theorem dX12_hitsOf_88 : decode cX12_hitsOf 88 = .ok (.invokevirtual 57, 3) := by decide +kernel
theorem dX12_hitsOf_91 : decode cX12_hitsOf 91 = .ok (.if_icmp .ge 134, 3) := by decide +kernel
theorem dX12_hitsOf_94 : decode cX12_hitsOf 94 = .ok (.aload_n 0, 1) := by decide +kernel
theorem dX12_hitsOf_95 : decode cX12_hitsOf 95 = .ok (.iload 6, 2) := by decide +kernel
theorem dX12_hitsOf_97 : decode cX12_hitsOf 97 = .ok (.iload 7, 2) := by decide +kernel
theorem dX12_hitsOf_99 : decode cX12_hitsOf 99 = .ok (.invokevirtual 168, 3) := by decide +kernel
theorem dX12_hitsOf_102 : decode cX12_hitsOf 102 = .ok (.ifCond .eq 123, 3) := by decide +kernel
theorem dX12_hitsOf_105 : decode cX12_hitsOf 105 = .ok (.aload_n 0, 1) := by decide +kernel
theorem dX12_hitsOf_106 : decode cX12_hitsOf 106 = .ok (.iload 6, 2) := by decide +kernel
theorem dX12_hitsOf_108 : decode cX12_hitsOf 108 = .ok (.iload 8, 2) := by decide +kernel
theorem dX12_hitsOf_110 : decode cX12_hitsOf 110 = .ok (.iload 7, 2) := by decide +kernel
theorem dX12_hitsOf_112 : decode cX12_hitsOf 112 = .ok (.invokevirtual 165, 3) := by decide +kernel
theorem dX12_hitsOf_115 : decode cX12_hitsOf 115 = .ok (.istore 9, 2) := by decide +kernel
theorem dX12_hitsOf_117 : decode cX12_hitsOf 117 = .ok (.aload_n 0, 1) := by decide +kernel
theorem dX12_hitsOf_118 : decode cX12_hitsOf 118 = .ok (.iload 6, 2) := by decide +kernel
theorem dX12_hitsOf_120 : decode cX12_hitsOf 120 = .ok (.iload 8, 2) := by decide +kernel
theorem dX12_hitsOf_122 : decode cX12_hitsOf 122 = .ok (.invokevirtual 177, 3) := by decide +kernel
theorem dX12_hitsOf_125 : decode cX12_hitsOf 125 = .ok (.ifCond .ne 85, 3) := by decide +kernel
theorem dX12_hitsOf_128 : decode cX12_hitsOf 128 = .ok (.iload 5, 2) := by decide +kernel
theorem dX12_hitsOf_130 : decode cX12_hitsOf 130 = .ok (.aload_n 0, 1) := by decide +kernel
theorem dX12_hitsOf_131 : decode cX12_hitsOf 131 = .ok (.getfield 44, 3) := by decide +kernel
theorem dX12_hitsOf_134 : decode cX12_hitsOf 134 = .ok (.iload 9, 2) := by decide +kernel
theorem dX12_hitsOf_136 : decode cX12_hitsOf 136 = .ok (.iaload, 1) := by decide +kernel
theorem dX12_hitsOf_137 : decode cX12_hitsOf 137 = .ok (.isub, 1) := by decide +kernel
theorem dX12_hitsOf_138 : decode cX12_hitsOf 138 = .ok (.aload_n 0, 1) := by decide +kernel
theorem dX12_hitsOf_139 : decode cX12_hitsOf 139 = .ok (.getfield 13, 3) := by decide +kernel
theorem dX12_hitsOf_142 : decode cX12_hitsOf 142 = .ok (.iconst 1, 1) := by decide +kernel
theorem dX12_hitsOf_143 : decode cX12_hitsOf 143 = .ok (.iaload, 1) := by decide +kernel
theorem dX12_hitsOf_144 : decode cX12_hitsOf 144 = .ok (.if_icmp .gt 7, 3) := by decide +kernel
theorem dX12_hitsOf_147 : decode cX12_hitsOf 147 = .ok (.iconst 1, 1) := by decide +kernel
theorem dX12_hitsOf_148 : decode cX12_hitsOf 148 = .ok (.goto 4, 3) := by decide +kernel
theorem dX12_hitsOf_151 : decode cX12_hitsOf 151 = .ok (.iconst 0, 1) := by decide +kernel
theorem dX12_hitsOf_152 : decode cX12_hitsOf 152 = .ok (.istore 10, 2) := by decide +kernel
theorem dX12_hitsOf_154 : decode cX12_hitsOf 154 = .ok (.aload_n 0, 1) := by decide +kernel
theorem dX12_hitsOf_155 : decode cX12_hitsOf 155 = .ok (.dup, 1) := by decide +kernel
theorem dX12_hitsOf_156 : decode cX12_hitsOf 156 = .ok (.getfield 209, 3) := by decide +kernel
theorem dX12_hitsOf_159 : decode cX12_hitsOf 159 = .ok (.iconst 1, 1) := by decide +kernel
theorem dX12_hitsOf_160 : decode cX12_hitsOf 160 = .ok (.iadd, 1) := by decide +kernel
theorem dX12_hitsOf_161 : decode cX12_hitsOf 161 = .ok (.putfield 209, 3) := by decide +kernel
theorem dX12_hitsOf_164 : decode cX12_hitsOf 164 = .ok (.iload_n 3, 1) := by decide +kernel
theorem dX12_hitsOf_165 : decode cX12_hitsOf 165 = .ok (.iload 10, 2) := by decide +kernel
theorem dX12_hitsOf_167 : decode cX12_hitsOf 167 = .ok (.ifCond .eq 7, 3) := by decide +kernel
theorem dX12_hitsOf_170 : decode cX12_hitsOf 170 = .ok (.iconst 1, 1) := by decide +kernel
theorem dX12_hitsOf_171 : decode cX12_hitsOf 171 = .ok (.goto 4, 3) := by decide +kernel
theorem dX12_hitsOf_174 : decode cX12_hitsOf 174 = .ok (.iconst 0, 1) := by decide +kernel
theorem dX12_hitsOf_175 : decode cX12_hitsOf 175 = .ok (.iadd, 1) := by decide +kernel
theorem dX12_hitsOf_176 : decode cX12_hitsOf 176 = .ok (.istore_n 3, 1) := by decide +kernel
theorem dX12_hitsOf_177 : decode cX12_hitsOf 177 = .ok (.aload_n 0, 1) := by decide +kernel
theorem dX12_hitsOf_178 : decode cX12_hitsOf 178 = .ok (.iload 10, 2) := by decide +kernel
theorem dX12_hitsOf_180 : decode cX12_hitsOf 180 = .ok (.ifCond .eq 23, 3) := by decide +kernel
theorem dX12_hitsOf_183 : decode cX12_hitsOf 183 = .ok (.aload_n 0, 1) := by decide +kernel
theorem dX12_hitsOf_184 : decode cX12_hitsOf 184 = .ok (.getfield 212, 3) := by decide +kernel
theorem dX12_hitsOf_187 : decode cX12_hitsOf 187 = .ok (.iload 5, 2) := by decide +kernel
theorem dX12_hitsOf_189 : decode cX12_hitsOf 189 = .ok (.aload_n 0, 1) := by decide +kernel
theorem dX12_hitsOf_190 : decode cX12_hitsOf 190 = .ok (.getfield 44, 3) := by decide +kernel
theorem dX12_hitsOf_193 : decode cX12_hitsOf 193 = .ok (.iload 9, 2) := by decide +kernel
theorem dX12_hitsOf_195 : decode cX12_hitsOf 195 = .ok (.iaload, 1) := by decide +kernel
theorem dX12_hitsOf_196 : decode cX12_hitsOf 196 = .ok (.isub, 1) := by decide +kernel
theorem dX12_hitsOf_197 : decode cX12_hitsOf 197 = .ok (.invokestatic 151, 3) := by decide +kernel
theorem dX12_hitsOf_200 : decode cX12_hitsOf 200 = .ok (.goto 7, 3) := by decide +kernel
theorem dX12_hitsOf_203 : decode cX12_hitsOf 203 = .ok (.aload_n 0, 1) := by decide +kernel
theorem dX12_hitsOf_204 : decode cX12_hitsOf 204 = .ok (.getfield 212, 3) := by decide +kernel
theorem dX12_hitsOf_207 : decode cX12_hitsOf 207 = .ok (.putfield 212, 3) := by decide +kernel
theorem dX12_hitsOf_210 : decode cX12_hitsOf 210 = .ok (.aload_n 0, 1) := by decide +kernel
theorem dX12_hitsOf_211 : decode cX12_hitsOf 211 = .ok (.getfield 44, 3) := by decide +kernel
theorem dX12_hitsOf_214 : decode cX12_hitsOf 214 = .ok (.iload 9, 2) := by decide +kernel
theorem dX12_hitsOf_216 : decode cX12_hitsOf 216 = .ok (.iload 5, 2) := by decide +kernel
theorem dX12_hitsOf_218 : decode cX12_hitsOf 218 = .ok (.iastore, 1) := by decide +kernel
theorem dX12_hitsOf_219 : decode cX12_hitsOf 219 = .ok (.iinc 8 1, 3) := by decide +kernel
theorem dX12_hitsOf_222 : decode cX12_hitsOf 222 = .ok (.goto (-140), 3) := by decide +kernel
theorem dX12_hitsOf_225 : decode cX12_hitsOf 225 = .ok (.iinc 6 1, 3) := by decide +kernel
theorem dX12_hitsOf_228 : decode cX12_hitsOf 228 = .ok (.goto (-167), 3) := by decide +kernel
theorem dX12_hitsOf_231 : decode cX12_hitsOf 231 = .ok (.iinc 5 1, 3) := by decide +kernel
theorem dX12_hitsOf_234 : decode cX12_hitsOf 234 = .ok (.goto (-183), 3) := by decide +kernel
theorem dX12_hitsOf_237 : decode cX12_hitsOf 237 = .ok (.iload_n 3, 1) := by decide +kernel
theorem dX12_hitsOf_238 : decode cX12_hitsOf 238 = .ok (.ireturn, 1) := by decide +kernel
theorem dX12_hits_0 : decode cX12_hits 0 = .ok (.aload_n 0, 1) := by decide +kernel
theorem dX12_hits_1 : decode cX12_hits 1 = .ok (.aload_n 0, 1) := by decide +kernel
theorem dX12_hits_2 : decode cX12_hits 2 = .ok (.iload_n 1, 1) := by decide +kernel
theorem dX12_hits_3 : decode cX12_hits 3 = .ok (.invokevirtual 139, 3) := by decide +kernel
theorem dX12_hits_6 : decode cX12_hits 6 = .ok (.ifCond .eq 11, 3) := by decide +kernel
theorem dX12_hits_9 : decode cX12_hits 9 = .ok (.aload_n 0, 1) := by decide +kernel
theorem dX12_hits_10 : decode cX12_hits 10 = .ok (.iload_n 2, 1) := by decide +kernel
theorem dX12_hits_11 : decode cX12_hits 11 = .ok (.invokevirtual 139, 3) := by decide +kernel
theorem dX12_hits_14 : decode cX12_hits 14 = .ok (.ifCond .ne 7, 3) := by decide +kernel
theorem dX12_hits_17 : decode cX12_hits 17 = .ok (.iconst 1, 1) := by decide +kernel
theorem dX12_hits_18 : decode cX12_hits 18 = .ok (.goto 13, 3) := by decide +kernel
theorem dX12_hits_21 : decode cX12_hits 21 = .ok (.iload_n 2, 1) := by decide +kernel
theorem dX12_hits_22 : decode cX12_hits 22 = .ok (.iload_n 1, 1) := by decide +kernel
theorem dX12_hits_23 : decode cX12_hits 23 = .ok (.if_icmp .ge 7, 3) := by decide +kernel
theorem dX12_hits_26 : decode cX12_hits 26 = .ok (.iconst 2, 1) := by decide +kernel
theorem dX12_hits_27 : decode cX12_hits 27 = .ok (.goto 4, 3) := by decide +kernel
theorem dX12_hits_30 : decode cX12_hits 30 = .ok (.iconst 0, 1) := by decide +kernel
theorem dX12_hits_31 : decode cX12_hits 31 = .ok (.putfield 50, 3) := by decide +kernel
theorem dX12_hits_34 : decode cX12_hits 34 = .ok (.aload_n 0, 1) := by decide +kernel
theorem dX12_hits_35 : decode cX12_hits 35 = .ok (.getfield 50, 3) := by decide +kernel
theorem dX12_hits_38 : decode cX12_hits 38 = .ok (.ifCond .le 7, 3) := by decide +kernel
theorem dX12_hits_41 : decode cX12_hits 41 = .ok (.iconst 0, 1) := by decide +kernel
theorem dX12_hits_42 : decode cX12_hits 42 = .ok (.goto 9, 3) := by decide +kernel
theorem dX12_hits_45 : decode cX12_hits 45 = .ok (.aload_n 0, 1) := by decide +kernel
theorem dX12_hits_46 : decode cX12_hits 46 = .ok (.iload_n 1, 1) := by decide +kernel
theorem dX12_hits_47 : decode cX12_hits 47 = .ok (.iload_n 2, 1) := by decide +kernel
theorem dX12_hits_48 : decode cX12_hits 48 = .ok (.invokevirtual 215, 3) := by decide +kernel
theorem dX12_hits_51 : decode cX12_hits 51 = .ok (.ireturn, 1) := by decide +kernel
theorem dX12_groupsIn_0 : decode cX12_groupsIn 0 = .ok (.iconst 1, 1) := by decide +kernel
theorem dX12_groupsIn_1 : decode cX12_groupsIn 1 = .ok (.istore_n 1, 1) := by decide +kernel
theorem dX12_groupsIn_2 : decode cX12_groupsIn 2 = .ok (.iload_n 0, 1) := by decide +kernel
theorem dX12_groupsIn_3 : decode cX12_groupsIn 3 = .ok (.istore_n 2, 1) := by decide +kernel
theorem dX12_groupsIn_4 : decode cX12_groupsIn 4 = .ok (.iload_n 2, 1) := by decide +kernel
theorem dX12_groupsIn_5 : decode cX12_groupsIn 5 = .ok (.ifCond .eq 15, 3) := by decide +kernel
theorem dX12_groupsIn_8 : decode cX12_groupsIn 8 = .ok (.iinc 1 1, 3) := by decide +kernel
theorem dX12_groupsIn_11 : decode cX12_groupsIn 11 = .ok (.iload_n 2, 1) := by decide +kernel
theorem dX12_groupsIn_12 : decode cX12_groupsIn 12 = .ok (.iload_n 2, 1) := by decide +kernel
theorem dX12_groupsIn_13 : decode cX12_groupsIn 13 = .ok (.iconst 1, 1) := by decide +kernel
theorem dX12_groupsIn_14 : decode cX12_groupsIn 14 = .ok (.isub, 1) := by decide +kernel
theorem dX12_groupsIn_15 : decode cX12_groupsIn 15 = .ok (.iand, 1) := by decide +kernel
theorem dX12_groupsIn_16 : decode cX12_groupsIn 16 = .ok (.istore_n 2, 1) := by decide +kernel
theorem dX12_groupsIn_17 : decode cX12_groupsIn 17 = .ok (.goto (-13), 3) := by decide +kernel
theorem dX12_groupsIn_20 : decode cX12_groupsIn 20 = .ok (.iload_n 1, 1) := by decide +kernel
theorem dX12_groupsIn_21 : decode cX12_groupsIn 21 = .ok (.ireturn, 1) := by decide +kernel
theorem dX12_endOf_0 : decode cX12_endOf 0 = .ok (.iload_n 2, 1) := by decide +kernel
theorem dX12_endOf_1 : decode cX12_endOf 1 = .ok (.istore_n 3, 1) := by decide +kernel
theorem dX12_endOf_2 : decode cX12_endOf 2 = .ok (.iload_n 3, 1) := by decide +kernel
theorem dX12_endOf_3 : decode cX12_endOf 3 = .ok (.iconst 1, 1) := by decide +kernel
theorem dX12_endOf_4 : decode cX12_endOf 4 = .ok (.iadd, 1) := by decide +kernel
theorem dX12_endOf_5 : decode cX12_endOf 5 = .ok (.aload_n 0, 1) := by decide +kernel
theorem dX12_endOf_6 : decode cX12_endOf 6 = .ok (.getfield 47, 3) := by decide +kernel
theorem dX12_endOf_9 : decode cX12_endOf 9 = .ok (.if_icmp .ge 17, 3) := by decide +kernel
theorem dX12_endOf_12 : decode cX12_endOf 12 = .ok (.iload_n 1, 1) := by decide +kernel
theorem dX12_endOf_13 : decode cX12_endOf 13 = .ok (.iload_n 3, 1) := by decide +kernel
theorem dX12_endOf_14 : decode cX12_endOf 14 = .ok (.ishr, 1) := by decide +kernel
theorem dX12_endOf_15 : decode cX12_endOf 15 = .ok (.iconst 1, 1) := by decide +kernel
theorem dX12_endOf_16 : decode cX12_endOf 16 = .ok (.iand, 1) := by decide +kernel
theorem dX12_endOf_17 : decode cX12_endOf 17 = .ok (.ifCond .ne 9, 3) := by decide +kernel
theorem dX12_endOf_20 : decode cX12_endOf 20 = .ok (.iinc 3 1, 3) := by decide +kernel
theorem dX12_endOf_23 : decode cX12_endOf 23 = .ok (.goto (-21), 3) := by decide +kernel
theorem dX12_endOf_26 : decode cX12_endOf 26 = .ok (.iload_n 3, 1) := by decide +kernel
theorem dX12_endOf_27 : decode cX12_endOf 27 = .ok (.ireturn, 1) := by decide +kernel
theorem dX12_hitsIn_0 : decode cX12_hitsIn 0 = .ok (.iconst 0, 1) := by decide +kernel
theorem dX12_hitsIn_1 : decode cX12_hitsIn 1 = .ok (.istore_n 2, 1) := by decide +kernel
theorem dX12_hitsIn_2 : decode cX12_hitsIn 2 = .ok (.iconst 0, 1) := by decide +kernel
theorem dX12_hitsIn_3 : decode cX12_hitsIn 3 = .ok (.istore_n 3, 1) := by decide +kernel
theorem dX12_hitsIn_4 : decode cX12_hitsIn 4 = .ok (.iload_n 3, 1) := by decide +kernel
theorem dX12_hitsIn_5 : decode cX12_hitsIn 5 = .ok (.aload_n 0, 1) := by decide +kernel
theorem dX12_hitsIn_6 : decode cX12_hitsIn 6 = .ok (.getfield 47, 3) := by decide +kernel
theorem dX12_hitsIn_9 : decode cX12_hitsIn 9 = .ok (.if_icmp .ge 41, 3) := by decide +kernel
theorem dX12_hitsIn_12 : decode cX12_hitsIn 12 = .ok (.aload_n 0, 1) := by decide +kernel
theorem dX12_hitsIn_13 : decode cX12_hitsIn 13 = .ok (.iload_n 1, 1) := by decide +kernel
theorem dX12_hitsIn_14 : decode cX12_hitsIn 14 = .ok (.iload_n 3, 1) := by decide +kernel
theorem dX12_hitsIn_15 : decode cX12_hitsIn 15 = .ok (.invokevirtual 218, 3) := by decide +kernel
theorem dX12_hitsIn_18 : decode cX12_hitsIn 18 = .ok (.istore 4, 2) := by decide +kernel
theorem dX12_hitsIn_20 : decode cX12_hitsIn 20 = .ok (.aload_n 0, 1) := by decide +kernel
theorem dX12_hitsIn_21 : decode cX12_hitsIn 21 = .ok (.iload_n 3, 1) := by decide +kernel
theorem dX12_hitsIn_22 : decode cX12_hitsIn 22 = .ok (.iload 4, 2) := by decide +kernel
theorem dX12_hitsIn_24 : decode cX12_hitsIn 24 = .ok (.invokevirtual 199, 3) := by decide +kernel
theorem dX12_hitsIn_27 : decode cX12_hitsIn 27 = .ok (.ifCond .ne 5, 3) := by decide +kernel
theorem dX12_hitsIn_30 : decode cX12_hitsIn 30 = .ok (.iconst (-1), 1) := by decide +kernel
theorem dX12_hitsIn_31 : decode cX12_hitsIn 31 = .ok (.ireturn, 1) := by decide +kernel
theorem dX12_hitsIn_32 : decode cX12_hitsIn 32 = .ok (.iload_n 2, 1) := by decide +kernel
theorem dX12_hitsIn_33 : decode cX12_hitsIn 33 = .ok (.aload_n 0, 1) := by decide +kernel
theorem dX12_hitsIn_34 : decode cX12_hitsIn 34 = .ok (.iload_n 3, 1) := by decide +kernel
theorem dX12_hitsIn_35 : decode cX12_hitsIn 35 = .ok (.iload 4, 2) := by decide +kernel
theorem dX12_hitsIn_37 : decode cX12_hitsIn 37 = .ok (.invokevirtual 215, 3) := by decide +kernel
theorem dX12_hitsIn_40 : decode cX12_hitsIn 40 = .ok (.iadd, 1) := by decide +kernel
theorem dX12_hitsIn_41 : decode cX12_hitsIn 41 = .ok (.istore_n 2, 1) := by decide +kernel
theorem dX12_hitsIn_42 : decode cX12_hitsIn 42 = .ok (.iload 4, 2) := by decide +kernel
theorem dX12_hitsIn_44 : decode cX12_hitsIn 44 = .ok (.iconst 1, 1) := by decide +kernel
theorem dX12_hitsIn_45 : decode cX12_hitsIn 45 = .ok (.iadd, 1) := by decide +kernel
theorem dX12_hitsIn_46 : decode cX12_hitsIn 46 = .ok (.istore_n 3, 1) := by decide +kernel
theorem dX12_hitsIn_47 : decode cX12_hitsIn 47 = .ok (.goto (-43), 3) := by decide +kernel
theorem dX12_hitsIn_50 : decode cX12_hitsIn 50 = .ok (.iload_n 2, 1) := by decide +kernel
theorem dX12_hitsIn_51 : decode cX12_hitsIn 51 = .ok (.ireturn, 1) := by decide +kernel
theorem dX12_isGreater_0 : decode cX12_isGreater 0 = .ok (.iload_n 0, 1) := by decide +kernel
theorem dX12_isGreater_1 : decode cX12_isGreater 1 = .ok (.iload_n 1, 1) := by decide +kernel
theorem dX12_isGreater_2 : decode cX12_isGreater 2 = .ok (.ixor, 1) := by decide +kernel
theorem dX12_isGreater_3 : decode cX12_isGreater 3 = .ok (.istore_n 2, 1) := by decide +kernel
theorem dX12_isGreater_4 : decode cX12_isGreater 4 = .ok (.iload_n 1, 1) := by decide +kernel
theorem dX12_isGreater_5 : decode cX12_isGreater 5 = .ok (.iload_n 2, 1) := by decide +kernel
theorem dX12_isGreater_6 : decode cX12_isGreater 6 = .ok (.iload_n 2, 1) := by decide +kernel
theorem dX12_isGreater_7 : decode cX12_isGreater 7 = .ok (.ineg, 1) := by decide +kernel
theorem dX12_isGreater_8 : decode cX12_isGreater 8 = .ok (.iand, 1) := by decide +kernel
theorem dX12_isGreater_9 : decode cX12_isGreater 9 = .ok (.iand, 1) := by decide +kernel
theorem dX12_isGreater_10 : decode cX12_isGreater 10 = .ok (.ifCond .eq 7, 3) := by decide +kernel
theorem dX12_isGreater_13 : decode cX12_isGreater 13 = .ok (.iconst 1, 1) := by decide +kernel
theorem dX12_isGreater_14 : decode cX12_isGreater 14 = .ok (.goto 4, 3) := by decide +kernel
theorem dX12_isGreater_17 : decode cX12_isGreater 17 = .ok (.iconst 0, 1) := by decide +kernel
theorem dX12_isGreater_18 : decode cX12_isGreater 18 = .ok (.ireturn, 1) := by decide +kernel
theorem dX12_bestSet_0 : decode cX12_bestSet 0 = .ok (.iconst (-1), 1) := by decide +kernel
theorem dX12_bestSet_1 : decode cX12_bestSet 1 = .ok (.istore_n 1, 1) := by decide +kernel
theorem dX12_bestSet_2 : decode cX12_bestSet 2 = .ok (.iconst (-1), 1) := by decide +kernel
theorem dX12_bestSet_3 : decode cX12_bestSet 3 = .ok (.istore_n 2, 1) := by decide +kernel
theorem dX12_bestSet_4 : decode cX12_bestSet 4 = .ok (.iconst 0, 1) := by decide +kernel
theorem dX12_bestSet_5 : decode cX12_bestSet 5 = .ok (.istore_n 3, 1) := by decide +kernel
theorem dX12_bestSet_6 : decode cX12_bestSet 6 = .ok (.iload_n 3, 1) := by decide +kernel
theorem dX12_bestSet_7 : decode cX12_bestSet 7 = .ok (.iconst 1, 1) := by decide +kernel
theorem dX12_bestSet_8 : decode cX12_bestSet 8 = .ok (.iconst 0, 1) := by decide +kernel
theorem dX12_bestSet_9 : decode cX12_bestSet 9 = .ok (.aload_n 0, 1) := by decide +kernel
theorem dX12_bestSet_10 : decode cX12_bestSet 10 = .ok (.getfield 47, 3) := by decide +kernel
theorem dX12_bestSet_13 : decode cX12_bestSet 13 = .ok (.iconst 1, 1) := by decide +kernel
theorem dX12_bestSet_14 : decode cX12_bestSet 14 = .ok (.isub, 1) := by decide +kernel
theorem dX12_bestSet_15 : decode cX12_bestSet 15 = .ok (.invokestatic 151, 3) := by decide +kernel
theorem dX12_bestSet_18 : decode cX12_bestSet 18 = .ok (.ishl, 1) := by decide +kernel
theorem dX12_bestSet_19 : decode cX12_bestSet 19 = .ok (.if_icmp .ge 76, 3) := by decide +kernel
theorem dX12_bestSet_22 : decode cX12_bestSet 22 = .ok (.aload_n 0, 1) := by decide +kernel
theorem dX12_bestSet_23 : decode cX12_bestSet 23 = .ok (.iload_n 3, 1) := by decide +kernel
theorem dX12_bestSet_24 : decode cX12_bestSet 24 = .ok (.invokevirtual 221, 3) := by decide +kernel
theorem dX12_bestSet_27 : decode cX12_bestSet 27 = .ok (.istore 4, 2) := by decide +kernel
theorem dX12_bestSet_29 : decode cX12_bestSet 29 = .ok (.iload 4, 2) := by decide +kernel
theorem dX12_bestSet_31 : decode cX12_bestSet 31 = .ok (.iload_n 2, 1) := by decide +kernel
theorem dX12_bestSet_32 : decode cX12_bestSet 32 = .ok (.if_icmp .eq 10, 3) := by decide +kernel
theorem dX12_bestSet_35 : decode cX12_bestSet 35 = .ok (.iload 4, 2) := by decide +kernel
theorem dX12_bestSet_37 : decode cX12_bestSet 37 = .ok (.iload_n 2, 1) := by decide +kernel
theorem dX12_bestSet_38 : decode cX12_bestSet 38 = .ok (.isub, 1) := by decide +kernel
theorem dX12_bestSet_39 : decode cX12_bestSet 39 = .ok (.goto 20, 3) := by decide +kernel
theorem dX12_bestSet_42 : decode cX12_bestSet 42 = .ok (.iload_n 1, 1) := by decide +kernel
theorem dX12_bestSet_43 : decode cX12_bestSet 43 = .ok (.ifCond .ge 7, 3) := by decide +kernel
theorem dX12_bestSet_46 : decode cX12_bestSet 46 = .ok (.iconst 1, 1) := by decide +kernel
theorem dX12_bestSet_47 : decode cX12_bestSet 47 = .ok (.goto 12, 3) := by decide +kernel
theorem dX12_bestSet_50 : decode cX12_bestSet 50 = .ok (.iload_n 1, 1) := by decide +kernel
theorem dX12_bestSet_51 : decode cX12_bestSet 51 = .ok (.invokestatic 224, 3) := by decide +kernel
theorem dX12_bestSet_54 : decode cX12_bestSet 54 = .ok (.iload_n 3, 1) := by decide +kernel
theorem dX12_bestSet_55 : decode cX12_bestSet 55 = .ok (.invokestatic 224, 3) := by decide +kernel
theorem dX12_bestSet_58 : decode cX12_bestSet 58 = .ok (.isub, 1) := by decide +kernel
theorem dX12_bestSet_59 : decode cX12_bestSet 59 = .ok (.istore 5, 2) := by decide +kernel
theorem dX12_bestSet_61 : decode cX12_bestSet 61 = .ok (.iload 4, 2) := by decide +kernel
theorem dX12_bestSet_63 : decode cX12_bestSet 63 = .ok (.ifCond .lt 26, 3) := by decide +kernel
theorem dX12_bestSet_66 : decode cX12_bestSet 66 = .ok (.iload 5, 2) := by decide +kernel
theorem dX12_bestSet_68 : decode cX12_bestSet 68 = .ok (.ifCond .gt 16, 3) := by decide +kernel
theorem dX12_bestSet_71 : decode cX12_bestSet 71 = .ok (.iload 5, 2) := by decide +kernel
theorem dX12_bestSet_73 : decode cX12_bestSet 73 = .ok (.ifCond .ne 16, 3) := by decide +kernel
theorem dX12_bestSet_76 : decode cX12_bestSet 76 = .ok (.iload_n 3, 1) := by decide +kernel
theorem dX12_bestSet_77 : decode cX12_bestSet 77 = .ok (.iload_n 1, 1) := by decide +kernel
theorem dX12_bestSet_78 : decode cX12_bestSet 78 = .ok (.invokestatic 227, 3) := by decide +kernel
theorem dX12_bestSet_81 : decode cX12_bestSet 81 = .ok (.ifCond .eq 8, 3) := by decide +kernel
theorem dX12_bestSet_84 : decode cX12_bestSet 84 = .ok (.iload_n 3, 1) := by decide +kernel
theorem dX12_bestSet_85 : decode cX12_bestSet 85 = .ok (.istore_n 1, 1) := by decide +kernel
theorem dX12_bestSet_86 : decode cX12_bestSet 86 = .ok (.iload 4, 2) := by decide +kernel
theorem dX12_bestSet_88 : decode cX12_bestSet 88 = .ok (.istore_n 2, 1) := by decide +kernel
theorem dX12_bestSet_89 : decode cX12_bestSet 89 = .ok (.iinc 3 1, 3) := by decide +kernel
theorem dX12_bestSet_92 : decode cX12_bestSet 92 = .ok (.goto (-86), 3) := by decide +kernel
theorem dX12_bestSet_95 : decode cX12_bestSet 95 = .ok (.iload_n 1, 1) := by decide +kernel
theorem dX12_bestSet_96 : decode cX12_bestSet 96 = .ok (.ireturn, 1) := by decide +kernel
theorem dX12_greedySet_0 : decode cX12_greedySet 0 = .ok (.iconst 0, 1) := by decide +kernel
theorem dX12_greedySet_1 : decode cX12_greedySet 1 = .ok (.istore_n 1, 1) := by decide +kernel
theorem dX12_greedySet_2 : decode cX12_greedySet 2 = .ok (.iconst 0, 1) := by decide +kernel
theorem dX12_greedySet_3 : decode cX12_greedySet 3 = .ok (.istore_n 2, 1) := by decide +kernel
theorem dX12_greedySet_4 : decode cX12_greedySet 4 = .ok (.iconst 1, 1) := by decide +kernel
theorem dX12_greedySet_5 : decode cX12_greedySet 5 = .ok (.istore_n 3, 1) := by decide +kernel
theorem dX12_greedySet_6 : decode cX12_greedySet 6 = .ok (.iload_n 3, 1) := by decide +kernel
theorem dX12_greedySet_7 : decode cX12_greedySet 7 = .ok (.aload_n 0, 1) := by decide +kernel
theorem dX12_greedySet_8 : decode cX12_greedySet 8 = .ok (.getfield 47, 3) := by decide +kernel
theorem dX12_greedySet_11 : decode cX12_greedySet 11 = .ok (.if_icmp .ge 28, 3) := by decide +kernel
theorem dX12_greedySet_14 : decode cX12_greedySet 14 = .ok (.aload_n 0, 1) := by decide +kernel
theorem dX12_greedySet_15 : decode cX12_greedySet 15 = .ok (.iload_n 2, 1) := by decide +kernel
theorem dX12_greedySet_16 : decode cX12_greedySet 16 = .ok (.iload_n 3, 1) := by decide +kernel
theorem dX12_greedySet_17 : decode cX12_greedySet 17 = .ok (.invokevirtual 199, 3) := by decide +kernel
theorem dX12_greedySet_20 : decode cX12_greedySet 20 = .ok (.ifCond .ne 13, 3) := by decide +kernel
theorem dX12_greedySet_23 : decode cX12_greedySet 23 = .ok (.iload_n 1, 1) := by decide +kernel
theorem dX12_greedySet_24 : decode cX12_greedySet 24 = .ok (.iconst 1, 1) := by decide +kernel
theorem dX12_greedySet_25 : decode cX12_greedySet 25 = .ok (.iload_n 3, 1) := by decide +kernel
theorem dX12_greedySet_26 : decode cX12_greedySet 26 = .ok (.iconst 1, 1) := by decide +kernel
theorem dX12_greedySet_27 : decode cX12_greedySet 27 = .ok (.isub, 1) := by decide +kernel
theorem dX12_greedySet_28 : decode cX12_greedySet 28 = .ok (.ishl, 1) := by decide +kernel
theorem dX12_greedySet_29 : decode cX12_greedySet 29 = .ok (.ior, 1) := by decide +kernel
theorem dX12_greedySet_30 : decode cX12_greedySet 30 = .ok (.istore_n 1, 1) := by decide +kernel
theorem dX12_greedySet_31 : decode cX12_greedySet 31 = .ok (.iload_n 3, 1) := by decide +kernel
theorem dX12_greedySet_32 : decode cX12_greedySet 32 = .ok (.istore_n 2, 1) := by decide +kernel
theorem dX12_greedySet_33 : decode cX12_greedySet 33 = .ok (.iinc 3 1, 3) := by decide +kernel
theorem dX12_greedySet_36 : decode cX12_greedySet 36 = .ok (.goto (-30), 3) := by decide +kernel
theorem dX12_greedySet_39 : decode cX12_greedySet 39 = .ok (.iload_n 1, 1) := by decide +kernel
theorem dX12_greedySet_40 : decode cX12_greedySet 40 = .ok (.ireturn, 1) := by decide +kernel
theorem dX12_setOf_0 : decode cX12_setOf 0 = .ok (.iload_n 1, 1) := by decide +kernel
theorem dX12_setOf_1 : decode cX12_setOf 1 = .ok (.ifCond .ne 20, 3) := by decide +kernel
theorem dX12_setOf_4 : decode cX12_setOf 4 = .ok (.iconst 1, 1) := by decide +kernel
theorem dX12_setOf_5 : decode cX12_setOf 5 = .ok (.iconst 0, 1) := by decide +kernel
theorem dX12_setOf_6 : decode cX12_setOf 6 = .ok (.aload_n 0, 1) := by decide +kernel
theorem dX12_setOf_7 : decode cX12_setOf 7 = .ok (.getfield 47, 3) := by decide +kernel
theorem dX12_setOf_10 : decode cX12_setOf 10 = .ok (.iconst 1, 1) := by decide +kernel
theorem dX12_setOf_11 : decode cX12_setOf 11 = .ok (.isub, 1) := by decide +kernel
theorem dX12_setOf_12 : decode cX12_setOf 12 = .ok (.invokestatic 151, 3) := by decide +kernel
theorem dX12_setOf_15 : decode cX12_setOf 15 = .ok (.ishl, 1) := by decide +kernel
theorem dX12_setOf_16 : decode cX12_setOf 16 = .ok (.iconst 1, 1) := by decide +kernel
theorem dX12_setOf_17 : decode cX12_setOf 17 = .ok (.isub, 1) := by decide +kernel
theorem dX12_setOf_18 : decode cX12_setOf 18 = .ok (.goto 19, 3) := by decide +kernel
theorem dX12_setOf_21 : decode cX12_setOf 21 = .ok (.iload_n 1, 1) := by decide +kernel
theorem dX12_setOf_22 : decode cX12_setOf 22 = .ok (.iconst 1, 1) := by decide +kernel
theorem dX12_setOf_23 : decode cX12_setOf 23 = .ok (.if_icmp .ne 10, 3) := by decide +kernel
theorem dX12_setOf_26 : decode cX12_setOf 26 = .ok (.aload_n 0, 1) := by decide +kernel
theorem dX12_setOf_27 : decode cX12_setOf 27 = .ok (.invokevirtual 230, 3) := by decide +kernel
theorem dX12_setOf_30 : decode cX12_setOf 30 = .ok (.goto 7, 3) := by decide +kernel
theorem dX12_setOf_33 : decode cX12_setOf 33 = .ok (.aload_n 0, 1) := by decide +kernel
theorem dX12_setOf_34 : decode cX12_setOf 34 = .ok (.invokevirtual 233, 3) := by decide +kernel
theorem dX12_setOf_37 : decode cX12_setOf 37 = .ok (.ireturn, 1) := by decide +kernel
theorem dX12_findGroup_0 : decode cX12_findGroup 0 = .ok (.iconst 0, 1) := by decide +kernel
theorem dX12_findGroup_1 : decode cX12_findGroup 1 = .ok (.istore_n 3, 1) := by decide +kernel
theorem dX12_findGroup_2 : decode cX12_findGroup 2 = .ok (.aload_n 0, 1) := by decide +kernel
theorem dX12_findGroup_3 : decode cX12_findGroup 3 = .ok (.iconst 0, 1) := by decide +kernel
theorem dX12_findGroup_4 : decode cX12_findGroup 4 = .ok (.putfield 236, 3) := by decide +kernel
theorem dX12_findGroup_7 : decode cX12_findGroup 7 = .ok (.aload_n 0, 1) := by decide +kernel
theorem dX12_findGroup_8 : decode cX12_findGroup 8 = .ok (.aload_n 0, 1) := by decide +kernel
theorem dX12_findGroup_9 : decode cX12_findGroup 9 = .ok (.iload_n 1, 1) := by decide +kernel
theorem dX12_findGroup_10 : decode cX12_findGroup 10 = .ok (.iconst 0, 1) := by decide +kernel
theorem dX12_findGroup_11 : decode cX12_findGroup 11 = .ok (.invokevirtual 218, 3) := by decide +kernel
theorem dX12_findGroup_14 : decode cX12_findGroup 14 = .ok (.putfield 239, 3) := by decide +kernel
theorem dX12_findGroup_17 : decode cX12_findGroup 17 = .ok (.aload_n 0, 1) := by decide +kernel
theorem dX12_findGroup_18 : decode cX12_findGroup 18 = .ok (.getfield 239, 3) := by decide +kernel
theorem dX12_findGroup_21 : decode cX12_findGroup 21 = .ok (.iload_n 2, 1) := by decide +kernel
theorem dX12_findGroup_22 : decode cX12_findGroup 22 = .ok (.if_icmp .ge 32, 3) := by decide +kernel
theorem dX12_findGroup_25 : decode cX12_findGroup 25 = .ok (.aload_n 0, 1) := by decide +kernel
theorem dX12_findGroup_26 : decode cX12_findGroup 26 = .ok (.aload_n 0, 1) := by decide +kernel
theorem dX12_findGroup_27 : decode cX12_findGroup 27 = .ok (.getfield 239, 3) := by decide +kernel
theorem dX12_findGroup_30 : decode cX12_findGroup 30 = .ok (.iconst 1, 1) := by decide +kernel
theorem dX12_findGroup_31 : decode cX12_findGroup 31 = .ok (.iadd, 1) := by decide +kernel
theorem dX12_findGroup_32 : decode cX12_findGroup 32 = .ok (.putfield 236, 3) := by decide +kernel
theorem dX12_findGroup_35 : decode cX12_findGroup 35 = .ok (.aload_n 0, 1) := by decide +kernel
theorem dX12_findGroup_36 : decode cX12_findGroup 36 = .ok (.aload_n 0, 1) := by decide +kernel
theorem dX12_findGroup_37 : decode cX12_findGroup 37 = .ok (.iload_n 1, 1) := by decide +kernel
theorem dX12_findGroup_38 : decode cX12_findGroup 38 = .ok (.aload_n 0, 1) := by decide +kernel
theorem dX12_findGroup_39 : decode cX12_findGroup 39 = .ok (.getfield 236, 3) := by decide +kernel
theorem dX12_findGroup_42 : decode cX12_findGroup 42 = .ok (.invokevirtual 218, 3) := by decide +kernel
theorem dX12_findGroup_45 : decode cX12_findGroup 45 = .ok (.putfield 239, 3) := by decide +kernel
theorem dX12_findGroup_48 : decode cX12_findGroup 48 = .ok (.iinc 3 1, 3) := by decide +kernel
theorem dX12_findGroup_51 : decode cX12_findGroup 51 = .ok (.goto (-34), 3) := by decide +kernel
theorem dX12_findGroup_54 : decode cX12_findGroup 54 = .ok (.aload_n 0, 1) := by decide +kernel
theorem dX12_findGroup_55 : decode cX12_findGroup 55 = .ok (.aload_n 0, 1) := by decide +kernel
theorem dX12_findGroup_56 : decode cX12_findGroup 56 = .ok (.getfield 236, 3) := by decide +kernel
theorem dX12_findGroup_59 : decode cX12_findGroup 59 = .ok (.aload_n 0, 1) := by decide +kernel
theorem dX12_findGroup_60 : decode cX12_findGroup 60 = .ok (.getfield 239, 3) := by decide +kernel
theorem dX12_findGroup_63 : decode cX12_findGroup 63 = .ok (.invokevirtual 199, 3) := by decide +kernel
theorem dX12_findGroup_66 : decode cX12_findGroup 66 = .ok (.pop, 1) := by decide +kernel
theorem dX12_findGroup_67 : decode cX12_findGroup 67 = .ok (.iload_n 3, 1) := by decide +kernel
theorem dX12_findGroup_68 : decode cX12_findGroup 68 = .ok (.ireturn, 1) := by decide +kernel
theorem dX12_groupCount_0 : decode cX12_groupCount 0 = .ok (.aload_n 0, 1) := by decide +kernel
theorem dX12_groupCount_1 : decode cX12_groupCount 1 = .ok (.iload_n 1, 1) := by decide +kernel
theorem dX12_groupCount_2 : decode cX12_groupCount 2 = .ok (.iconst 0, 1) := by decide +kernel
theorem dX12_groupCount_3 : decode cX12_groupCount 3 = .ok (.iconst 2, 1) := by decide +kernel
theorem dX12_groupCount_4 : decode cX12_groupCount 4 = .ok (.invokestatic 53, 3) := by decide +kernel
theorem dX12_groupCount_7 : decode cX12_groupCount 7 = .ok (.ifCond .eq 7, 3) := by decide +kernel
theorem dX12_groupCount_10 : decode cX12_groupCount 10 = .ok (.iconst 0, 1) := by decide +kernel
theorem dX12_groupCount_11 : decode cX12_groupCount 11 = .ok (.goto 4, 3) := by decide +kernel
theorem dX12_groupCount_14 : decode cX12_groupCount 14 = .ok (.iconst 1, 1) := by decide +kernel
theorem dX12_groupCount_15 : decode cX12_groupCount 15 = .ok (.putfield 50, 3) := by decide +kernel
theorem dX12_groupCount_18 : decode cX12_groupCount 18 = .ok (.aload_n 0, 1) := by decide +kernel
theorem dX12_groupCount_19 : decode cX12_groupCount 19 = .ok (.getfield 50, 3) := by decide +kernel
theorem dX12_groupCount_22 : decode cX12_groupCount 22 = .ok (.ifCond .gt 10, 3) := by decide +kernel
theorem dX12_groupCount_25 : decode cX12_groupCount 25 = .ok (.aload_n 0, 1) := by decide +kernel
theorem dX12_groupCount_26 : decode cX12_groupCount 26 = .ok (.getfield 47, 3) := by decide +kernel
theorem dX12_groupCount_29 : decode cX12_groupCount 29 = .ok (.ifCond .ne 7, 3) := by decide +kernel
theorem dX12_groupCount_32 : decode cX12_groupCount 32 = .ok (.iconst 0, 1) := by decide +kernel
theorem dX12_groupCount_33 : decode cX12_groupCount 33 = .ok (.goto 11, 3) := by decide +kernel
theorem dX12_groupCount_36 : decode cX12_groupCount 36 = .ok (.aload_n 0, 1) := by decide +kernel
theorem dX12_groupCount_37 : decode cX12_groupCount 37 = .ok (.iload_n 1, 1) := by decide +kernel
theorem dX12_groupCount_38 : decode cX12_groupCount 38 = .ok (.invokevirtual 242, 3) := by decide +kernel
theorem dX12_groupCount_41 : decode cX12_groupCount 41 = .ok (.invokestatic 224, 3) := by decide +kernel
theorem dX12_groupCount_44 : decode cX12_groupCount 44 = .ok (.ireturn, 1) := by decide +kernel
theorem dX12_isAsked_0 : decode cX12_isAsked 0 = .ok (.aload_n 0, 1) := by decide +kernel
theorem dX12_isAsked_1 : decode cX12_isAsked 1 = .ok (.iload_n 1, 1) := by decide +kernel
theorem dX12_isAsked_2 : decode cX12_isAsked 2 = .ok (.iconst 0, 1) := by decide +kernel
theorem dX12_isAsked_3 : decode cX12_isAsked 3 = .ok (.iconst 2, 1) := by decide +kernel
theorem dX12_isAsked_4 : decode cX12_isAsked 4 = .ok (.invokestatic 53, 3) := by decide +kernel
theorem dX12_isAsked_7 : decode cX12_isAsked 7 = .ok (.ifCond .ne 7, 3) := by decide +kernel
theorem dX12_isAsked_10 : decode cX12_isAsked 10 = .ok (.iconst 1, 1) := by decide +kernel
theorem dX12_isAsked_11 : decode cX12_isAsked 11 = .ok (.goto 16, 3) := by decide +kernel
theorem dX12_isAsked_14 : decode cX12_isAsked 14 = .ok (.aload_n 0, 1) := by decide +kernel
theorem dX12_isAsked_15 : decode cX12_isAsked 15 = .ok (.iload_n 2, 1) := by decide +kernel
theorem dX12_isAsked_16 : decode cX12_isAsked 16 = .ok (.invokevirtual 139, 3) := by decide +kernel
theorem dX12_isAsked_19 : decode cX12_isAsked 19 = .ok (.ifCond .ne 7, 3) := by decide +kernel
theorem dX12_isAsked_22 : decode cX12_isAsked 22 = .ok (.iconst 2, 1) := by decide +kernel
theorem dX12_isAsked_23 : decode cX12_isAsked 23 = .ok (.goto 4, 3) := by decide +kernel
theorem dX12_isAsked_26 : decode cX12_isAsked 26 = .ok (.iconst 0, 1) := by decide +kernel
theorem dX12_isAsked_27 : decode cX12_isAsked 27 = .ok (.putfield 50, 3) := by decide +kernel
theorem dX12_isAsked_30 : decode cX12_isAsked 30 = .ok (.aload_n 0, 1) := by decide +kernel
theorem dX12_isAsked_31 : decode cX12_isAsked 31 = .ok (.getfield 50, 3) := by decide +kernel
theorem dX12_isAsked_34 : decode cX12_isAsked 34 = .ok (.ifCond .ne 7, 3) := by decide +kernel
theorem dX12_isAsked_37 : decode cX12_isAsked 37 = .ok (.iconst 1, 1) := by decide +kernel
theorem dX12_isAsked_38 : decode cX12_isAsked 38 = .ok (.goto 4, 3) := by decide +kernel
theorem dX12_isAsked_41 : decode cX12_isAsked 41 = .ok (.iconst 0, 1) := by decide +kernel
theorem dX12_isAsked_42 : decode cX12_isAsked 42 = .ok (.ireturn, 1) := by decide +kernel
theorem dX12_groupOf_0 : decode cX12_groupOf 0 = .ok (.aload_n 0, 1) := by decide +kernel
theorem dX12_groupOf_1 : decode cX12_groupOf 1 = .ok (.iload_n 1, 1) := by decide +kernel
theorem dX12_groupOf_2 : decode cX12_groupOf 2 = .ok (.iload_n 2, 1) := by decide +kernel
theorem dX12_groupOf_3 : decode cX12_groupOf 3 = .ok (.invokevirtual 245, 3) := by decide +kernel
theorem dX12_groupOf_6 : decode cX12_groupOf 6 = .ok (.ifCond .eq 16, 3) := by decide +kernel
theorem dX12_groupOf_9 : decode cX12_groupOf 9 = .ok (.aload_n 0, 1) := by decide +kernel
theorem dX12_groupOf_10 : decode cX12_groupOf 10 = .ok (.aload_n 0, 1) := by decide +kernel
theorem dX12_groupOf_11 : decode cX12_groupOf 11 = .ok (.iload_n 1, 1) := by decide +kernel
theorem dX12_groupOf_12 : decode cX12_groupOf 12 = .ok (.invokevirtual 242, 3) := by decide +kernel
theorem dX12_groupOf_15 : decode cX12_groupOf 15 = .ok (.iload_n 2, 1) := by decide +kernel
theorem dX12_groupOf_16 : decode cX12_groupOf 16 = .ok (.invokevirtual 248, 3) := by decide +kernel
theorem dX12_groupOf_19 : decode cX12_groupOf 19 = .ok (.goto 4, 3) := by decide +kernel
theorem dX12_groupOf_22 : decode cX12_groupOf 22 = .ok (.iconst 0, 1) := by decide +kernel
theorem dX12_groupOf_23 : decode cX12_groupOf 23 = .ok (.ireturn, 1) := by decide +kernel
theorem dX12_shift_0 : decode cX12_shift 0 = .ok (.aload_n 0, 1) := by decide +kernel
theorem dX12_shift_1 : decode cX12_shift 1 = .ok (.iload_n 1, 1) := by decide +kernel
theorem dX12_shift_2 : decode cX12_shift 2 = .ok (.iload_n 2, 1) := by decide +kernel
theorem dX12_shift_3 : decode cX12_shift 3 = .ok (.invokevirtual 245, 3) := by decide +kernel
theorem dX12_shift_6 : decode cX12_shift 6 = .ok (.ifCond .ne 5, 3) := by decide +kernel
theorem dX12_shift_9 : decode cX12_shift 9 = .ok (.iconst 0, 1) := by decide +kernel
theorem dX12_shift_10 : decode cX12_shift 10 = .ok (.ireturn, 1) := by decide +kernel
theorem dX12_shift_11 : decode cX12_shift 11 = .ok (.aload_n 0, 1) := by decide +kernel
theorem dX12_shift_12 : decode cX12_shift 12 = .ok (.aload_n 0, 1) := by decide +kernel
theorem dX12_shift_13 : decode cX12_shift 13 = .ok (.iload_n 1, 1) := by decide +kernel
theorem dX12_shift_14 : decode cX12_shift 14 = .ok (.invokevirtual 242, 3) := by decide +kernel
theorem dX12_shift_17 : decode cX12_shift 17 = .ok (.iload_n 2, 1) := by decide +kernel
theorem dX12_shift_18 : decode cX12_shift 18 = .ok (.invokevirtual 248, 3) := by decide +kernel
theorem dX12_shift_21 : decode cX12_shift 21 = .ok (.pop, 1) := by decide +kernel
theorem dX12_shift_22 : decode cX12_shift 22 = .ok (.aload_n 0, 1) := by decide +kernel
theorem dX12_shift_23 : decode cX12_shift 23 = .ok (.getfield 41, 3) := by decide +kernel
theorem dX12_shift_26 : decode cX12_shift 26 = .ok (.iload_n 2, 1) := by decide +kernel
theorem dX12_shift_27 : decode cX12_shift 27 = .ok (.iaload, 1) := by decide +kernel
theorem dX12_shift_28 : decode cX12_shift 28 = .ok (.ireturn, 1) := by decide +kernel
theorem dX12_findNumbered_0 : decode cX12_findNumbered 0 = .ok (.iconst 0, 1) := by decide +kernel
theorem dX12_findNumbered_1 : decode cX12_findNumbered 1 = .ok (.istore_n 3, 1) := by decide +kernel
theorem dX12_findNumbered_2 : decode cX12_findNumbered 2 = .ok (.iconst 0, 1) := by decide +kernel
theorem dX12_findNumbered_3 : decode cX12_findNumbered 3 = .ok (.istore 4, 2) := by decide +kernel
theorem dX12_findNumbered_5 : decode cX12_findNumbered 5 = .ok (.iload 4, 2) := by decide +kernel
theorem dX12_findNumbered_7 : decode cX12_findNumbered 7 = .ok (.iload_n 2, 1) := by decide +kernel
theorem dX12_findNumbered_8 : decode cX12_findNumbered 8 = .ok (.if_icmp .ge 26, 3) := by decide +kernel
theorem dX12_findNumbered_11 : decode cX12_findNumbered 11 = .ok (.iload_n 3, 1) := by decide +kernel
theorem dX12_findNumbered_12 : decode cX12_findNumbered 12 = .ok (.aload_n 0, 1) := by decide +kernel
theorem dX12_findNumbered_13 : decode cX12_findNumbered 13 = .ok (.getfield 47, 3) := by decide +kernel
theorem dX12_findNumbered_16 : decode cX12_findNumbered 16 = .ok (.if_icmp .ge 18, 3) := by decide +kernel
theorem dX12_findNumbered_19 : decode cX12_findNumbered 19 = .ok (.aload_n 0, 1) := by decide +kernel
theorem dX12_findNumbered_20 : decode cX12_findNumbered 20 = .ok (.iload_n 1, 1) := by decide +kernel
theorem dX12_findNumbered_21 : decode cX12_findNumbered 21 = .ok (.iload_n 3, 1) := by decide +kernel
theorem dX12_findNumbered_22 : decode cX12_findNumbered 22 = .ok (.invokevirtual 218, 3) := by decide +kernel
theorem dX12_findNumbered_25 : decode cX12_findNumbered 25 = .ok (.iconst 1, 1) := by decide +kernel
theorem dX12_findNumbered_26 : decode cX12_findNumbered 26 = .ok (.iadd, 1) := by decide +kernel
theorem dX12_findNumbered_27 : decode cX12_findNumbered 27 = .ok (.istore_n 3, 1) := by decide +kernel
theorem dX12_findNumbered_28 : decode cX12_findNumbered 28 = .ok (.iinc 4 1, 3) := by decide +kernel
theorem dX12_findNumbered_31 : decode cX12_findNumbered 31 = .ok (.goto (-26), 3) := by decide +kernel
theorem dX12_findNumbered_34 : decode cX12_findNumbered 34 = .ok (.iload_n 2, 1) := by decide +kernel
theorem dX12_findNumbered_35 : decode cX12_findNumbered 35 = .ok (.ifCond .lt 15, 3) := by decide +kernel
theorem dX12_findNumbered_38 : decode cX12_findNumbered 38 = .ok (.iload_n 3, 1) := by decide +kernel
theorem dX12_findNumbered_39 : decode cX12_findNumbered 39 = .ok (.aload_n 0, 1) := by decide +kernel
theorem dX12_findNumbered_40 : decode cX12_findNumbered 40 = .ok (.getfield 47, 3) := by decide +kernel
theorem dX12_findNumbered_43 : decode cX12_findNumbered 43 = .ok (.if_icmp .ge 7, 3) := by decide +kernel
theorem dX12_findNumbered_46 : decode cX12_findNumbered 46 = .ok (.iconst 1, 1) := by decide +kernel
theorem dX12_findNumbered_47 : decode cX12_findNumbered 47 = .ok (.goto 4, 3) := by decide +kernel
theorem dX12_findNumbered_50 : decode cX12_findNumbered 50 = .ok (.iconst 0, 1) := by decide +kernel
theorem dX12_findNumbered_51 : decode cX12_findNumbered 51 = .ok (.istore 4, 2) := by decide +kernel
theorem dX12_findNumbered_53 : decode cX12_findNumbered 53 = .ok (.iload 4, 2) := by decide +kernel
theorem dX12_findNumbered_55 : decode cX12_findNumbered 55 = .ok (.ifCond .eq 10, 3) := by decide +kernel
theorem dX12_findNumbered_58 : decode cX12_findNumbered 58 = .ok (.aload_n 0, 1) := by decide +kernel
theorem dX12_findNumbered_59 : decode cX12_findNumbered 59 = .ok (.iload_n 1, 1) := by decide +kernel
theorem dX12_findNumbered_60 : decode cX12_findNumbered 60 = .ok (.iload_n 3, 1) := by decide +kernel
theorem dX12_findNumbered_61 : decode cX12_findNumbered 61 = .ok (.invokevirtual 248, 3) := by decide +kernel
theorem dX12_findNumbered_64 : decode cX12_findNumbered 64 = .ok (.pop, 1) := by decide +kernel
theorem dX12_findNumbered_65 : decode cX12_findNumbered 65 = .ok (.iload 4, 2) := by decide +kernel
theorem dX12_findNumbered_67 : decode cX12_findNumbered 67 = .ok (.ireturn, 1) := by decide +kernel
theorem dX12_mainFirst_0 : decode cX12_mainFirst 0 = .ok (.sipush (-1000), 3) := by decide +kernel
theorem dX12_mainFirst_3 : decode cX12_mainFirst 3 = .ok (.istore_n 1, 1) := by decide +kernel
theorem dX12_mainFirst_4 : decode cX12_mainFirst 4 = .ok (.aload_n 0, 1) := by decide +kernel
theorem dX12_mainFirst_5 : decode cX12_mainFirst 5 = .ok (.getfield 236, 3) := by decide +kernel
theorem dX12_mainFirst_8 : decode cX12_mainFirst 8 = .ok (.istore_n 2, 1) := by decide +kernel
theorem dX12_mainFirst_9 : decode cX12_mainFirst 9 = .ok (.iload_n 2, 1) := by decide +kernel
theorem dX12_mainFirst_10 : decode cX12_mainFirst 10 = .ok (.aload_n 0, 1) := by decide +kernel
theorem dX12_mainFirst_11 : decode cX12_mainFirst 11 = .ok (.getfield 239, 3) := by decide +kernel
theorem dX12_mainFirst_14 : decode cX12_mainFirst 14 = .ok (.if_icmp .gt 27, 3) := by decide +kernel
theorem dX12_mainFirst_17 : decode cX12_mainFirst 17 = .ok (.iload_n 1, 1) := by decide +kernel
theorem dX12_mainFirst_18 : decode cX12_mainFirst 18 = .ok (.aload_n 0, 1) := by decide +kernel
theorem dX12_mainFirst_19 : decode cX12_mainFirst 19 = .ok (.getfield 41, 3) := by decide +kernel
theorem dX12_mainFirst_22 : decode cX12_mainFirst 22 = .ok (.iload_n 2, 1) := by decide +kernel
theorem dX12_mainFirst_23 : decode cX12_mainFirst 23 = .ok (.iaload, 1) := by decide +kernel
theorem dX12_mainFirst_24 : decode cX12_mainFirst 24 = .ok (.aload_n 0, 1) := by decide +kernel
theorem dX12_mainFirst_25 : decode cX12_mainFirst 25 = .ok (.iload_n 2, 1) := by decide +kernel
theorem dX12_mainFirst_26 : decode cX12_mainFirst 26 = .ok (.iconst 0, 1) := by decide +kernel
theorem dX12_mainFirst_27 : decode cX12_mainFirst 27 = .ok (.invokevirtual 57, 3) := by decide +kernel
theorem dX12_mainFirst_30 : decode cX12_mainFirst 30 = .ok (.iadd, 1) := by decide +kernel
theorem dX12_mainFirst_31 : decode cX12_mainFirst 31 = .ok (.invokestatic 151, 3) := by decide +kernel
theorem dX12_mainFirst_34 : decode cX12_mainFirst 34 = .ok (.istore_n 1, 1) := by decide +kernel
theorem dX12_mainFirst_35 : decode cX12_mainFirst 35 = .ok (.iinc 2 1, 3) := by decide +kernel
theorem dX12_mainFirst_38 : decode cX12_mainFirst 38 = .ok (.goto (-29), 3) := by decide +kernel
theorem dX12_mainFirst_41 : decode cX12_mainFirst 41 = .ok (.iload_n 1, 1) := by decide +kernel
theorem dX12_mainFirst_42 : decode cX12_mainFirst 42 = .ok (.ireturn, 1) := by decide +kernel
theorem dX12_mainLast_0 : decode cX12_mainLast 0 = .ok (.sipush 1000, 3) := by decide +kernel
theorem dX12_mainLast_3 : decode cX12_mainLast 3 = .ok (.istore_n 1, 1) := by decide +kernel
theorem dX12_mainLast_4 : decode cX12_mainLast 4 = .ok (.aload_n 0, 1) := by decide +kernel
theorem dX12_mainLast_5 : decode cX12_mainLast 5 = .ok (.getfield 236, 3) := by decide +kernel
theorem dX12_mainLast_8 : decode cX12_mainLast 8 = .ok (.istore_n 2, 1) := by decide +kernel
theorem dX12_mainLast_9 : decode cX12_mainLast 9 = .ok (.iload_n 2, 1) := by decide +kernel
theorem dX12_mainLast_10 : decode cX12_mainLast 10 = .ok (.aload_n 0, 1) := by decide +kernel
theorem dX12_mainLast_11 : decode cX12_mainLast 11 = .ok (.getfield 239, 3) := by decide +kernel
theorem dX12_mainLast_14 : decode cX12_mainLast 14 = .ok (.if_icmp .gt 27, 3) := by decide +kernel
theorem dX12_mainLast_17 : decode cX12_mainLast 17 = .ok (.iload_n 1, 1) := by decide +kernel
theorem dX12_mainLast_18 : decode cX12_mainLast 18 = .ok (.aload_n 0, 1) := by decide +kernel
theorem dX12_mainLast_19 : decode cX12_mainLast 19 = .ok (.getfield 41, 3) := by decide +kernel
theorem dX12_mainLast_22 : decode cX12_mainLast 22 = .ok (.iload_n 2, 1) := by decide +kernel
theorem dX12_mainLast_23 : decode cX12_mainLast 23 = .ok (.iaload, 1) := by decide +kernel
theorem dX12_mainLast_24 : decode cX12_mainLast 24 = .ok (.aload_n 0, 1) := by decide +kernel
theorem dX12_mainLast_25 : decode cX12_mainLast 25 = .ok (.iload_n 2, 1) := by decide +kernel
theorem dX12_mainLast_26 : decode cX12_mainLast 26 = .ok (.iconst 1, 1) := by decide +kernel
theorem dX12_mainLast_27 : decode cX12_mainLast 27 = .ok (.invokevirtual 57, 3) := by decide +kernel
theorem dX12_mainLast_30 : decode cX12_mainLast 30 = .ok (.iadd, 1) := by decide +kernel
theorem dX12_mainLast_31 : decode cX12_mainLast 31 = .ok (.invokestatic 202, 3) := by decide +kernel
theorem dX12_mainLast_34 : decode cX12_mainLast 34 = .ok (.istore_n 1, 1) := by decide +kernel
theorem dX12_mainLast_35 : decode cX12_mainLast 35 = .ok (.iinc 2 1, 3) := by decide +kernel
theorem dX12_mainLast_38 : decode cX12_mainLast 38 = .ok (.goto (-29), 3) := by decide +kernel
theorem dX12_mainLast_41 : decode cX12_mainLast 41 = .ok (.iload_n 1, 1) := by decide +kernel
theorem dX12_mainLast_42 : decode cX12_mainLast 42 = .ok (.ireturn, 1) := by decide +kernel
theorem dX12_step_0 : decode cX12_step 0 = .ok (.aload_n 0, 1) := by decide +kernel
theorem dX12_step_1 : decode cX12_step 1 = .ok (.iconst 0, 1) := by decide +kernel
theorem dX12_step_2 : decode cX12_step 2 = .ok (.putfield 50, 3) := by decide +kernel
theorem dX12_step_5 : decode cX12_step 5 = .ok (.iload_n 1, 1) := by decide +kernel
theorem dX12_step_6 : decode cX12_step 6 = .ok (.iconst 0, 1) := by decide +kernel
theorem dX12_step_7 : decode cX12_step 7 = .ok (.iconst 2, 1) := by decide +kernel
theorem dX12_step_8 : decode cX12_step 8 = .ok (.invokestatic 53, 3) := by decide +kernel
theorem dX12_step_11 : decode cX12_step 11 = .ok (.ifCond .eq 12, 3) := by decide +kernel
theorem dX12_step_14 : decode cX12_step 14 = .ok (.iload_n 3, 1) := by decide +kernel
theorem dX12_step_15 : decode cX12_step 15 = .ok (.iconst 0, 1) := by decide +kernel
theorem dX12_step_16 : decode cX12_step 16 = .ok (.iconst 3, 1) := by decide +kernel
theorem dX12_step_17 : decode cX12_step 17 = .ok (.invokestatic 53, 3) := by decide +kernel
theorem dX12_step_20 : decode cX12_step 20 = .ok (.ifCond .ne 9, 3) := by decide +kernel
theorem dX12_step_23 : decode cX12_step 23 = .ok (.aload_n 0, 1) := by decide +kernel
theorem dX12_step_24 : decode cX12_step 24 = .ok (.iconst 1, 1) := by decide +kernel
theorem dX12_step_25 : decode cX12_step 25 = .ok (.invokevirtual 61, 3) := by decide +kernel
theorem dX12_step_28 : decode cX12_step 28 = .ok (.ireturn, 1) := by decide +kernel
theorem dX12_step_29 : decode cX12_step 29 = .ok (.aload_n 0, 1) := by decide +kernel
theorem dX12_step_30 : decode cX12_step 30 = .ok (.aload_n 0, 1) := by decide +kernel
theorem dX12_step_31 : decode cX12_step 31 = .ok (.iload_n 1, 1) := by decide +kernel
theorem dX12_step_32 : decode cX12_step 32 = .ok (.invokevirtual 242, 3) := by decide +kernel
theorem dX12_step_35 : decode cX12_step 35 = .ok (.iload_n 2, 1) := by decide +kernel
theorem dX12_step_36 : decode cX12_step 36 = .ok (.invokevirtual 251, 3) := by decide +kernel
theorem dX12_step_39 : decode cX12_step 39 = .ok (.ifCond .ne 9, 3) := by decide +kernel
theorem dX12_step_42 : decode cX12_step 42 = .ok (.aload_n 0, 1) := by decide +kernel
theorem dX12_step_43 : decode cX12_step 43 = .ok (.iconst 2, 1) := by decide +kernel
theorem dX12_step_44 : decode cX12_step 44 = .ok (.invokevirtual 61, 3) := by decide +kernel
theorem dX12_step_47 : decode cX12_step 47 = .ok (.ireturn, 1) := by decide +kernel
theorem dX12_step_48 : decode cX12_step 48 = .ok (.iload_n 3, 1) := by decide +kernel
theorem dX12_step_49 : decode cX12_step 49 = .ok (.iconst 2, 1) := by decide +kernel
theorem dX12_step_50 : decode cX12_step 50 = .ok (.if_icmp .ge 25, 3) := by decide +kernel
theorem dX12_step_53 : decode cX12_step 53 = .ok (.aload_n 0, 1) := by decide +kernel
theorem dX12_step_54 : decode cX12_step 54 = .ok (.aload_n 0, 1) := by decide +kernel
theorem dX12_step_55 : decode cX12_step 55 = .ok (.getfield 236, 3) := by decide +kernel
theorem dX12_step_58 : decode cX12_step 58 = .ok (.aload_n 0, 1) := by decide +kernel
theorem dX12_step_59 : decode cX12_step 59 = .ok (.getfield 239, 3) := by decide +kernel
theorem dX12_step_62 : decode cX12_step 62 = .ok (.iload_n 3, 1) := by decide +kernel
theorem dX12_step_63 : decode cX12_step 63 = .ok (.ifCond .ne 7, 3) := by decide +kernel
theorem dX12_step_66 : decode cX12_step 66 = .ok (.iconst 1, 1) := by decide +kernel
theorem dX12_step_67 : decode cX12_step 67 = .ok (.goto 4, 3) := by decide +kernel
theorem dX12_step_70 : decode cX12_step 70 = .ok (.iconst 0, 1) := by decide +kernel
theorem dX12_step_71 : decode cX12_step 71 = .ok (.invokevirtual 205, 3) := by decide +kernel
theorem dX12_step_74 : decode cX12_step 74 = .ok (.ireturn, 1) := by decide +kernel
theorem dX12_step_75 : decode cX12_step 75 = .ok (.aload_n 0, 1) := by decide +kernel
theorem dX12_step_76 : decode cX12_step 76 = .ok (.invokevirtual 254, 3) := by decide +kernel
theorem dX12_step_79 : decode cX12_step 79 = .ok (.aload_n 0, 1) := by decide +kernel
theorem dX12_step_80 : decode cX12_step 80 = .ok (.invokevirtual 257, 3) := by decide +kernel
theorem dX12_step_83 : decode cX12_step 83 = .ok (.if_icmp .le 9, 3) := by decide +kernel
theorem dX12_step_86 : decode cX12_step 86 = .ok (.aload_n 0, 1) := by decide +kernel
theorem dX12_step_87 : decode cX12_step 87 = .ok (.iconst 3, 1) := by decide +kernel
theorem dX12_step_88 : decode cX12_step 88 = .ok (.invokevirtual 61, 3) := by decide +kernel
theorem dX12_step_91 : decode cX12_step 91 = .ok (.ireturn, 1) := by decide +kernel
theorem dX12_step_92 : decode cX12_step 92 = .ok (.iload_n 3, 1) := by decide +kernel
theorem dX12_step_93 : decode cX12_step 93 = .ok (.iconst 2, 1) := by decide +kernel
theorem dX12_step_94 : decode cX12_step 94 = .ok (.if_icmp .ne 10, 3) := by decide +kernel
theorem dX12_step_97 : decode cX12_step 97 = .ok (.aload_n 0, 1) := by decide +kernel
theorem dX12_step_98 : decode cX12_step 98 = .ok (.invokevirtual 254, 3) := by decide +kernel
theorem dX12_step_101 : decode cX12_step 101 = .ok (.goto 7, 3) := by decide +kernel
theorem dX12_step_104 : decode cX12_step 104 = .ok (.aload_n 0, 1) := by decide +kernel
theorem dX12_step_105 : decode cX12_step 105 = .ok (.invokevirtual 257, 3) := by decide +kernel
theorem dX12_step_108 : decode cX12_step 108 = .ok (.ireturn, 1) := by decide +kernel
theorem dX12_peeled_0 : decode cX12_peeled 0 = .ok (.aload_n 0, 1) := by decide +kernel
theorem dX12_peeled_1 : decode cX12_peeled 1 = .ok (.iconst 0, 1) := by decide +kernel
theorem dX12_peeled_2 : decode cX12_peeled 2 = .ok (.putfield 50, 3) := by decide +kernel
theorem dX12_peeled_5 : decode cX12_peeled 5 = .ok (.iload_n 1, 1) := by decide +kernel
theorem dX12_peeled_6 : decode cX12_peeled 6 = .ok (.iconst 0, 1) := by decide +kernel
theorem dX12_peeled_7 : decode cX12_peeled 7 = .ok (.iconst 2, 1) := by decide +kernel
theorem dX12_peeled_8 : decode cX12_peeled 8 = .ok (.invokestatic 53, 3) := by decide +kernel
theorem dX12_peeled_11 : decode cX12_peeled 11 = .ok (.ifCond .eq 12, 3) := by decide +kernel
theorem dX12_peeled_14 : decode cX12_peeled 14 = .ok (.iload_n 3, 1) := by decide +kernel
theorem dX12_peeled_15 : decode cX12_peeled 15 = .ok (.iconst 0, 1) := by decide +kernel
theorem dX12_peeled_16 : decode cX12_peeled 16 = .ok (.iconst 1, 1) := by decide +kernel
theorem dX12_peeled_17 : decode cX12_peeled 17 = .ok (.invokestatic 53, 3) := by decide +kernel
theorem dX12_peeled_20 : decode cX12_peeled 20 = .ok (.ifCond .ne 9, 3) := by decide +kernel
theorem dX12_peeled_23 : decode cX12_peeled 23 = .ok (.aload_n 0, 1) := by decide +kernel
theorem dX12_peeled_24 : decode cX12_peeled 24 = .ok (.iconst 1, 1) := by decide +kernel
theorem dX12_peeled_25 : decode cX12_peeled 25 = .ok (.invokevirtual 61, 3) := by decide +kernel
theorem dX12_peeled_28 : decode cX12_peeled 28 = .ok (.ireturn, 1) := by decide +kernel
theorem dX12_peeled_29 : decode cX12_peeled 29 = .ok (.aload_n 0, 1) := by decide +kernel
theorem dX12_peeled_30 : decode cX12_peeled 30 = .ok (.iload_n 2, 1) := by decide +kernel
theorem dX12_peeled_31 : decode cX12_peeled 31 = .ok (.invokevirtual 139, 3) := by decide +kernel
theorem dX12_peeled_34 : decode cX12_peeled 34 = .ok (.ifCond .ne 9, 3) := by decide +kernel
theorem dX12_peeled_37 : decode cX12_peeled 37 = .ok (.aload_n 0, 1) := by decide +kernel
theorem dX12_peeled_38 : decode cX12_peeled 38 = .ok (.iconst 2, 1) := by decide +kernel
theorem dX12_peeled_39 : decode cX12_peeled 39 = .ok (.invokevirtual 61, 3) := by decide +kernel
theorem dX12_peeled_42 : decode cX12_peeled 42 = .ok (.ireturn, 1) := by decide +kernel
theorem dX12_peeled_43 : decode cX12_peeled 43 = .ok (.aload_n 0, 1) := by decide +kernel
theorem dX12_peeled_44 : decode cX12_peeled 44 = .ok (.aload_n 0, 1) := by decide +kernel
theorem dX12_peeled_45 : decode cX12_peeled 45 = .ok (.iload_n 1, 1) := by decide +kernel
theorem dX12_peeled_46 : decode cX12_peeled 46 = .ok (.invokevirtual 242, 3) := by decide +kernel
theorem dX12_peeled_49 : decode cX12_peeled 49 = .ok (.iload_n 2, 1) := by decide +kernel
theorem dX12_peeled_50 : decode cX12_peeled 50 = .ok (.invokevirtual 248, 3) := by decide +kernel
theorem dX12_peeled_53 : decode cX12_peeled 53 = .ok (.pop, 1) := by decide +kernel
theorem dX12_peeled_54 : decode cX12_peeled 54 = .ok (.aload_n 0, 1) := by decide +kernel
theorem dX12_peeled_55 : decode cX12_peeled 55 = .ok (.getfield 41, 3) := by decide +kernel
theorem dX12_peeled_58 : decode cX12_peeled 58 = .ok (.iload_n 2, 1) := by decide +kernel
