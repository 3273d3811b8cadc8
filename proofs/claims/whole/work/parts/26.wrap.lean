theorem wd506 : Cond.classLink "LoopFuserLaw" 13 "java/lang/IllegalArgumentException" ∈ WT := wt_of (i := 506) (by decide +kernel) (by decide +kernel)
theorem wd507 : Cond.classLink "LoopFuserLaw" 15 "java/lang/IllegalStateException" ∈ WT := wt_of (i := 507) (by decide +kernel) (by decide +kernel)
theorem wd508 : Cond.methodLink "LoopFuserLaw" 7 ⟨"LoopFuser", "append", "(I)I"⟩ ∈ WT := wt_of (i := 508) (by decide +kernel) (by decide +kernel)
theorem wd509 : Cond.instanceMethod ⟨"LoopFuser", "append", "(I)I"⟩ ∈ WT := wt_of (i := 509) (by decide +kernel) (by decide +kernel)
theorem wd510 : Cond.selects "LoopFuser" ⟨"LoopFuser", "append", "(I)I"⟩ ⟨"LoopFuser", "append", "(I)I"⟩ ∈ WT := wt_of (i := 510) (by decide +kernel) (by decide +kernel)
theorem wd511 : Cond.code ⟨"LoopFuser", "append", "(I)I"⟩ prog_1_method_2_code 5 (Option.some Jvm.ClassFile.FieldType.int) ∈ WT := wt_of (i := 511) (by decide +kernel) (by decide +kernel)
theorem wd604 : Cond.methodLink "LoopFuserLaw" 17 ⟨"LoopFuser", "read", "()I"⟩ ∈ WT := wt_of (i := 604) (by decide +kernel) (by decide +kernel)
theorem wd605 : Cond.instanceMethod ⟨"LoopFuser", "read", "()I"⟩ ∈ WT := wt_of (i := 605) (by decide +kernel) (by decide +kernel)
theorem wd606 : Cond.selects "LoopFuser" ⟨"LoopFuser", "read", "()I"⟩ ⟨"LoopFuser", "read", "()I"⟩ ∈ WT := wt_of (i := 606) (by decide +kernel) (by decide +kernel)
theorem wd607 : Cond.code ⟨"LoopFuser", "read", "()I"⟩ prog_1_method_3_code 2 (Option.some Jvm.ClassFile.FieldType.int) ∈ WT := wt_of (i := 607) (by decide +kernel) (by decide +kernel)
theorem wd756 : Cond.classLink "LoopFuserLaw" 24 "java/lang/IndexOutOfBoundsException" ∈ WT := wt_of (i := 756) (by decide +kernel) (by decide +kernel)
theorem wd757 : Cond.methodLink "LoopFuserLaw" 21 ⟨"LoopFuser", "removeLoop", "(I)I"⟩ ∈ WT := wt_of (i := 757) (by decide +kernel) (by decide +kernel)
theorem wd758 : Cond.instanceMethod ⟨"LoopFuser", "removeLoop", "(I)I"⟩ ∈ WT := wt_of (i := 758) (by decide +kernel) (by decide +kernel)
theorem wd759 : Cond.selects "LoopFuser" ⟨"LoopFuser", "removeLoop", "(I)I"⟩ ⟨"LoopFuser", "removeLoop", "(I)I"⟩ ∈ WT := wt_of (i := 759) (by decide +kernel) (by decide +kernel)
theorem wd760 : Cond.code ⟨"LoopFuser", "removeLoop", "(I)I"⟩ prog_1_method_5_code 2 (Option.some Jvm.ClassFile.FieldType.int) ∈ WT := wt_of (i := 760) (by decide +kernel) (by decide +kernel)
theorem wd793 : Cond.methodLink "LoopFuserLaw" 26 ⟨"LoopFuser", "bound", "(II)I"⟩ ∈ WT := wt_of (i := 793) (by decide +kernel) (by decide +kernel)
theorem wd794 : Cond.instanceMethod ⟨"LoopFuser", "bound", "(II)I"⟩ ∈ WT := wt_of (i := 794) (by decide +kernel) (by decide +kernel)
theorem wd795 : Cond.selects "LoopFuser" ⟨"LoopFuser", "bound", "(II)I"⟩ ⟨"LoopFuser", "bound", "(II)I"⟩ ∈ WT := wt_of (i := 795) (by decide +kernel) (by decide +kernel)
theorem wd796 : Cond.code ⟨"LoopFuser", "bound", "(II)I"⟩ prog_1_method_7_code 4 (Option.some Jvm.ClassFile.FieldType.int) ∈ WT := wt_of (i := 796) (by decide +kernel) (by decide +kernel)
theorem wd809 : Cond.methodLink "LoopFuserLaw" 30 ⟨"LoopFuser", "setBound", "(III)I"⟩ ∈ WT := wt_of (i := 809) (by decide +kernel) (by decide +kernel)
theorem wd810 : Cond.instanceMethod ⟨"LoopFuser", "setBound", "(III)I"⟩ ∈ WT := wt_of (i := 810) (by decide +kernel) (by decide +kernel)
theorem wd811 : Cond.selects "LoopFuser" ⟨"LoopFuser", "setBound", "(III)I"⟩ ⟨"LoopFuser", "setBound", "(III)I"⟩ ∈ WT := wt_of (i := 811) (by decide +kernel) (by decide +kernel)
theorem wd812 : Cond.code ⟨"LoopFuser", "setBound", "(III)I"⟩ prog_1_method_8_code 8 (Option.some Jvm.ClassFile.FieldType.int) ∈ WT := wt_of (i := 812) (by decide +kernel) (by decide +kernel)
theorem wd821 : Cond.methodLink "LoopFuserLaw" 34 ⟨"LoopFuser", "statementCount", "(I)I"⟩ ∈ WT := wt_of (i := 821) (by decide +kernel) (by decide +kernel)
theorem wd822 : Cond.instanceMethod ⟨"LoopFuser", "statementCount", "(I)I"⟩ ∈ WT := wt_of (i := 822) (by decide +kernel) (by decide +kernel)
theorem wd823 : Cond.selects "LoopFuser" ⟨"LoopFuser", "statementCount", "(I)I"⟩ ⟨"LoopFuser", "statementCount", "(I)I"⟩ ∈ WT := wt_of (i := 823) (by decide +kernel) (by decide +kernel)
theorem wd824 : Cond.code ⟨"LoopFuser", "statementCount", "(I)I"⟩ prog_1_method_9_code 2 (Option.some Jvm.ClassFile.FieldType.int) ∈ WT := wt_of (i := 824) (by decide +kernel) (by decide +kernel)
theorem wd828 : Cond.methodLink "LoopFuserLaw" 37 ⟨"LoopFuser", "referenceCount", "(I)I"⟩ ∈ WT := wt_of (i := 828) (by decide +kernel) (by decide +kernel)
theorem wd829 : Cond.instanceMethod ⟨"LoopFuser", "referenceCount", "(I)I"⟩ ∈ WT := wt_of (i := 829) (by decide +kernel) (by decide +kernel)
theorem wd830 : Cond.selects "LoopFuser" ⟨"LoopFuser", "referenceCount", "(I)I"⟩ ⟨"LoopFuser", "referenceCount", "(I)I"⟩ ∈ WT := wt_of (i := 830) (by decide +kernel) (by decide +kernel)
theorem wd831 : Cond.code ⟨"LoopFuser", "referenceCount", "(I)I"⟩ prog_1_method_10_code 2 (Option.some Jvm.ClassFile.FieldType.int) ∈ WT := wt_of (i := 831) (by decide +kernel) (by decide +kernel)
theorem wd835 : Cond.methodLink "LoopFuserLaw" 40 ⟨"LoopFuser", "reference", "(III)I"⟩ ∈ WT := wt_of (i := 835) (by decide +kernel) (by decide +kernel)
theorem wd836 : Cond.instanceMethod ⟨"LoopFuser", "reference", "(III)I"⟩ ∈ WT := wt_of (i := 836) (by decide +kernel) (by decide +kernel)
theorem wd837 : Cond.selects "LoopFuser" ⟨"LoopFuser", "reference", "(III)I"⟩ ⟨"LoopFuser", "reference", "(III)I"⟩ ∈ WT := wt_of (i := 837) (by decide +kernel) (by decide +kernel)
theorem wd838 : Cond.code ⟨"LoopFuser", "reference", "(III)I"⟩ prog_1_method_11_code 5 (Option.some Jvm.ClassFile.FieldType.int) ∈ WT := wt_of (i := 838) (by decide +kernel) (by decide +kernel)
theorem wd848 : Cond.methodLink "LoopFuserLaw" 43 ⟨"LoopFuser", "operators", "(III)I"⟩ ∈ WT := wt_of (i := 848) (by decide +kernel) (by decide +kernel)
theorem wd849 : Cond.instanceMethod ⟨"LoopFuser", "operators", "(III)I"⟩ ∈ WT := wt_of (i := 849) (by decide +kernel) (by decide +kernel)
theorem wd850 : Cond.selects "LoopFuser" ⟨"LoopFuser", "operators", "(III)I"⟩ ⟨"LoopFuser", "operators", "(III)I"⟩ ∈ WT := wt_of (i := 850) (by decide +kernel) (by decide +kernel)
theorem wd851 : Cond.code ⟨"LoopFuser", "operators", "(III)I"⟩ prog_1_method_12_code 5 (Option.some Jvm.ClassFile.FieldType.int) ∈ WT := wt_of (i := 851) (by decide +kernel) (by decide +kernel)
theorem wd865 : Cond.methodLink "LoopFuserLaw" 46 ⟨"LoopFuser", "height", "(II)I"⟩ ∈ WT := wt_of (i := 865) (by decide +kernel) (by decide +kernel)
theorem wd866 : Cond.instanceMethod ⟨"LoopFuser", "height", "(II)I"⟩ ∈ WT := wt_of (i := 866) (by decide +kernel) (by decide +kernel)
theorem wd867 : Cond.selects "LoopFuser" ⟨"LoopFuser", "height", "(II)I"⟩ ⟨"LoopFuser", "height", "(II)I"⟩ ∈ WT := wt_of (i := 867) (by decide +kernel) (by decide +kernel)
theorem wd868 : Cond.code ⟨"LoopFuser", "height", "(II)I"⟩ prog_1_method_13_code 3 (Option.some Jvm.ClassFile.FieldType.int) ∈ WT := wt_of (i := 868) (by decide +kernel) (by decide +kernel)
theorem wd872 : Cond.methodLink "LoopFuserLaw" 49 ⟨"LoopFuser", "value", "(III)I"⟩ ∈ WT := wt_of (i := 872) (by decide +kernel) (by decide +kernel)
theorem wd873 : Cond.instanceMethod ⟨"LoopFuser", "value", "(III)I"⟩ ∈ WT := wt_of (i := 873) (by decide +kernel) (by decide +kernel)
theorem wd874 : Cond.selects "LoopFuser" ⟨"LoopFuser", "value", "(III)I"⟩ ⟨"LoopFuser", "value", "(III)I"⟩ ∈ WT := wt_of (i := 874) (by decide +kernel) (by decide +kernel)
theorem wd875 : Cond.code ⟨"LoopFuser", "value", "(III)I"⟩ prog_1_method_14_code 6 (Option.some Jvm.ClassFile.FieldType.int) ∈ WT := wt_of (i := 875) (by decide +kernel) (by decide +kernel)
theorem wd903 : Cond.methodLink "LoopFuserLaw" 52 ⟨"LoopFuser", "setOption", "(II)I"⟩ ∈ WT := wt_of (i := 903) (by decide +kernel) (by decide +kernel)
theorem wd904 : Cond.instanceMethod ⟨"LoopFuser", "setOption", "(II)I"⟩ ∈ WT := wt_of (i := 904) (by decide +kernel) (by decide +kernel)
theorem wd905 : Cond.selects "LoopFuser" ⟨"LoopFuser", "setOption", "(II)I"⟩ ⟨"LoopFuser", "setOption", "(II)I"⟩ ∈ WT := wt_of (i := 905) (by decide +kernel) (by decide +kernel)
theorem wd906 : Cond.code ⟨"LoopFuser", "setOption", "(II)I"⟩ prog_1_method_15_code 4 (Option.some Jvm.ClassFile.FieldType.int) ∈ WT := wt_of (i := 906) (by decide +kernel) (by decide +kernel)
theorem wd916 : Cond.methodLink "LoopFuserLaw" 55 ⟨"LoopFuser", "setBarrier", "(IZ)Z"⟩ ∈ WT := wt_of (i := 916) (by decide +kernel) (by decide +kernel)
theorem wd917 : Cond.instanceMethod ⟨"LoopFuser", "setBarrier", "(IZ)Z"⟩ ∈ WT := wt_of (i := 917) (by decide +kernel) (by decide +kernel)
theorem wd918 : Cond.selects "LoopFuser" ⟨"LoopFuser", "setBarrier", "(IZ)Z"⟩ ⟨"LoopFuser", "setBarrier", "(IZ)Z"⟩ ∈ WT := wt_of (i := 918) (by decide +kernel) (by decide +kernel)
theorem wd919 : Cond.code ⟨"LoopFuser", "setBarrier", "(IZ)Z"⟩ prog_1_method_16_code 4 (Option.some Jvm.ClassFile.FieldType.boolean) ∈ WT := wt_of (i := 919) (by decide +kernel) (by decide +kernel)
theorem wd927 : Cond.methodLink "LoopFuserLaw" 59 ⟨"LoopFuser", "dependenceCount", "(II)I"⟩ ∈ WT := wt_of (i := 927) (by decide +kernel) (by decide +kernel)
theorem wd928 : Cond.instanceMethod ⟨"LoopFuser", "dependenceCount", "(II)I"⟩ ∈ WT := wt_of (i := 928) (by decide +kernel) (by decide +kernel)
theorem wd929 : Cond.selects "LoopFuser" ⟨"LoopFuser", "dependenceCount", "(II)I"⟩ ⟨"LoopFuser", "dependenceCount", "(II)I"⟩ ∈ WT := wt_of (i := 929) (by decide +kernel) (by decide +kernel)
theorem wd930 : Cond.code ⟨"LoopFuser", "dependenceCount", "(II)I"⟩ prog_1_method_17_code 3 (Option.some Jvm.ClassFile.FieldType.int) ∈ WT := wt_of (i := 930) (by decide +kernel) (by decide +kernel)
theorem wd955 : Cond.classLink "LoopFuserLaw" 66 "java/util/NoSuchElementException" ∈ WT := wt_of (i := 955) (by decide +kernel) (by decide +kernel)
theorem wd956 : Cond.methodLink "LoopFuserLaw" 62 ⟨"LoopFuser", "dependence", "(IIII)I"⟩ ∈ WT := wt_of (i := 956) (by decide +kernel) (by decide +kernel)
theorem wd957 : Cond.instanceMethod ⟨"LoopFuser", "dependence", "(IIII)I"⟩ ∈ WT := wt_of (i := 957) (by decide +kernel) (by decide +kernel)
theorem wd958 : Cond.selects "LoopFuser" ⟨"LoopFuser", "dependence", "(IIII)I"⟩ ⟨"LoopFuser", "dependence", "(IIII)I"⟩ ∈ WT := wt_of (i := 958) (by decide +kernel) (by decide +kernel)
theorem wd959 : Cond.code ⟨"LoopFuser", "dependence", "(IIII)I"⟩ prog_1_method_18_code 5 (Option.some Jvm.ClassFile.FieldType.int) ∈ WT := wt_of (i := 959) (by decide +kernel) (by decide +kernel)
theorem wd980 : Cond.methodLink "LoopFuserLaw" 68 ⟨"LoopFuser", "required", "(II)I"⟩ ∈ WT := wt_of (i := 980) (by decide +kernel) (by decide +kernel)
theorem wd981 : Cond.instanceMethod ⟨"LoopFuser", "required", "(II)I"⟩ ∈ WT := wt_of (i := 981) (by decide +kernel) (by decide +kernel)
theorem wd982 : Cond.selects "LoopFuser" ⟨"LoopFuser", "required", "(II)I"⟩ ⟨"LoopFuser", "required", "(II)I"⟩ ∈ WT := wt_of (i := 982) (by decide +kernel) (by decide +kernel)
theorem wd983 : Cond.code ⟨"LoopFuser", "required", "(II)I"⟩ prog_1_method_19_code 3 (Option.some Jvm.ClassFile.FieldType.int) ∈ WT := wt_of (i := 983) (by decide +kernel) (by decide +kernel)
theorem wd988 : Cond.methodLink "LoopFuserLaw" 71 ⟨"LoopFuser", "isAllowed", "(II)Z"⟩ ∈ WT := wt_of (i := 988) (by decide +kernel) (by decide +kernel)
theorem wd989 : Cond.instanceMethod ⟨"LoopFuser", "isAllowed", "(II)Z"⟩ ∈ WT := wt_of (i := 989) (by decide +kernel) (by decide +kernel)
theorem wd990 : Cond.selects "LoopFuser" ⟨"LoopFuser", "isAllowed", "(II)Z"⟩ ⟨"LoopFuser", "isAllowed", "(II)Z"⟩ ∈ WT := wt_of (i := 990) (by decide +kernel) (by decide +kernel)
theorem wd991 : Cond.code ⟨"LoopFuser", "isAllowed", "(II)Z"⟩ prog_1_method_20_code 3 (Option.some Jvm.ClassFile.FieldType.boolean) ∈ WT := wt_of (i := 991) (by decide +kernel) (by decide +kernel)
theorem wd1019 : Cond.methodLink "LoopFuserLaw" 75 ⟨"LoopFuser", "groupCount", "(I)I"⟩ ∈ WT := wt_of (i := 1019) (by decide +kernel) (by decide +kernel)
theorem wd1020 : Cond.instanceMethod ⟨"LoopFuser", "groupCount", "(I)I"⟩ ∈ WT := wt_of (i := 1020) (by decide +kernel) (by decide +kernel)
theorem wd1021 : Cond.selects "LoopFuser" ⟨"LoopFuser", "groupCount", "(I)I"⟩ ⟨"LoopFuser", "groupCount", "(I)I"⟩ ∈ WT := wt_of (i := 1021) (by decide +kernel) (by decide +kernel)
theorem wd1022 : Cond.code ⟨"LoopFuser", "groupCount", "(I)I"⟩ prog_1_method_21_code 2 (Option.some Jvm.ClassFile.FieldType.int) ∈ WT := wt_of (i := 1022) (by decide +kernel) (by decide +kernel)
theorem wd1077 : Cond.methodLink "LoopFuserLaw" 78 ⟨"LoopFuser", "groupOf", "(II)I"⟩ ∈ WT := wt_of (i := 1077) (by decide +kernel) (by decide +kernel)
theorem wd1078 : Cond.instanceMethod ⟨"LoopFuser", "groupOf", "(II)I"⟩ ∈ WT := wt_of (i := 1078) (by decide +kernel) (by decide +kernel)
theorem wd1079 : Cond.selects "LoopFuser" ⟨"LoopFuser", "groupOf", "(II)I"⟩ ⟨"LoopFuser", "groupOf", "(II)I"⟩ ∈ WT := wt_of (i := 1079) (by decide +kernel) (by decide +kernel)
theorem wd1080 : Cond.code ⟨"LoopFuser", "groupOf", "(II)I"⟩ prog_1_method_22_code 4 (Option.some Jvm.ClassFile.FieldType.int) ∈ WT := wt_of (i := 1080) (by decide +kernel) (by decide +kernel)
theorem wd1088 : Cond.methodLink "LoopFuserLaw" 81 ⟨"LoopFuser", "shift", "(II)I"⟩ ∈ WT := wt_of (i := 1088) (by decide +kernel) (by decide +kernel)
theorem wd1089 : Cond.instanceMethod ⟨"LoopFuser", "shift", "(II)I"⟩ ∈ WT := wt_of (i := 1089) (by decide +kernel) (by decide +kernel)
theorem wd1090 : Cond.selects "LoopFuser" ⟨"LoopFuser", "shift", "(II)I"⟩ ⟨"LoopFuser", "shift", "(II)I"⟩ ∈ WT := wt_of (i := 1090) (by decide +kernel) (by decide +kernel)
theorem wd1091 : Cond.code ⟨"LoopFuser", "shift", "(II)I"⟩ prog_1_method_23_code 4 (Option.some Jvm.ClassFile.FieldType.int) ∈ WT := wt_of (i := 1091) (by decide +kernel) (by decide +kernel)
theorem wd1099 : Cond.methodLink "LoopFuserLaw" 84 ⟨"LoopFuser", "step", "(III)I"⟩ ∈ WT := wt_of (i := 1099) (by decide +kernel) (by decide +kernel)
theorem wd1100 : Cond.instanceMethod ⟨"LoopFuser", "step", "(III)I"⟩ ∈ WT := wt_of (i := 1100) (by decide +kernel) (by decide +kernel)
theorem wd1101 : Cond.selects "LoopFuser" ⟨"LoopFuser", "step", "(III)I"⟩ ⟨"LoopFuser", "step", "(III)I"⟩ ∈ WT := wt_of (i := 1101) (by decide +kernel) (by decide +kernel)
theorem wd1102 : Cond.code ⟨"LoopFuser", "step", "(III)I"⟩ prog_1_method_24_code 5 (Option.some Jvm.ClassFile.FieldType.int) ∈ WT := wt_of (i := 1102) (by decide +kernel) (by decide +kernel)
theorem wd1116 : Cond.methodLink "LoopFuserLaw" 87 ⟨"LoopFuser", "peeled", "(III)I"⟩ ∈ WT := wt_of (i := 1116) (by decide +kernel) (by decide +kernel)
theorem wd1117 : Cond.instanceMethod ⟨"LoopFuser", "peeled", "(III)I"⟩ ∈ WT := wt_of (i := 1117) (by decide +kernel) (by decide +kernel)
theorem wd1118 : Cond.selects "LoopFuser" ⟨"LoopFuser", "peeled", "(III)I"⟩ ⟨"LoopFuser", "peeled", "(III)I"⟩ ∈ WT := wt_of (i := 1118) (by decide +kernel) (by decide +kernel)
theorem wd1119 : Cond.code ⟨"LoopFuser", "peeled", "(III)I"⟩ prog_1_method_25_code 7 (Option.some Jvm.ClassFile.FieldType.int) ∈ WT := wt_of (i := 1119) (by decide +kernel) (by decide +kernel)
theorem wd1123 : Cond.methodLink "LoopFuserLaw" 90 ⟨"LoopFuser", "carried", "(II)I"⟩ ∈ WT := wt_of (i := 1123) (by decide +kernel) (by decide +kernel)
theorem wd1124 : Cond.instanceMethod ⟨"LoopFuser", "carried", "(II)I"⟩ ∈ WT := wt_of (i := 1124) (by decide +kernel) (by decide +kernel)
theorem wd1125 : Cond.selects "LoopFuser" ⟨"LoopFuser", "carried", "(II)I"⟩ ⟨"LoopFuser", "carried", "(II)I"⟩ ∈ WT := wt_of (i := 1125) (by decide +kernel) (by decide +kernel)
theorem wd1126 : Cond.code ⟨"LoopFuser", "carried", "(II)I"⟩ prog_1_method_26_code 4 (Option.some Jvm.ClassFile.FieldType.int) ∈ WT := wt_of (i := 1126) (by decide +kernel) (by decide +kernel)
theorem wd1134 : Cond.methodLink "LoopFuserLaw" 93 ⟨"LoopFuser", "reads", "(II)I"⟩ ∈ WT := wt_of (i := 1134) (by decide +kernel) (by decide +kernel)
theorem wd1135 : Cond.instanceMethod ⟨"LoopFuser", "reads", "(II)I"⟩ ∈ WT := wt_of (i := 1135) (by decide +kernel) (by decide +kernel)
theorem wd1136 : Cond.selects "LoopFuser" ⟨"LoopFuser", "reads", "(II)I"⟩ ⟨"LoopFuser", "reads", "(II)I"⟩ ∈ WT := wt_of (i := 1136) (by decide +kernel) (by decide +kernel)
theorem wd1137 : Cond.code ⟨"LoopFuser", "reads", "(II)I"⟩ prog_1_method_27_code 5 (Option.some Jvm.ClassFile.FieldType.int) ∈ WT := wt_of (i := 1137) (by decide +kernel) (by decide +kernel)
theorem wd1144 : Cond.methodLink "LoopFuserLaw" 96 ⟨"LoopFuser", "hits", "(II)I"⟩ ∈ WT := wt_of (i := 1144) (by decide +kernel) (by decide +kernel)
theorem wd1145 : Cond.instanceMethod ⟨"LoopFuser", "hits", "(II)I"⟩ ∈ WT := wt_of (i := 1145) (by decide +kernel) (by decide +kernel)
theorem wd1146 : Cond.selects "LoopFuser" ⟨"LoopFuser", "hits", "(II)I"⟩ ⟨"LoopFuser", "hits", "(II)I"⟩ ∈ WT := wt_of (i := 1146) (by decide +kernel) (by decide +kernel)
theorem wd1147 : Cond.code ⟨"LoopFuser", "hits", "(II)I"⟩ prog_1_method_28_code 3 (Option.some Jvm.ClassFile.FieldType.int) ∈ WT := wt_of (i := 1147) (by decide +kernel) (by decide +kernel)
theorem wd1152 : Cond.methodLink "LoopFuserLaw" 99 ⟨"LoopFuser", "run", "(I)I"⟩ ∈ WT := wt_of (i := 1152) (by decide +kernel) (by decide +kernel)
theorem wd1153 : Cond.instanceMethod ⟨"LoopFuser", "run", "(I)I"⟩ ∈ WT := wt_of (i := 1153) (by decide +kernel) (by decide +kernel)
theorem wd1154 : Cond.selects "LoopFuser" ⟨"LoopFuser", "run", "(I)I"⟩ ⟨"LoopFuser", "run", "(I)I"⟩ ∈ WT := wt_of (i := 1154) (by decide +kernel) (by decide +kernel)
theorem wd1155 : Cond.code ⟨"LoopFuser", "run", "(I)I"⟩ prog_1_method_29_code 5 (Option.some Jvm.ClassFile.FieldType.int) ∈ WT := wt_of (i := 1155) (by decide +kernel) (by decide +kernel)
theorem wd1165 : Cond.methodLink "LoopFuserLaw" 102 ⟨"LoopFuser", "cell", "(III)I"⟩ ∈ WT := wt_of (i := 1165) (by decide +kernel) (by decide +kernel)
theorem wd1166 : Cond.instanceMethod ⟨"LoopFuser", "cell", "(III)I"⟩ ∈ WT := wt_of (i := 1166) (by decide +kernel) (by decide +kernel)
theorem wd1167 : Cond.selects "LoopFuser" ⟨"LoopFuser", "cell", "(III)I"⟩ ⟨"LoopFuser", "cell", "(III)I"⟩ ∈ WT := wt_of (i := 1167) (by decide +kernel) (by decide +kernel)
theorem wd1168 : Cond.code ⟨"LoopFuser", "cell", "(III)I"⟩ prog_1_method_30_code 5 (Option.some Jvm.ClassFile.FieldType.int) ∈ WT := wt_of (i := 1168) (by decide +kernel) (by decide +kernel)
theorem wd1173 : Cond.methodLink "LoopFuserLaw" 105 ⟨"LoopFuser", "changed", "(I)I"⟩ ∈ WT := wt_of (i := 1173) (by decide +kernel) (by decide +kernel)
theorem wd1174 : Cond.instanceMethod ⟨"LoopFuser", "changed", "(I)I"⟩ ∈ WT := wt_of (i := 1174) (by decide +kernel) (by decide +kernel)
theorem wd1175 : Cond.selects "LoopFuser" ⟨"LoopFuser", "changed", "(I)I"⟩ ⟨"LoopFuser", "changed", "(I)I"⟩ ∈ WT := wt_of (i := 1175) (by decide +kernel) (by decide +kernel)
theorem wd1176 : Cond.code ⟨"LoopFuser", "changed", "(I)I"⟩ prog_1_method_31_code 5 (Option.some Jvm.ClassFile.FieldType.int) ∈ WT := wt_of (i := 1176) (by decide +kernel) (by decide +kernel)
theorem wd1180 : Cond.methodLink "LoopFuserLaw" 108 ⟨"LoopFuser", "restore", "()V"⟩ ∈ WT := wt_of (i := 1180) (by decide +kernel) (by decide +kernel)
theorem wd1181 : Cond.instanceMethod ⟨"LoopFuser", "restore", "()V"⟩ ∈ WT := wt_of (i := 1181) (by decide +kernel) (by decide +kernel)
theorem wd1182 : Cond.selects "LoopFuser" ⟨"LoopFuser", "restore", "()V"⟩ ⟨"LoopFuser", "restore", "()V"⟩ ∈ WT := wt_of (i := 1182) (by decide +kernel) (by decide +kernel)
theorem wd1183 : Cond.code ⟨"LoopFuser", "restore", "()V"⟩ prog_1_method_33_code 1 (Option.none : Option Jvm.ClassFile.FieldType) ∈ WT := wt_of (i := 1183) (by decide +kernel) (by decide +kernel)
theorem jm_X11_append : jMV RX11 yX11_append cX11_append 5 (some .int) 1 := ⟨wd509, wd510, wd73, wd511, ⟨rfl, by decide +kernel, by decide +kernel, by decide +kernel⟩, by decide⟩
theorem jm_X11_bound : jMV RX11 yX11_bound cX11_bound 4 (some .int) 2 := ⟨wd794, wd795, wd73, wd796, ⟨rfl, by decide +kernel, by decide +kernel, by decide +kernel⟩, by decide⟩
theorem jm_X11_carried : jMV RX11 yX11_carried cX11_carried 4 (some .int) 2 := ⟨wd1124, wd1125, wd73, wd1126, ⟨rfl, by decide +kernel, by decide +kernel, by decide +kernel⟩, by decide⟩
theorem jm_X11_cell : jMV RX11 yX11_cell cX11_cell 5 (some .int) 3 := ⟨wd1166, wd1167, wd73, wd1168, ⟨rfl, by decide +kernel, by decide +kernel, by decide +kernel⟩, by decide⟩
theorem jm_X11_changed : jMV RX11 yX11_changed cX11_changed 5 (some .int) 1 := ⟨wd1174, wd1175, wd73, wd1176, ⟨rfl, by decide +kernel, by decide +kernel, by decide +kernel⟩, by decide⟩
theorem jm_X11_dependence : jMV RX11 yX11_dependence cX11_dependence 5 (some .int) 4 := ⟨wd957, wd958, wd73, wd959, ⟨rfl, by decide +kernel, by decide +kernel, by decide +kernel⟩, by decide⟩
theorem jm_X11_dependenceCount : jMV RX11 yX11_dependenceCount cX11_dependenceCount 3 (some .int) 2 := ⟨wd928, wd929, wd73, wd930, ⟨rfl, by decide +kernel, by decide +kernel, by decide +kernel⟩, by decide⟩
theorem jm_X11_groupCount : jMV RX11 yX11_groupCount cX11_groupCount 2 (some .int) 1 := ⟨wd1020, wd1021, wd73, wd1022, ⟨rfl, by decide +kernel, by decide +kernel, by decide +kernel⟩, by decide⟩
theorem jm_X11_groupOf : jMV RX11 yX11_groupOf cX11_groupOf 4 (some .int) 2 := ⟨wd1078, wd1079, wd73, wd1080, ⟨rfl, by decide +kernel, by decide +kernel, by decide +kernel⟩, by decide⟩
theorem jm_X11_height : jMV RX11 yX11_height cX11_height 3 (some .int) 2 := ⟨wd866, wd867, wd73, wd868, ⟨rfl, by decide +kernel, by decide +kernel, by decide +kernel⟩, by decide⟩
theorem jm_X11_hits : jMV RX11 yX11_hits cX11_hits 3 (some .int) 2 := ⟨wd1145, wd1146, wd73, wd1147, ⟨rfl, by decide +kernel, by decide +kernel, by decide +kernel⟩, by decide⟩
theorem jm_X11_isAllowed : jMV RX11 yX11_isAllowed cX11_isAllowed 3 (some .boolean) 2 := ⟨wd989, wd990, wd73, wd991, ⟨rfl, by decide +kernel, by decide +kernel, by decide +kernel⟩, by decide⟩
theorem jm_X11_operators : jMV RX11 yX11_operators cX11_operators 5 (some .int) 3 := ⟨wd849, wd850, wd73, wd851, ⟨rfl, by decide +kernel, by decide +kernel, by decide +kernel⟩, by decide⟩
theorem jm_X11_peeled : jMV RX11 yX11_peeled cX11_peeled 7 (some .int) 3 := ⟨wd1117, wd1118, wd73, wd1119, ⟨rfl, by decide +kernel, by decide +kernel, by decide +kernel⟩, by decide⟩
theorem jm_X11_read : jMV RX11 yX11_read cX11_read 2 (some .int) 0 := ⟨wd605, wd606, wd73, wd607, ⟨rfl, by decide +kernel, by decide +kernel, by decide +kernel⟩, by decide⟩
theorem jm_X11_reads : jMV RX11 yX11_reads cX11_reads 5 (some .int) 2 := ⟨wd1135, wd1136, wd73, wd1137, ⟨rfl, by decide +kernel, by decide +kernel, by decide +kernel⟩, by decide⟩
theorem jm_X11_reference : jMV RX11 yX11_reference cX11_reference 5 (some .int) 3 := ⟨wd836, wd837, wd73, wd838, ⟨rfl, by decide +kernel, by decide +kernel, by decide +kernel⟩, by decide⟩
theorem jm_X11_referenceCount : jMV RX11 yX11_referenceCount cX11_referenceCount 2 (some .int) 1 := ⟨wd829, wd830, wd73, wd831, ⟨rfl, by decide +kernel, by decide +kernel, by decide +kernel⟩, by decide⟩
theorem jm_X11_removeLoop : jMV RX11 yX11_removeLoop cX11_removeLoop 2 (some .int) 1 := ⟨wd758, wd759, wd73, wd760, ⟨rfl, by decide +kernel, by decide +kernel, by decide +kernel⟩, by decide⟩
theorem jm_X11_required : jMV RX11 yX11_required cX11_required 3 (some .int) 2 := ⟨wd981, wd982, wd73, wd983, ⟨rfl, by decide +kernel, by decide +kernel, by decide +kernel⟩, by decide⟩
theorem jm_X11_restore : jMV RX11 yX11_restore cX11_restore 1 none 0 := ⟨wd1181, wd1182, wd73, wd1183, ⟨rfl, by decide +kernel, by decide +kernel, by decide +kernel⟩, by decide⟩
theorem jm_X11_run : jMV RX11 yX11_run cX11_run 5 (some .int) 1 := ⟨wd1153, wd1154, wd73, wd1155, ⟨rfl, by decide +kernel, by decide +kernel, by decide +kernel⟩, by decide⟩
theorem jm_X11_setBarrier : jMV RX11 yX11_setBarrier cX11_setBarrier 4 (some .boolean) 2 := ⟨wd917, wd918, wd73, wd919, ⟨rfl, by decide +kernel, by decide +kernel, by decide +kernel⟩, by decide⟩
theorem jm_X11_setBound : jMV RX11 yX11_setBound cX11_setBound 8 (some .int) 3 := ⟨wd810, wd811, wd73, wd812, ⟨rfl, by decide +kernel, by decide +kernel, by decide +kernel⟩, by decide⟩
theorem jm_X11_setOption : jMV RX11 yX11_setOption cX11_setOption 4 (some .int) 2 := ⟨wd904, wd905, wd73, wd906, ⟨rfl, by decide +kernel, by decide +kernel, by decide +kernel⟩, by decide⟩
theorem jm_X11_shift : jMV RX11 yX11_shift cX11_shift 4 (some .int) 2 := ⟨wd1089, wd1090, wd73, wd1091, ⟨rfl, by decide +kernel, by decide +kernel, by decide +kernel⟩, by decide⟩
theorem jm_X11_statementCount : jMV RX11 yX11_statementCount cX11_statementCount 2 (some .int) 1 := ⟨wd822, wd823, wd73, wd824, ⟨rfl, by decide +kernel, by decide +kernel, by decide +kernel⟩, by decide⟩
theorem jm_X11_step : jMV RX11 yX11_step cX11_step 5 (some .int) 3 := ⟨wd1100, wd1101, wd73, wd1102, ⟨rfl, by decide +kernel, by decide +kernel, by decide +kernel⟩, by decide⟩
theorem jm_X11_value : jMV RX11 yX11_value cX11_value 6 (some .int) 3 := ⟨wd873, wd874, wd73, wd875, ⟨rfl, by decide +kernel, by decide +kernel, by decide +kernel⟩, by decide⟩
theorem jcast_IA : Cond.castable "java/lang/IllegalArgumentException" "java/lang/IllegalArgumentException" ∈ lw_tbl := List.mem_of_getElem? (i := 514) (by decide +kernel)
theorem jcast_IS : Cond.castable "java/lang/IllegalStateException" "java/lang/IllegalStateException" ∈ lw_tbl := List.mem_of_getElem? (i := 583) (by decide +kernel)
theorem jcast_IO : Cond.castable "java/lang/IndexOutOfBoundsException" "java/lang/IndexOutOfBoundsException" ∈ lw_tbl := List.mem_of_getElem? (i := 771) (by decide +kernel)
theorem jcast_NE : Cond.castable "java/util/NoSuchElementException" "java/util/NoSuchElementException" ∈ lw_tbl := List.mem_of_getElem? (i := 963) (by decide +kernel)
def ok_L_append (v1 : Int32) (M : jM) (Q : Int32 → Nat → jM → Prop) : Prop := jOkH yL_append cL_append 4 [(0, 9, 12, 13), (0, 9, 15, 15)] 7 1 6 (fun g => [.ref (g 10 0), .int v1, .ref (g 61 0)]) M Q
def ok_L_read  (M : jM) (Q : Int32 → Nat → jM → Prop) : Prop := jOkHA yL_read cL_read 3 [(0, 8, 11, 13), (0, 8, 14, 15)] 22 121 2894 (fun g => [.ref (g 10 0), .ref (g 61 0)]) M Q
def ok_L_removeLoop (v1 : Int32) (M : jM) (Q : Int32 → Nat → jM → Prop) : Prop := jOkH yL_removeLoop cL_removeLoop 4 [(0, 9, 12, 24)] 8 1 6 (fun g => [.ref (g 10 0), .int v1, .ref (g 61 0)]) M Q
def ok_L_bound (v1 : Int32) (v2 : Int32) (M : jM) (Q : Int32 → Nat → jM → Prop) : Prop := jOkH yL_bound cL_bound 5 [(0, 10, 13, 24), (0, 10, 17, 13)] 9 2 12 (fun g => [.ref (g 10 0), .int v1, .int v2, .ref (g 61 0)]) M Q
def ok_L_setBound (v1 : Int32) (v2 : Int32) (v3 : Int32) (M : jM) (Q : Int32 → Nat → jM → Prop) : Prop := jOkH yL_setBound cL_setBound 6 [(0, 12, 15, 24), (0, 12, 19, 13)] 9 3 18 (fun g => [.ref (g 10 0), .int v1, .int v2, .int v3, .ref (g 61 0)]) M Q
def ok_L_statementCount (v1 : Int32) (M : jM) (Q : Int32 → Nat → jM → Prop) : Prop := jOkH yL_statementCount cL_statementCount 4 [(0, 9, 12, 24)] 9 1 6 (fun g => [.ref (g 10 0), .int v1, .ref (g 61 0)]) M Q
def ok_L_referenceCount (v1 : Int32) (M : jM) (Q : Int32 → Nat → jM → Prop) : Prop := jOkH yL_referenceCount cL_referenceCount 4 [(0, 9, 12, 24)] 9 1 6 (fun g => [.ref (g 10 0), .int v1, .ref (g 61 0)]) M Q
def ok_L_reference (v1 : Int32) (v2 : Int32) (v3 : Int32) (M : jM) (Q : Int32 → Nat → jM → Prop) : Prop := jOkH yL_reference cL_reference 6 [(0, 12, 15, 24), (0, 12, 19, 13)] 9 2 12 (fun g => [.ref (g 10 0), .int v1, .int v2, .int v3, .ref (g 61 0)]) M Q
def ok_L_operators (v1 : Int32) (v2 : Int32) (v3 : Int32) (M : jM) (Q : Int32 → Nat → jM → Prop) : Prop := jOkH yL_operators cL_operators 6 [(0, 12, 15, 24), (0, 12, 19, 13)] 10 3 18 (fun g => [.ref (g 10 0), .int v1, .int v2, .int v3, .ref (g 61 0)]) M Q
def ok_L_height (v1 : Int32) (v2 : Int32) (M : jM) (Q : Int32 → Nat → jM → Prop) : Prop := jOkH yL_height cL_height 5 [(0, 10, 13, 24)] 10 2 12 (fun g => [.ref (g 10 0), .int v1, .int v2, .ref (g 61 0)]) M Q
def ok_L_value (v1 : Int32) (v2 : Int32) (v3 : Int32) (M : jM) (Q : Int32 → Nat → jM → Prop) : Prop := jOkH yL_value cL_value 6 [(0, 12, 15, 24), (0, 12, 19, 13)] 10 4 24 (fun g => [.ref (g 10 0), .int v1, .int v2, .int v3, .ref (g 61 0)]) M Q
def ok_L_setOption (v1 : Int32) (v2 : Int32) (M : jM) (Q : Int32 → Nat → jM → Prop) : Prop := jOkH yL_setOption cL_setOption 5 [(0, 10, 13, 24), (0, 10, 17, 13)] 7 1 6 (fun g => [.ref (g 10 0), .int v1, .int v2, .ref (g 61 0)]) M Q
def ok_L_setBarrier (v1 : Int32) (v2 : Int32) (M : jM) (Q : Int32 → Nat → jM → Prop) : Prop := jOkH yL_setBarrier cL_setBarrier 5 [(0, 17, 20, 24)] 9 1 6 (fun g => [.ref (g 10 0), .int v1, .int v2, .ref (g 61 0)]) M Q
def ok_L_dependenceCount (v1 : Int32) (v2 : Int32) (M : jM) (Q : Int32 → Nat → jM → Prop) : Prop := jOkH yL_dependenceCount cL_dependenceCount 5 [(0, 10, 13, 24), (0, 10, 17, 13)] 9 5 30 (fun g => [.ref (g 10 0), .int v1, .int v2, .ref (g 61 0)]) M Q
def ok_L_dependence (v1 : Int32) (v2 : Int32) (v3 : Int32) (v4 : Int32) (M : jM) (Q : Int32 → Nat → jM → Prop) : Prop := jOkH yL_dependence cL_dependence 7 [(0, 14, 17, 24), (0, 14, 21, 13), (0, 14, 25, 66)] 9 6 36 (fun g => [.ref (g 10 0), .int v1, .int v2, .int v3, .int v4, .ref (g 61 0)]) M Q
def ok_L_required (v1 : Int32) (v2 : Int32) (M : jM) (Q : Int32 → Nat → jM → Prop) : Prop := jOkH yL_required cL_required 5 [(0, 10, 13, 24), (0, 10, 17, 13), (0, 10, 21, 66)] 9 6 36 (fun g => [.ref (g 10 0), .int v1, .int v2, .ref (g 61 0)]) M Q
def ok_L_isAllowed (v1 : Int32) (v2 : Int32) (M : jM) (Q : Int32 → Nat → jM → Prop) : Prop := jOkH yL_isAllowed cL_isAllowed 5 [(0, 17, 20, 24), (0, 17, 24, 13)] 9 3 18 (fun g => [.ref (g 10 0), .int v1, .int v2, .ref (g 61 0)]) M Q
def ok_L_groupCount (v1 : Int32) (M : jM) (Q : Int32 → Nat → jM → Prop) : Prop := jOkH yL_groupCount cL_groupCount 4 [(0, 9, 12, 13)] 8 1 6 (fun g => [.ref (g 10 0), .int v1, .ref (g 61 0)]) M Q
def ok_L_groupOf (v1 : Int32) (v2 : Int32) (M : jM) (Q : Int32 → Nat → jM → Prop) : Prop := jOkH yL_groupOf cL_groupOf 5 [(0, 10, 13, 13), (0, 10, 17, 24)] 8 2 12 (fun g => [.ref (g 10 0), .int v1, .int v2, .ref (g 61 0)]) M Q
def ok_L_shift (v1 : Int32) (v2 : Int32) (M : jM) (Q : Int32 → Nat → jM → Prop) : Prop := jOkH yL_shift cL_shift 5 [(0, 10, 13, 13), (0, 10, 17, 24)] 8 2 12 (fun g => [.ref (g 10 0), .int v1, .int v2, .ref (g 61 0)]) M Q
def ok_L_step (v1 : Int32) (v2 : Int32) (v3 : Int32) (M : jM) (Q : Int32 → Nat → jM → Prop) : Prop := jOkH yL_step cL_step 6 [(0, 12, 15, 13), (0, 12, 19, 24), (0, 12, 23, 66)] 8 3 18 (fun g => [.ref (g 10 0), .int v1, .int v2, .int v3, .ref (g 61 0)]) M Q
def ok_L_peeled (v1 : Int32) (v2 : Int32) (v3 : Int32) (M : jM) (Q : Int32 → Nat → jM → Prop) : Prop := jOkH yL_peeled cL_peeled 6 [(0, 12, 15, 13), (0, 12, 19, 24)] 9 3 18 (fun g => [.ref (g 10 0), .int v1, .int v2, .int v3, .ref (g 61 0)]) M Q
def ok_L_carried (v1 : Int32) (v2 : Int32) (M : jM) (Q : Int32 → Nat → jM → Prop) : Prop := jOkH yL_carried cL_carried 5 [(0, 10, 13, 13), (0, 10, 17, 24)] 8 2 12 (fun g => [.ref (g 10 0), .int v1, .int v2, .ref (g 61 0)]) M Q
def ok_L_reads (v1 : Int32) (v2 : Int32) (M : jM) (Q : Int32 → Nat → jM → Prop) : Prop := jOkH yL_reads cL_reads 5 [(0, 10, 13, 13)] 8 2 12 (fun g => [.ref (g 10 0), .int v1, .int v2, .ref (g 61 0)]) M Q
def ok_L_hits (v1 : Int32) (v2 : Int32) (M : jM) (Q : Int32 → Nat → jM → Prop) : Prop := jOkH yL_hits cL_hits 5 [(0, 10, 13, 24), (0, 10, 17, 13)] 9 3 18 (fun g => [.ref (g 10 0), .int v1, .int v2, .ref (g 61 0)]) M Q
def ok_L_run (v1 : Int32) (M : jM) (Q : Int32 → Nat → jM → Prop) : Prop := jOkH yL_run cL_run 4 [(0, 9, 12, 13)] 8 1 6 (fun g => [.ref (g 10 0), .int v1, .ref (g 61 0)]) M Q
def ok_L_cell (v1 : Int32) (v2 : Int32) (v3 : Int32) (M : jM) (Q : Int32 → Nat → jM → Prop) : Prop := jOkH yL_cell cL_cell 6 [(0, 12, 15, 13), (0, 12, 19, 24)] 8 2 12 (fun g => [.ref (g 10 0), .int v1, .int v2, .int v3, .ref (g 61 0)]) M Q
def ok_L_changed (v1 : Int32) (M : jM) (Q : Int32 → Nat → jM → Prop) : Prop := jOkH yL_changed cL_changed 4 [(0, 9, 12, 13)] 8 1 6 (fun g => [.ref (g 10 0), .int v1, .ref (g 61 0)]) M Q
def ok_L_restore  (M : jM) (Q : Int32 → Nat → jM → Prop) : Prop := jOkH yL_restore cL_restore 2 [(0, 4, 7, 15)] 7 1 6 (fun g => [.ref (g 10 0)]) M Q
set_option maxHeartbeats 4000000 in
set_option maxRecDepth 100000 in
theorem wr_append {v1 : Int32} {M : jM} {Q : Int32 → Nat → jM → Prop} (h : ok_X11_append v1 M (fun r _ M1 => jnb M1 = jnb M ∧ Q 0 0 (jup M1 61 0 (0 : Int32).toNatClampNeg r)) (fun E M1 => (E = "java/lang/IllegalArgumentException" ∧ Q 1 0 M1) ∨ (E = "java/lang/IllegalStateException" ∧ Q 2 0 M1))) : ok_L_append v1 M Q := by
  refine jr_enterH (lv := fun g => [(0, .ref (g 10 0)), (1, .int v1), (2, .ref (g 61 0))]) (by decide) (fun g => rfl) (fun g => Nat.le_of_ble_eq_true rfl) ?_
  intro p l e s m args below meth c D cA base g C hr htab H locs G ls hl
  refine lv_aload_n C.x C.b dL_append_0 rfl (lv_at hl 2 rfl) ?_
  refine lv_iconst (v := 0) C.x C.b dL_append_1 (by decide) ?_
  refine lv_aload_n C.x C.b dL_append_2 rfl (lv_at hl 0 rfl) ?_
  refine lv_iload_n C.x C.b dL_append_3 rfl (lv_at hl 1 rfl) ?_
  refine jr_VH (d' := 7) C G jc10 jm_X11_append wd508 h rfl (show 0 < 1 by decide) (by decide) rfl rfl (by decide) (by decide) (by decide) ⟨rfl, rfl⟩ hl.1 (Nat.le_of_ble_eq_true rfl) dL_append_4 (fun E ce q9 M1 H locs hX G h1 h2 h3 => ?_) (fun r rn M1 H locs h G => ?_)
  · skip
    rcases hX with ⟨rfl, h⟩ | ⟨rfl, h⟩
    · skip
      refine vx_catch C.ow [] ⟨0, 9, 12, 13⟩ [⟨0, 9, 15, 15⟩] (htab.trans rfl) (fun z hz => nomatch hz) rfl (by decide) (C.w _ wd506) (va_Nw.use rfl (C.st.2.2.1 _ jcast_IA rfl)) h1 h2 h3 ?_
      refine lv_astore_n (lv' := [(3, .ref q9), (0, .ref (g 10 0)), (1, .int v1), (2, .ref (g 61 0))]) C.x C.b dL_append_12 rfl hl (by decide) rfl (fun ls hl => ?_)
      refine lv_iconst (v := 1) C.x C.b dL_append_13 (by decide) ?_
      exact jr_retI C hr G h (by decide) (by decide) dL_append_14
    · skip
      refine vx_catch C.ow [⟨0, 9, 12, 13⟩] ⟨0, 9, 15, 15⟩ [] (htab.trans rfl) (List.forall_mem_cons.mpr ⟨Or.inr ⟨by decide, "java/lang/IllegalArgumentException", C.w _ wd506, C.st.2.2.2.2.2.2.2.2 ("java/lang/IllegalStateException", "java/lang/IllegalArgumentException") (by decide)⟩, fun z hz => nomatch hz⟩) rfl (by decide) (C.w _ wd507) (va_Nw.use rfl (C.st.2.2.1 _ jcast_IS rfl)) h1 h2 h3 ?_
      refine lv_astore_n (lv' := [(3, .ref q9), (0, .ref (g 10 0)), (1, .int v1), (2, .ref (g 61 0))]) C.x C.b dL_append_15 rfl hl (by decide) rfl (fun ls hl => ?_)
      refine lv_iconst (v := 2) C.x C.b dL_append_16 (by decide) ?_
      exact jr_retI C hr G h (by decide) (by decide) dL_append_17
  · obtain ⟨nM1, h⟩ := h
    refine lv_i2l C.x C.b dL_append_7 rfl ?_
    refine jr_last C G (v := r) (by unfold vp_in; decide) dL_append_8 (fun H locs G => ?_)
    refine lv_goto (tgt := 18) C.x C.b dL_append_9 (by decide) ?_
    refine lv_iconst (v := 0) C.x C.b dL_append_18 (by decide) ?_
    exact jr_retI C hr G h (by decide) (by decide) dL_append_19

set_option maxHeartbeats 4000000 in
set_option maxRecDepth 100000 in
theorem wr_read {M : jM} {Q : Int32 → Nat → jM → Prop} (h : ok_X11_read  M (fun r _ M1 => Q 0 0 (jup M1 61 0 (0 : Int32).toNatClampNeg r)) (fun E M1 => (E = "java/lang/IllegalArgumentException" ∧ Q 1 0 M1) ∨ (E = "java/lang/IllegalStateException" ∧ Q 2 0 M1))) : ok_L_read M Q := by
  refine jr_enterHA (lv := fun g => [(0, .ref (g 10 0)), (1, .ref (g 61 0))]) (by decide) (fun g => rfl) (fun g => Nat.le_of_ble_eq_true rfl) ?_
  intro p l e s m args below meth c D cA base n0 g0 g hx hn C hr htab H locs G ls hl
  refine lv_aload_n C.x C.b dL_read_0 rfl (lv_at hl 1 rfl) ?_
  refine lv_iconst (v := 0) C.x C.b dL_read_1 (by decide) ?_
  refine lv_aload_n C.x C.b dL_read_2 rfl (lv_at hl 0 rfl) ?_
  refine jr_VHA (d' := 22) C G jc10 jm_X11_read wd604 h rfl (show 0 < 1 by decide) (by decide) rfl rfl (by decide) (by decide) (by decide) ⟨rfl, rfl⟩ hl.1 (Nat.le_of_ble_eq_true rfl) dL_read_3 (fun E ce q9 M1 g1 H locs hx1 hn1 hX G h1 h2 h3 => ?_) (fun r rn M1 g1 H locs hx1 hn1 h G => ?_)
  · have C := C.ext hx1
    have hx := hx.tr hx1 (by omega)
    rcases hX with ⟨rfl, h⟩ | ⟨rfl, h⟩
    · skip
      refine vx_catch C.ow [] ⟨0, 8, 11, 13⟩ [⟨0, 8, 14, 15⟩] (htab.trans rfl) (fun z hz => nomatch hz) rfl (by decide) (C.w _ wd506) (va_Nw.use rfl (C.st.2.2.1 _ jcast_IA rfl)) h1 h2 h3 ?_
      refine lv_astore_n (lv' := [(2, .ref q9), (0, .ref (g 10 0)), (1, .ref (g 61 0))]) C.x C.b dL_read_11 rfl hl (by decide) rfl (fun ls hl => ?_)
      refine lv_iconst (v := 1) C.x C.b dL_read_12 (by decide) ?_
      exact jr_retIA C hr G hx (by omega) h (by decide) (by decide) dL_read_13
    · skip
      refine vx_catch C.ow [⟨0, 8, 11, 13⟩] ⟨0, 8, 14, 15⟩ [] (htab.trans rfl) (List.forall_mem_cons.mpr ⟨Or.inr ⟨by decide, "java/lang/IllegalArgumentException", C.w _ wd506, C.st.2.2.2.2.2.2.2.2 ("java/lang/IllegalStateException", "java/lang/IllegalArgumentException") (by decide)⟩, fun z hz => nomatch hz⟩) rfl (by decide) (C.w _ wd507) (va_Nw.use rfl (C.st.2.2.1 _ jcast_IS rfl)) h1 h2 h3 ?_
      refine lv_astore_n (lv' := [(2, .ref q9), (0, .ref (g 10 0)), (1, .ref (g 61 0))]) C.x C.b dL_read_14 rfl hl (by decide) rfl (fun ls hl => ?_)
      refine lv_iconst (v := 2) C.x C.b dL_read_15 (by decide) ?_
      exact jr_retIA C hr G hx (by omega) h (by decide) (by decide) dL_read_16
  · have C := C.ext hx1
    have hx := hx.tr hx1 (by omega)
    have hn : n0 ≤ jnb M1 := by omega
    rw [← hx1.1 61 0 (show 0 < 1 by decide)]
    refine lv_i2l C.x C.b dL_read_6 rfl ?_
    refine jr_last C G (v := r) (by unfold vp_in; decide) dL_read_7 (fun H locs G => ?_)
    have hn : n0 ≤ jnb (jup M1 61 0 (0 : Int32).toNatClampNeg r) := by rw [jnb_up (by decide)]; omega
    refine lv_goto (tgt := 17) C.x C.b dL_read_8 (by decide) ?_
    refine lv_iconst (v := 0) C.x C.b dL_read_17 (by decide) ?_
    exact jr_retIA C hr G hx (by omega) h (by decide) (by decide) dL_read_18

set_option maxHeartbeats 4000000 in
set_option maxRecDepth 100000 in
theorem wr_removeLoop {v1 : Int32} {M : jM} {Q : Int32 → Nat → jM → Prop} (h : ok_X11_removeLoop v1 M (fun r _ M1 => jnb M1 = jnb M ∧ Q 0 0 (jup M1 61 0 (0 : Int32).toNatClampNeg r)) (fun E M1 => (E = "java/lang/IndexOutOfBoundsException" ∧ Q 1 0 M1))) : ok_L_removeLoop v1 M Q := by
  refine jr_enterH (lv := fun g => [(0, .ref (g 10 0)), (1, .int v1), (2, .ref (g 61 0))]) (by decide) (fun g => rfl) (fun g => Nat.le_of_ble_eq_true rfl) ?_
  intro p l e s m args below meth c D cA base g C hr htab H locs G ls hl
  refine lv_aload_n C.x C.b dL_removeLoop_0 rfl (lv_at hl 2 rfl) ?_
  refine lv_iconst (v := 0) C.x C.b dL_removeLoop_1 (by decide) ?_
  refine lv_aload_n C.x C.b dL_removeLoop_2 rfl (lv_at hl 0 rfl) ?_
  refine lv_iload_n C.x C.b dL_removeLoop_3 rfl (lv_at hl 1 rfl) ?_
  refine jr_VH (d' := 8) C G jc10 jm_X11_removeLoop wd757 h rfl (show 0 < 1 by decide) (by decide) rfl rfl (by decide) (by decide) (by decide) ⟨rfl, rfl⟩ hl.1 (Nat.le_of_ble_eq_true rfl) dL_removeLoop_4 (fun E ce q9 M1 H locs hX G h1 h2 h3 => ?_) (fun r rn M1 H locs h G => ?_)
  · skip
    obtain ⟨rfl, h⟩ := hX
    refine vx_catch C.ow [] ⟨0, 9, 12, 24⟩ [] (htab.trans rfl) (fun z hz => nomatch hz) rfl (by decide) (C.w _ wd756) (va_Nw.use rfl (C.st.2.2.1 _ jcast_IO rfl)) h1 h2 h3 ?_
    refine lv_astore_n (lv' := [(3, .ref q9), (0, .ref (g 10 0)), (1, .int v1), (2, .ref (g 61 0))]) C.x C.b dL_removeLoop_12 rfl hl (by decide) rfl (fun ls hl => ?_)
    refine lv_iconst (v := 1) C.x C.b dL_removeLoop_13 (by decide) ?_
    exact jr_retI C hr G h (by decide) (by decide) dL_removeLoop_14
  · obtain ⟨nM1, h⟩ := h
    refine lv_i2l C.x C.b dL_removeLoop_7 rfl ?_
    refine jr_last C G (v := r) (by unfold vp_in; decide) dL_removeLoop_8 (fun H locs G => ?_)
    refine lv_goto (tgt := 15) C.x C.b dL_removeLoop_9 (by decide) ?_
    refine lv_iconst (v := 0) C.x C.b dL_removeLoop_15 (by decide) ?_
    exact jr_retI C hr G h (by decide) (by decide) dL_removeLoop_16

set_option maxHeartbeats 4000000 in
set_option maxRecDepth 100000 in
theorem wr_bound {v1 v2 : Int32} {M : jM} {Q : Int32 → Nat → jM → Prop} (h : ok_X11_bound v1 v2 M (fun r _ M1 => jnb M1 = jnb M ∧ Q 0 0 (jup M1 61 0 (0 : Int32).toNatClampNeg r)) (fun E M1 => (E = "java/lang/IndexOutOfBoundsException" ∧ Q 1 0 M1) ∨ (E = "java/lang/IllegalArgumentException" ∧ Q 2 0 M1))) : ok_L_bound v1 v2 M Q := by
  refine jr_enterH (lv := fun g => [(0, .ref (g 10 0)), (1, .int v1), (2, .int v2), (3, .ref (g 61 0))]) (by decide) (fun g => rfl) (fun g => Nat.le_of_ble_eq_true rfl) ?_
  intro p l e s m args below meth c D cA base g C hr htab H locs G ls hl
  refine lv_aload_n C.x C.b dL_bound_0 rfl (lv_at hl 3 rfl) ?_
  refine lv_iconst (v := 0) C.x C.b dL_bound_1 (by decide) ?_
  refine lv_aload_n C.x C.b dL_bound_2 rfl (lv_at hl 0 rfl) ?_
  refine lv_iload_n C.x C.b dL_bound_3 rfl (lv_at hl 1 rfl) ?_
  refine lv_iload_n C.x C.b dL_bound_4 rfl (lv_at hl 2 rfl) ?_
  refine jr_VH (d' := 9) C G jc10 jm_X11_bound wd793 h rfl (show 0 < 1 by decide) (by decide) rfl rfl (by decide) (by decide) (by decide) ⟨rfl, rfl⟩ hl.1 (Nat.le_of_ble_eq_true rfl) dL_bound_5 (fun E ce q9 M1 H locs hX G h1 h2 h3 => ?_) (fun r rn M1 H locs h G => ?_)
  · skip
    rcases hX with ⟨rfl, h⟩ | ⟨rfl, h⟩
    · skip
      refine vx_catch C.ow [] ⟨0, 10, 13, 24⟩ [⟨0, 10, 17, 13⟩] (htab.trans rfl) (fun z hz => nomatch hz) rfl (by decide) (C.w _ wd756) (va_Nw.use rfl (C.st.2.2.1 _ jcast_IO rfl)) h1 h2 h3 ?_
      refine lv_astore (lv' := [(4, .ref q9), (0, .ref (g 10 0)), (1, .int v1), (2, .int v2), (3, .ref (g 61 0))]) C.x C.b dL_bound_13 hl (by decide) rfl (fun ls hl => ?_)
      refine lv_iconst (v := 1) C.x C.b dL_bound_15 (by decide) ?_
      exact jr_retI C hr G h (by decide) (by decide) dL_bound_16
    · skip
      refine vx_catch C.ow [⟨0, 10, 13, 24⟩] ⟨0, 10, 17, 13⟩ [] (htab.trans rfl) (List.forall_mem_cons.mpr ⟨Or.inr ⟨by decide, "java/lang/IndexOutOfBoundsException", C.w _ wd756, C.st.2.2.2.2.2.2.2.2 ("java/lang/IllegalArgumentException", "java/lang/IndexOutOfBoundsException") (by decide)⟩, fun z hz => nomatch hz⟩) rfl (by decide) (C.w _ wd506) (va_Nw.use rfl (C.st.2.2.1 _ jcast_IA rfl)) h1 h2 h3 ?_
      refine lv_astore (lv' := [(4, .ref q9), (0, .ref (g 10 0)), (1, .int v1), (2, .int v2), (3, .ref (g 61 0))]) C.x C.b dL_bound_17 hl (by decide) rfl (fun ls hl => ?_)
      refine lv_iconst (v := 2) C.x C.b dL_bound_19 (by decide) ?_
      exact jr_retI C hr G h (by decide) (by decide) dL_bound_20
  · obtain ⟨nM1, h⟩ := h
    refine lv_i2l C.x C.b dL_bound_8 rfl ?_
    refine jr_last C G (v := r) (by unfold vp_in; decide) dL_bound_9 (fun H locs G => ?_)
    refine lv_goto (tgt := 21) C.x C.b dL_bound_10 (by decide) ?_
    refine lv_iconst (v := 0) C.x C.b dL_bound_21 (by decide) ?_
    exact jr_retI C hr G h (by decide) (by decide) dL_bound_22

set_option maxHeartbeats 4000000 in
set_option maxRecDepth 100000 in
theorem wr_setBound {v1 v2 v3 : Int32} {M : jM} {Q : Int32 → Nat → jM → Prop} (h : ok_X11_setBound v1 v2 v3 M (fun r _ M1 => jnb M1 = jnb M ∧ Q 0 0 (jup M1 61 0 (0 : Int32).toNatClampNeg r)) (fun E M1 => (E = "java/lang/IndexOutOfBoundsException" ∧ Q 1 0 M1) ∨ (E = "java/lang/IllegalArgumentException" ∧ Q 2 0 M1))) : ok_L_setBound v1 v2 v3 M Q := by
  refine jr_enterH (lv := fun g => [(0, .ref (g 10 0)), (1, .int v1), (2, .int v2), (3, .int v3), (4, .ref (g 61 0))]) (by decide) (fun g => rfl) (fun g => Nat.le_of_ble_eq_true rfl) ?_
  intro p l e s m args below meth c D cA base g C hr htab H locs G ls hl
  refine lv_aload C.x C.b dL_setBound_0 (lv_at hl 4 rfl) ?_
  refine lv_iconst (v := 0) C.x C.b dL_setBound_2 (by decide) ?_
  refine lv_aload_n C.x C.b dL_setBound_3 rfl (lv_at hl 0 rfl) ?_
  refine lv_iload_n C.x C.b dL_setBound_4 rfl (lv_at hl 1 rfl) ?_
  refine lv_iload_n C.x C.b dL_setBound_5 rfl (lv_at hl 2 rfl) ?_
  refine lv_iload_n C.x C.b dL_setBound_6 rfl (lv_at hl 3 rfl) ?_
  refine jr_VH (d' := 9) C G jc10 jm_X11_setBound wd809 h rfl (show 0 < 1 by decide) (by decide) rfl rfl (by decide) (by decide) (by decide) ⟨rfl, rfl⟩ hl.1 (Nat.le_of_ble_eq_true rfl) dL_setBound_7 (fun E ce q9 M1 H locs hX G h1 h2 h3 => ?_) (fun r rn M1 H locs h G => ?_)
  · skip
    rcases hX with ⟨rfl, h⟩ | ⟨rfl, h⟩
    · skip
      refine vx_catch C.ow [] ⟨0, 12, 15, 24⟩ [⟨0, 12, 19, 13⟩] (htab.trans rfl) (fun z hz => nomatch hz) rfl (by decide) (C.w _ wd756) (va_Nw.use rfl (C.st.2.2.1 _ jcast_IO rfl)) h1 h2 h3 ?_
      refine lv_astore (lv' := [(5, .ref q9), (0, .ref (g 10 0)), (1, .int v1), (2, .int v2), (3, .int v3), (4, .ref (g 61 0))]) C.x C.b dL_setBound_15 hl (by decide) rfl (fun ls hl => ?_)
      refine lv_iconst (v := 1) C.x C.b dL_setBound_17 (by decide) ?_
      exact jr_retI C hr G h (by decide) (by decide) dL_setBound_18
    · skip
      refine vx_catch C.ow [⟨0, 12, 15, 24⟩] ⟨0, 12, 19, 13⟩ [] (htab.trans rfl) (List.forall_mem_cons.mpr ⟨Or.inr ⟨by decide, "java/lang/IndexOutOfBoundsException", C.w _ wd756, C.st.2.2.2.2.2.2.2.2 ("java/lang/IllegalArgumentException", "java/lang/IndexOutOfBoundsException") (by decide)⟩, fun z hz => nomatch hz⟩) rfl (by decide) (C.w _ wd506) (va_Nw.use rfl (C.st.2.2.1 _ jcast_IA rfl)) h1 h2 h3 ?_
      refine lv_astore (lv' := [(5, .ref q9), (0, .ref (g 10 0)), (1, .int v1), (2, .int v2), (3, .int v3), (4, .ref (g 61 0))]) C.x C.b dL_setBound_19 hl (by decide) rfl (fun ls hl => ?_)
      refine lv_iconst (v := 2) C.x C.b dL_setBound_21 (by decide) ?_
      exact jr_retI C hr G h (by decide) (by decide) dL_setBound_22
  · obtain ⟨nM1, h⟩ := h
    refine lv_i2l C.x C.b dL_setBound_10 rfl ?_
    refine jr_last C G (v := r) (by unfold vp_in; decide) dL_setBound_11 (fun H locs G => ?_)
    refine lv_goto (tgt := 23) C.x C.b dL_setBound_12 (by decide) ?_
    refine lv_iconst (v := 0) C.x C.b dL_setBound_23 (by decide) ?_
    exact jr_retI C hr G h (by decide) (by decide) dL_setBound_24

set_option maxHeartbeats 4000000 in
set_option maxRecDepth 100000 in
theorem wr_statementCount {v1 : Int32} {M : jM} {Q : Int32 → Nat → jM → Prop} (h : ok_X11_statementCount v1 M (fun r _ M1 => jnb M1 = jnb M ∧ Q 0 0 (jup M1 61 0 (0 : Int32).toNatClampNeg r)) (fun E M1 => (E = "java/lang/IndexOutOfBoundsException" ∧ Q 1 0 M1))) : ok_L_statementCount v1 M Q := by
  refine jr_enterH (lv := fun g => [(0, .ref (g 10 0)), (1, .int v1), (2, .ref (g 61 0))]) (by decide) (fun g => rfl) (fun g => Nat.le_of_ble_eq_true rfl) ?_
  intro p l e s m args below meth c D cA base g C hr htab H locs G ls hl
  refine lv_aload_n C.x C.b dL_statementCount_0 rfl (lv_at hl 2 rfl) ?_
  refine lv_iconst (v := 0) C.x C.b dL_statementCount_1 (by decide) ?_
  refine lv_aload_n C.x C.b dL_statementCount_2 rfl (lv_at hl 0 rfl) ?_
  refine lv_iload_n C.x C.b dL_statementCount_3 rfl (lv_at hl 1 rfl) ?_
  refine jr_VH (d' := 9) C G jc10 jm_X11_statementCount wd821 h rfl (show 0 < 1 by decide) (by decide) rfl rfl (by decide) (by decide) (by decide) ⟨rfl, rfl⟩ hl.1 (Nat.le_of_ble_eq_true rfl) dL_statementCount_4 (fun E ce q9 M1 H locs hX G h1 h2 h3 => ?_) (fun r rn M1 H locs h G => ?_)
  · skip
    obtain ⟨rfl, h⟩ := hX
    refine vx_catch C.ow [] ⟨0, 9, 12, 24⟩ [] (htab.trans rfl) (fun z hz => nomatch hz) rfl (by decide) (C.w _ wd756) (va_Nw.use rfl (C.st.2.2.1 _ jcast_IO rfl)) h1 h2 h3 ?_
    refine lv_astore_n (lv' := [(3, .ref q9), (0, .ref (g 10 0)), (1, .int v1), (2, .ref (g 61 0))]) C.x C.b dL_statementCount_12 rfl hl (by decide) rfl (fun ls hl => ?_)
    refine lv_iconst (v := 1) C.x C.b dL_statementCount_13 (by decide) ?_
    exact jr_retI C hr G h (by decide) (by decide) dL_statementCount_14
  · obtain ⟨nM1, h⟩ := h
    refine lv_i2l C.x C.b dL_statementCount_7 rfl ?_
    refine jr_last C G (v := r) (by unfold vp_in; decide) dL_statementCount_8 (fun H locs G => ?_)
    refine lv_goto (tgt := 15) C.x C.b dL_statementCount_9 (by decide) ?_
    refine lv_iconst (v := 0) C.x C.b dL_statementCount_15 (by decide) ?_
    exact jr_retI C hr G h (by decide) (by decide) dL_statementCount_16

set_option maxHeartbeats 4000000 in
set_option maxRecDepth 100000 in
theorem wr_referenceCount {v1 : Int32} {M : jM} {Q : Int32 → Nat → jM → Prop} (h : ok_X11_referenceCount v1 M (fun r _ M1 => jnb M1 = jnb M ∧ Q 0 0 (jup M1 61 0 (0 : Int32).toNatClampNeg r)) (fun E M1 => (E = "java/lang/IndexOutOfBoundsException" ∧ Q 1 0 M1))) : ok_L_referenceCount v1 M Q := by
  refine jr_enterH (lv := fun g => [(0, .ref (g 10 0)), (1, .int v1), (2, .ref (g 61 0))]) (by decide) (fun g => rfl) (fun g => Nat.le_of_ble_eq_true rfl) ?_
  intro p l e s m args below meth c D cA base g C hr htab H locs G ls hl
  refine lv_aload_n C.x C.b dL_referenceCount_0 rfl (lv_at hl 2 rfl) ?_
  refine lv_iconst (v := 0) C.x C.b dL_referenceCount_1 (by decide) ?_
  refine lv_aload_n C.x C.b dL_referenceCount_2 rfl (lv_at hl 0 rfl) ?_
  refine lv_iload_n C.x C.b dL_referenceCount_3 rfl (lv_at hl 1 rfl) ?_
  refine jr_VH (d' := 9) C G jc10 jm_X11_referenceCount wd828 h rfl (show 0 < 1 by decide) (by decide) rfl rfl (by decide) (by decide) (by decide) ⟨rfl, rfl⟩ hl.1 (Nat.le_of_ble_eq_true rfl) dL_referenceCount_4 (fun E ce q9 M1 H locs hX G h1 h2 h3 => ?_) (fun r rn M1 H locs h G => ?_)
  · skip
    obtain ⟨rfl, h⟩ := hX
    refine vx_catch C.ow [] ⟨0, 9, 12, 24⟩ [] (htab.trans rfl) (fun z hz => nomatch hz) rfl (by decide) (C.w _ wd756) (va_Nw.use rfl (C.st.2.2.1 _ jcast_IO rfl)) h1 h2 h3 ?_
    refine lv_astore_n (lv' := [(3, .ref q9), (0, .ref (g 10 0)), (1, .int v1), (2, .ref (g 61 0))]) C.x C.b dL_referenceCount_12 rfl hl (by decide) rfl (fun ls hl => ?_)
    refine lv_iconst (v := 1) C.x C.b dL_referenceCount_13 (by decide) ?_
    exact jr_retI C hr G h (by decide) (by decide) dL_referenceCount_14
  · obtain ⟨nM1, h⟩ := h
    refine lv_i2l C.x C.b dL_referenceCount_7 rfl ?_
    refine jr_last C G (v := r) (by unfold vp_in; decide) dL_referenceCount_8 (fun H locs G => ?_)
    refine lv_goto (tgt := 15) C.x C.b dL_referenceCount_9 (by decide) ?_
    refine lv_iconst (v := 0) C.x C.b dL_referenceCount_15 (by decide) ?_
    exact jr_retI C hr G h (by decide) (by decide) dL_referenceCount_16

set_option maxHeartbeats 4000000 in
set_option maxRecDepth 100000 in
theorem wr_reference {v1 v2 v3 : Int32} {M : jM} {Q : Int32 → Nat → jM → Prop} (h : ok_X11_reference v1 v2 v3 M (fun r _ M1 => jnb M1 = jnb M ∧ Q 0 0 (jup M1 61 0 (0 : Int32).toNatClampNeg r)) (fun E M1 => (E = "java/lang/IndexOutOfBoundsException" ∧ Q 1 0 M1) ∨ (E = "java/lang/IllegalArgumentException" ∧ Q 2 0 M1))) : ok_L_reference v1 v2 v3 M Q := by
  refine jr_enterH (lv := fun g => [(0, .ref (g 10 0)), (1, .int v1), (2, .int v2), (3, .int v3), (4, .ref (g 61 0))]) (by decide) (fun g => rfl) (fun g => Nat.le_of_ble_eq_true rfl) ?_
  intro p l e s m args below meth c D cA base g C hr htab H locs G ls hl
  refine lv_aload C.x C.b dL_reference_0 (lv_at hl 4 rfl) ?_
  refine lv_iconst (v := 0) C.x C.b dL_reference_2 (by decide) ?_
  refine lv_aload_n C.x C.b dL_reference_3 rfl (lv_at hl 0 rfl) ?_
  refine lv_iload_n C.x C.b dL_reference_4 rfl (lv_at hl 1 rfl) ?_
  refine lv_iload_n C.x C.b dL_reference_5 rfl (lv_at hl 2 rfl) ?_
  refine lv_iload_n C.x C.b dL_reference_6 rfl (lv_at hl 3 rfl) ?_
  refine jr_VH (d' := 9) C G jc10 jm_X11_reference wd835 h rfl (show 0 < 1 by decide) (by decide) rfl rfl (by decide) (by decide) (by decide) ⟨rfl, rfl⟩ hl.1 (Nat.le_of_ble_eq_true rfl) dL_reference_7 (fun E ce q9 M1 H locs hX G h1 h2 h3 => ?_) (fun r rn M1 H locs h G => ?_)
  · skip
    rcases hX with ⟨rfl, h⟩ | ⟨rfl, h⟩
    · skip
      refine vx_catch C.ow [] ⟨0, 12, 15, 24⟩ [⟨0, 12, 19, 13⟩] (htab.trans rfl) (fun z hz => nomatch hz) rfl (by decide) (C.w _ wd756) (va_Nw.use rfl (C.st.2.2.1 _ jcast_IO rfl)) h1 h2 h3 ?_
      refine lv_astore (lv' := [(5, .ref q9), (0, .ref (g 10 0)), (1, .int v1), (2, .int v2), (3, .int v3), (4, .ref (g 61 0))]) C.x C.b dL_reference_15 hl (by decide) rfl (fun ls hl => ?_)
      refine lv_iconst (v := 1) C.x C.b dL_reference_17 (by decide) ?_
      exact jr_retI C hr G h (by decide) (by decide) dL_reference_18
    · skip
      refine vx_catch C.ow [⟨0, 12, 15, 24⟩] ⟨0, 12, 19, 13⟩ [] (htab.trans rfl) (List.forall_mem_cons.mpr ⟨Or.inr ⟨by decide, "java/lang/IndexOutOfBoundsException", C.w _ wd756, C.st.2.2.2.2.2.2.2.2 ("java/lang/IllegalArgumentException", "java/lang/IndexOutOfBoundsException") (by decide)⟩, fun z hz => nomatch hz⟩) rfl (by decide) (C.w _ wd506) (va_Nw.use rfl (C.st.2.2.1 _ jcast_IA rfl)) h1 h2 h3 ?_
      refine lv_astore (lv' := [(5, .ref q9), (0, .ref (g 10 0)), (1, .int v1), (2, .int v2), (3, .int v3), (4, .ref (g 61 0))]) C.x C.b dL_reference_19 hl (by decide) rfl (fun ls hl => ?_)
      refine lv_iconst (v := 2) C.x C.b dL_reference_21 (by decide) ?_
      exact jr_retI C hr G h (by decide) (by decide) dL_reference_22
  · obtain ⟨nM1, h⟩ := h
    refine lv_i2l C.x C.b dL_reference_10 rfl ?_
    refine jr_last C G (v := r) (by unfold vp_in; decide) dL_reference_11 (fun H locs G => ?_)
    refine lv_goto (tgt := 23) C.x C.b dL_reference_12 (by decide) ?_
    refine lv_iconst (v := 0) C.x C.b dL_reference_23 (by decide) ?_
    exact jr_retI C hr G h (by decide) (by decide) dL_reference_24

set_option maxHeartbeats 4000000 in
set_option maxRecDepth 100000 in
theorem wr_operators {v1 v2 v3 : Int32} {M : jM} {Q : Int32 → Nat → jM → Prop} (h : ok_X11_operators v1 v2 v3 M (fun r _ M1 => jnb M1 = jnb M ∧ Q 0 0 (jup M1 61 0 (0 : Int32).toNatClampNeg r)) (fun E M1 => (E = "java/lang/IndexOutOfBoundsException" ∧ Q 1 0 M1) ∨ (E = "java/lang/IllegalArgumentException" ∧ Q 2 0 M1))) : ok_L_operators v1 v2 v3 M Q := by
  refine jr_enterH (lv := fun g => [(0, .ref (g 10 0)), (1, .int v1), (2, .int v2), (3, .int v3), (4, .ref (g 61 0))]) (by decide) (fun g => rfl) (fun g => Nat.le_of_ble_eq_true rfl) ?_
  intro p l e s m args below meth c D cA base g C hr htab H locs G ls hl
  refine lv_aload C.x C.b dL_operators_0 (lv_at hl 4 rfl) ?_
  refine lv_iconst (v := 0) C.x C.b dL_operators_2 (by decide) ?_
  refine lv_aload_n C.x C.b dL_operators_3 rfl (lv_at hl 0 rfl) ?_
  refine lv_iload_n C.x C.b dL_operators_4 rfl (lv_at hl 1 rfl) ?_
  refine lv_iload_n C.x C.b dL_operators_5 rfl (lv_at hl 2 rfl) ?_
  refine lv_iload_n C.x C.b dL_operators_6 rfl (lv_at hl 3 rfl) ?_
  refine jr_VH (d' := 10) C G jc10 jm_X11_operators wd848 h rfl (show 0 < 1 by decide) (by decide) rfl rfl (by decide) (by decide) (by decide) ⟨rfl, rfl⟩ hl.1 (Nat.le_of_ble_eq_true rfl) dL_operators_7 (fun E ce q9 M1 H locs hX G h1 h2 h3 => ?_) (fun r rn M1 H locs h G => ?_)
  · skip
    rcases hX with ⟨rfl, h⟩ | ⟨rfl, h⟩
    · skip
      refine vx_catch C.ow [] ⟨0, 12, 15, 24⟩ [⟨0, 12, 19, 13⟩] (htab.trans rfl) (fun z hz => nomatch hz) rfl (by decide) (C.w _ wd756) (va_Nw.use rfl (C.st.2.2.1 _ jcast_IO rfl)) h1 h2 h3 ?_
      refine lv_astore (lv' := [(5, .ref q9), (0, .ref (g 10 0)), (1, .int v1), (2, .int v2), (3, .int v3), (4, .ref (g 61 0))]) C.x C.b dL_operators_15 hl (by decide) rfl (fun ls hl => ?_)
      refine lv_iconst (v := 1) C.x C.b dL_operators_17 (by decide) ?_
      exact jr_retI C hr G h (by decide) (by decide) dL_operators_18
    · skip
      refine vx_catch C.ow [⟨0, 12, 15, 24⟩] ⟨0, 12, 19, 13⟩ [] (htab.trans rfl) (List.forall_mem_cons.mpr ⟨Or.inr ⟨by decide, "java/lang/IndexOutOfBoundsException", C.w _ wd756, C.st.2.2.2.2.2.2.2.2 ("java/lang/IllegalArgumentException", "java/lang/IndexOutOfBoundsException") (by decide)⟩, fun z hz => nomatch hz⟩) rfl (by decide) (C.w _ wd506) (va_Nw.use rfl (C.st.2.2.1 _ jcast_IA rfl)) h1 h2 h3 ?_
      refine lv_astore (lv' := [(5, .ref q9), (0, .ref (g 10 0)), (1, .int v1), (2, .int v2), (3, .int v3), (4, .ref (g 61 0))]) C.x C.b dL_operators_19 hl (by decide) rfl (fun ls hl => ?_)
      refine lv_iconst (v := 2) C.x C.b dL_operators_21 (by decide) ?_
      exact jr_retI C hr G h (by decide) (by decide) dL_operators_22
  · obtain ⟨nM1, h⟩ := h
    refine lv_i2l C.x C.b dL_operators_10 rfl ?_
    refine jr_last C G (v := r) (by unfold vp_in; decide) dL_operators_11 (fun H locs G => ?_)
    refine lv_goto (tgt := 23) C.x C.b dL_operators_12 (by decide) ?_
    refine lv_iconst (v := 0) C.x C.b dL_operators_23 (by decide) ?_
    exact jr_retI C hr G h (by decide) (by decide) dL_operators_24

set_option maxHeartbeats 4000000 in
set_option maxRecDepth 100000 in
theorem wr_height {v1 v2 : Int32} {M : jM} {Q : Int32 → Nat → jM → Prop} (h : ok_X11_height v1 v2 M (fun r _ M1 => jnb M1 = jnb M ∧ Q 0 0 (jup M1 61 0 (0 : Int32).toNatClampNeg r)) (fun E M1 => (E = "java/lang/IndexOutOfBoundsException" ∧ Q 1 0 M1))) : ok_L_height v1 v2 M Q := by
  refine jr_enterH (lv := fun g => [(0, .ref (g 10 0)), (1, .int v1), (2, .int v2), (3, .ref (g 61 0))]) (by decide) (fun g => rfl) (fun g => Nat.le_of_ble_eq_true rfl) ?_
  intro p l e s m args below meth c D cA base g C hr htab H locs G ls hl
  refine lv_aload_n C.x C.b dL_height_0 rfl (lv_at hl 3 rfl) ?_
  refine lv_iconst (v := 0) C.x C.b dL_height_1 (by decide) ?_
  refine lv_aload_n C.x C.b dL_height_2 rfl (lv_at hl 0 rfl) ?_
  refine lv_iload_n C.x C.b dL_height_3 rfl (lv_at hl 1 rfl) ?_
  refine lv_iload_n C.x C.b dL_height_4 rfl (lv_at hl 2 rfl) ?_
  refine jr_VH (d' := 10) C G jc10 jm_X11_height wd865 h rfl (show 0 < 1 by decide) (by decide) rfl rfl (by decide) (by decide) (by decide) ⟨rfl, rfl⟩ hl.1 (Nat.le_of_ble_eq_true rfl) dL_height_5 (fun E ce q9 M1 H locs hX G h1 h2 h3 => ?_) (fun r rn M1 H locs h G => ?_)
  · skip
    obtain ⟨rfl, h⟩ := hX
    refine vx_catch C.ow [] ⟨0, 10, 13, 24⟩ [] (htab.trans rfl) (fun z hz => nomatch hz) rfl (by decide) (C.w _ wd756) (va_Nw.use rfl (C.st.2.2.1 _ jcast_IO rfl)) h1 h2 h3 ?_
    refine lv_astore (lv' := [(4, .ref q9), (0, .ref (g 10 0)), (1, .int v1), (2, .int v2), (3, .ref (g 61 0))]) C.x C.b dL_height_13 hl (by decide) rfl (fun ls hl => ?_)
    refine lv_iconst (v := 1) C.x C.b dL_height_15 (by decide) ?_
    exact jr_retI C hr G h (by decide) (by decide) dL_height_16
  · obtain ⟨nM1, h⟩ := h
    refine lv_i2l C.x C.b dL_height_8 rfl ?_
    refine jr_last C G (v := r) (by unfold vp_in; decide) dL_height_9 (fun H locs G => ?_)
    refine lv_goto (tgt := 17) C.x C.b dL_height_10 (by decide) ?_
    refine lv_iconst (v := 0) C.x C.b dL_height_17 (by decide) ?_
    exact jr_retI C hr G h (by decide) (by decide) dL_height_18

set_option maxHeartbeats 4000000 in
set_option maxRecDepth 100000 in
theorem wr_value {v1 v2 v3 : Int32} {M : jM} {Q : Int32 → Nat → jM → Prop} (h : ok_X11_value v1 v2 v3 M (fun r _ M1 => jnb M1 = jnb M ∧ Q 0 0 (jup M1 61 0 (0 : Int32).toNatClampNeg r)) (fun E M1 => (E = "java/lang/IndexOutOfBoundsException" ∧ Q 1 0 M1) ∨ (E = "java/lang/IllegalArgumentException" ∧ Q 2 0 M1))) : ok_L_value v1 v2 v3 M Q := by
  refine jr_enterH (lv := fun g => [(0, .ref (g 10 0)), (1, .int v1), (2, .int v2), (3, .int v3), (4, .ref (g 61 0))]) (by decide) (fun g => rfl) (fun g => Nat.le_of_ble_eq_true rfl) ?_
  intro p l e s m args below meth c D cA base g C hr htab H locs G ls hl
  refine lv_aload C.x C.b dL_value_0 (lv_at hl 4 rfl) ?_
  refine lv_iconst (v := 0) C.x C.b dL_value_2 (by decide) ?_
  refine lv_aload_n C.x C.b dL_value_3 rfl (lv_at hl 0 rfl) ?_
  refine lv_iload_n C.x C.b dL_value_4 rfl (lv_at hl 1 rfl) ?_
  refine lv_iload_n C.x C.b dL_value_5 rfl (lv_at hl 2 rfl) ?_
  refine lv_iload_n C.x C.b dL_value_6 rfl (lv_at hl 3 rfl) ?_
  refine jr_VH (d' := 10) C G jc10 jm_X11_value wd872 h rfl (show 0 < 1 by decide) (by decide) rfl rfl (by decide) (by decide) (by decide) ⟨rfl, rfl⟩ hl.1 (Nat.le_of_ble_eq_true rfl) dL_value_7 (fun E ce q9 M1 H locs hX G h1 h2 h3 => ?_) (fun r rn M1 H locs h G => ?_)
  · skip
    rcases hX with ⟨rfl, h⟩ | ⟨rfl, h⟩
    · skip
      refine vx_catch C.ow [] ⟨0, 12, 15, 24⟩ [⟨0, 12, 19, 13⟩] (htab.trans rfl) (fun z hz => nomatch hz) rfl (by decide) (C.w _ wd756) (va_Nw.use rfl (C.st.2.2.1 _ jcast_IO rfl)) h1 h2 h3 ?_
      refine lv_astore (lv' := [(5, .ref q9), (0, .ref (g 10 0)), (1, .int v1), (2, .int v2), (3, .int v3), (4, .ref (g 61 0))]) C.x C.b dL_value_15 hl (by decide) rfl (fun ls hl => ?_)
      refine lv_iconst (v := 1) C.x C.b dL_value_17 (by decide) ?_
      exact jr_retI C hr G h (by decide) (by decide) dL_value_18
    · skip
      refine vx_catch C.ow [⟨0, 12, 15, 24⟩] ⟨0, 12, 19, 13⟩ [] (htab.trans rfl) (List.forall_mem_cons.mpr ⟨Or.inr ⟨by decide, "java/lang/IndexOutOfBoundsException", C.w _ wd756, C.st.2.2.2.2.2.2.2.2 ("java/lang/IllegalArgumentException", "java/lang/IndexOutOfBoundsException") (by decide)⟩, fun z hz => nomatch hz⟩) rfl (by decide) (C.w _ wd506) (va_Nw.use rfl (C.st.2.2.1 _ jcast_IA rfl)) h1 h2 h3 ?_
      refine lv_astore (lv' := [(5, .ref q9), (0, .ref (g 10 0)), (1, .int v1), (2, .int v2), (3, .int v3), (4, .ref (g 61 0))]) C.x C.b dL_value_19 hl (by decide) rfl (fun ls hl => ?_)
      refine lv_iconst (v := 2) C.x C.b dL_value_21 (by decide) ?_
      exact jr_retI C hr G h (by decide) (by decide) dL_value_22
  · obtain ⟨nM1, h⟩ := h
    refine lv_i2l C.x C.b dL_value_10 rfl ?_
    refine jr_last C G (v := r) (by unfold vp_in; decide) dL_value_11 (fun H locs G => ?_)
    refine lv_goto (tgt := 23) C.x C.b dL_value_12 (by decide) ?_
    refine lv_iconst (v := 0) C.x C.b dL_value_23 (by decide) ?_
    exact jr_retI C hr G h (by decide) (by decide) dL_value_24

set_option maxHeartbeats 4000000 in
set_option maxRecDepth 100000 in
theorem wr_setOption {v1 v2 : Int32} {M : jM} {Q : Int32 → Nat → jM → Prop} (h : ok_X11_setOption v1 v2 M (fun r _ M1 => jnb M1 = jnb M ∧ Q 0 0 (jup M1 61 0 (0 : Int32).toNatClampNeg r)) (fun E M1 => (E = "java/lang/IndexOutOfBoundsException" ∧ Q 1 0 M1) ∨ (E = "java/lang/IllegalArgumentException" ∧ Q 2 0 M1))) : ok_L_setOption v1 v2 M Q := by
  refine jr_enterH (lv := fun g => [(0, .ref (g 10 0)), (1, .int v1), (2, .int v2), (3, .ref (g 61 0))]) (by decide) (fun g => rfl) (fun g => Nat.le_of_ble_eq_true rfl) ?_
  intro p l e s m args below meth c D cA base g C hr htab H locs G ls hl
  refine lv_aload_n C.x C.b dL_setOption_0 rfl (lv_at hl 3 rfl) ?_
  refine lv_iconst (v := 0) C.x C.b dL_setOption_1 (by decide) ?_
  refine lv_aload_n C.x C.b dL_setOption_2 rfl (lv_at hl 0 rfl) ?_
  refine lv_iload_n C.x C.b dL_setOption_3 rfl (lv_at hl 1 rfl) ?_
  refine lv_iload_n C.x C.b dL_setOption_4 rfl (lv_at hl 2 rfl) ?_
  refine jr_VH (d' := 7) C G jc10 jm_X11_setOption wd903 h rfl (show 0 < 1 by decide) (by decide) rfl rfl (by decide) (by decide) (by decide) ⟨rfl, rfl⟩ hl.1 (Nat.le_of_ble_eq_true rfl) dL_setOption_5 (fun E ce q9 M1 H locs hX G h1 h2 h3 => ?_) (fun r rn M1 H locs h G => ?_)
  · skip
    rcases hX with ⟨rfl, h⟩ | ⟨rfl, h⟩
    · skip
      refine vx_catch C.ow [] ⟨0, 10, 13, 24⟩ [⟨0, 10, 17, 13⟩] (htab.trans rfl) (fun z hz => nomatch hz) rfl (by decide) (C.w _ wd756) (va_Nw.use rfl (C.st.2.2.1 _ jcast_IO rfl)) h1 h2 h3 ?_
      refine lv_astore (lv' := [(4, .ref q9), (0, .ref (g 10 0)), (1, .int v1), (2, .int v2), (3, .ref (g 61 0))]) C.x C.b dL_setOption_13 hl (by decide) rfl (fun ls hl => ?_)
      refine lv_iconst (v := 1) C.x C.b dL_setOption_15 (by decide) ?_
      exact jr_retI C hr G h (by decide) (by decide) dL_setOption_16
    · skip
      refine vx_catch C.ow [⟨0, 10, 13, 24⟩] ⟨0, 10, 17, 13⟩ [] (htab.trans rfl) (List.forall_mem_cons.mpr ⟨Or.inr ⟨by decide, "java/lang/IndexOutOfBoundsException", C.w _ wd756, C.st.2.2.2.2.2.2.2.2 ("java/lang/IllegalArgumentException", "java/lang/IndexOutOfBoundsException") (by decide)⟩, fun z hz => nomatch hz⟩) rfl (by decide) (C.w _ wd506) (va_Nw.use rfl (C.st.2.2.1 _ jcast_IA rfl)) h1 h2 h3 ?_
      refine lv_astore (lv' := [(4, .ref q9), (0, .ref (g 10 0)), (1, .int v1), (2, .int v2), (3, .ref (g 61 0))]) C.x C.b dL_setOption_17 hl (by decide) rfl (fun ls hl => ?_)
      refine lv_iconst (v := 2) C.x C.b dL_setOption_19 (by decide) ?_
      exact jr_retI C hr G h (by decide) (by decide) dL_setOption_20
  · obtain ⟨nM1, h⟩ := h
    refine lv_i2l C.x C.b dL_setOption_8 rfl ?_
    refine jr_last C G (v := r) (by unfold vp_in; decide) dL_setOption_9 (fun H locs G => ?_)
    refine lv_goto (tgt := 21) C.x C.b dL_setOption_10 (by decide) ?_
    refine lv_iconst (v := 0) C.x C.b dL_setOption_21 (by decide) ?_
    exact jr_retI C hr G h (by decide) (by decide) dL_setOption_22

set_option maxHeartbeats 4000000 in
set_option maxRecDepth 100000 in
theorem wr_setBarrier {v1 v2 : Int32} {M : jM} {Q : Int32 → Nat → jM → Prop} (h : ok_X11_setBarrier v1 v2 M (fun r _ M1 => jnb M1 = jnb M ∧ (¬ r = 0 → Q 0 0 (jup M1 61 0 (0 : Int32).toNatClampNeg 1)) ∧ (r = 0 → Q 0 0 (jup M1 61 0 (0 : Int32).toNatClampNeg 0))) (fun E M1 => (E = "java/lang/IndexOutOfBoundsException" ∧ Q 1 0 M1))) : ok_L_setBarrier v1 v2 M Q := by
  refine jr_enterH (lv := fun g => [(0, .ref (g 10 0)), (1, .int v1), (2, .int v2), (3, .ref (g 61 0))]) (by decide) (fun g => rfl) (fun g => Nat.le_of_ble_eq_true rfl) ?_
  intro p l e s m args below meth c D cA base g C hr htab H locs G ls hl
  refine lv_aload_n C.x C.b dL_setBarrier_0 rfl (lv_at hl 3 rfl) ?_
  refine lv_iconst (v := 0) C.x C.b dL_setBarrier_1 (by decide) ?_
  refine lv_aload_n C.x C.b dL_setBarrier_2 rfl (lv_at hl 0 rfl) ?_
  refine lv_iload_n C.x C.b dL_setBarrier_3 rfl (lv_at hl 1 rfl) ?_
  refine lv_iload_n C.x C.b dL_setBarrier_4 rfl (lv_at hl 2 rfl) ?_
  refine jr_VH (d' := 9) C G jc10 jm_X11_setBarrier wd916 h rfl (show 0 < 1 by decide) (by decide) rfl rfl (by decide) (by decide) (by decide) ⟨rfl, rfl⟩ hl.1 (Nat.le_of_ble_eq_true rfl) dL_setBarrier_5 (fun E ce q9 M1 H locs hX G h1 h2 h3 => ?_) (fun r rn M1 H locs h G => ?_)
  · skip
    obtain ⟨rfl, h⟩ := hX
    refine vx_catch C.ow [] ⟨0, 17, 20, 24⟩ [] (htab.trans rfl) (fun z hz => nomatch hz) rfl (by decide) (C.w _ wd756) (va_Nw.use rfl (C.st.2.2.1 _ jcast_IO rfl)) h1 h2 h3 ?_
    refine lv_astore (lv' := [(4, .ref q9), (0, .ref (g 10 0)), (1, .int v1), (2, .int v2), (3, .ref (g 61 0))]) C.x C.b dL_setBarrier_20 hl (by decide) rfl (fun ls hl => ?_)
    refine lv_iconst (v := 1) C.x C.b dL_setBarrier_22 (by decide) ?_
    exact jr_retI C hr G h (by decide) (by decide) dL_setBarrier_23
  · obtain ⟨nM1, h⟩ := h
    refine lv_if_eq (tgt := 15) C.x C.b dL_setBarrier_8 (by decide) (fun hc => ?_) (fun hc => ?_)
    · have h := h.2 hc
      refine lv_lconst (v := (0 : Int32).toInt64) C.x C.b dL_setBarrier_15 (by decide) ?_
      refine jr_last C G (v := (0 : Int32)) (by unfold vp_in; decide) dL_setBarrier_16 (fun H locs G => ?_)
      refine lv_goto (tgt := 24) C.x C.b dL_setBarrier_17 (by decide) ?_
      refine lv_iconst (v := 0) C.x C.b dL_setBarrier_24 (by decide) ?_
      exact jr_retI C hr G h (by decide) (by decide) dL_setBarrier_25
    · have h := h.1 hc
      refine lv_lconst (v := (1 : Int32).toInt64) C.x C.b dL_setBarrier_11 (by decide) ?_
      refine lv_goto (tgt := 16) C.x C.b dL_setBarrier_12 (by decide) ?_
      refine jr_last C G (v := (1 : Int32)) (by unfold vp_in; decide) dL_setBarrier_16 (fun H locs G => ?_)
      refine lv_goto (tgt := 24) C.x C.b dL_setBarrier_17 (by decide) ?_
      refine lv_iconst (v := 0) C.x C.b dL_setBarrier_24 (by decide) ?_
      exact jr_retI C hr G h (by decide) (by decide) dL_setBarrier_25

set_option maxHeartbeats 4000000 in
set_option maxRecDepth 100000 in
theorem wr_dependenceCount {v1 v2 : Int32} {M : jM} {Q : Int32 → Nat → jM → Prop} (h : ok_X11_dependenceCount v1 v2 M (fun r _ M1 => jnb M1 = jnb M ∧ Q 0 0 (jup M1 61 0 (0 : Int32).toNatClampNeg r)) (fun E M1 => (E = "java/lang/IndexOutOfBoundsException" ∧ Q 1 0 M1) ∨ (E = "java/lang/IllegalArgumentException" ∧ Q 2 0 M1))) : ok_L_dependenceCount v1 v2 M Q := by
  refine jr_enterH (lv := fun g => [(0, .ref (g 10 0)), (1, .int v1), (2, .int v2), (3, .ref (g 61 0))]) (by decide) (fun g => rfl) (fun g => Nat.le_of_ble_eq_true rfl) ?_
  intro p l e s m args below meth c D cA base g C hr htab H locs G ls hl
  refine lv_aload_n C.x C.b dL_dependenceCount_0 rfl (lv_at hl 3 rfl) ?_
  refine lv_iconst (v := 0) C.x C.b dL_dependenceCount_1 (by decide) ?_
  refine lv_aload_n C.x C.b dL_dependenceCount_2 rfl (lv_at hl 0 rfl) ?_
  refine lv_iload_n C.x C.b dL_dependenceCount_3 rfl (lv_at hl 1 rfl) ?_
  refine lv_iload_n C.x C.b dL_dependenceCount_4 rfl (lv_at hl 2 rfl) ?_
  refine jr_VH (d' := 9) C G jc10 jm_X11_dependenceCount wd927 h rfl (show 0 < 1 by decide) (by decide) rfl rfl (by decide) (by decide) (by decide) ⟨rfl, rfl⟩ hl.1 (Nat.le_of_ble_eq_true rfl) dL_dependenceCount_5 (fun E ce q9 M1 H locs hX G h1 h2 h3 => ?_) (fun r rn M1 H locs h G => ?_)
  · skip
    rcases hX with ⟨rfl, h⟩ | ⟨rfl, h⟩
    · skip
      refine vx_catch C.ow [] ⟨0, 10, 13, 24⟩ [⟨0, 10, 17, 13⟩] (htab.trans rfl) (fun z hz => nomatch hz) rfl (by decide) (C.w _ wd756) (va_Nw.use rfl (C.st.2.2.1 _ jcast_IO rfl)) h1 h2 h3 ?_
      refine lv_astore (lv' := [(4, .ref q9), (0, .ref (g 10 0)), (1, .int v1), (2, .int v2), (3, .ref (g 61 0))]) C.x C.b dL_dependenceCount_13 hl (by decide) rfl (fun ls hl => ?_)
      refine lv_iconst (v := 1) C.x C.b dL_dependenceCount_15 (by decide) ?_
      exact jr_retI C hr G h (by decide) (by decide) dL_dependenceCount_16
    · skip
      refine vx_catch C.ow [⟨0, 10, 13, 24⟩] ⟨0, 10, 17, 13⟩ [] (htab.trans rfl) (List.forall_mem_cons.mpr ⟨Or.inr ⟨by decide, "java/lang/IndexOutOfBoundsException", C.w _ wd756, C.st.2.2.2.2.2.2.2.2 ("java/lang/IllegalArgumentException", "java/lang/IndexOutOfBoundsException") (by decide)⟩, fun z hz => nomatch hz⟩) rfl (by decide) (C.w _ wd506) (va_Nw.use rfl (C.st.2.2.1 _ jcast_IA rfl)) h1 h2 h3 ?_
      refine lv_astore (lv' := [(4, .ref q9), (0, .ref (g 10 0)), (1, .int v1), (2, .int v2), (3, .ref (g 61 0))]) C.x C.b dL_dependenceCount_17 hl (by decide) rfl (fun ls hl => ?_)
      refine lv_iconst (v := 2) C.x C.b dL_dependenceCount_19 (by decide) ?_
      exact jr_retI C hr G h (by decide) (by decide) dL_dependenceCount_20
  · obtain ⟨nM1, h⟩ := h
    refine lv_i2l C.x C.b dL_dependenceCount_8 rfl ?_
    refine jr_last C G (v := r) (by unfold vp_in; decide) dL_dependenceCount_9 (fun H locs G => ?_)
    refine lv_goto (tgt := 21) C.x C.b dL_dependenceCount_10 (by decide) ?_
    refine lv_iconst (v := 0) C.x C.b dL_dependenceCount_21 (by decide) ?_
    exact jr_retI C hr G h (by decide) (by decide) dL_dependenceCount_22

set_option maxHeartbeats 4000000 in
set_option maxRecDepth 100000 in
theorem wr_dependence {v1 v2 v3 v4 : Int32} {M : jM} {Q : Int32 → Nat → jM → Prop} (h : ok_X11_dependence v1 v2 v3 v4 M (fun r _ M1 => jnb M1 = jnb M ∧ Q 0 0 (jup M1 61 0 (0 : Int32).toNatClampNeg r)) (fun E M1 => (E = "java/lang/IndexOutOfBoundsException" ∧ Q 1 0 M1) ∨ (E = "java/lang/IllegalArgumentException" ∧ Q 2 0 M1) ∨ (E = "java/util/NoSuchElementException" ∧ Q 3 0 M1))) : ok_L_dependence v1 v2 v3 v4 M Q := by
  refine jr_enterH (lv := fun g => [(0, .ref (g 10 0)), (1, .int v1), (2, .int v2), (3, .int v3), (4, .int v4), (5, .ref (g 61 0))]) (by decide) (fun g => rfl) (fun g => Nat.le_of_ble_eq_true rfl) ?_
  intro p l e s m args below meth c D cA base g C hr htab H locs G ls hl
  refine lv_aload C.x C.b dL_dependence_0 (lv_at hl 5 rfl) ?_
  refine lv_iconst (v := 0) C.x C.b dL_dependence_2 (by decide) ?_
  refine lv_aload_n C.x C.b dL_dependence_3 rfl (lv_at hl 0 rfl) ?_
  refine lv_iload_n C.x C.b dL_dependence_4 rfl (lv_at hl 1 rfl) ?_
  refine lv_iload_n C.x C.b dL_dependence_5 rfl (lv_at hl 2 rfl) ?_
  refine lv_iload_n C.x C.b dL_dependence_6 rfl (lv_at hl 3 rfl) ?_
  refine lv_iload C.x C.b dL_dependence_7 (lv_at hl 4 rfl) ?_
  refine jr_VH (d' := 9) C G jc10 jm_X11_dependence wd956 h rfl (show 0 < 1 by decide) (by decide) rfl rfl (by decide) (by decide) (by decide) ⟨rfl, rfl⟩ hl.1 (Nat.le_of_ble_eq_true rfl) dL_dependence_9 (fun E ce q9 M1 H locs hX G h1 h2 h3 => ?_) (fun r rn M1 H locs h G => ?_)
  · skip
    rcases hX with ⟨rfl, h⟩ | ⟨rfl, h⟩ | ⟨rfl, h⟩
    · skip
      refine vx_catch C.ow [] ⟨0, 14, 17, 24⟩ [⟨0, 14, 21, 13⟩, ⟨0, 14, 25, 66⟩] (htab.trans rfl) (fun z hz => nomatch hz) rfl (by decide) (C.w _ wd756) (va_Nw.use rfl (C.st.2.2.1 _ jcast_IO rfl)) h1 h2 h3 ?_
      refine lv_astore (lv' := [(6, .ref q9), (0, .ref (g 10 0)), (1, .int v1), (2, .int v2), (3, .int v3), (4, .int v4), (5, .ref (g 61 0))]) C.x C.b dL_dependence_17 hl (by decide) rfl (fun ls hl => ?_)
      refine lv_iconst (v := 1) C.x C.b dL_dependence_19 (by decide) ?_
      exact jr_retI C hr G h (by decide) (by decide) dL_dependence_20
    · skip
      refine vx_catch C.ow [⟨0, 14, 17, 24⟩] ⟨0, 14, 21, 13⟩ [⟨0, 14, 25, 66⟩] (htab.trans rfl) (List.forall_mem_cons.mpr ⟨Or.inr ⟨by decide, "java/lang/IndexOutOfBoundsException", C.w _ wd756, C.st.2.2.2.2.2.2.2.2 ("java/lang/IllegalArgumentException", "java/lang/IndexOutOfBoundsException") (by decide)⟩, fun z hz => nomatch hz⟩) rfl (by decide) (C.w _ wd506) (va_Nw.use rfl (C.st.2.2.1 _ jcast_IA rfl)) h1 h2 h3 ?_
      refine lv_astore (lv' := [(6, .ref q9), (0, .ref (g 10 0)), (1, .int v1), (2, .int v2), (3, .int v3), (4, .int v4), (5, .ref (g 61 0))]) C.x C.b dL_dependence_21 hl (by decide) rfl (fun ls hl => ?_)
      refine lv_iconst (v := 2) C.x C.b dL_dependence_23 (by decide) ?_
      exact jr_retI C hr G h (by decide) (by decide) dL_dependence_24
    · skip
      refine vx_catch C.ow [⟨0, 14, 17, 24⟩, ⟨0, 14, 21, 13⟩] ⟨0, 14, 25, 66⟩ [] (htab.trans rfl) (List.forall_mem_cons.mpr ⟨Or.inr ⟨by decide, "java/lang/IndexOutOfBoundsException", C.w _ wd756, C.st.2.2.2.2.2.2.2.2 ("java/util/NoSuchElementException", "java/lang/IndexOutOfBoundsException") (by decide)⟩, List.forall_mem_cons.mpr ⟨Or.inr ⟨by decide, "java/lang/IllegalArgumentException", C.w _ wd506, C.st.2.2.2.2.2.2.2.2 ("java/util/NoSuchElementException", "java/lang/IllegalArgumentException") (by decide)⟩, fun z hz => nomatch hz⟩⟩) rfl (by decide) (C.w _ wd955) (va_Nw.use rfl (C.st.2.2.1 _ jcast_NE rfl)) h1 h2 h3 ?_
      refine lv_astore (lv' := [(6, .ref q9), (0, .ref (g 10 0)), (1, .int v1), (2, .int v2), (3, .int v3), (4, .int v4), (5, .ref (g 61 0))]) C.x C.b dL_dependence_25 hl (by decide) rfl (fun ls hl => ?_)
      refine lv_iconst (v := 3) C.x C.b dL_dependence_27 (by decide) ?_
      exact jr_retI C hr G h (by decide) (by decide) dL_dependence_28
  · obtain ⟨nM1, h⟩ := h
    refine lv_i2l C.x C.b dL_dependence_12 rfl ?_
    refine jr_last C G (v := r) (by unfold vp_in; decide) dL_dependence_13 (fun H locs G => ?_)
    refine lv_goto (tgt := 29) C.x C.b dL_dependence_14 (by decide) ?_
    refine lv_iconst (v := 0) C.x C.b dL_dependence_29 (by decide) ?_
    exact jr_retI C hr G h (by decide) (by decide) dL_dependence_30

set_option maxHeartbeats 4000000 in
set_option maxRecDepth 100000 in
theorem wr_required {v1 v2 : Int32} {M : jM} {Q : Int32 → Nat → jM → Prop} (h : ok_X11_required v1 v2 M (fun r _ M1 => jnb M1 = jnb M ∧ Q 0 0 (jup M1 61 0 (0 : Int32).toNatClampNeg r)) (fun E M1 => (E = "java/lang/IndexOutOfBoundsException" ∧ Q 1 0 M1) ∨ (E = "java/lang/IllegalArgumentException" ∧ Q 2 0 M1) ∨ (E = "java/util/NoSuchElementException" ∧ Q 3 0 M1))) : ok_L_required v1 v2 M Q := by
  refine jr_enterH (lv := fun g => [(0, .ref (g 10 0)), (1, .int v1), (2, .int v2), (3, .ref (g 61 0))]) (by decide) (fun g => rfl) (fun g => Nat.le_of_ble_eq_true rfl) ?_
  intro p l e s m args below meth c D cA base g C hr htab H locs G ls hl
  refine lv_aload_n C.x C.b dL_required_0 rfl (lv_at hl 3 rfl) ?_
  refine lv_iconst (v := 0) C.x C.b dL_required_1 (by decide) ?_
  refine lv_aload_n C.x C.b dL_required_2 rfl (lv_at hl 0 rfl) ?_
  refine lv_iload_n C.x C.b dL_required_3 rfl (lv_at hl 1 rfl) ?_
  refine lv_iload_n C.x C.b dL_required_4 rfl (lv_at hl 2 rfl) ?_
  refine jr_VH (d' := 9) C G jc10 jm_X11_required wd980 h rfl (show 0 < 1 by decide) (by decide) rfl rfl (by decide) (by decide) (by decide) ⟨rfl, rfl⟩ hl.1 (Nat.le_of_ble_eq_true rfl) dL_required_5 (fun E ce q9 M1 H locs hX G h1 h2 h3 => ?_) (fun r rn M1 H locs h G => ?_)
  · skip
    rcases hX with ⟨rfl, h⟩ | ⟨rfl, h⟩ | ⟨rfl, h⟩
    · skip
      refine vx_catch C.ow [] ⟨0, 10, 13, 24⟩ [⟨0, 10, 17, 13⟩, ⟨0, 10, 21, 66⟩] (htab.trans rfl) (fun z hz => nomatch hz) rfl (by decide) (C.w _ wd756) (va_Nw.use rfl (C.st.2.2.1 _ jcast_IO rfl)) h1 h2 h3 ?_
      refine lv_astore (lv' := [(4, .ref q9), (0, .ref (g 10 0)), (1, .int v1), (2, .int v2), (3, .ref (g 61 0))]) C.x C.b dL_required_13 hl (by decide) rfl (fun ls hl => ?_)
      refine lv_iconst (v := 1) C.x C.b dL_required_15 (by decide) ?_
      exact jr_retI C hr G h (by decide) (by decide) dL_required_16
    · skip
      refine vx_catch C.ow [⟨0, 10, 13, 24⟩] ⟨0, 10, 17, 13⟩ [⟨0, 10, 21, 66⟩] (htab.trans rfl) (List.forall_mem_cons.mpr ⟨Or.inr ⟨by decide, "java/lang/IndexOutOfBoundsException", C.w _ wd756, C.st.2.2.2.2.2.2.2.2 ("java/lang/IllegalArgumentException", "java/lang/IndexOutOfBoundsException") (by decide)⟩, fun z hz => nomatch hz⟩) rfl (by decide) (C.w _ wd506) (va_Nw.use rfl (C.st.2.2.1 _ jcast_IA rfl)) h1 h2 h3 ?_
      refine lv_astore (lv' := [(4, .ref q9), (0, .ref (g 10 0)), (1, .int v1), (2, .int v2), (3, .ref (g 61 0))]) C.x C.b dL_required_17 hl (by decide) rfl (fun ls hl => ?_)
      refine lv_iconst (v := 2) C.x C.b dL_required_19 (by decide) ?_
      exact jr_retI C hr G h (by decide) (by decide) dL_required_20
    · skip
      refine vx_catch C.ow [⟨0, 10, 13, 24⟩, ⟨0, 10, 17, 13⟩] ⟨0, 10, 21, 66⟩ [] (htab.trans rfl) (List.forall_mem_cons.mpr ⟨Or.inr ⟨by decide, "java/lang/IndexOutOfBoundsException", C.w _ wd756, C.st.2.2.2.2.2.2.2.2 ("java/util/NoSuchElementException", "java/lang/IndexOutOfBoundsException") (by decide)⟩, List.forall_mem_cons.mpr ⟨Or.inr ⟨by decide, "java/lang/IllegalArgumentException", C.w _ wd506, C.st.2.2.2.2.2.2.2.2 ("java/util/NoSuchElementException", "java/lang/IllegalArgumentException") (by decide)⟩, fun z hz => nomatch hz⟩⟩) rfl (by decide) (C.w _ wd955) (va_Nw.use rfl (C.st.2.2.1 _ jcast_NE rfl)) h1 h2 h3 ?_
      refine lv_astore (lv' := [(4, .ref q9), (0, .ref (g 10 0)), (1, .int v1), (2, .int v2), (3, .ref (g 61 0))]) C.x C.b dL_required_21 hl (by decide) rfl (fun ls hl => ?_)
      refine lv_iconst (v := 3) C.x C.b dL_required_23 (by decide) ?_
      exact jr_retI C hr G h (by decide) (by decide) dL_required_24
  · obtain ⟨nM1, h⟩ := h
    refine lv_i2l C.x C.b dL_required_8 rfl ?_
    refine jr_last C G (v := r) (by unfold vp_in; decide) dL_required_9 (fun H locs G => ?_)
    refine lv_goto (tgt := 25) C.x C.b dL_required_10 (by decide) ?_
    refine lv_iconst (v := 0) C.x C.b dL_required_25 (by decide) ?_
    exact jr_retI C hr G h (by decide) (by decide) dL_required_26

set_option maxHeartbeats 4000000 in
set_option maxRecDepth 100000 in
theorem wr_isAllowed {v1 v2 : Int32} {M : jM} {Q : Int32 → Nat → jM → Prop} (h : ok_X11_isAllowed v1 v2 M (fun r _ M1 => jnb M1 = jnb M ∧ (¬ r = 0 → Q 0 0 (jup M1 61 0 (0 : Int32).toNatClampNeg 1)) ∧ (r = 0 → Q 0 0 (jup M1 61 0 (0 : Int32).toNatClampNeg 0))) (fun E M1 => (E = "java/lang/IndexOutOfBoundsException" ∧ Q 1 0 M1) ∨ (E = "java/lang/IllegalArgumentException" ∧ Q 2 0 M1))) : ok_L_isAllowed v1 v2 M Q := by
  refine jr_enterH (lv := fun g => [(0, .ref (g 10 0)), (1, .int v1), (2, .int v2), (3, .ref (g 61 0))]) (by decide) (fun g => rfl) (fun g => Nat.le_of_ble_eq_true rfl) ?_
  intro p l e s m args below meth c D cA base g C hr htab H locs G ls hl
  refine lv_aload_n C.x C.b dL_isAllowed_0 rfl (lv_at hl 3 rfl) ?_
  refine lv_iconst (v := 0) C.x C.b dL_isAllowed_1 (by decide) ?_
  refine lv_aload_n C.x C.b dL_isAllowed_2 rfl (lv_at hl 0 rfl) ?_
  refine lv_iload_n C.x C.b dL_isAllowed_3 rfl (lv_at hl 1 rfl) ?_
  refine lv_iload_n C.x C.b dL_isAllowed_4 rfl (lv_at hl 2 rfl) ?_
  refine jr_VH (d' := 9) C G jc10 jm_X11_isAllowed wd988 h rfl (show 0 < 1 by decide) (by decide) rfl rfl (by decide) (by decide) (by decide) ⟨rfl, rfl⟩ hl.1 (Nat.le_of_ble_eq_true rfl) dL_isAllowed_5 (fun E ce q9 M1 H locs hX G h1 h2 h3 => ?_) (fun r rn M1 H locs h G => ?_)
  · skip
    rcases hX with ⟨rfl, h⟩ | ⟨rfl, h⟩
    · skip
      refine vx_catch C.ow [] ⟨0, 17, 20, 24⟩ [⟨0, 17, 24, 13⟩] (htab.trans rfl) (fun z hz => nomatch hz) rfl (by decide) (C.w _ wd756) (va_Nw.use rfl (C.st.2.2.1 _ jcast_IO rfl)) h1 h2 h3 ?_
      refine lv_astore (lv' := [(4, .ref q9), (0, .ref (g 10 0)), (1, .int v1), (2, .int v2), (3, .ref (g 61 0))]) C.x C.b dL_isAllowed_20 hl (by decide) rfl (fun ls hl => ?_)
      refine lv_iconst (v := 1) C.x C.b dL_isAllowed_22 (by decide) ?_
      exact jr_retI C hr G h (by decide) (by decide) dL_isAllowed_23
    · skip
      refine vx_catch C.ow [⟨0, 17, 20, 24⟩] ⟨0, 17, 24, 13⟩ [] (htab.trans rfl) (List.forall_mem_cons.mpr ⟨Or.inr ⟨by decide, "java/lang/IndexOutOfBoundsException", C.w _ wd756, C.st.2.2.2.2.2.2.2.2 ("java/lang/IllegalArgumentException", "java/lang/IndexOutOfBoundsException") (by decide)⟩, fun z hz => nomatch hz⟩) rfl (by decide) (C.w _ wd506) (va_Nw.use rfl (C.st.2.2.1 _ jcast_IA rfl)) h1 h2 h3 ?_
      refine lv_astore (lv' := [(4, .ref q9), (0, .ref (g 10 0)), (1, .int v1), (2, .int v2), (3, .ref (g 61 0))]) C.x C.b dL_isAllowed_24 hl (by decide) rfl (fun ls hl => ?_)
      refine lv_iconst (v := 2) C.x C.b dL_isAllowed_26 (by decide) ?_
      exact jr_retI C hr G h (by decide) (by decide) dL_isAllowed_27
  · obtain ⟨nM1, h⟩ := h
    refine lv_if_eq (tgt := 15) C.x C.b dL_isAllowed_8 (by decide) (fun hc => ?_) (fun hc => ?_)
    · have h := h.2 hc
      refine lv_lconst (v := (0 : Int32).toInt64) C.x C.b dL_isAllowed_15 (by decide) ?_
      refine jr_last C G (v := (0 : Int32)) (by unfold vp_in; decide) dL_isAllowed_16 (fun H locs G => ?_)
      refine lv_goto (tgt := 28) C.x C.b dL_isAllowed_17 (by decide) ?_
      refine lv_iconst (v := 0) C.x C.b dL_isAllowed_28 (by decide) ?_
      exact jr_retI C hr G h (by decide) (by decide) dL_isAllowed_29
    · have h := h.1 hc
      refine lv_lconst (v := (1 : Int32).toInt64) C.x C.b dL_isAllowed_11 (by decide) ?_
      refine lv_goto (tgt := 16) C.x C.b dL_isAllowed_12 (by decide) ?_
      refine jr_last C G (v := (1 : Int32)) (by unfold vp_in; decide) dL_isAllowed_16 (fun H locs G => ?_)
      refine lv_goto (tgt := 28) C.x C.b dL_isAllowed_17 (by decide) ?_
      refine lv_iconst (v := 0) C.x C.b dL_isAllowed_28 (by decide) ?_
      exact jr_retI C hr G h (by decide) (by decide) dL_isAllowed_29

set_option maxHeartbeats 4000000 in
set_option maxRecDepth 100000 in
theorem wr_groupCount {v1 : Int32} {M : jM} {Q : Int32 → Nat → jM → Prop} (h : ok_X11_groupCount v1 M (fun r _ M1 => jnb M1 = jnb M ∧ Q 0 0 (jup M1 61 0 (0 : Int32).toNatClampNeg r)) (fun E M1 => (E = "java/lang/IllegalArgumentException" ∧ Q 1 0 M1))) : ok_L_groupCount v1 M Q := by
  refine jr_enterH (lv := fun g => [(0, .ref (g 10 0)), (1, .int v1), (2, .ref (g 61 0))]) (by decide) (fun g => rfl) (fun g => Nat.le_of_ble_eq_true rfl) ?_
  intro p l e s m args below meth c D cA base g C hr htab H locs G ls hl
  refine lv_aload_n C.x C.b dL_groupCount_0 rfl (lv_at hl 2 rfl) ?_
  refine lv_iconst (v := 0) C.x C.b dL_groupCount_1 (by decide) ?_
  refine lv_aload_n C.x C.b dL_groupCount_2 rfl (lv_at hl 0 rfl) ?_
  refine lv_iload_n C.x C.b dL_groupCount_3 rfl (lv_at hl 1 rfl) ?_
  refine jr_VH (d' := 8) C G jc10 jm_X11_groupCount wd1019 h rfl (show 0 < 1 by decide) (by decide) rfl rfl (by decide) (by decide) (by decide) ⟨rfl, rfl⟩ hl.1 (Nat.le_of_ble_eq_true rfl) dL_groupCount_4 (fun E ce q9 M1 H locs hX G h1 h2 h3 => ?_) (fun r rn M1 H locs h G => ?_)
  · skip
    obtain ⟨rfl, h⟩ := hX
    refine vx_catch C.ow [] ⟨0, 9, 12, 13⟩ [] (htab.trans rfl) (fun z hz => nomatch hz) rfl (by decide) (C.w _ wd506) (va_Nw.use rfl (C.st.2.2.1 _ jcast_IA rfl)) h1 h2 h3 ?_
    refine lv_astore_n (lv' := [(3, .ref q9), (0, .ref (g 10 0)), (1, .int v1), (2, .ref (g 61 0))]) C.x C.b dL_groupCount_12 rfl hl (by decide) rfl (fun ls hl => ?_)
    refine lv_iconst (v := 1) C.x C.b dL_groupCount_13 (by decide) ?_
    exact jr_retI C hr G h (by decide) (by decide) dL_groupCount_14
  · obtain ⟨nM1, h⟩ := h
    refine lv_i2l C.x C.b dL_groupCount_7 rfl ?_
    refine jr_last C G (v := r) (by unfold vp_in; decide) dL_groupCount_8 (fun H locs G => ?_)
    refine lv_goto (tgt := 15) C.x C.b dL_groupCount_9 (by decide) ?_
    refine lv_iconst (v := 0) C.x C.b dL_groupCount_15 (by decide) ?_
    exact jr_retI C hr G h (by decide) (by decide) dL_groupCount_16

set_option maxHeartbeats 4000000 in
set_option maxRecDepth 100000 in
theorem wr_groupOf {v1 v2 : Int32} {M : jM} {Q : Int32 → Nat → jM → Prop} (h : ok_X11_groupOf v1 v2 M (fun r _ M1 => jnb M1 = jnb M ∧ Q 0 0 (jup M1 61 0 (0 : Int32).toNatClampNeg r)) (fun E M1 => (E = "java/lang/IllegalArgumentException" ∧ Q 1 0 M1) ∨ (E = "java/lang/IndexOutOfBoundsException" ∧ Q 2 0 M1))) : ok_L_groupOf v1 v2 M Q := by
  refine jr_enterH (lv := fun g => [(0, .ref (g 10 0)), (1, .int v1), (2, .int v2), (3, .ref (g 61 0))]) (by decide) (fun g => rfl) (fun g => Nat.le_of_ble_eq_true rfl) ?_
  intro p l e s m args below meth c D cA base g C hr htab H locs G ls hl
  refine lv_aload_n C.x C.b dL_groupOf_0 rfl (lv_at hl 3 rfl) ?_
  refine lv_iconst (v := 0) C.x C.b dL_groupOf_1 (by decide) ?_
  refine lv_aload_n C.x C.b dL_groupOf_2 rfl (lv_at hl 0 rfl) ?_
  refine lv_iload_n C.x C.b dL_groupOf_3 rfl (lv_at hl 1 rfl) ?_
  refine lv_iload_n C.x C.b dL_groupOf_4 rfl (lv_at hl 2 rfl) ?_
  refine jr_VH (d' := 8) C G jc10 jm_X11_groupOf wd1077 h rfl (show 0 < 1 by decide) (by decide) rfl rfl (by decide) (by decide) (by decide) ⟨rfl, rfl⟩ hl.1 (Nat.le_of_ble_eq_true rfl) dL_groupOf_5 (fun E ce q9 M1 H locs hX G h1 h2 h3 => ?_) (fun r rn M1 H locs h G => ?_)
  · skip
    rcases hX with ⟨rfl, h⟩ | ⟨rfl, h⟩
    · skip
      refine vx_catch C.ow [] ⟨0, 10, 13, 13⟩ [⟨0, 10, 17, 24⟩] (htab.trans rfl) (fun z hz => nomatch hz) rfl (by decide) (C.w _ wd506) (va_Nw.use rfl (C.st.2.2.1 _ jcast_IA rfl)) h1 h2 h3 ?_
      refine lv_astore (lv' := [(4, .ref q9), (0, .ref (g 10 0)), (1, .int v1), (2, .int v2), (3, .ref (g 61 0))]) C.x C.b dL_groupOf_13 hl (by decide) rfl (fun ls hl => ?_)
      refine lv_iconst (v := 1) C.x C.b dL_groupOf_15 (by decide) ?_
      exact jr_retI C hr G h (by decide) (by decide) dL_groupOf_16
    · skip
      refine vx_catch C.ow [⟨0, 10, 13, 13⟩] ⟨0, 10, 17, 24⟩ [] (htab.trans rfl) (List.forall_mem_cons.mpr ⟨Or.inr ⟨by decide, "java/lang/IllegalArgumentException", C.w _ wd506, C.st.2.2.2.2.2.2.2.2 ("java/lang/IndexOutOfBoundsException", "java/lang/IllegalArgumentException") (by decide)⟩, fun z hz => nomatch hz⟩) rfl (by decide) (C.w _ wd756) (va_Nw.use rfl (C.st.2.2.1 _ jcast_IO rfl)) h1 h2 h3 ?_
      refine lv_astore (lv' := [(4, .ref q9), (0, .ref (g 10 0)), (1, .int v1), (2, .int v2), (3, .ref (g 61 0))]) C.x C.b dL_groupOf_17 hl (by decide) rfl (fun ls hl => ?_)
      refine lv_iconst (v := 2) C.x C.b dL_groupOf_19 (by decide) ?_
      exact jr_retI C hr G h (by decide) (by decide) dL_groupOf_20
  · obtain ⟨nM1, h⟩ := h
    refine lv_i2l C.x C.b dL_groupOf_8 rfl ?_
    refine jr_last C G (v := r) (by unfold vp_in; decide) dL_groupOf_9 (fun H locs G => ?_)
    refine lv_goto (tgt := 21) C.x C.b dL_groupOf_10 (by decide) ?_
    refine lv_iconst (v := 0) C.x C.b dL_groupOf_21 (by decide) ?_
    exact jr_retI C hr G h (by decide) (by decide) dL_groupOf_22

set_option maxHeartbeats 4000000 in
set_option maxRecDepth 100000 in
theorem wr_shift {v1 v2 : Int32} {M : jM} {Q : Int32 → Nat → jM → Prop} (h : ok_X11_shift v1 v2 M (fun r _ M1 => jnb M1 = jnb M ∧ Q 0 0 (jup M1 61 0 (0 : Int32).toNatClampNeg r)) (fun E M1 => (E = "java/lang/IllegalArgumentException" ∧ Q 1 0 M1) ∨ (E = "java/lang/IndexOutOfBoundsException" ∧ Q 2 0 M1))) : ok_L_shift v1 v2 M Q := by
  refine jr_enterH (lv := fun g => [(0, .ref (g 10 0)), (1, .int v1), (2, .int v2), (3, .ref (g 61 0))]) (by decide) (fun g => rfl) (fun g => Nat.le_of_ble_eq_true rfl) ?_
  intro p l e s m args below meth c D cA base g C hr htab H locs G ls hl
  refine lv_aload_n C.x C.b dL_shift_0 rfl (lv_at hl 3 rfl) ?_
  refine lv_iconst (v := 0) C.x C.b dL_shift_1 (by decide) ?_
  refine lv_aload_n C.x C.b dL_shift_2 rfl (lv_at hl 0 rfl) ?_
  refine lv_iload_n C.x C.b dL_shift_3 rfl (lv_at hl 1 rfl) ?_
  refine lv_iload_n C.x C.b dL_shift_4 rfl (lv_at hl 2 rfl) ?_
  refine jr_VH (d' := 8) C G jc10 jm_X11_shift wd1088 h rfl (show 0 < 1 by decide) (by decide) rfl rfl (by decide) (by decide) (by decide) ⟨rfl, rfl⟩ hl.1 (Nat.le_of_ble_eq_true rfl) dL_shift_5 (fun E ce q9 M1 H locs hX G h1 h2 h3 => ?_) (fun r rn M1 H locs h G => ?_)
  · skip
    rcases hX with ⟨rfl, h⟩ | ⟨rfl, h⟩
    · skip
      refine vx_catch C.ow [] ⟨0, 10, 13, 13⟩ [⟨0, 10, 17, 24⟩] (htab.trans rfl) (fun z hz => nomatch hz) rfl (by decide) (C.w _ wd506) (va_Nw.use rfl (C.st.2.2.1 _ jcast_IA rfl)) h1 h2 h3 ?_
      refine lv_astore (lv' := [(4, .ref q9), (0, .ref (g 10 0)), (1, .int v1), (2, .int v2), (3, .ref (g 61 0))]) C.x C.b dL_shift_13 hl (by decide) rfl (fun ls hl => ?_)
      refine lv_iconst (v := 1) C.x C.b dL_shift_15 (by decide) ?_
      exact jr_retI C hr G h (by decide) (by decide) dL_shift_16
    · skip
      refine vx_catch C.ow [⟨0, 10, 13, 13⟩] ⟨0, 10, 17, 24⟩ [] (htab.trans rfl) (List.forall_mem_cons.mpr ⟨Or.inr ⟨by decide, "java/lang/IllegalArgumentException", C.w _ wd506, C.st.2.2.2.2.2.2.2.2 ("java/lang/IndexOutOfBoundsException", "java/lang/IllegalArgumentException") (by decide)⟩, fun z hz => nomatch hz⟩) rfl (by decide) (C.w _ wd756) (va_Nw.use rfl (C.st.2.2.1 _ jcast_IO rfl)) h1 h2 h3 ?_
      refine lv_astore (lv' := [(4, .ref q9), (0, .ref (g 10 0)), (1, .int v1), (2, .int v2), (3, .ref (g 61 0))]) C.x C.b dL_shift_17 hl (by decide) rfl (fun ls hl => ?_)
      refine lv_iconst (v := 2) C.x C.b dL_shift_19 (by decide) ?_
      exact jr_retI C hr G h (by decide) (by decide) dL_shift_20
  · obtain ⟨nM1, h⟩ := h
    refine lv_i2l C.x C.b dL_shift_8 rfl ?_
    refine jr_last C G (v := r) (by unfold vp_in; decide) dL_shift_9 (fun H locs G => ?_)
    refine lv_goto (tgt := 21) C.x C.b dL_shift_10 (by decide) ?_
    refine lv_iconst (v := 0) C.x C.b dL_shift_21 (by decide) ?_
    exact jr_retI C hr G h (by decide) (by decide) dL_shift_22

set_option maxHeartbeats 4000000 in
set_option maxRecDepth 100000 in
theorem wr_step {v1 v2 v3 : Int32} {M : jM} {Q : Int32 → Nat → jM → Prop} (h : ok_X11_step v1 v2 v3 M (fun r _ M1 => jnb M1 = jnb M ∧ Q 0 0 (jup M1 61 0 (0 : Int32).toNatClampNeg r)) (fun E M1 => (E = "java/lang/IllegalArgumentException" ∧ Q 1 0 M1) ∨ (E = "java/lang/IndexOutOfBoundsException" ∧ Q 2 0 M1) ∨ (E = "java/util/NoSuchElementException" ∧ Q 3 0 M1))) : ok_L_step v1 v2 v3 M Q := by
  refine jr_enterH (lv := fun g => [(0, .ref (g 10 0)), (1, .int v1), (2, .int v2), (3, .int v3), (4, .ref (g 61 0))]) (by decide) (fun g => rfl) (fun g => Nat.le_of_ble_eq_true rfl) ?_
  intro p l e s m args below meth c D cA base g C hr htab H locs G ls hl
  refine lv_aload C.x C.b dL_step_0 (lv_at hl 4 rfl) ?_
  refine lv_iconst (v := 0) C.x C.b dL_step_2 (by decide) ?_
  refine lv_aload_n C.x C.b dL_step_3 rfl (lv_at hl 0 rfl) ?_
  refine lv_iload_n C.x C.b dL_step_4 rfl (lv_at hl 1 rfl) ?_
  refine lv_iload_n C.x C.b dL_step_5 rfl (lv_at hl 2 rfl) ?_
  refine lv_iload_n C.x C.b dL_step_6 rfl (lv_at hl 3 rfl) ?_
  refine jr_VH (d' := 8) C G jc10 jm_X11_step wd1099 h rfl (show 0 < 1 by decide) (by decide) rfl rfl (by decide) (by decide) (by decide) ⟨rfl, rfl⟩ hl.1 (Nat.le_of_ble_eq_true rfl) dL_step_7 (fun E ce q9 M1 H locs hX G h1 h2 h3 => ?_) (fun r rn M1 H locs h G => ?_)
  · skip
    rcases hX with ⟨rfl, h⟩ | ⟨rfl, h⟩ | ⟨rfl, h⟩
    · skip
      refine vx_catch C.ow [] ⟨0, 12, 15, 13⟩ [⟨0, 12, 19, 24⟩, ⟨0, 12, 23, 66⟩] (htab.trans rfl) (fun z hz => nomatch hz) rfl (by decide) (C.w _ wd506) (va_Nw.use rfl (C.st.2.2.1 _ jcast_IA rfl)) h1 h2 h3 ?_
      refine lv_astore (lv' := [(5, .ref q9), (0, .ref (g 10 0)), (1, .int v1), (2, .int v2), (3, .int v3), (4, .ref (g 61 0))]) C.x C.b dL_step_15 hl (by decide) rfl (fun ls hl => ?_)
      refine lv_iconst (v := 1) C.x C.b dL_step_17 (by decide) ?_
      exact jr_retI C hr G h (by decide) (by decide) dL_step_18
    · skip
      refine vx_catch C.ow [⟨0, 12, 15, 13⟩] ⟨0, 12, 19, 24⟩ [⟨0, 12, 23, 66⟩] (htab.trans rfl) (List.forall_mem_cons.mpr ⟨Or.inr ⟨by decide, "java/lang/IllegalArgumentException", C.w _ wd506, C.st.2.2.2.2.2.2.2.2 ("java/lang/IndexOutOfBoundsException", "java/lang/IllegalArgumentException") (by decide)⟩, fun z hz => nomatch hz⟩) rfl (by decide) (C.w _ wd756) (va_Nw.use rfl (C.st.2.2.1 _ jcast_IO rfl)) h1 h2 h3 ?_
      refine lv_astore (lv' := [(5, .ref q9), (0, .ref (g 10 0)), (1, .int v1), (2, .int v2), (3, .int v3), (4, .ref (g 61 0))]) C.x C.b dL_step_19 hl (by decide) rfl (fun ls hl => ?_)
      refine lv_iconst (v := 2) C.x C.b dL_step_21 (by decide) ?_
      exact jr_retI C hr G h (by decide) (by decide) dL_step_22
    · skip
      refine vx_catch C.ow [⟨0, 12, 15, 13⟩, ⟨0, 12, 19, 24⟩] ⟨0, 12, 23, 66⟩ [] (htab.trans rfl) (List.forall_mem_cons.mpr ⟨Or.inr ⟨by decide, "java/lang/IllegalArgumentException", C.w _ wd506, C.st.2.2.2.2.2.2.2.2 ("java/util/NoSuchElementException", "java/lang/IllegalArgumentException") (by decide)⟩, List.forall_mem_cons.mpr ⟨Or.inr ⟨by decide, "java/lang/IndexOutOfBoundsException", C.w _ wd756, C.st.2.2.2.2.2.2.2.2 ("java/util/NoSuchElementException", "java/lang/IndexOutOfBoundsException") (by decide)⟩, fun z hz => nomatch hz⟩⟩) rfl (by decide) (C.w _ wd955) (va_Nw.use rfl (C.st.2.2.1 _ jcast_NE rfl)) h1 h2 h3 ?_
      refine lv_astore (lv' := [(5, .ref q9), (0, .ref (g 10 0)), (1, .int v1), (2, .int v2), (3, .int v3), (4, .ref (g 61 0))]) C.x C.b dL_step_23 hl (by decide) rfl (fun ls hl => ?_)
      refine lv_iconst (v := 3) C.x C.b dL_step_25 (by decide) ?_
      exact jr_retI C hr G h (by decide) (by decide) dL_step_26
  · obtain ⟨nM1, h⟩ := h
    refine lv_i2l C.x C.b dL_step_10 rfl ?_
    refine jr_last C G (v := r) (by unfold vp_in; decide) dL_step_11 (fun H locs G => ?_)
    refine lv_goto (tgt := 27) C.x C.b dL_step_12 (by decide) ?_
    refine lv_iconst (v := 0) C.x C.b dL_step_27 (by decide) ?_
    exact jr_retI C hr G h (by decide) (by decide) dL_step_28

set_option maxHeartbeats 4000000 in
set_option maxRecDepth 100000 in
theorem wr_peeled {v1 v2 v3 : Int32} {M : jM} {Q : Int32 → Nat → jM → Prop} (h : ok_X11_peeled v1 v2 v3 M (fun r _ M1 => jnb M1 = jnb M ∧ Q 0 0 (jup M1 61 0 (0 : Int32).toNatClampNeg r)) (fun E M1 => (E = "java/lang/IllegalArgumentException" ∧ Q 1 0 M1) ∨ (E = "java/lang/IndexOutOfBoundsException" ∧ Q 2 0 M1))) : ok_L_peeled v1 v2 v3 M Q := by
  refine jr_enterH (lv := fun g => [(0, .ref (g 10 0)), (1, .int v1), (2, .int v2), (3, .int v3), (4, .ref (g 61 0))]) (by decide) (fun g => rfl) (fun g => Nat.le_of_ble_eq_true rfl) ?_
  intro p l e s m args below meth c D cA base g C hr htab H locs G ls hl
  refine lv_aload C.x C.b dL_peeled_0 (lv_at hl 4 rfl) ?_
  refine lv_iconst (v := 0) C.x C.b dL_peeled_2 (by decide) ?_
  refine lv_aload_n C.x C.b dL_peeled_3 rfl (lv_at hl 0 rfl) ?_
  refine lv_iload_n C.x C.b dL_peeled_4 rfl (lv_at hl 1 rfl) ?_
  refine lv_iload_n C.x C.b dL_peeled_5 rfl (lv_at hl 2 rfl) ?_
  refine lv_iload_n C.x C.b dL_peeled_6 rfl (lv_at hl 3 rfl) ?_
  refine jr_VH (d' := 9) C G jc10 jm_X11_peeled wd1116 h rfl (show 0 < 1 by decide) (by decide) rfl rfl (by decide) (by decide) (by decide) ⟨rfl, rfl⟩ hl.1 (Nat.le_of_ble_eq_true rfl) dL_peeled_7 (fun E ce q9 M1 H locs hX G h1 h2 h3 => ?_) (fun r rn M1 H locs h G => ?_)
  · skip
    rcases hX with ⟨rfl, h⟩ | ⟨rfl, h⟩
    · skip
      refine vx_catch C.ow [] ⟨0, 12, 15, 13⟩ [⟨0, 12, 19, 24⟩] (htab.trans rfl) (fun z hz => nomatch hz) rfl (by decide) (C.w _ wd506) (va_Nw.use rfl (C.st.2.2.1 _ jcast_IA rfl)) h1 h2 h3 ?_
      refine lv_astore (lv' := [(5, .ref q9), (0, .ref (g 10 0)), (1, .int v1), (2, .int v2), (3, .int v3), (4, .ref (g 61 0))]) C.x C.b dL_peeled_15 hl (by decide) rfl (fun ls hl => ?_)
      refine lv_iconst (v := 1) C.x C.b dL_peeled_17 (by decide) ?_
      exact jr_retI C hr G h (by decide) (by decide) dL_peeled_18
    · skip
      refine vx_catch C.ow [⟨0, 12, 15, 13⟩] ⟨0, 12, 19, 24⟩ [] (htab.trans rfl) (List.forall_mem_cons.mpr ⟨Or.inr ⟨by decide, "java/lang/IllegalArgumentException", C.w _ wd506, C.st.2.2.2.2.2.2.2.2 ("java/lang/IndexOutOfBoundsException", "java/lang/IllegalArgumentException") (by decide)⟩, fun z hz => nomatch hz⟩) rfl (by decide) (C.w _ wd756) (va_Nw.use rfl (C.st.2.2.1 _ jcast_IO rfl)) h1 h2 h3 ?_
      refine lv_astore (lv' := [(5, .ref q9), (0, .ref (g 10 0)), (1, .int v1), (2, .int v2), (3, .int v3), (4, .ref (g 61 0))]) C.x C.b dL_peeled_19 hl (by decide) rfl (fun ls hl => ?_)
      refine lv_iconst (v := 2) C.x C.b dL_peeled_21 (by decide) ?_
      exact jr_retI C hr G h (by decide) (by decide) dL_peeled_22
  · obtain ⟨nM1, h⟩ := h
    refine lv_i2l C.x C.b dL_peeled_10 rfl ?_
    refine jr_last C G (v := r) (by unfold vp_in; decide) dL_peeled_11 (fun H locs G => ?_)
    refine lv_goto (tgt := 23) C.x C.b dL_peeled_12 (by decide) ?_
    refine lv_iconst (v := 0) C.x C.b dL_peeled_23 (by decide) ?_
    exact jr_retI C hr G h (by decide) (by decide) dL_peeled_24

set_option maxHeartbeats 4000000 in
set_option maxRecDepth 100000 in
theorem wr_carried {v1 v2 : Int32} {M : jM} {Q : Int32 → Nat → jM → Prop} (h : ok_X11_carried v1 v2 M (fun r _ M1 => jnb M1 = jnb M ∧ Q 0 0 (jup M1 61 0 (0 : Int32).toNatClampNeg r)) (fun E M1 => (E = "java/lang/IllegalArgumentException" ∧ Q 1 0 M1) ∨ (E = "java/lang/IndexOutOfBoundsException" ∧ Q 2 0 M1))) : ok_L_carried v1 v2 M Q := by
  refine jr_enterH (lv := fun g => [(0, .ref (g 10 0)), (1, .int v1), (2, .int v2), (3, .ref (g 61 0))]) (by decide) (fun g => rfl) (fun g => Nat.le_of_ble_eq_true rfl) ?_
  intro p l e s m args below meth c D cA base g C hr htab H locs G ls hl
  refine lv_aload_n C.x C.b dL_carried_0 rfl (lv_at hl 3 rfl) ?_
  refine lv_iconst (v := 0) C.x C.b dL_carried_1 (by decide) ?_
  refine lv_aload_n C.x C.b dL_carried_2 rfl (lv_at hl 0 rfl) ?_
  refine lv_iload_n C.x C.b dL_carried_3 rfl (lv_at hl 1 rfl) ?_
  refine lv_iload_n C.x C.b dL_carried_4 rfl (lv_at hl 2 rfl) ?_
  refine jr_VH (d' := 8) C G jc10 jm_X11_carried wd1123 h rfl (show 0 < 1 by decide) (by decide) rfl rfl (by decide) (by decide) (by decide) ⟨rfl, rfl⟩ hl.1 (Nat.le_of_ble_eq_true rfl) dL_carried_5 (fun E ce q9 M1 H locs hX G h1 h2 h3 => ?_) (fun r rn M1 H locs h G => ?_)
  · skip
    rcases hX with ⟨rfl, h⟩ | ⟨rfl, h⟩
    · skip
      refine vx_catch C.ow [] ⟨0, 10, 13, 13⟩ [⟨0, 10, 17, 24⟩] (htab.trans rfl) (fun z hz => nomatch hz) rfl (by decide) (C.w _ wd506) (va_Nw.use rfl (C.st.2.2.1 _ jcast_IA rfl)) h1 h2 h3 ?_
      refine lv_astore (lv' := [(4, .ref q9), (0, .ref (g 10 0)), (1, .int v1), (2, .int v2), (3, .ref (g 61 0))]) C.x C.b dL_carried_13 hl (by decide) rfl (fun ls hl => ?_)
      refine lv_iconst (v := 1) C.x C.b dL_carried_15 (by decide) ?_
      exact jr_retI C hr G h (by decide) (by decide) dL_carried_16
    · skip
      refine vx_catch C.ow [⟨0, 10, 13, 13⟩] ⟨0, 10, 17, 24⟩ [] (htab.trans rfl) (List.forall_mem_cons.mpr ⟨Or.inr ⟨by decide, "java/lang/IllegalArgumentException", C.w _ wd506, C.st.2.2.2.2.2.2.2.2 ("java/lang/IndexOutOfBoundsException", "java/lang/IllegalArgumentException") (by decide)⟩, fun z hz => nomatch hz⟩) rfl (by decide) (C.w _ wd756) (va_Nw.use rfl (C.st.2.2.1 _ jcast_IO rfl)) h1 h2 h3 ?_
      refine lv_astore (lv' := [(4, .ref q9), (0, .ref (g 10 0)), (1, .int v1), (2, .int v2), (3, .ref (g 61 0))]) C.x C.b dL_carried_17 hl (by decide) rfl (fun ls hl => ?_)
      refine lv_iconst (v := 2) C.x C.b dL_carried_19 (by decide) ?_
      exact jr_retI C hr G h (by decide) (by decide) dL_carried_20
  · obtain ⟨nM1, h⟩ := h
    refine lv_i2l C.x C.b dL_carried_8 rfl ?_
    refine jr_last C G (v := r) (by unfold vp_in; decide) dL_carried_9 (fun H locs G => ?_)
    refine lv_goto (tgt := 21) C.x C.b dL_carried_10 (by decide) ?_
    refine lv_iconst (v := 0) C.x C.b dL_carried_21 (by decide) ?_
    exact jr_retI C hr G h (by decide) (by decide) dL_carried_22

set_option maxHeartbeats 4000000 in
set_option maxRecDepth 100000 in
theorem wr_reads {v1 v2 : Int32} {M : jM} {Q : Int32 → Nat → jM → Prop} (h : ok_X11_reads v1 v2 M (fun r _ M1 => jnb M1 = jnb M ∧ Q 0 0 (jup M1 61 0 (0 : Int32).toNatClampNeg r)) (fun E M1 => (E = "java/lang/IllegalArgumentException" ∧ Q 1 0 M1))) : ok_L_reads v1 v2 M Q := by
  refine jr_enterH (lv := fun g => [(0, .ref (g 10 0)), (1, .int v1), (2, .int v2), (3, .ref (g 61 0))]) (by decide) (fun g => rfl) (fun g => Nat.le_of_ble_eq_true rfl) ?_
  intro p l e s m args below meth c D cA base g C hr htab H locs G ls hl
  refine lv_aload_n C.x C.b dL_reads_0 rfl (lv_at hl 3 rfl) ?_
  refine lv_iconst (v := 0) C.x C.b dL_reads_1 (by decide) ?_
  refine lv_aload_n C.x C.b dL_reads_2 rfl (lv_at hl 0 rfl) ?_
  refine lv_iload_n C.x C.b dL_reads_3 rfl (lv_at hl 1 rfl) ?_
  refine lv_iload_n C.x C.b dL_reads_4 rfl (lv_at hl 2 rfl) ?_
  refine jr_VH (d' := 8) C G jc10 jm_X11_reads wd1134 h rfl (show 0 < 1 by decide) (by decide) rfl rfl (by decide) (by decide) (by decide) ⟨rfl, rfl⟩ hl.1 (Nat.le_of_ble_eq_true rfl) dL_reads_5 (fun E ce q9 M1 H locs hX G h1 h2 h3 => ?_) (fun r rn M1 H locs h G => ?_)
  · skip
    obtain ⟨rfl, h⟩ := hX
    refine vx_catch C.ow [] ⟨0, 10, 13, 13⟩ [] (htab.trans rfl) (fun z hz => nomatch hz) rfl (by decide) (C.w _ wd506) (va_Nw.use rfl (C.st.2.2.1 _ jcast_IA rfl)) h1 h2 h3 ?_
    refine lv_astore (lv' := [(4, .ref q9), (0, .ref (g 10 0)), (1, .int v1), (2, .int v2), (3, .ref (g 61 0))]) C.x C.b dL_reads_13 hl (by decide) rfl (fun ls hl => ?_)
    refine lv_iconst (v := 1) C.x C.b dL_reads_15 (by decide) ?_
    exact jr_retI C hr G h (by decide) (by decide) dL_reads_16
  · obtain ⟨nM1, h⟩ := h
    refine lv_i2l C.x C.b dL_reads_8 rfl ?_
    refine jr_last C G (v := r) (by unfold vp_in; decide) dL_reads_9 (fun H locs G => ?_)
    refine lv_goto (tgt := 17) C.x C.b dL_reads_10 (by decide) ?_
    refine lv_iconst (v := 0) C.x C.b dL_reads_17 (by decide) ?_
    exact jr_retI C hr G h (by decide) (by decide) dL_reads_18

set_option maxHeartbeats 4000000 in
set_option maxRecDepth 100000 in
theorem wr_hits {v1 v2 : Int32} {M : jM} {Q : Int32 → Nat → jM → Prop} (h : ok_X11_hits v1 v2 M (fun r _ M1 => jnb M1 = jnb M ∧ Q 0 0 (jup M1 61 0 (0 : Int32).toNatClampNeg r)) (fun E M1 => (E = "java/lang/IndexOutOfBoundsException" ∧ Q 1 0 M1) ∨ (E = "java/lang/IllegalArgumentException" ∧ Q 2 0 M1))) : ok_L_hits v1 v2 M Q := by
  refine jr_enterH (lv := fun g => [(0, .ref (g 10 0)), (1, .int v1), (2, .int v2), (3, .ref (g 61 0))]) (by decide) (fun g => rfl) (fun g => Nat.le_of_ble_eq_true rfl) ?_
  intro p l e s m args below meth c D cA base g C hr htab H locs G ls hl
  refine lv_aload_n C.x C.b dL_hits_0 rfl (lv_at hl 3 rfl) ?_
  refine lv_iconst (v := 0) C.x C.b dL_hits_1 (by decide) ?_
  refine lv_aload_n C.x C.b dL_hits_2 rfl (lv_at hl 0 rfl) ?_
  refine lv_iload_n C.x C.b dL_hits_3 rfl (lv_at hl 1 rfl) ?_
  refine lv_iload_n C.x C.b dL_hits_4 rfl (lv_at hl 2 rfl) ?_
  refine jr_VH (d' := 9) C G jc10 jm_X11_hits wd1144 h rfl (show 0 < 1 by decide) (by decide) rfl rfl (by decide) (by decide) (by decide) ⟨rfl, rfl⟩ hl.1 (Nat.le_of_ble_eq_true rfl) dL_hits_5 (fun E ce q9 M1 H locs hX G h1 h2 h3 => ?_) (fun r rn M1 H locs h G => ?_)
  · skip
    rcases hX with ⟨rfl, h⟩ | ⟨rfl, h⟩
    · skip
      refine vx_catch C.ow [] ⟨0, 10, 13, 24⟩ [⟨0, 10, 17, 13⟩] (htab.trans rfl) (fun z hz => nomatch hz) rfl (by decide) (C.w _ wd756) (va_Nw.use rfl (C.st.2.2.1 _ jcast_IO rfl)) h1 h2 h3 ?_
      refine lv_astore (lv' := [(4, .ref q9), (0, .ref (g 10 0)), (1, .int v1), (2, .int v2), (3, .ref (g 61 0))]) C.x C.b dL_hits_13 hl (by decide) rfl (fun ls hl => ?_)
      refine lv_iconst (v := 1) C.x C.b dL_hits_15 (by decide) ?_
      exact jr_retI C hr G h (by decide) (by decide) dL_hits_16
    · skip
      refine vx_catch C.ow [⟨0, 10, 13, 24⟩] ⟨0, 10, 17, 13⟩ [] (htab.trans rfl) (List.forall_mem_cons.mpr ⟨Or.inr ⟨by decide, "java/lang/IndexOutOfBoundsException", C.w _ wd756, C.st.2.2.2.2.2.2.2.2 ("java/lang/IllegalArgumentException", "java/lang/IndexOutOfBoundsException") (by decide)⟩, fun z hz => nomatch hz⟩) rfl (by decide) (C.w _ wd506) (va_Nw.use rfl (C.st.2.2.1 _ jcast_IA rfl)) h1 h2 h3 ?_
      refine lv_astore (lv' := [(4, .ref q9), (0, .ref (g 10 0)), (1, .int v1), (2, .int v2), (3, .ref (g 61 0))]) C.x C.b dL_hits_17 hl (by decide) rfl (fun ls hl => ?_)
      refine lv_iconst (v := 2) C.x C.b dL_hits_19 (by decide) ?_
      exact jr_retI C hr G h (by decide) (by decide) dL_hits_20
  · obtain ⟨nM1, h⟩ := h
    refine lv_i2l C.x C.b dL_hits_8 rfl ?_
    refine jr_last C G (v := r) (by unfold vp_in; decide) dL_hits_9 (fun H locs G => ?_)
    refine lv_goto (tgt := 21) C.x C.b dL_hits_10 (by decide) ?_
    refine lv_iconst (v := 0) C.x C.b dL_hits_21 (by decide) ?_
    exact jr_retI C hr G h (by decide) (by decide) dL_hits_22

set_option maxHeartbeats 4000000 in
set_option maxRecDepth 100000 in
theorem wr_run {v1 : Int32} {M : jM} {Q : Int32 → Nat → jM → Prop} (h : ok_X11_run v1 M (fun r _ M1 => jnb M1 = jnb M ∧ Q 0 0 (jup M1 61 0 (0 : Int32).toNatClampNeg r)) (fun E M1 => (E = "java/lang/IllegalArgumentException" ∧ Q 1 0 M1))) : ok_L_run v1 M Q := by
  refine jr_enterH (lv := fun g => [(0, .ref (g 10 0)), (1, .int v1), (2, .ref (g 61 0))]) (by decide) (fun g => rfl) (fun g => Nat.le_of_ble_eq_true rfl) ?_
  intro p l e s m args below meth c D cA base g C hr htab H locs G ls hl
  refine lv_aload_n C.x C.b dL_run_0 rfl (lv_at hl 2 rfl) ?_
  refine lv_iconst (v := 0) C.x C.b dL_run_1 (by decide) ?_
  refine lv_aload_n C.x C.b dL_run_2 rfl (lv_at hl 0 rfl) ?_
  refine lv_iload_n C.x C.b dL_run_3 rfl (lv_at hl 1 rfl) ?_
  refine jr_VH (d' := 8) C G jc10 jm_X11_run wd1152 h rfl (show 0 < 1 by decide) (by decide) rfl rfl (by decide) (by decide) (by decide) ⟨rfl, rfl⟩ hl.1 (Nat.le_of_ble_eq_true rfl) dL_run_4 (fun E ce q9 M1 H locs hX G h1 h2 h3 => ?_) (fun r rn M1 H locs h G => ?_)
  · skip
    obtain ⟨rfl, h⟩ := hX
    refine vx_catch C.ow [] ⟨0, 9, 12, 13⟩ [] (htab.trans rfl) (fun z hz => nomatch hz) rfl (by decide) (C.w _ wd506) (va_Nw.use rfl (C.st.2.2.1 _ jcast_IA rfl)) h1 h2 h3 ?_
    refine lv_astore_n (lv' := [(3, .ref q9), (0, .ref (g 10 0)), (1, .int v1), (2, .ref (g 61 0))]) C.x C.b dL_run_12 rfl hl (by decide) rfl (fun ls hl => ?_)
    refine lv_iconst (v := 1) C.x C.b dL_run_13 (by decide) ?_
    exact jr_retI C hr G h (by decide) (by decide) dL_run_14
  · obtain ⟨nM1, h⟩ := h
    refine lv_i2l C.x C.b dL_run_7 rfl ?_
    refine jr_last C G (v := r) (by unfold vp_in; decide) dL_run_8 (fun H locs G => ?_)
    refine lv_goto (tgt := 15) C.x C.b dL_run_9 (by decide) ?_
    refine lv_iconst (v := 0) C.x C.b dL_run_15 (by decide) ?_
    exact jr_retI C hr G h (by decide) (by decide) dL_run_16

set_option maxHeartbeats 4000000 in
set_option maxRecDepth 100000 in
theorem wr_cell {v1 v2 v3 : Int32} {M : jM} {Q : Int32 → Nat → jM → Prop} (h : ok_X11_cell v1 v2 v3 M (fun r _ M1 => jnb M1 = jnb M ∧ Q 0 0 (jup M1 61 0 (0 : Int32).toNatClampNeg r)) (fun E M1 => (E = "java/lang/IllegalArgumentException" ∧ Q 1 0 M1) ∨ (E = "java/lang/IndexOutOfBoundsException" ∧ Q 2 0 M1))) : ok_L_cell v1 v2 v3 M Q := by
  refine jr_enterH (lv := fun g => [(0, .ref (g 10 0)), (1, .int v1), (2, .int v2), (3, .int v3), (4, .ref (g 61 0))]) (by decide) (fun g => rfl) (fun g => Nat.le_of_ble_eq_true rfl) ?_
  intro p l e s m args below meth c D cA base g C hr htab H locs G ls hl
  refine lv_aload C.x C.b dL_cell_0 (lv_at hl 4 rfl) ?_
  refine lv_iconst (v := 0) C.x C.b dL_cell_2 (by decide) ?_
  refine lv_aload_n C.x C.b dL_cell_3 rfl (lv_at hl 0 rfl) ?_
  refine lv_iload_n C.x C.b dL_cell_4 rfl (lv_at hl 1 rfl) ?_
  refine lv_iload_n C.x C.b dL_cell_5 rfl (lv_at hl 2 rfl) ?_
  refine lv_iload_n C.x C.b dL_cell_6 rfl (lv_at hl 3 rfl) ?_
  refine jr_VH (d' := 8) C G jc10 jm_X11_cell wd1165 h rfl (show 0 < 1 by decide) (by decide) rfl rfl (by decide) (by decide) (by decide) ⟨rfl, rfl⟩ hl.1 (Nat.le_of_ble_eq_true rfl) dL_cell_7 (fun E ce q9 M1 H locs hX G h1 h2 h3 => ?_) (fun r rn M1 H locs h G => ?_)
  · skip
    rcases hX with ⟨rfl, h⟩ | ⟨rfl, h⟩
    · skip
      refine vx_catch C.ow [] ⟨0, 12, 15, 13⟩ [⟨0, 12, 19, 24⟩] (htab.trans rfl) (fun z hz => nomatch hz) rfl (by decide) (C.w _ wd506) (va_Nw.use rfl (C.st.2.2.1 _ jcast_IA rfl)) h1 h2 h3 ?_
      refine lv_astore (lv' := [(5, .ref q9), (0, .ref (g 10 0)), (1, .int v1), (2, .int v2), (3, .int v3), (4, .ref (g 61 0))]) C.x C.b dL_cell_15 hl (by decide) rfl (fun ls hl => ?_)
      refine lv_iconst (v := 1) C.x C.b dL_cell_17 (by decide) ?_
      exact jr_retI C hr G h (by decide) (by decide) dL_cell_18
    · skip
      refine vx_catch C.ow [⟨0, 12, 15, 13⟩] ⟨0, 12, 19, 24⟩ [] (htab.trans rfl) (List.forall_mem_cons.mpr ⟨Or.inr ⟨by decide, "java/lang/IllegalArgumentException", C.w _ wd506, C.st.2.2.2.2.2.2.2.2 ("java/lang/IndexOutOfBoundsException", "java/lang/IllegalArgumentException") (by decide)⟩, fun z hz => nomatch hz⟩) rfl (by decide) (C.w _ wd756) (va_Nw.use rfl (C.st.2.2.1 _ jcast_IO rfl)) h1 h2 h3 ?_
      refine lv_astore (lv' := [(5, .ref q9), (0, .ref (g 10 0)), (1, .int v1), (2, .int v2), (3, .int v3), (4, .ref (g 61 0))]) C.x C.b dL_cell_19 hl (by decide) rfl (fun ls hl => ?_)
      refine lv_iconst (v := 2) C.x C.b dL_cell_21 (by decide) ?_
      exact jr_retI C hr G h (by decide) (by decide) dL_cell_22
  · obtain ⟨nM1, h⟩ := h
    refine lv_i2l C.x C.b dL_cell_10 rfl ?_
    refine jr_last C G (v := r) (by unfold vp_in; decide) dL_cell_11 (fun H locs G => ?_)
    refine lv_goto (tgt := 23) C.x C.b dL_cell_12 (by decide) ?_
    refine lv_iconst (v := 0) C.x C.b dL_cell_23 (by decide) ?_
    exact jr_retI C hr G h (by decide) (by decide) dL_cell_24

set_option maxHeartbeats 4000000 in
set_option maxRecDepth 100000 in
theorem wr_changed {v1 : Int32} {M : jM} {Q : Int32 → Nat → jM → Prop} (h : ok_X11_changed v1 M (fun r _ M1 => jnb M1 = jnb M ∧ Q 0 0 (jup M1 61 0 (0 : Int32).toNatClampNeg r)) (fun E M1 => (E = "java/lang/IllegalArgumentException" ∧ Q 1 0 M1))) : ok_L_changed v1 M Q := by
  refine jr_enterH (lv := fun g => [(0, .ref (g 10 0)), (1, .int v1), (2, .ref (g 61 0))]) (by decide) (fun g => rfl) (fun g => Nat.le_of_ble_eq_true rfl) ?_
  intro p l e s m args below meth c D cA base g C hr htab H locs G ls hl
  refine lv_aload_n C.x C.b dL_changed_0 rfl (lv_at hl 2 rfl) ?_
  refine lv_iconst (v := 0) C.x C.b dL_changed_1 (by decide) ?_
  refine lv_aload_n C.x C.b dL_changed_2 rfl (lv_at hl 0 rfl) ?_
  refine lv_iload_n C.x C.b dL_changed_3 rfl (lv_at hl 1 rfl) ?_
  refine jr_VH (d' := 8) C G jc10 jm_X11_changed wd1173 h rfl (show 0 < 1 by decide) (by decide) rfl rfl (by decide) (by decide) (by decide) ⟨rfl, rfl⟩ hl.1 (Nat.le_of_ble_eq_true rfl) dL_changed_4 (fun E ce q9 M1 H locs hX G h1 h2 h3 => ?_) (fun r rn M1 H locs h G => ?_)
  · skip
    obtain ⟨rfl, h⟩ := hX
    refine vx_catch C.ow [] ⟨0, 9, 12, 13⟩ [] (htab.trans rfl) (fun z hz => nomatch hz) rfl (by decide) (C.w _ wd506) (va_Nw.use rfl (C.st.2.2.1 _ jcast_IA rfl)) h1 h2 h3 ?_
    refine lv_astore_n (lv' := [(3, .ref q9), (0, .ref (g 10 0)), (1, .int v1), (2, .ref (g 61 0))]) C.x C.b dL_changed_12 rfl hl (by decide) rfl (fun ls hl => ?_)
    refine lv_iconst (v := 1) C.x C.b dL_changed_13 (by decide) ?_
    exact jr_retI C hr G h (by decide) (by decide) dL_changed_14
  · obtain ⟨nM1, h⟩ := h
    refine lv_i2l C.x C.b dL_changed_7 rfl ?_
    refine jr_last C G (v := r) (by unfold vp_in; decide) dL_changed_8 (fun H locs G => ?_)
    refine lv_goto (tgt := 15) C.x C.b dL_changed_9 (by decide) ?_
    refine lv_iconst (v := 0) C.x C.b dL_changed_15 (by decide) ?_
    exact jr_retI C hr G h (by decide) (by decide) dL_changed_16

set_option maxHeartbeats 4000000 in
set_option maxRecDepth 100000 in
theorem wr_restore {M : jM} {Q : Int32 → Nat → jM → Prop} (h : ok_X11_restore  M (fun r _ M1 => jnb M1 = jnb M ∧ Q 0 0 M1) (fun E M1 => (E = "java/lang/IllegalStateException" ∧ Q 1 0 M1))) : ok_L_restore M Q := by
  refine jr_enterH (lv := fun g => [(0, .ref (g 10 0))]) (by decide) (fun g => rfl) (fun g => Nat.le_of_ble_eq_true rfl) ?_
  intro p l e s m args below meth c D cA base g C hr htab H locs G ls hl
  refine lv_aload_n C.x C.b dL_restore_0 rfl (lv_at hl 0 rfl) ?_
  refine jr_VH (d' := 7) C G jc10 jm_X11_restore wd1180 h rfl (show 0 < 1 by decide) (by decide) rfl rfl (by decide) (by decide) (by decide) ⟨rfl, rfl⟩ hl.1 (Nat.le_of_ble_eq_true rfl) dL_restore_1 (fun E ce q9 M1 H locs hX G h1 h2 h3 => ?_) (fun r rn M1 H locs h G => ?_)
  · skip
    obtain ⟨rfl, h⟩ := hX
    refine vx_catch C.ow [] ⟨0, 4, 7, 15⟩ [] (htab.trans rfl) (fun z hz => nomatch hz) rfl (by decide) (C.w _ wd507) (va_Nw.use rfl (C.st.2.2.1 _ jcast_IS rfl)) h1 h2 h3 ?_
    refine lv_astore_n (lv' := [(1, .ref q9), (0, .ref (g 10 0))]) C.x C.b dL_restore_7 rfl hl (by decide) rfl (fun ls hl => ?_)
    refine lv_iconst (v := 1) C.x C.b dL_restore_8 (by decide) ?_
    exact jr_retI C hr G h (by decide) (by decide) dL_restore_9
  · obtain ⟨nM1, h⟩ := h
    refine lv_goto (tgt := 10) C.x C.b dL_restore_4 (by decide) ?_
    refine lv_iconst (v := 0) C.x C.b dL_restore_10 (by decide) ?_
    exact jr_retI C hr G h (by decide) (by decide) dL_restore_11

