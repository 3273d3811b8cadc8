/-! ===== the law's heads ===== -/
def jAtL (L : Nat) (xs : Nat → Int32) (cells slots pc : Nat) (lv : Nat → (Nat → Nat → Nat) → List (Nat × Value)) (M : jM) : Prop :=
  ∀ (p : Program) (l : Launch) (e : Env) (s : State) (m : MethodId) (below : List Frame) (meth : Method) (c : Code) (b : Nat) (D : va_G) (cA : Nat → ClassId) (g : Nat → Nat → Nat), lw_At p s m meth c b L xs → jCx p l s m #[Value.ref b] meth c R_law cL_law 7 D cA s.heap.size g →
    ∀ (H : Heap) (locs : List Loc), jG s.heap.size D cA g M s H locs → ∀ ls : Array Slot, lv_has ls 7 (lv b g) → W p l e room_1 s m #[Value.ref b] below meth c H locs cells slots (lw_Z below #[Value.ref b] s) (F0 m pc ls [])
theorem jl_ret {p : Program} {l : Launch} {e : Env} {s : State} {m : MethodId} {below : List Frame} {meth : Method} {c : Code} {b L pc cells slots : Nat} {xs : Nat → Int32} {D : va_G} {cA : Nat → ClassId} {g : Nat → Nat → Nat} {M : jM} {H : Heap} {locs : List Loc} {ls : Array Slot} (A : lw_At p s m meth c b L xs) (G : jG s.heap.size D cA g M s H locs) (hc : cells ≤ 601024) (hs : slots ≤ 7293034) (d : decode cL_law pc = .ok (.ireturn, 1)) :
    W p l e room_1 s m #[Value.ref b] below meth c H locs cells slots (lw_Z below #[Value.ref b] s) (F0 m pc ls [.int 1]) := by
  refine W.widen hc hs ?_
  intro T hT X
  have X2 : Stand p l e room_1 s m #[Value.ref b] below meth c T ([] ++ locs) 601024 7293034 := X
  exact lw_ret A.1 A.2.1 A.2.2.1 A.2.2.2.2.2.2.2.2.1 d T hT (X2.dropFresh (fun z hz => G.2.2.2 z hz))
theorem wd72 : Cond.initialized "LoopFuserLaw" ∈ WT := wt_of (i := 72) (by decide +kernel) (by decide +kernel)
theorem wd483 : Cond.methodLink "LoopFuserLaw" 128 ⟨"LoopFuser", "faultPosition", "()I"⟩ ∈ WT := wt_of (i := 483) (by decide +kernel) (by decide +kernel)
theorem wd484 : Cond.instanceMethod ⟨"LoopFuser", "faultPosition", "()I"⟩ ∈ WT := wt_of (i := 484) (by decide +kernel) (by decide +kernel)
theorem wd485 : Cond.selects "LoopFuser" ⟨"LoopFuser", "faultPosition", "()I"⟩ ⟨"LoopFuser", "faultPosition", "()I"⟩ ∈ WT := wt_of (i := 485) (by decide +kernel) (by decide +kernel)
theorem wd486 : Cond.code ⟨"LoopFuser", "faultPosition", "()I"⟩ prog_1_method_4_code 1 (Option.some Jvm.ClassFile.FieldType.int) ∈ WT := wt_of (i := 486) (by decide +kernel) (by decide +kernel)
theorem wd487 : Cond.methodLink "LoopFuserLaw" 135 ⟨"LoopFuser", "loopCount", "()I"⟩ ∈ WT := wt_of (i := 487) (by decide +kernel) (by decide +kernel)
theorem wd488 : Cond.instanceMethod ⟨"LoopFuser", "loopCount", "()I"⟩ ∈ WT := wt_of (i := 488) (by decide +kernel) (by decide +kernel)
theorem wd489 : Cond.selects "LoopFuser" ⟨"LoopFuser", "loopCount", "()I"⟩ ⟨"LoopFuser", "loopCount", "()I"⟩ ∈ WT := wt_of (i := 489) (by decide +kernel) (by decide +kernel)
theorem wd490 : Cond.code ⟨"LoopFuser", "loopCount", "()I"⟩ prog_1_method_6_code 1 (Option.some Jvm.ClassFile.FieldType.int) ∈ WT := wt_of (i := 490) (by decide +kernel) (by decide +kernel)
theorem wd491 : Cond.methodLink "LoopFuserLaw" 218 ⟨"LoopFuser", "save", "()V"⟩ ∈ WT := wt_of (i := 491) (by decide +kernel) (by decide +kernel)
theorem wd492 : Cond.instanceMethod ⟨"LoopFuser", "save", "()V"⟩ ∈ WT := wt_of (i := 492) (by decide +kernel) (by decide +kernel)
theorem wd493 : Cond.selects "LoopFuser" ⟨"LoopFuser", "save", "()V"⟩ ⟨"LoopFuser", "save", "()V"⟩ ∈ WT := wt_of (i := 493) (by decide +kernel) (by decide +kernel)
theorem wd494 : Cond.code ⟨"LoopFuser", "save", "()V"⟩ prog_1_method_32_code 1 (Option.none : Option Jvm.ClassFile.FieldType) ∈ WT := wt_of (i := 494) (by decide +kernel) (by decide +kernel)
theorem wd503 : Cond.methodLink "LoopFuserLaw" 115 ⟨"LoopFuserLaw", "append", "(LLoopFuser;I[J)I"⟩ ∈ WT := wt_of (i := 503) (by decide +kernel) (by decide +kernel)
theorem wd504 : Cond.static ⟨"LoopFuserLaw", "append", "(LLoopFuser;I[J)I"⟩ ∈ WT := wt_of (i := 504) (by decide +kernel) (by decide +kernel)
theorem wd505 : Cond.codeWith ⟨"LoopFuserLaw", "append", "(LLoopFuser;I[J)I"⟩ method_3_code 4 (Option.some Jvm.ClassFile.FieldType.int) [(0, 9, 12, 13), (0, 9, 15, 15)] ∈ WT := wt_of (i := 505) (by decide +kernel) (by decide +kernel)
theorem wd601 : Cond.methodLink "LoopFuserLaw" 124 ⟨"LoopFuserLaw", "read", "(LLoopFuser;[J)I"⟩ ∈ WT := wt_of (i := 601) (by decide +kernel) (by decide +kernel)
theorem wd602 : Cond.static ⟨"LoopFuserLaw", "read", "(LLoopFuser;[J)I"⟩ ∈ WT := wt_of (i := 602) (by decide +kernel) (by decide +kernel)
theorem wd603 : Cond.codeWith ⟨"LoopFuserLaw", "read", "(LLoopFuser;[J)I"⟩ method_4_code 3 (Option.some Jvm.ClassFile.FieldType.int) [(0, 8, 11, 13), (0, 8, 14, 15)] ∈ WT := wt_of (i := 603) (by decide +kernel) (by decide +kernel)
theorem wd753 : Cond.methodLink "LoopFuserLaw" 132 ⟨"LoopFuserLaw", "removeLoop", "(LLoopFuser;I[J)I"⟩ ∈ WT := wt_of (i := 753) (by decide +kernel) (by decide +kernel)
theorem wd754 : Cond.static ⟨"LoopFuserLaw", "removeLoop", "(LLoopFuser;I[J)I"⟩ ∈ WT := wt_of (i := 754) (by decide +kernel) (by decide +kernel)
theorem wd755 : Cond.codeWith ⟨"LoopFuserLaw", "removeLoop", "(LLoopFuser;I[J)I"⟩ method_5_code 4 (Option.some Jvm.ClassFile.FieldType.int) [(0, 9, 12, 24)] ∈ WT := wt_of (i := 755) (by decide +kernel) (by decide +kernel)
theorem wd790 : Cond.methodLink "LoopFuserLaw" 139 ⟨"LoopFuserLaw", "bound", "(LLoopFuser;II[J)I"⟩ ∈ WT := wt_of (i := 790) (by decide +kernel) (by decide +kernel)
theorem wd791 : Cond.static ⟨"LoopFuserLaw", "bound", "(LLoopFuser;II[J)I"⟩ ∈ WT := wt_of (i := 791) (by decide +kernel) (by decide +kernel)
theorem wd792 : Cond.codeWith ⟨"LoopFuserLaw", "bound", "(LLoopFuser;II[J)I"⟩ method_6_code 5 (Option.some Jvm.ClassFile.FieldType.int) [(0, 10, 13, 24), (0, 10, 17, 13)] ∈ WT := wt_of (i := 792) (by decide +kernel) (by decide +kernel)
theorem wd806 : Cond.methodLink "LoopFuserLaw" 143 ⟨"LoopFuserLaw", "setBound", "(LLoopFuser;III[J)I"⟩ ∈ WT := wt_of (i := 806) (by decide +kernel) (by decide +kernel)
theorem wd807 : Cond.static ⟨"LoopFuserLaw", "setBound", "(LLoopFuser;III[J)I"⟩ ∈ WT := wt_of (i := 807) (by decide +kernel) (by decide +kernel)
theorem wd808 : Cond.codeWith ⟨"LoopFuserLaw", "setBound", "(LLoopFuser;III[J)I"⟩ method_7_code 6 (Option.some Jvm.ClassFile.FieldType.int) [(0, 12, 15, 24), (0, 12, 19, 13)] ∈ WT := wt_of (i := 808) (by decide +kernel) (by decide +kernel)
theorem wd818 : Cond.methodLink "LoopFuserLaw" 147 ⟨"LoopFuserLaw", "statementCount", "(LLoopFuser;I[J)I"⟩ ∈ WT := wt_of (i := 818) (by decide +kernel) (by decide +kernel)
theorem wd819 : Cond.static ⟨"LoopFuserLaw", "statementCount", "(LLoopFuser;I[J)I"⟩ ∈ WT := wt_of (i := 819) (by decide +kernel) (by decide +kernel)
theorem wd820 : Cond.codeWith ⟨"LoopFuserLaw", "statementCount", "(LLoopFuser;I[J)I"⟩ method_8_code 4 (Option.some Jvm.ClassFile.FieldType.int) [(0, 9, 12, 24)] ∈ WT := wt_of (i := 820) (by decide +kernel) (by decide +kernel)
theorem wd825 : Cond.methodLink "LoopFuserLaw" 150 ⟨"LoopFuserLaw", "referenceCount", "(LLoopFuser;I[J)I"⟩ ∈ WT := wt_of (i := 825) (by decide +kernel) (by decide +kernel)
theorem wd826 : Cond.static ⟨"LoopFuserLaw", "referenceCount", "(LLoopFuser;I[J)I"⟩ ∈ WT := wt_of (i := 826) (by decide +kernel) (by decide +kernel)
theorem wd827 : Cond.codeWith ⟨"LoopFuserLaw", "referenceCount", "(LLoopFuser;I[J)I"⟩ method_9_code 4 (Option.some Jvm.ClassFile.FieldType.int) [(0, 9, 12, 24)] ∈ WT := wt_of (i := 827) (by decide +kernel) (by decide +kernel)
theorem wd832 : Cond.methodLink "LoopFuserLaw" 153 ⟨"LoopFuserLaw", "reference", "(LLoopFuser;III[J)I"⟩ ∈ WT := wt_of (i := 832) (by decide +kernel) (by decide +kernel)
theorem wd833 : Cond.static ⟨"LoopFuserLaw", "reference", "(LLoopFuser;III[J)I"⟩ ∈ WT := wt_of (i := 833) (by decide +kernel) (by decide +kernel)
theorem wd834 : Cond.codeWith ⟨"LoopFuserLaw", "reference", "(LLoopFuser;III[J)I"⟩ method_10_code 6 (Option.some Jvm.ClassFile.FieldType.int) [(0, 12, 15, 24), (0, 12, 19, 13)] ∈ WT := wt_of (i := 834) (by decide +kernel) (by decide +kernel)
theorem wd845 : Cond.methodLink "LoopFuserLaw" 156 ⟨"LoopFuserLaw", "operators", "(LLoopFuser;III[J)I"⟩ ∈ WT := wt_of (i := 845) (by decide +kernel) (by decide +kernel)
theorem wd846 : Cond.static ⟨"LoopFuserLaw", "operators", "(LLoopFuser;III[J)I"⟩ ∈ WT := wt_of (i := 846) (by decide +kernel) (by decide +kernel)
theorem wd847 : Cond.codeWith ⟨"LoopFuserLaw", "operators", "(LLoopFuser;III[J)I"⟩ method_11_code 6 (Option.some Jvm.ClassFile.FieldType.int) [(0, 12, 15, 24), (0, 12, 19, 13)] ∈ WT := wt_of (i := 847) (by decide +kernel) (by decide +kernel)
theorem wd862 : Cond.methodLink "LoopFuserLaw" 159 ⟨"LoopFuserLaw", "height", "(LLoopFuser;II[J)I"⟩ ∈ WT := wt_of (i := 862) (by decide +kernel) (by decide +kernel)
theorem wd863 : Cond.static ⟨"LoopFuserLaw", "height", "(LLoopFuser;II[J)I"⟩ ∈ WT := wt_of (i := 863) (by decide +kernel) (by decide +kernel)
theorem wd864 : Cond.codeWith ⟨"LoopFuserLaw", "height", "(LLoopFuser;II[J)I"⟩ method_12_code 5 (Option.some Jvm.ClassFile.FieldType.int) [(0, 10, 13, 24)] ∈ WT := wt_of (i := 864) (by decide +kernel) (by decide +kernel)
theorem wd869 : Cond.methodLink "LoopFuserLaw" 162 ⟨"LoopFuserLaw", "value", "(LLoopFuser;III[J)I"⟩ ∈ WT := wt_of (i := 869) (by decide +kernel) (by decide +kernel)
theorem wd870 : Cond.static ⟨"LoopFuserLaw", "value", "(LLoopFuser;III[J)I"⟩ ∈ WT := wt_of (i := 870) (by decide +kernel) (by decide +kernel)
theorem wd871 : Cond.codeWith ⟨"LoopFuserLaw", "value", "(LLoopFuser;III[J)I"⟩ method_13_code 6 (Option.some Jvm.ClassFile.FieldType.int) [(0, 12, 15, 24), (0, 12, 19, 13)] ∈ WT := wt_of (i := 871) (by decide +kernel) (by decide +kernel)
theorem wd900 : Cond.methodLink "LoopFuserLaw" 165 ⟨"LoopFuserLaw", "setOption", "(LLoopFuser;II[J)I"⟩ ∈ WT := wt_of (i := 900) (by decide +kernel) (by decide +kernel)
theorem wd901 : Cond.static ⟨"LoopFuserLaw", "setOption", "(LLoopFuser;II[J)I"⟩ ∈ WT := wt_of (i := 901) (by decide +kernel) (by decide +kernel)
theorem wd902 : Cond.codeWith ⟨"LoopFuserLaw", "setOption", "(LLoopFuser;II[J)I"⟩ method_14_code 5 (Option.some Jvm.ClassFile.FieldType.int) [(0, 10, 13, 24), (0, 10, 17, 13)] ∈ WT := wt_of (i := 902) (by decide +kernel) (by decide +kernel)
theorem wd913 : Cond.methodLink "LoopFuserLaw" 168 ⟨"LoopFuserLaw", "setBarrier", "(LLoopFuser;IZ[J)I"⟩ ∈ WT := wt_of (i := 913) (by decide +kernel) (by decide +kernel)
theorem wd914 : Cond.static ⟨"LoopFuserLaw", "setBarrier", "(LLoopFuser;IZ[J)I"⟩ ∈ WT := wt_of (i := 914) (by decide +kernel) (by decide +kernel)
theorem wd915 : Cond.codeWith ⟨"LoopFuserLaw", "setBarrier", "(LLoopFuser;IZ[J)I"⟩ method_15_code 5 (Option.some Jvm.ClassFile.FieldType.int) [(0, 17, 20, 24)] ∈ WT := wt_of (i := 915) (by decide +kernel) (by decide +kernel)
theorem wd924 : Cond.methodLink "LoopFuserLaw" 172 ⟨"LoopFuserLaw", "dependenceCount", "(LLoopFuser;II[J)I"⟩ ∈ WT := wt_of (i := 924) (by decide +kernel) (by decide +kernel)
theorem wd925 : Cond.static ⟨"LoopFuserLaw", "dependenceCount", "(LLoopFuser;II[J)I"⟩ ∈ WT := wt_of (i := 925) (by decide +kernel) (by decide +kernel)
theorem wd926 : Cond.codeWith ⟨"LoopFuserLaw", "dependenceCount", "(LLoopFuser;II[J)I"⟩ method_16_code 5 (Option.some Jvm.ClassFile.FieldType.int) [(0, 10, 13, 24), (0, 10, 17, 13)] ∈ WT := wt_of (i := 926) (by decide +kernel) (by decide +kernel)
theorem wd952 : Cond.methodLink "LoopFuserLaw" 175 ⟨"LoopFuserLaw", "dependence", "(LLoopFuser;IIII[J)I"⟩ ∈ WT := wt_of (i := 952) (by decide +kernel) (by decide +kernel)
theorem wd953 : Cond.static ⟨"LoopFuserLaw", "dependence", "(LLoopFuser;IIII[J)I"⟩ ∈ WT := wt_of (i := 953) (by decide +kernel) (by decide +kernel)
theorem wd954 : Cond.codeWith ⟨"LoopFuserLaw", "dependence", "(LLoopFuser;IIII[J)I"⟩ method_17_code 7 (Option.some Jvm.ClassFile.FieldType.int) [(0, 14, 17, 24), (0, 14, 21, 13), (0, 14, 25, 66)] ∈ WT := wt_of (i := 954) (by decide +kernel) (by decide +kernel)
theorem wd977 : Cond.methodLink "LoopFuserLaw" 179 ⟨"LoopFuserLaw", "required", "(LLoopFuser;II[J)I"⟩ ∈ WT := wt_of (i := 977) (by decide +kernel) (by decide +kernel)
theorem wd978 : Cond.static ⟨"LoopFuserLaw", "required", "(LLoopFuser;II[J)I"⟩ ∈ WT := wt_of (i := 978) (by decide +kernel) (by decide +kernel)
theorem wd979 : Cond.codeWith ⟨"LoopFuserLaw", "required", "(LLoopFuser;II[J)I"⟩ method_18_code 5 (Option.some Jvm.ClassFile.FieldType.int) [(0, 10, 13, 24), (0, 10, 17, 13), (0, 10, 21, 66)] ∈ WT := wt_of (i := 979) (by decide +kernel) (by decide +kernel)
theorem wd985 : Cond.methodLink "LoopFuserLaw" 182 ⟨"LoopFuserLaw", "isAllowed", "(LLoopFuser;II[J)I"⟩ ∈ WT := wt_of (i := 985) (by decide +kernel) (by decide +kernel)
theorem wd986 : Cond.static ⟨"LoopFuserLaw", "isAllowed", "(LLoopFuser;II[J)I"⟩ ∈ WT := wt_of (i := 986) (by decide +kernel) (by decide +kernel)
theorem wd987 : Cond.codeWith ⟨"LoopFuserLaw", "isAllowed", "(LLoopFuser;II[J)I"⟩ method_19_code 5 (Option.some Jvm.ClassFile.FieldType.int) [(0, 17, 20, 24), (0, 17, 24, 13)] ∈ WT := wt_of (i := 987) (by decide +kernel) (by decide +kernel)
theorem wd1016 : Cond.methodLink "LoopFuserLaw" 185 ⟨"LoopFuserLaw", "groupCount", "(LLoopFuser;I[J)I"⟩ ∈ WT := wt_of (i := 1016) (by decide +kernel) (by decide +kernel)
theorem wd1017 : Cond.static ⟨"LoopFuserLaw", "groupCount", "(LLoopFuser;I[J)I"⟩ ∈ WT := wt_of (i := 1017) (by decide +kernel) (by decide +kernel)
theorem wd1018 : Cond.codeWith ⟨"LoopFuserLaw", "groupCount", "(LLoopFuser;I[J)I"⟩ method_20_code 4 (Option.some Jvm.ClassFile.FieldType.int) [(0, 9, 12, 13)] ∈ WT := wt_of (i := 1018) (by decide +kernel) (by decide +kernel)
theorem wd1074 : Cond.methodLink "LoopFuserLaw" 188 ⟨"LoopFuserLaw", "groupOf", "(LLoopFuser;II[J)I"⟩ ∈ WT := wt_of (i := 1074) (by decide +kernel) (by decide +kernel)
theorem wd1075 : Cond.static ⟨"LoopFuserLaw", "groupOf", "(LLoopFuser;II[J)I"⟩ ∈ WT := wt_of (i := 1075) (by decide +kernel) (by decide +kernel)
theorem wd1076 : Cond.codeWith ⟨"LoopFuserLaw", "groupOf", "(LLoopFuser;II[J)I"⟩ method_21_code 5 (Option.some Jvm.ClassFile.FieldType.int) [(0, 10, 13, 13), (0, 10, 17, 24)] ∈ WT := wt_of (i := 1076) (by decide +kernel) (by decide +kernel)
theorem wd1085 : Cond.methodLink "LoopFuserLaw" 191 ⟨"LoopFuserLaw", "shift", "(LLoopFuser;II[J)I"⟩ ∈ WT := wt_of (i := 1085) (by decide +kernel) (by decide +kernel)
theorem wd1086 : Cond.static ⟨"LoopFuserLaw", "shift", "(LLoopFuser;II[J)I"⟩ ∈ WT := wt_of (i := 1086) (by decide +kernel) (by decide +kernel)
theorem wd1087 : Cond.codeWith ⟨"LoopFuserLaw", "shift", "(LLoopFuser;II[J)I"⟩ method_22_code 5 (Option.some Jvm.ClassFile.FieldType.int) [(0, 10, 13, 13), (0, 10, 17, 24)] ∈ WT := wt_of (i := 1087) (by decide +kernel) (by decide +kernel)
theorem wd1096 : Cond.methodLink "LoopFuserLaw" 194 ⟨"LoopFuserLaw", "step", "(LLoopFuser;III[J)I"⟩ ∈ WT := wt_of (i := 1096) (by decide +kernel) (by decide +kernel)
theorem wd1097 : Cond.static ⟨"LoopFuserLaw", "step", "(LLoopFuser;III[J)I"⟩ ∈ WT := wt_of (i := 1097) (by decide +kernel) (by decide +kernel)
theorem wd1098 : Cond.codeWith ⟨"LoopFuserLaw", "step", "(LLoopFuser;III[J)I"⟩ method_23_code 6 (Option.some Jvm.ClassFile.FieldType.int) [(0, 12, 15, 13), (0, 12, 19, 24), (0, 12, 23, 66)] ∈ WT := wt_of (i := 1098) (by decide +kernel) (by decide +kernel)
theorem wd1113 : Cond.methodLink "LoopFuserLaw" 197 ⟨"LoopFuserLaw", "peeled", "(LLoopFuser;III[J)I"⟩ ∈ WT := wt_of (i := 1113) (by decide +kernel) (by decide +kernel)
theorem wd1114 : Cond.static ⟨"LoopFuserLaw", "peeled", "(LLoopFuser;III[J)I"⟩ ∈ WT := wt_of (i := 1114) (by decide +kernel) (by decide +kernel)
theorem wd1115 : Cond.codeWith ⟨"LoopFuserLaw", "peeled", "(LLoopFuser;III[J)I"⟩ method_24_code 6 (Option.some Jvm.ClassFile.FieldType.int) [(0, 12, 15, 13), (0, 12, 19, 24)] ∈ WT := wt_of (i := 1115) (by decide +kernel) (by decide +kernel)
theorem wd1120 : Cond.methodLink "LoopFuserLaw" 200 ⟨"LoopFuserLaw", "carried", "(LLoopFuser;II[J)I"⟩ ∈ WT := wt_of (i := 1120) (by decide +kernel) (by decide +kernel)
theorem wd1121 : Cond.static ⟨"LoopFuserLaw", "carried", "(LLoopFuser;II[J)I"⟩ ∈ WT := wt_of (i := 1121) (by decide +kernel) (by decide +kernel)
theorem wd1122 : Cond.codeWith ⟨"LoopFuserLaw", "carried", "(LLoopFuser;II[J)I"⟩ method_25_code 5 (Option.some Jvm.ClassFile.FieldType.int) [(0, 10, 13, 13), (0, 10, 17, 24)] ∈ WT := wt_of (i := 1122) (by decide +kernel) (by decide +kernel)
theorem wd1131 : Cond.methodLink "LoopFuserLaw" 203 ⟨"LoopFuserLaw", "reads", "(LLoopFuser;II[J)I"⟩ ∈ WT := wt_of (i := 1131) (by decide +kernel) (by decide +kernel)
theorem wd1132 : Cond.static ⟨"LoopFuserLaw", "reads", "(LLoopFuser;II[J)I"⟩ ∈ WT := wt_of (i := 1132) (by decide +kernel) (by decide +kernel)
theorem wd1133 : Cond.codeWith ⟨"LoopFuserLaw", "reads", "(LLoopFuser;II[J)I"⟩ method_26_code 5 (Option.some Jvm.ClassFile.FieldType.int) [(0, 10, 13, 13)] ∈ WT := wt_of (i := 1133) (by decide +kernel) (by decide +kernel)
theorem wd1141 : Cond.methodLink "LoopFuserLaw" 206 ⟨"LoopFuserLaw", "hits", "(LLoopFuser;II[J)I"⟩ ∈ WT := wt_of (i := 1141) (by decide +kernel) (by decide +kernel)
theorem wd1142 : Cond.static ⟨"LoopFuserLaw", "hits", "(LLoopFuser;II[J)I"⟩ ∈ WT := wt_of (i := 1142) (by decide +kernel) (by decide +kernel)
theorem wd1143 : Cond.codeWith ⟨"LoopFuserLaw", "hits", "(LLoopFuser;II[J)I"⟩ method_27_code 5 (Option.some Jvm.ClassFile.FieldType.int) [(0, 10, 13, 24), (0, 10, 17, 13)] ∈ WT := wt_of (i := 1143) (by decide +kernel) (by decide +kernel)
theorem wd1149 : Cond.methodLink "LoopFuserLaw" 209 ⟨"LoopFuserLaw", "run", "(LLoopFuser;I[J)I"⟩ ∈ WT := wt_of (i := 1149) (by decide +kernel) (by decide +kernel)
theorem wd1150 : Cond.static ⟨"LoopFuserLaw", "run", "(LLoopFuser;I[J)I"⟩ ∈ WT := wt_of (i := 1150) (by decide +kernel) (by decide +kernel)
theorem wd1151 : Cond.codeWith ⟨"LoopFuserLaw", "run", "(LLoopFuser;I[J)I"⟩ method_28_code 4 (Option.some Jvm.ClassFile.FieldType.int) [(0, 9, 12, 13)] ∈ WT := wt_of (i := 1151) (by decide +kernel) (by decide +kernel)
theorem wd1162 : Cond.methodLink "LoopFuserLaw" 212 ⟨"LoopFuserLaw", "cell", "(LLoopFuser;III[J)I"⟩ ∈ WT := wt_of (i := 1162) (by decide +kernel) (by decide +kernel)
theorem wd1163 : Cond.static ⟨"LoopFuserLaw", "cell", "(LLoopFuser;III[J)I"⟩ ∈ WT := wt_of (i := 1163) (by decide +kernel) (by decide +kernel)
theorem wd1164 : Cond.codeWith ⟨"LoopFuserLaw", "cell", "(LLoopFuser;III[J)I"⟩ method_29_code 6 (Option.some Jvm.ClassFile.FieldType.int) [(0, 12, 15, 13), (0, 12, 19, 24)] ∈ WT := wt_of (i := 1164) (by decide +kernel) (by decide +kernel)
theorem wd1170 : Cond.methodLink "LoopFuserLaw" 215 ⟨"LoopFuserLaw", "changed", "(LLoopFuser;I[J)I"⟩ ∈ WT := wt_of (i := 1170) (by decide +kernel) (by decide +kernel)
theorem wd1171 : Cond.static ⟨"LoopFuserLaw", "changed", "(LLoopFuser;I[J)I"⟩ ∈ WT := wt_of (i := 1171) (by decide +kernel) (by decide +kernel)
theorem wd1172 : Cond.codeWith ⟨"LoopFuserLaw", "changed", "(LLoopFuser;I[J)I"⟩ method_30_code 4 (Option.some Jvm.ClassFile.FieldType.int) [(0, 9, 12, 13)] ∈ WT := wt_of (i := 1172) (by decide +kernel) (by decide +kernel)
theorem wd1177 : Cond.methodLink "LoopFuserLaw" 222 ⟨"LoopFuserLaw", "restore", "(LLoopFuser;)I"⟩ ∈ WT := wt_of (i := 1177) (by decide +kernel) (by decide +kernel)
theorem wd1178 : Cond.static ⟨"LoopFuserLaw", "restore", "(LLoopFuser;)I"⟩ ∈ WT := wt_of (i := 1178) (by decide +kernel) (by decide +kernel)
theorem wd1179 : Cond.codeWith ⟨"LoopFuserLaw", "restore", "(LLoopFuser;)I"⟩ method_31_code 2 (Option.some Jvm.ClassFile.FieldType.int) [(0, 4, 7, 15)] ∈ WT := wt_of (i := 1179) (by decide +kernel) (by decide +kernel)
theorem wd1285 : Cond.methodLink "LoopFuserLaw" 121 ⟨"LoopFuserModel", "thrown", "()I"⟩ ∈ WT := wt_of (i := 1285) (by decide +kernel) (by decide +kernel)
theorem wd1286 : Cond.instanceMethod ⟨"LoopFuserModel", "thrown", "()I"⟩ ∈ WT := wt_of (i := 1286) (by decide +kernel) (by decide +kernel)
theorem wd1287 : Cond.selects "LoopFuserModel" ⟨"LoopFuserModel", "thrown", "()I"⟩ ⟨"LoopFuserModel", "thrown", "()I"⟩ ∈ WT := wt_of (i := 1287) (by decide +kernel) (by decide +kernel)
theorem wd1288 : Cond.code ⟨"LoopFuserModel", "thrown", "()I"⟩ prog_14_method_2_code 1 (Option.some Jvm.ClassFile.FieldType.int) ∈ WT := wt_of (i := 1288) (by decide +kernel) (by decide +kernel)
theorem wd1289 : Cond.methodLink "LoopFuserLaw" 120 ⟨"LoopFuserModel", "append", "(I)I"⟩ ∈ WT := wt_of (i := 1289) (by decide +kernel) (by decide +kernel)
theorem wd1290 : Cond.instanceMethod ⟨"LoopFuserModel", "append", "(I)I"⟩ ∈ WT := wt_of (i := 1290) (by decide +kernel) (by decide +kernel)
theorem wd1291 : Cond.selects "LoopFuserModel" ⟨"LoopFuserModel", "append", "(I)I"⟩ ⟨"LoopFuserModel", "append", "(I)I"⟩ ∈ WT := wt_of (i := 1291) (by decide +kernel) (by decide +kernel)
theorem wd1292 : Cond.code ⟨"LoopFuserModel", "append", "(I)I"⟩ prog_14_method_10_code 5 (Option.some Jvm.ClassFile.FieldType.int) ∈ WT := wt_of (i := 1292) (by decide +kernel) (by decide +kernel)
theorem wd1300 : Cond.methodLink "LoopFuserLaw" 127 ⟨"LoopFuserModel", "read", "()I"⟩ ∈ WT := wt_of (i := 1300) (by decide +kernel) (by decide +kernel)
theorem wd1301 : Cond.instanceMethod ⟨"LoopFuserModel", "read", "()I"⟩ ∈ WT := wt_of (i := 1301) (by decide +kernel) (by decide +kernel)
theorem wd1302 : Cond.selects "LoopFuserModel" ⟨"LoopFuserModel", "read", "()I"⟩ ⟨"LoopFuserModel", "read", "()I"⟩ ∈ WT := wt_of (i := 1302) (by decide +kernel) (by decide +kernel)
theorem wd1303 : Cond.code ⟨"LoopFuserModel", "read", "()I"⟩ prog_14_method_26_code 3 (Option.some Jvm.ClassFile.FieldType.int) ∈ WT := wt_of (i := 1303) (by decide +kernel) (by decide +kernel)
theorem wd1364 : Cond.methodLink "LoopFuserLaw" 131 ⟨"LoopFuserModel", "faultPosition", "()I"⟩ ∈ WT := wt_of (i := 1364) (by decide +kernel) (by decide +kernel)
theorem wd1365 : Cond.instanceMethod ⟨"LoopFuserModel", "faultPosition", "()I"⟩ ∈ WT := wt_of (i := 1365) (by decide +kernel) (by decide +kernel)
theorem wd1366 : Cond.selects "LoopFuserModel" ⟨"LoopFuserModel", "faultPosition", "()I"⟩ ⟨"LoopFuserModel", "faultPosition", "()I"⟩ ∈ WT := wt_of (i := 1366) (by decide +kernel) (by decide +kernel)
theorem wd1367 : Cond.code ⟨"LoopFuserModel", "faultPosition", "()I"⟩ prog_14_method_27_code 1 (Option.some Jvm.ClassFile.FieldType.int) ∈ WT := wt_of (i := 1367) (by decide +kernel) (by decide +kernel)
theorem wd1368 : Cond.methodLink "LoopFuserLaw" 134 ⟨"LoopFuserModel", "removeLoop", "(I)I"⟩ ∈ WT := wt_of (i := 1368) (by decide +kernel) (by decide +kernel)
theorem wd1369 : Cond.instanceMethod ⟨"LoopFuserModel", "removeLoop", "(I)I"⟩ ∈ WT := wt_of (i := 1369) (by decide +kernel) (by decide +kernel)
theorem wd1370 : Cond.selects "LoopFuserModel" ⟨"LoopFuserModel", "removeLoop", "(I)I"⟩ ⟨"LoopFuserModel", "removeLoop", "(I)I"⟩ ∈ WT := wt_of (i := 1370) (by decide +kernel) (by decide +kernel)
theorem wd1371 : Cond.code ⟨"LoopFuserModel", "removeLoop", "(I)I"⟩ prog_14_method_28_code 3 (Option.some Jvm.ClassFile.FieldType.int) ∈ WT := wt_of (i := 1371) (by decide +kernel) (by decide +kernel)
theorem wd1376 : Cond.methodLink "LoopFuserLaw" 138 ⟨"LoopFuserModel", "loopCount", "()I"⟩ ∈ WT := wt_of (i := 1376) (by decide +kernel) (by decide +kernel)
theorem wd1377 : Cond.instanceMethod ⟨"LoopFuserModel", "loopCount", "()I"⟩ ∈ WT := wt_of (i := 1377) (by decide +kernel) (by decide +kernel)
theorem wd1378 : Cond.selects "LoopFuserModel" ⟨"LoopFuserModel", "loopCount", "()I"⟩ ⟨"LoopFuserModel", "loopCount", "()I"⟩ ∈ WT := wt_of (i := 1378) (by decide +kernel) (by decide +kernel)
theorem wd1379 : Cond.code ⟨"LoopFuserModel", "loopCount", "()I"⟩ prog_14_method_29_code 1 (Option.some Jvm.ClassFile.FieldType.int) ∈ WT := wt_of (i := 1379) (by decide +kernel) (by decide +kernel)
theorem wd1380 : Cond.methodLink "LoopFuserLaw" 142 ⟨"LoopFuserModel", "bound", "(II)I"⟩ ∈ WT := wt_of (i := 1380) (by decide +kernel) (by decide +kernel)
theorem wd1381 : Cond.instanceMethod ⟨"LoopFuserModel", "bound", "(II)I"⟩ ∈ WT := wt_of (i := 1381) (by decide +kernel) (by decide +kernel)
theorem wd1382 : Cond.selects "LoopFuserModel" ⟨"LoopFuserModel", "bound", "(II)I"⟩ ⟨"LoopFuserModel", "bound", "(II)I"⟩ ∈ WT := wt_of (i := 1382) (by decide +kernel) (by decide +kernel)
theorem wd1383 : Cond.code ⟨"LoopFuserModel", "bound", "(II)I"⟩ prog_14_method_30_code 3 (Option.some Jvm.ClassFile.FieldType.int) ∈ WT := wt_of (i := 1383) (by decide +kernel) (by decide +kernel)
theorem wd1388 : Cond.methodLink "LoopFuserLaw" 146 ⟨"LoopFuserModel", "setBound", "(III)I"⟩ ∈ WT := wt_of (i := 1388) (by decide +kernel) (by decide +kernel)
theorem wd1389 : Cond.instanceMethod ⟨"LoopFuserModel", "setBound", "(III)I"⟩ ∈ WT := wt_of (i := 1389) (by decide +kernel) (by decide +kernel)
theorem wd1390 : Cond.selects "LoopFuserModel" ⟨"LoopFuserModel", "setBound", "(III)I"⟩ ⟨"LoopFuserModel", "setBound", "(III)I"⟩ ∈ WT := wt_of (i := 1390) (by decide +kernel) (by decide +kernel)
theorem wd1391 : Cond.code ⟨"LoopFuserModel", "setBound", "(III)I"⟩ prog_14_method_31_code 6 (Option.some Jvm.ClassFile.FieldType.int) ∈ WT := wt_of (i := 1391) (by decide +kernel) (by decide +kernel)
theorem wd1392 : Cond.methodLink "LoopFuserLaw" 149 ⟨"LoopFuserModel", "statementCount", "(I)I"⟩ ∈ WT := wt_of (i := 1392) (by decide +kernel) (by decide +kernel)
theorem wd1393 : Cond.instanceMethod ⟨"LoopFuserModel", "statementCount", "(I)I"⟩ ∈ WT := wt_of (i := 1393) (by decide +kernel) (by decide +kernel)
theorem wd1394 : Cond.selects "LoopFuserModel" ⟨"LoopFuserModel", "statementCount", "(I)I"⟩ ⟨"LoopFuserModel", "statementCount", "(I)I"⟩ ∈ WT := wt_of (i := 1394) (by decide +kernel) (by decide +kernel)
theorem wd1395 : Cond.code ⟨"LoopFuserModel", "statementCount", "(I)I"⟩ prog_14_method_32_code 2 (Option.some Jvm.ClassFile.FieldType.int) ∈ WT := wt_of (i := 1395) (by decide +kernel) (by decide +kernel)
theorem wd1396 : Cond.methodLink "LoopFuserLaw" 152 ⟨"LoopFuserModel", "referenceCount", "(I)I"⟩ ∈ WT := wt_of (i := 1396) (by decide +kernel) (by decide +kernel)
theorem wd1397 : Cond.instanceMethod ⟨"LoopFuserModel", "referenceCount", "(I)I"⟩ ∈ WT := wt_of (i := 1397) (by decide +kernel) (by decide +kernel)
theorem wd1398 : Cond.selects "LoopFuserModel" ⟨"LoopFuserModel", "referenceCount", "(I)I"⟩ ⟨"LoopFuserModel", "referenceCount", "(I)I"⟩ ∈ WT := wt_of (i := 1398) (by decide +kernel) (by decide +kernel)
theorem wd1399 : Cond.code ⟨"LoopFuserModel", "referenceCount", "(I)I"⟩ prog_14_method_33_code 2 (Option.some Jvm.ClassFile.FieldType.int) ∈ WT := wt_of (i := 1399) (by decide +kernel) (by decide +kernel)
theorem wd1400 : Cond.methodLink "LoopFuserLaw" 155 ⟨"LoopFuserModel", "reference", "(III)I"⟩ ∈ WT := wt_of (i := 1400) (by decide +kernel) (by decide +kernel)
theorem wd1401 : Cond.instanceMethod ⟨"LoopFuserModel", "reference", "(III)I"⟩ ∈ WT := wt_of (i := 1401) (by decide +kernel) (by decide +kernel)
theorem wd1402 : Cond.selects "LoopFuserModel" ⟨"LoopFuserModel", "reference", "(III)I"⟩ ⟨"LoopFuserModel", "reference", "(III)I"⟩ ∈ WT := wt_of (i := 1402) (by decide +kernel) (by decide +kernel)
theorem wd1403 : Cond.code ⟨"LoopFuserModel", "reference", "(III)I"⟩ prog_14_method_34_code 4 (Option.some Jvm.ClassFile.FieldType.int) ∈ WT := wt_of (i := 1403) (by decide +kernel) (by decide +kernel)
theorem wd1404 : Cond.methodLink "LoopFuserLaw" 158 ⟨"LoopFuserModel", "operators", "(III)I"⟩ ∈ WT := wt_of (i := 1404) (by decide +kernel) (by decide +kernel)
theorem wd1405 : Cond.instanceMethod ⟨"LoopFuserModel", "operators", "(III)I"⟩ ∈ WT := wt_of (i := 1405) (by decide +kernel) (by decide +kernel)
theorem wd1406 : Cond.selects "LoopFuserModel" ⟨"LoopFuserModel", "operators", "(III)I"⟩ ⟨"LoopFuserModel", "operators", "(III)I"⟩ ∈ WT := wt_of (i := 1406) (by decide +kernel) (by decide +kernel)
theorem wd1407 : Cond.code ⟨"LoopFuserModel", "operators", "(III)I"⟩ prog_14_method_37_code 6 (Option.some Jvm.ClassFile.FieldType.int) ∈ WT := wt_of (i := 1407) (by decide +kernel) (by decide +kernel)
theorem wd1416 : Cond.methodLink "LoopFuserLaw" 161 ⟨"LoopFuserModel", "height", "(II)I"⟩ ∈ WT := wt_of (i := 1416) (by decide +kernel) (by decide +kernel)
theorem wd1417 : Cond.instanceMethod ⟨"LoopFuserModel", "height", "(II)I"⟩ ∈ WT := wt_of (i := 1417) (by decide +kernel) (by decide +kernel)
theorem wd1418 : Cond.selects "LoopFuserModel" ⟨"LoopFuserModel", "height", "(II)I"⟩ ⟨"LoopFuserModel", "height", "(II)I"⟩ ∈ WT := wt_of (i := 1418) (by decide +kernel) (by decide +kernel)
theorem wd1419 : Cond.code ⟨"LoopFuserModel", "height", "(II)I"⟩ prog_14_method_38_code 6 (Option.some Jvm.ClassFile.FieldType.int) ∈ WT := wt_of (i := 1419) (by decide +kernel) (by decide +kernel)
theorem wd1421 : Cond.methodLink "LoopFuserLaw" 164 ⟨"LoopFuserModel", "value", "(III)I"⟩ ∈ WT := wt_of (i := 1421) (by decide +kernel) (by decide +kernel)
theorem wd1422 : Cond.instanceMethod ⟨"LoopFuserModel", "value", "(III)I"⟩ ∈ WT := wt_of (i := 1422) (by decide +kernel) (by decide +kernel)
theorem wd1423 : Cond.selects "LoopFuserModel" ⟨"LoopFuserModel", "value", "(III)I"⟩ ⟨"LoopFuserModel", "value", "(III)I"⟩ ∈ WT := wt_of (i := 1423) (by decide +kernel) (by decide +kernel)
theorem wd1424 : Cond.code ⟨"LoopFuserModel", "value", "(III)I"⟩ prog_14_method_44_code 4 (Option.some Jvm.ClassFile.FieldType.int) ∈ WT := wt_of (i := 1424) (by decide +kernel) (by decide +kernel)
theorem wd1453 : Cond.methodLink "LoopFuserLaw" 167 ⟨"LoopFuserModel", "setOption", "(II)I"⟩ ∈ WT := wt_of (i := 1453) (by decide +kernel) (by decide +kernel)
theorem wd1454 : Cond.instanceMethod ⟨"LoopFuserModel", "setOption", "(II)I"⟩ ∈ WT := wt_of (i := 1454) (by decide +kernel) (by decide +kernel)
theorem wd1455 : Cond.selects "LoopFuserModel" ⟨"LoopFuserModel", "setOption", "(II)I"⟩ ⟨"LoopFuserModel", "setOption", "(II)I"⟩ ∈ WT := wt_of (i := 1455) (by decide +kernel) (by decide +kernel)
theorem wd1456 : Cond.code ⟨"LoopFuserModel", "setOption", "(II)I"⟩ prog_14_method_45_code 4 (Option.some Jvm.ClassFile.FieldType.int) ∈ WT := wt_of (i := 1456) (by decide +kernel) (by decide +kernel)
theorem wd1457 : Cond.methodLink "LoopFuserLaw" 171 ⟨"LoopFuserModel", "setBarrier", "(IZ)Z"⟩ ∈ WT := wt_of (i := 1457) (by decide +kernel) (by decide +kernel)
theorem wd1458 : Cond.instanceMethod ⟨"LoopFuserModel", "setBarrier", "(IZ)Z"⟩ ∈ WT := wt_of (i := 1458) (by decide +kernel) (by decide +kernel)
theorem wd1459 : Cond.selects "LoopFuserModel" ⟨"LoopFuserModel", "setBarrier", "(IZ)Z"⟩ ⟨"LoopFuserModel", "setBarrier", "(IZ)Z"⟩ ∈ WT := wt_of (i := 1459) (by decide +kernel) (by decide +kernel)
theorem wd1460 : Cond.code ⟨"LoopFuserModel", "setBarrier", "(IZ)Z"⟩ prog_14_method_46_code 4 (Option.some Jvm.ClassFile.FieldType.boolean) ∈ WT := wt_of (i := 1460) (by decide +kernel) (by decide +kernel)
theorem wd1461 : Cond.methodLink "LoopFuserLaw" 174 ⟨"LoopFuserModel", "dependenceCount", "(II)I"⟩ ∈ WT := wt_of (i := 1461) (by decide +kernel) (by decide +kernel)
theorem wd1462 : Cond.instanceMethod ⟨"LoopFuserModel", "dependenceCount", "(II)I"⟩ ∈ WT := wt_of (i := 1462) (by decide +kernel) (by decide +kernel)
theorem wd1463 : Cond.selects "LoopFuserModel" ⟨"LoopFuserModel", "dependenceCount", "(II)I"⟩ ⟨"LoopFuserModel", "dependenceCount", "(II)I"⟩ ∈ WT := wt_of (i := 1463) (by decide +kernel) (by decide +kernel)
theorem wd1464 : Cond.code ⟨"LoopFuserModel", "dependenceCount", "(II)I"⟩ prog_14_method_50_code 3 (Option.some Jvm.ClassFile.FieldType.int) ∈ WT := wt_of (i := 1464) (by decide +kernel) (by decide +kernel)
theorem wd1481 : Cond.methodLink "LoopFuserLaw" 178 ⟨"LoopFuserModel", "dependence", "(IIII)I"⟩ ∈ WT := wt_of (i := 1481) (by decide +kernel) (by decide +kernel)
theorem wd1482 : Cond.instanceMethod ⟨"LoopFuserModel", "dependence", "(IIII)I"⟩ ∈ WT := wt_of (i := 1482) (by decide +kernel) (by decide +kernel)
theorem wd1483 : Cond.selects "LoopFuserModel" ⟨"LoopFuserModel", "dependence", "(IIII)I"⟩ ⟨"LoopFuserModel", "dependence", "(IIII)I"⟩ ∈ WT := wt_of (i := 1483) (by decide +kernel) (by decide +kernel)
theorem wd1484 : Cond.code ⟨"LoopFuserModel", "dependence", "(IIII)I"⟩ prog_14_method_51_code 6 (Option.some Jvm.ClassFile.FieldType.int) ∈ WT := wt_of (i := 1484) (by decide +kernel) (by decide +kernel)
theorem wd1485 : Cond.methodLink "LoopFuserLaw" 181 ⟨"LoopFuserModel", "required", "(II)I"⟩ ∈ WT := wt_of (i := 1485) (by decide +kernel) (by decide +kernel)
theorem wd1486 : Cond.instanceMethod ⟨"LoopFuserModel", "required", "(II)I"⟩ ∈ WT := wt_of (i := 1486) (by decide +kernel) (by decide +kernel)
theorem wd1487 : Cond.selects "LoopFuserModel" ⟨"LoopFuserModel", "required", "(II)I"⟩ ⟨"LoopFuserModel", "required", "(II)I"⟩ ∈ WT := wt_of (i := 1487) (by decide +kernel) (by decide +kernel)
theorem wd1488 : Cond.code ⟨"LoopFuserModel", "required", "(II)I"⟩ prog_14_method_52_code 3 (Option.some Jvm.ClassFile.FieldType.int) ∈ WT := wt_of (i := 1488) (by decide +kernel) (by decide +kernel)
theorem wd1489 : Cond.methodLink "LoopFuserLaw" 184 ⟨"LoopFuserModel", "isAllowed", "(II)Z"⟩ ∈ WT := wt_of (i := 1489) (by decide +kernel) (by decide +kernel)
theorem wd1490 : Cond.instanceMethod ⟨"LoopFuserModel", "isAllowed", "(II)Z"⟩ ∈ WT := wt_of (i := 1490) (by decide +kernel) (by decide +kernel)
theorem wd1491 : Cond.selects "LoopFuserModel" ⟨"LoopFuserModel", "isAllowed", "(II)Z"⟩ ⟨"LoopFuserModel", "isAllowed", "(II)Z"⟩ ∈ WT := wt_of (i := 1491) (by decide +kernel) (by decide +kernel)
theorem wd1492 : Cond.code ⟨"LoopFuserModel", "isAllowed", "(II)Z"⟩ prog_14_method_54_code 3 (Option.some Jvm.ClassFile.FieldType.boolean) ∈ WT := wt_of (i := 1492) (by decide +kernel) (by decide +kernel)
theorem wd1497 : Cond.methodLink "LoopFuserLaw" 208 ⟨"LoopFuserModel", "hits", "(II)I"⟩ ∈ WT := wt_of (i := 1497) (by decide +kernel) (by decide +kernel)
theorem wd1498 : Cond.instanceMethod ⟨"LoopFuserModel", "hits", "(II)I"⟩ ∈ WT := wt_of (i := 1498) (by decide +kernel) (by decide +kernel)
theorem wd1499 : Cond.selects "LoopFuserModel" ⟨"LoopFuserModel", "hits", "(II)I"⟩ ⟨"LoopFuserModel", "hits", "(II)I"⟩ ∈ WT := wt_of (i := 1499) (by decide +kernel) (by decide +kernel)
theorem wd1500 : Cond.code ⟨"LoopFuserModel", "hits", "(II)I"⟩ prog_14_method_57_code 3 (Option.some Jvm.ClassFile.FieldType.int) ∈ WT := wt_of (i := 1500) (by decide +kernel) (by decide +kernel)
theorem wd1510 : Cond.methodLink "LoopFuserLaw" 187 ⟨"LoopFuserModel", "groupCount", "(I)I"⟩ ∈ WT := wt_of (i := 1510) (by decide +kernel) (by decide +kernel)
theorem wd1511 : Cond.instanceMethod ⟨"LoopFuserModel", "groupCount", "(I)I"⟩ ∈ WT := wt_of (i := 1511) (by decide +kernel) (by decide +kernel)
theorem wd1512 : Cond.selects "LoopFuserModel" ⟨"LoopFuserModel", "groupCount", "(I)I"⟩ ⟨"LoopFuserModel", "groupCount", "(I)I"⟩ ∈ WT := wt_of (i := 1512) (by decide +kernel) (by decide +kernel)
theorem wd1513 : Cond.code ⟨"LoopFuserModel", "groupCount", "(I)I"⟩ prog_14_method_66_code 2 (Option.some Jvm.ClassFile.FieldType.int) ∈ WT := wt_of (i := 1513) (by decide +kernel) (by decide +kernel)
theorem wd1540 : Cond.methodLink "LoopFuserLaw" 190 ⟨"LoopFuserModel", "groupOf", "(II)I"⟩ ∈ WT := wt_of (i := 1540) (by decide +kernel) (by decide +kernel)
theorem wd1541 : Cond.instanceMethod ⟨"LoopFuserModel", "groupOf", "(II)I"⟩ ∈ WT := wt_of (i := 1541) (by decide +kernel) (by decide +kernel)
theorem wd1542 : Cond.selects "LoopFuserModel" ⟨"LoopFuserModel", "groupOf", "(II)I"⟩ ⟨"LoopFuserModel", "groupOf", "(II)I"⟩ ∈ WT := wt_of (i := 1542) (by decide +kernel) (by decide +kernel)
theorem wd1543 : Cond.code ⟨"LoopFuserModel", "groupOf", "(II)I"⟩ prog_14_method_68_code 3 (Option.some Jvm.ClassFile.FieldType.int) ∈ WT := wt_of (i := 1543) (by decide +kernel) (by decide +kernel)
theorem wd1552 : Cond.methodLink "LoopFuserLaw" 193 ⟨"LoopFuserModel", "shift", "(II)I"⟩ ∈ WT := wt_of (i := 1552) (by decide +kernel) (by decide +kernel)
theorem wd1553 : Cond.instanceMethod ⟨"LoopFuserModel", "shift", "(II)I"⟩ ∈ WT := wt_of (i := 1553) (by decide +kernel) (by decide +kernel)
theorem wd1554 : Cond.selects "LoopFuserModel" ⟨"LoopFuserModel", "shift", "(II)I"⟩ ⟨"LoopFuserModel", "shift", "(II)I"⟩ ∈ WT := wt_of (i := 1554) (by decide +kernel) (by decide +kernel)
theorem wd1555 : Cond.code ⟨"LoopFuserModel", "shift", "(II)I"⟩ prog_14_method_69_code 3 (Option.some Jvm.ClassFile.FieldType.int) ∈ WT := wt_of (i := 1555) (by decide +kernel) (by decide +kernel)
theorem wd1556 : Cond.methodLink "LoopFuserLaw" 196 ⟨"LoopFuserModel", "step", "(III)I"⟩ ∈ WT := wt_of (i := 1556) (by decide +kernel) (by decide +kernel)
theorem wd1557 : Cond.instanceMethod ⟨"LoopFuserModel", "step", "(III)I"⟩ ∈ WT := wt_of (i := 1557) (by decide +kernel) (by decide +kernel)
theorem wd1558 : Cond.selects "LoopFuserModel" ⟨"LoopFuserModel", "step", "(III)I"⟩ ⟨"LoopFuserModel", "step", "(III)I"⟩ ∈ WT := wt_of (i := 1558) (by decide +kernel) (by decide +kernel)
theorem wd1559 : Cond.code ⟨"LoopFuserModel", "step", "(III)I"⟩ prog_14_method_73_code 4 (Option.some Jvm.ClassFile.FieldType.int) ∈ WT := wt_of (i := 1559) (by decide +kernel) (by decide +kernel)
theorem wd1572 : Cond.methodLink "LoopFuserLaw" 199 ⟨"LoopFuserModel", "peeled", "(III)I"⟩ ∈ WT := wt_of (i := 1572) (by decide +kernel) (by decide +kernel)
theorem wd1573 : Cond.instanceMethod ⟨"LoopFuserModel", "peeled", "(III)I"⟩ ∈ WT := wt_of (i := 1573) (by decide +kernel) (by decide +kernel)
theorem wd1574 : Cond.selects "LoopFuserModel" ⟨"LoopFuserModel", "peeled", "(III)I"⟩ ⟨"LoopFuserModel", "peeled", "(III)I"⟩ ∈ WT := wt_of (i := 1574) (by decide +kernel) (by decide +kernel)
theorem wd1575 : Cond.code ⟨"LoopFuserModel", "peeled", "(III)I"⟩ prog_14_method_74_code 6 (Option.some Jvm.ClassFile.FieldType.int) ∈ WT := wt_of (i := 1575) (by decide +kernel) (by decide +kernel)
theorem wd1576 : Cond.methodLink "LoopFuserLaw" 202 ⟨"LoopFuserModel", "carried", "(II)I"⟩ ∈ WT := wt_of (i := 1576) (by decide +kernel) (by decide +kernel)
theorem wd1577 : Cond.instanceMethod ⟨"LoopFuserModel", "carried", "(II)I"⟩ ∈ WT := wt_of (i := 1577) (by decide +kernel) (by decide +kernel)
theorem wd1578 : Cond.selects "LoopFuserModel" ⟨"LoopFuserModel", "carried", "(II)I"⟩ ⟨"LoopFuserModel", "carried", "(II)I"⟩ ∈ WT := wt_of (i := 1578) (by decide +kernel) (by decide +kernel)
theorem wd1579 : Cond.code ⟨"LoopFuserModel", "carried", "(II)I"⟩ prog_14_method_76_code 9 (Option.some Jvm.ClassFile.FieldType.int) ∈ WT := wt_of (i := 1579) (by decide +kernel) (by decide +kernel)
theorem wd1584 : Cond.methodLink "LoopFuserLaw" 205 ⟨"LoopFuserModel", "reads", "(II)I"⟩ ∈ WT := wt_of (i := 1584) (by decide +kernel) (by decide +kernel)
theorem wd1585 : Cond.instanceMethod ⟨"LoopFuserModel", "reads", "(II)I"⟩ ∈ WT := wt_of (i := 1585) (by decide +kernel) (by decide +kernel)
theorem wd1586 : Cond.selects "LoopFuserModel" ⟨"LoopFuserModel", "reads", "(II)I"⟩ ⟨"LoopFuserModel", "reads", "(II)I"⟩ ∈ WT := wt_of (i := 1586) (by decide +kernel) (by decide +kernel)
theorem wd1587 : Cond.code ⟨"LoopFuserModel", "reads", "(II)I"⟩ prog_14_method_77_code 5 (Option.some Jvm.ClassFile.FieldType.int) ∈ WT := wt_of (i := 1587) (by decide +kernel) (by decide +kernel)
theorem wd1588 : Cond.methodLink "LoopFuserLaw" 211 ⟨"LoopFuserModel", "run", "(I)I"⟩ ∈ WT := wt_of (i := 1588) (by decide +kernel) (by decide +kernel)
theorem wd1589 : Cond.instanceMethod ⟨"LoopFuserModel", "run", "(I)I"⟩ ∈ WT := wt_of (i := 1589) (by decide +kernel) (by decide +kernel)
theorem wd1590 : Cond.selects "LoopFuserModel" ⟨"LoopFuserModel", "run", "(I)I"⟩ ⟨"LoopFuserModel", "run", "(I)I"⟩ ∈ WT := wt_of (i := 1590) (by decide +kernel) (by decide +kernel)
theorem wd1591 : Cond.code ⟨"LoopFuserModel", "run", "(I)I"⟩ prog_14_method_80_code 4 (Option.some Jvm.ClassFile.FieldType.int) ∈ WT := wt_of (i := 1591) (by decide +kernel) (by decide +kernel)
theorem wd1600 : Cond.methodLink "LoopFuserLaw" 214 ⟨"LoopFuserModel", "cell", "(III)I"⟩ ∈ WT := wt_of (i := 1600) (by decide +kernel) (by decide +kernel)
theorem wd1601 : Cond.instanceMethod ⟨"LoopFuserModel", "cell", "(III)I"⟩ ∈ WT := wt_of (i := 1601) (by decide +kernel) (by decide +kernel)
theorem wd1602 : Cond.selects "LoopFuserModel" ⟨"LoopFuserModel", "cell", "(III)I"⟩ ⟨"LoopFuserModel", "cell", "(III)I"⟩ ∈ WT := wt_of (i := 1602) (by decide +kernel) (by decide +kernel)
theorem wd1603 : Cond.code ⟨"LoopFuserModel", "cell", "(III)I"⟩ prog_14_method_81_code 4 (Option.some Jvm.ClassFile.FieldType.int) ∈ WT := wt_of (i := 1603) (by decide +kernel) (by decide +kernel)
theorem wd1604 : Cond.methodLink "LoopFuserLaw" 217 ⟨"LoopFuserModel", "changed", "(I)I"⟩ ∈ WT := wt_of (i := 1604) (by decide +kernel) (by decide +kernel)
theorem wd1605 : Cond.instanceMethod ⟨"LoopFuserModel", "changed", "(I)I"⟩ ∈ WT := wt_of (i := 1605) (by decide +kernel) (by decide +kernel)
theorem wd1606 : Cond.selects "LoopFuserModel" ⟨"LoopFuserModel", "changed", "(I)I"⟩ ⟨"LoopFuserModel", "changed", "(I)I"⟩ ∈ WT := wt_of (i := 1606) (by decide +kernel) (by decide +kernel)
theorem wd1607 : Cond.code ⟨"LoopFuserModel", "changed", "(I)I"⟩ prog_14_method_82_code 4 (Option.some Jvm.ClassFile.FieldType.int) ∈ WT := wt_of (i := 1607) (by decide +kernel) (by decide +kernel)
theorem wd1608 : Cond.methodLink "LoopFuserLaw" 221 ⟨"LoopFuserModel", "save", "()V"⟩ ∈ WT := wt_of (i := 1608) (by decide +kernel) (by decide +kernel)
theorem wd1609 : Cond.instanceMethod ⟨"LoopFuserModel", "save", "()V"⟩ ∈ WT := wt_of (i := 1609) (by decide +kernel) (by decide +kernel)
theorem wd1610 : Cond.selects "LoopFuserModel" ⟨"LoopFuserModel", "save", "()V"⟩ ⟨"LoopFuserModel", "save", "()V"⟩ ∈ WT := wt_of (i := 1610) (by decide +kernel) (by decide +kernel)
theorem wd1611 : Cond.code ⟨"LoopFuserModel", "save", "()V"⟩ prog_14_method_83_code 2 (Option.none : Option Jvm.ClassFile.FieldType) ∈ WT := wt_of (i := 1611) (by decide +kernel) (by decide +kernel)
theorem wd1612 : Cond.methodLink "LoopFuserLaw" 225 ⟨"LoopFuserModel", "restore", "()V"⟩ ∈ WT := wt_of (i := 1612) (by decide +kernel) (by decide +kernel)
theorem wd1613 : Cond.instanceMethod ⟨"LoopFuserModel", "restore", "()V"⟩ ∈ WT := wt_of (i := 1613) (by decide +kernel) (by decide +kernel)
theorem wd1614 : Cond.selects "LoopFuserModel" ⟨"LoopFuserModel", "restore", "()V"⟩ ⟨"LoopFuserModel", "restore", "()V"⟩ ∈ WT := wt_of (i := 1614) (by decide +kernel) (by decide +kernel)
theorem wd1615 : Cond.code ⟨"LoopFuserModel", "restore", "()V"⟩ prog_14_method_84_code 2 (Option.none : Option Jvm.ClassFile.FieldType) ∈ WT := wt_of (i := 1615) (by decide +kernel) (by decide +kernel)
theorem jm_X11_faultPosition : jMV RX11 yX11_faultPosition cX11_faultPosition 1 (some .int) 0 := ⟨wd484, wd485, wd73, wd486, ⟨rfl, by decide +kernel, by decide +kernel, by decide +kernel⟩, by decide⟩
theorem jm_X11_loopCount : jMV RX11 yX11_loopCount cX11_loopCount 1 (some .int) 0 := ⟨wd488, wd489, wd73, wd490, ⟨rfl, by decide +kernel, by decide +kernel, by decide +kernel⟩, by decide⟩
theorem jm_X11_save : jMV RX11 yX11_save cX11_save 1 none 0 := ⟨wd492, wd493, wd73, wd494, ⟨rfl, by decide +kernel, by decide +kernel, by decide +kernel⟩, by decide⟩
theorem jm_X12_append : jMV RX12 yX12_append cX12_append 5 (some .int) 1 := ⟨wd1290, wd1291, wd84, wd1292, ⟨rfl, by decide +kernel, by decide +kernel, by decide +kernel⟩, by decide⟩
theorem jm_X12_bound : jMV RX12 yX12_bound cX12_bound 3 (some .int) 2 := ⟨wd1381, wd1382, wd84, wd1383, ⟨rfl, by decide +kernel, by decide +kernel, by decide +kernel⟩, by decide⟩
theorem jm_X12_carried : jMV RX12 yX12_carried cX12_carried 9 (some .int) 2 := ⟨wd1577, wd1578, wd84, wd1579, ⟨rfl, by decide +kernel, by decide +kernel, by decide +kernel⟩, by decide⟩
theorem jm_X12_cell : jMV RX12 yX12_cell cX12_cell 4 (some .int) 3 := ⟨wd1601, wd1602, wd84, wd1603, ⟨rfl, by decide +kernel, by decide +kernel, by decide +kernel⟩, by decide⟩
theorem jm_X12_changed : jMV RX12 yX12_changed cX12_changed 4 (some .int) 1 := ⟨wd1605, wd1606, wd84, wd1607, ⟨rfl, by decide +kernel, by decide +kernel, by decide +kernel⟩, by decide⟩
theorem jm_X12_dependence : jMV RX12 yX12_dependence cX12_dependence 6 (some .int) 4 := ⟨wd1482, wd1483, wd84, wd1484, ⟨rfl, by decide +kernel, by decide +kernel, by decide +kernel⟩, by decide⟩
theorem jm_X12_dependenceCount : jMV RX12 yX12_dependenceCount cX12_dependenceCount 3 (some .int) 2 := ⟨wd1462, wd1463, wd84, wd1464, ⟨rfl, by decide +kernel, by decide +kernel, by decide +kernel⟩, by decide⟩
theorem jm_X12_faultPosition : jMV RX12 yX12_faultPosition cX12_faultPosition 1 (some .int) 0 := ⟨wd1365, wd1366, wd84, wd1367, ⟨rfl, by decide +kernel, by decide +kernel, by decide +kernel⟩, by decide⟩
theorem jm_X12_groupCount : jMV RX12 yX12_groupCount cX12_groupCount 2 (some .int) 1 := ⟨wd1511, wd1512, wd84, wd1513, ⟨rfl, by decide +kernel, by decide +kernel, by decide +kernel⟩, by decide⟩
theorem jm_X12_groupOf : jMV RX12 yX12_groupOf cX12_groupOf 3 (some .int) 2 := ⟨wd1541, wd1542, wd84, wd1543, ⟨rfl, by decide +kernel, by decide +kernel, by decide +kernel⟩, by decide⟩
theorem jm_X12_height : jMV RX12 yX12_height cX12_height 6 (some .int) 2 := ⟨wd1417, wd1418, wd84, wd1419, ⟨rfl, by decide +kernel, by decide +kernel, by decide +kernel⟩, by decide⟩
theorem jm_X12_hits : jMV RX12 yX12_hits cX12_hits 3 (some .int) 2 := ⟨wd1498, wd1499, wd84, wd1500, ⟨rfl, by decide +kernel, by decide +kernel, by decide +kernel⟩, by decide⟩
theorem jm_X12_isAllowed : jMV RX12 yX12_isAllowed cX12_isAllowed 3 (some .boolean) 2 := ⟨wd1490, wd1491, wd84, wd1492, ⟨rfl, by decide +kernel, by decide +kernel, by decide +kernel⟩, by decide⟩
theorem jm_X12_loopCount : jMV RX12 yX12_loopCount cX12_loopCount 1 (some .int) 0 := ⟨wd1377, wd1378, wd84, wd1379, ⟨rfl, by decide +kernel, by decide +kernel, by decide +kernel⟩, by decide⟩
theorem jm_X12_operators : jMV RX12 yX12_operators cX12_operators 6 (some .int) 3 := ⟨wd1405, wd1406, wd84, wd1407, ⟨rfl, by decide +kernel, by decide +kernel, by decide +kernel⟩, by decide⟩
theorem jm_X12_peeled : jMV RX12 yX12_peeled cX12_peeled 6 (some .int) 3 := ⟨wd1573, wd1574, wd84, wd1575, ⟨rfl, by decide +kernel, by decide +kernel, by decide +kernel⟩, by decide⟩
theorem jm_X12_read : jMV RX12 yX12_read cX12_read 3 (some .int) 0 := ⟨wd1301, wd1302, wd84, wd1303, ⟨rfl, by decide +kernel, by decide +kernel, by decide +kernel⟩, by decide⟩
theorem jm_X12_reads : jMV RX12 yX12_reads cX12_reads 5 (some .int) 2 := ⟨wd1585, wd1586, wd84, wd1587, ⟨rfl, by decide +kernel, by decide +kernel, by decide +kernel⟩, by decide⟩
theorem jm_X12_referenceCount : jMV RX12 yX12_referenceCount cX12_referenceCount 2 (some .int) 1 := ⟨wd1397, wd1398, wd84, wd1399, ⟨rfl, by decide +kernel, by decide +kernel, by decide +kernel⟩, by decide⟩
theorem jm_X12_reference_ : jMV RX12 yX12_reference_ cX12_reference_ 4 (some .int) 3 := ⟨wd1401, wd1402, wd84, wd1403, ⟨rfl, by decide +kernel, by decide +kernel, by decide +kernel⟩, by decide⟩
theorem jm_X12_removeLoop : jMV RX12 yX12_removeLoop cX12_removeLoop 3 (some .int) 1 := ⟨wd1369, wd1370, wd84, wd1371, ⟨rfl, by decide +kernel, by decide +kernel, by decide +kernel⟩, by decide⟩
theorem jm_X12_required : jMV RX12 yX12_required cX12_required 3 (some .int) 2 := ⟨wd1486, wd1487, wd84, wd1488, ⟨rfl, by decide +kernel, by decide +kernel, by decide +kernel⟩, by decide⟩
theorem jm_X12_restore : jMV RX12 yX12_restore cX12_restore 2 none 0 := ⟨wd1613, wd1614, wd84, wd1615, ⟨rfl, by decide +kernel, by decide +kernel, by decide +kernel⟩, by decide⟩
theorem jm_X12_run : jMV RX12 yX12_run cX12_run 4 (some .int) 1 := ⟨wd1589, wd1590, wd84, wd1591, ⟨rfl, by decide +kernel, by decide +kernel, by decide +kernel⟩, by decide⟩
theorem jm_X12_save : jMV RX12 yX12_save cX12_save 2 none 0 := ⟨wd1609, wd1610, wd84, wd1611, ⟨rfl, by decide +kernel, by decide +kernel, by decide +kernel⟩, by decide⟩
theorem jm_X12_setBarrier : jMV RX12 yX12_setBarrier cX12_setBarrier 4 (some .boolean) 2 := ⟨wd1458, wd1459, wd84, wd1460, ⟨rfl, by decide +kernel, by decide +kernel, by decide +kernel⟩, by decide⟩
theorem jm_X12_setBound : jMV RX12 yX12_setBound cX12_setBound 6 (some .int) 3 := ⟨wd1389, wd1390, wd84, wd1391, ⟨rfl, by decide +kernel, by decide +kernel, by decide +kernel⟩, by decide⟩
theorem jm_X12_setOption : jMV RX12 yX12_setOption cX12_setOption 4 (some .int) 2 := ⟨wd1454, wd1455, wd84, wd1456, ⟨rfl, by decide +kernel, by decide +kernel, by decide +kernel⟩, by decide⟩
theorem jm_X12_shift : jMV RX12 yX12_shift cX12_shift 3 (some .int) 2 := ⟨wd1553, wd1554, wd84, wd1555, ⟨rfl, by decide +kernel, by decide +kernel, by decide +kernel⟩, by decide⟩
theorem jm_X12_statementCount : jMV RX12 yX12_statementCount cX12_statementCount 2 (some .int) 1 := ⟨wd1393, wd1394, wd84, wd1395, ⟨rfl, by decide +kernel, by decide +kernel, by decide +kernel⟩, by decide⟩
theorem jm_X12_step : jMV RX12 yX12_step cX12_step 4 (some .int) 3 := ⟨wd1557, wd1558, wd84, wd1559, ⟨rfl, by decide +kernel, by decide +kernel, by decide +kernel⟩, by decide⟩
theorem jm_X12_thrown : jMV RX12 yX12_thrown cX12_thrown 1 (some .int) 0 := ⟨wd1286, wd1287, wd84, wd1288, ⟨rfl, by decide +kernel, by decide +kernel, by decide +kernel⟩, by decide⟩
theorem jm_X12_value : jMV RX12 yX12_value cX12_value 4 (some .int) 3 := ⟨wd1422, wd1423, wd84, wd1424, ⟨rfl, by decide +kernel, by decide +kernel, by decide +kernel⟩, by decide⟩
def at_L_23 (L : Nat) (xs : Nat → Int32) (k : Nat) (i : Int32) (M : jM) : Prop := jAtL L xs (131 + 122 * k) (24135 + 2894 * k) 23 (fun b g => [(0, .ref b), (1, .ref (g 10 0)), (2, .ref (g 11 0)), (3, .ref (g 61 0)), (4, .int i)]) M
def at_L_180 (L : Nat) (xs : Nat → Int32) (k : Nat) (i : Int32) (M : jM) : Prop := jAtL L xs (131 + 122 * k) (24135 + 2894 * k) 180 (fun b g => [(0, .ref b), (1, .ref (g 10 0)), (2, .ref (g 11 0)), (3, .ref (g 61 0)), (4, .int i)]) M
def at_L_236 (L : Nat) (xs : Nat → Int32) (k : Nat) (i : Int32) (M : jM) : Prop := jAtL L xs (131 + 122 * k) (24135 + 2894 * k) 236 (fun b g => [(0, .ref b), (1, .ref (g 10 0)), (2, .ref (g 11 0)), (3, .ref (g 61 0)), (4, .int i)]) M
def at_L_280 (L : Nat) (xs : Nat → Int32) (k : Nat) (i : Int32) (M : jM) : Prop := jAtL L xs (131 + 122 * k) (24135 + 2894 * k) 280 (fun b g => [(0, .ref b), (1, .ref (g 10 0)), (2, .ref (g 11 0)), (3, .ref (g 61 0)), (4, .int i)]) M
def at_L_293 (L : Nat) (xs : Nat → Int32) (k : Nat) (i : Int32) (M : jM) : Prop := jAtL L xs (131 + 122 * k) (24135 + 2894 * k) 293 (fun b g => [(0, .ref b), (1, .ref (g 10 0)), (2, .ref (g 11 0)), (3, .ref (g 61 0)), (4, .int i)]) M
def at_L_349 (L : Nat) (xs : Nat → Int32) (k : Nat) (i : Int32) (M : jM) : Prop := jAtL L xs (131 + 122 * k) (24135 + 2894 * k) 349 (fun b g => [(0, .ref b), (1, .ref (g 10 0)), (2, .ref (g 11 0)), (3, .ref (g 61 0)), (4, .int i)]) M
def at_L_362 (L : Nat) (xs : Nat → Int32) (k : Nat) (i : Int32) (M : jM) : Prop := jAtL L xs (131 + 122 * k) (24135 + 2894 * k) 362 (fun b g => [(0, .ref b), (1, .ref (g 10 0)), (2, .ref (g 11 0)), (3, .ref (g 61 0)), (4, .int i)]) M
def at_L_430 (L : Nat) (xs : Nat → Int32) (k : Nat) (i : Int32) (M : jM) : Prop := jAtL L xs (131 + 122 * k) (24135 + 2894 * k) 430 (fun b g => [(0, .ref b), (1, .ref (g 10 0)), (2, .ref (g 11 0)), (3, .ref (g 61 0)), (4, .int i)]) M
def at_L_510 (L : Nat) (xs : Nat → Int32) (k : Nat) (i : Int32) (M : jM) : Prop := jAtL L xs (131 + 122 * k) (24135 + 2894 * k) 510 (fun b g => [(0, .ref b), (1, .ref (g 10 0)), (2, .ref (g 11 0)), (3, .ref (g 61 0)), (4, .int i)]) M
def at_L_566 (L : Nat) (xs : Nat → Int32) (k : Nat) (i : Int32) (M : jM) : Prop := jAtL L xs (131 + 122 * k) (24135 + 2894 * k) 566 (fun b g => [(0, .ref b), (1, .ref (g 10 0)), (2, .ref (g 11 0)), (3, .ref (g 61 0)), (4, .int i)]) M
def at_L_622 (L : Nat) (xs : Nat → Int32) (k : Nat) (i : Int32) (M : jM) : Prop := jAtL L xs (131 + 122 * k) (24135 + 2894 * k) 622 (fun b g => [(0, .ref b), (1, .ref (g 10 0)), (2, .ref (g 11 0)), (3, .ref (g 61 0)), (4, .int i)]) M
def at_L_702 (L : Nat) (xs : Nat → Int32) (k : Nat) (i : Int32) (M : jM) : Prop := jAtL L xs (131 + 122 * k) (24135 + 2894 * k) 702 (fun b g => [(0, .ref b), (1, .ref (g 10 0)), (2, .ref (g 11 0)), (3, .ref (g 61 0)), (4, .int i)]) M
def at_L_782 (L : Nat) (xs : Nat → Int32) (k : Nat) (i : Int32) (M : jM) : Prop := jAtL L xs (131 + 122 * k) (24135 + 2894 * k) 782 (fun b g => [(0, .ref b), (1, .ref (g 10 0)), (2, .ref (g 11 0)), (3, .ref (g 61 0)), (4, .int i)]) M
def at_L_850 (L : Nat) (xs : Nat → Int32) (k : Nat) (i : Int32) (M : jM) : Prop := jAtL L xs (131 + 122 * k) (24135 + 2894 * k) 850 (fun b g => [(0, .ref b), (1, .ref (g 10 0)), (2, .ref (g 11 0)), (3, .ref (g 61 0)), (4, .int i)]) M
def at_L_930 (L : Nat) (xs : Nat → Int32) (k : Nat) (i : Int32) (M : jM) : Prop := jAtL L xs (131 + 122 * k) (24135 + 2894 * k) 930 (fun b g => [(0, .ref b), (1, .ref (g 10 0)), (2, .ref (g 11 0)), (3, .ref (g 61 0)), (4, .int i)]) M
def at_L_998 (L : Nat) (xs : Nat → Int32) (k : Nat) (i : Int32) (M : jM) : Prop := jAtL L xs (131 + 122 * k) (24135 + 2894 * k) 998 (fun b g => [(0, .ref b), (1, .ref (g 10 0)), (2, .ref (g 11 0)), (3, .ref (g 61 0)), (4, .int i)]) M
def at_L_1089 (L : Nat) (xs : Nat → Int32) (k : Nat) (i : Int32) (M : jM) : Prop := jAtL L xs (131 + 122 * k) (24135 + 2894 * k) 1089 (fun b g => [(0, .ref b), (1, .ref (g 10 0)), (2, .ref (g 11 0)), (3, .ref (g 61 0)), (4, .int i)]) M
def at_L_1157 (L : Nat) (xs : Nat → Int32) (k : Nat) (i : Int32) (M : jM) : Prop := jAtL L xs (131 + 122 * k) (24135 + 2894 * k) 1157 (fun b g => [(0, .ref b), (1, .ref (g 10 0)), (2, .ref (g 11 0)), (3, .ref (g 61 0)), (4, .int i)]) M
def at_L_1249 (L : Nat) (xs : Nat → Int32) (k : Nat) (i : Int32) (M : jM) : Prop := jAtL L xs (131 + 122 * k) (24135 + 2894 * k) 1249 (fun b g => [(0, .ref b), (1, .ref (g 10 0)), (2, .ref (g 11 0)), (3, .ref (g 61 0)), (4, .int i)]) M
def at_L_1317 (L : Nat) (xs : Nat → Int32) (k : Nat) (i : Int32) (M : jM) : Prop := jAtL L xs (131 + 122 * k) (24135 + 2894 * k) 1317 (fun b g => [(0, .ref b), (1, .ref (g 10 0)), (2, .ref (g 11 0)), (3, .ref (g 61 0)), (4, .int i)]) M
def at_L_1392 (L : Nat) (xs : Nat → Int32) (k : Nat) (i : Int32) (M : jM) : Prop := jAtL L xs (131 + 122 * k) (24135 + 2894 * k) 1392 (fun b g => [(0, .ref b), (1, .ref (g 10 0)), (2, .ref (g 11 0)), (3, .ref (g 61 0)), (4, .int i)]) M
def at_L_1448 (L : Nat) (xs : Nat → Int32) (k : Nat) (i : Int32) (M : jM) : Prop := jAtL L xs (131 + 122 * k) (24135 + 2894 * k) 1448 (fun b g => [(0, .ref b), (1, .ref (g 10 0)), (2, .ref (g 11 0)), (3, .ref (g 61 0)), (4, .int i)]) M
def at_L_1516 (L : Nat) (xs : Nat → Int32) (k : Nat) (i : Int32) (M : jM) : Prop := jAtL L xs (131 + 122 * k) (24135 + 2894 * k) 1516 (fun b g => [(0, .ref b), (1, .ref (g 10 0)), (2, .ref (g 11 0)), (3, .ref (g 61 0)), (4, .int i)]) M
def at_L_1584 (L : Nat) (xs : Nat → Int32) (k : Nat) (i : Int32) (M : jM) : Prop := jAtL L xs (131 + 122 * k) (24135 + 2894 * k) 1584 (fun b g => [(0, .ref b), (1, .ref (g 10 0)), (2, .ref (g 11 0)), (3, .ref (g 61 0)), (4, .int i)]) M
def at_L_1664 (L : Nat) (xs : Nat → Int32) (k : Nat) (i : Int32) (M : jM) : Prop := jAtL L xs (131 + 122 * k) (24135 + 2894 * k) 1664 (fun b g => [(0, .ref b), (1, .ref (g 10 0)), (2, .ref (g 11 0)), (3, .ref (g 61 0)), (4, .int i)]) M
def at_L_1744 (L : Nat) (xs : Nat → Int32) (k : Nat) (i : Int32) (M : jM) : Prop := jAtL L xs (131 + 122 * k) (24135 + 2894 * k) 1744 (fun b g => [(0, .ref b), (1, .ref (g 10 0)), (2, .ref (g 11 0)), (3, .ref (g 61 0)), (4, .int i)]) M
def at_L_1812 (L : Nat) (xs : Nat → Int32) (k : Nat) (i : Int32) (M : jM) : Prop := jAtL L xs (131 + 122 * k) (24135 + 2894 * k) 1812 (fun b g => [(0, .ref b), (1, .ref (g 10 0)), (2, .ref (g 11 0)), (3, .ref (g 61 0)), (4, .int i)]) M
def at_L_1880 (L : Nat) (xs : Nat → Int32) (k : Nat) (i : Int32) (M : jM) : Prop := jAtL L xs (131 + 122 * k) (24135 + 2894 * k) 1880 (fun b g => [(0, .ref b), (1, .ref (g 10 0)), (2, .ref (g 11 0)), (3, .ref (g 61 0)), (4, .int i)]) M
def at_L_1948 (L : Nat) (xs : Nat → Int32) (k : Nat) (i : Int32) (M : jM) : Prop := jAtL L xs (131 + 122 * k) (24135 + 2894 * k) 1948 (fun b g => [(0, .ref b), (1, .ref (g 10 0)), (2, .ref (g 11 0)), (3, .ref (g 61 0)), (4, .int i)]) M
def at_L_2004 (L : Nat) (xs : Nat → Int32) (k : Nat) (i : Int32) (M : jM) : Prop := jAtL L xs (131 + 122 * k) (24135 + 2894 * k) 2004 (fun b g => [(0, .ref b), (1, .ref (g 10 0)), (2, .ref (g 11 0)), (3, .ref (g 61 0)), (4, .int i)]) M
def at_L_2084 (L : Nat) (xs : Nat → Int32) (k : Nat) (i : Int32) (M : jM) : Prop := jAtL L xs (131 + 122 * k) (24135 + 2894 * k) 2084 (fun b g => [(0, .ref b), (1, .ref (g 10 0)), (2, .ref (g 11 0)), (3, .ref (g 61 0)), (4, .int i)]) M
def at_L_2140 (L : Nat) (xs : Nat → Int32) (k : Nat) (i : Int32) (M : jM) : Prop := jAtL L xs (131 + 122 * k) (24135 + 2894 * k) 2140 (fun b g => [(0, .ref b), (1, .ref (g 10 0)), (2, .ref (g 11 0)), (3, .ref (g 61 0)), (4, .int i)]) M
def at_L_2151 (L : Nat) (xs : Nat → Int32) (k : Nat) (i : Int32) (M : jM) : Prop := jAtL L xs (131 + 122 * k) (24135 + 2894 * k) 2151 (fun b g => [(0, .ref b), (1, .ref (g 10 0)), (2, .ref (g 11 0)), (3, .ref (g 61 0)), (4, .int i)]) M
