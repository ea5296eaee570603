/-! written by program (wip/gen) -/
theorem qX6_f45 : (Jvm.Cond.fieldLink "StreamEndModel" (45 : Nat) "StreamEndModel" "code" "I") ∈ se_all := se_in 822 (by decide +kernel) (by decide +kernel)
theorem qX6_f103 : (Jvm.Cond.fieldLink "StreamEndModel" (103 : Nat) "StreamEndModel" "open" "Z") ∈ se_all := se_in 849 (by decide +kernel) (by decide +kernel)
theorem qX6_f106 : (Jvm.Cond.fieldLink "StreamEndModel" (106 : Nat) "StreamEndModel" "again" "Z") ∈ se_all := se_in 851 (by decide +kernel) (by decide +kernel)
theorem qX6_f109 : (Jvm.Cond.fieldLink "StreamEndModel" (109 : Nat) "StreamEndModel" "probe" "Z") ∈ se_all := se_in 852 (by decide +kernel) (by decide +kernel)
theorem qX6_f112 : (Jvm.Cond.fieldLink "StreamEndModel" (112 : Nat) "StreamEndModel" "thank" "Z") ∈ se_all := se_in 853 (by decide +kernel) (by decide +kernel)
theorem qX6_f20 : (Jvm.Cond.fieldLink "StreamEndModel" (20 : Nat) "StreamEndModel" "alarm" "I") ∈ se_all := se_in 854 (by decide +kernel) (by decide +kernel)
theorem qX6_f115 : (Jvm.Cond.fieldLink "StreamEndModel" (115 : Nat) "StreamEndModel" "measures" "Z") ∈ se_all := se_in 857 (by decide +kernel) (by decide +kernel)
theorem q_ini_StreamEndModel : (Jvm.Cond.initialized "StreamEndModel") ∈ se_all := se_in 8 (by decide +kernel) (by decide +kernel)
theorem q_code_X6_quiesce : (Jvm.Cond.code ({ cls := "StreamEndModel", name := "quiesce", desc := "()V" } : Jvm.MethodName) prog_8_method_4_code (1 : Nat) (Option.none : Option Jvm.ClassFile.FieldType)) ∈ se_all := se_in 987 (by decide +kernel) (by decide +kernel)
theorem q_instanceMethod_X6_quiesce : (Jvm.Cond.instanceMethod ({ cls := "StreamEndModel", name := "quiesce", desc := "()V" } : Jvm.MethodName)) ∈ se_all := se_in 986 (by decide +kernel) (by decide +kernel)
theorem qX6_m85 : (Jvm.Cond.methodLink "StreamEndModel" (85 : Nat) ({ cls := "StreamEndModel", name := "quiesce", desc := "()V" } : Jvm.MethodName)) ∈ se_all := se_in 984 (by decide +kernel) (by decide +kernel)
theorem qX6_f24 : (Jvm.Cond.fieldLink "StreamEndModel" (24 : Nat) "StreamEndModel" "wait" "I") ∈ se_all := se_in 855 (by decide +kernel) (by decide +kernel)
theorem qX6_f88 : (Jvm.Cond.fieldLink "StreamEndModel" (88 : Nat) "StreamEndModel" "tries" "I") ∈ se_all := se_in 856 (by decide +kernel) (by decide +kernel)
theorem qX6_f91 : (Jvm.Cond.fieldLink "StreamEndModel" (91 : Nat) "StreamEndModel" "known" "Z") ∈ se_all := se_in 860 (by decide +kernel) (by decide +kernel)
theorem qX6_f94 : (Jvm.Cond.fieldLink "StreamEndModel" (94 : Nat) "StreamEndModel" "smooth" "I") ∈ se_all := se_in 861 (by decide +kernel) (by decide +kernel)
theorem qX6_f97 : (Jvm.Cond.fieldLink "StreamEndModel" (97 : Nat) "StreamEndModel" "spread" "I") ∈ se_all := se_in 862 (by decide +kernel) (by decide +kernel)
theorem qX6_f100 : (Jvm.Cond.fieldLink "StreamEndModel" (100 : Nat) "StreamEndModel" "opened" "Z") ∈ se_all := se_in 850 (by decide +kernel) (by decide +kernel)
theorem qX6_f16 : (Jvm.Cond.fieldLink "StreamEndModel" (16 : Nat) "StreamEndModel" "came" "[Z") ∈ se_all := se_in 839 (by decide +kernel) (by decide +kernel)
theorem qX6_f48 : (Jvm.Cond.fieldLink "StreamEndModel" (48 : Nat) "StreamEndModel" "first" "I") ∈ se_all := se_in 828 (by decide +kernel) (by decide +kernel)
theorem qX6_f51 : (Jvm.Cond.fieldLink "StreamEndModel" (51 : Nat) "StreamEndModel" "oldest" "I") ∈ se_all := se_in 829 (by decide +kernel) (by decide +kernel)
theorem qX6_f54 : (Jvm.Cond.fieldLink "StreamEndModel" (54 : Nat) "StreamEndModel" "next" "I") ∈ se_all := se_in 830 (by decide +kernel) (by decide +kernel)
theorem qX6_f57 : (Jvm.Cond.fieldLink "StreamEndModel" (57 : Nat) "StreamEndModel" "outAt" "I") ∈ se_all := se_in 834 (by decide +kernel) (by decide +kernel)
theorem qX6_f60 : (Jvm.Cond.fieldLink "StreamEndModel" (60 : Nat) "StreamEndModel" "outCount" "I") ∈ se_all := se_in 833 (by decide +kernel) (by decide +kernel)
theorem qX6_f36 : (Jvm.Cond.fieldLink "StreamEndModel" (36 : Nat) "StreamEndModel" "ownLargest" "I") ∈ se_all := se_in 820 (by decide +kernel) (by decide +kernel)
theorem qX6_f42 : (Jvm.Cond.fieldLink "StreamEndModel" (42 : Nat) "StreamEndModel" "piece" "I") ∈ se_all := se_in 831 (by decide +kernel) (by decide +kernel)
theorem qX6_f63 : (Jvm.Cond.fieldLink "StreamEndModel" (63 : Nat) "StreamEndModel" "window" "I") ∈ se_all := se_in 835 (by decide +kernel) (by decide +kernel)
theorem qX6_f66 : (Jvm.Cond.fieldLink "StreamEndModel" (66 : Nat) "StreamEndModel" "have" "I") ∈ se_all := se_in 840 (by decide +kernel) (by decide +kernel)
theorem qX6_f69 : (Jvm.Cond.fieldLink "StreamEndModel" (69 : Nat) "StreamEndModel" "expected" "I") ∈ se_all := se_in 841 (by decide +kernel) (by decide +kernel)
theorem qX6_f72 : (Jvm.Cond.fieldLink "StreamEndModel" (72 : Nat) "StreamEndModel" "heard" "Z") ∈ se_all := se_in 827 (by decide +kernel) (by decide +kernel)
theorem qX6_f76 : (Jvm.Cond.fieldLink "StreamEndModel" (76 : Nat) "StreamEndModel" "lastKnown" "Z") ∈ se_all := se_in 842 (by decide +kernel) (by decide +kernel)
theorem qX6_f79 : (Jvm.Cond.fieldLink "StreamEndModel" (79 : Nat) "StreamEndModel" "over" "Z") ∈ se_all := se_in 844 (by decide +kernel) (by decide +kernel)
theorem qX6_f82 : (Jvm.Cond.fieldLink "StreamEndModel" (82 : Nat) "StreamEndModel" "closed" "Z") ∈ se_all := se_in 826 (by decide +kernel) (by decide +kernel)
theorem qX6_f118 : (Jvm.Cond.fieldLink "StreamEndModel" (118 : Nat) "StreamEndModel" "state" "I") ∈ se_all := se_in 824 (by decide +kernel) (by decide +kernel)
theorem q_code_X6_clear : (Jvm.Cond.code ({ cls := "StreamEndModel", name := "clear", desc := "(I)V" } : Jvm.MethodName) prog_8_method_3_code (3 : Nat) (Option.none : Option Jvm.ClassFile.FieldType)) ∈ se_all := se_in 983 (by decide +kernel) (by decide +kernel)
theorem q_instanceMethod_X6_clear : (Jvm.Cond.instanceMethod ({ cls := "StreamEndModel", name := "clear", desc := "(I)V" } : Jvm.MethodName)) ∈ se_all := se_in 982 (by decide +kernel) (by decide +kernel)
theorem qX6_m127 : (Jvm.Cond.methodLink "StreamEndModel" (127 : Nat) ({ cls := "StreamEndModel", name := "clear", desc := "(I)V" } : Jvm.MethodName)) ∈ se_all := se_in 980 (by decide +kernel) (by decide +kernel)
theorem qX6_f131 : (Jvm.Cond.fieldLink "StreamEndModel" (131 : Nat) "StreamEndModel" "listened" "Z") ∈ se_all := se_in 825 (by decide +kernel) (by decide +kernel)
theorem q_code_X6_sends : (Jvm.Cond.code ({ cls := "StreamEndModel", name := "sends", desc := "()Z" } : Jvm.MethodName) prog_8_method_13_code (1 : Nat) (Option.some Jvm.ClassFile.FieldType.boolean)) ∈ se_all := se_in 1000 (by decide +kernel) (by decide +kernel)
theorem q_instanceMethod_X6_sends : (Jvm.Cond.instanceMethod ({ cls := "StreamEndModel", name := "sends", desc := "()Z" } : Jvm.MethodName)) ∈ se_all := se_in 999 (by decide +kernel) (by decide +kernel)
theorem qX6_m162 : (Jvm.Cond.methodLink "StreamEndModel" (162 : Nat) ({ cls := "StreamEndModel", name := "sends", desc := "()Z" } : Jvm.MethodName)) ∈ se_all := se_in 997 (by decide +kernel) (by decide +kernel)
theorem q_code_X6_unsent : (Jvm.Cond.code ({ cls := "StreamEndModel", name := "unsent", desc := "()I" } : Jvm.MethodName) prog_8_method_14_code (1 : Nat) (Option.some Jvm.ClassFile.FieldType.int)) ∈ se_all := se_in 1004 (by decide +kernel) (by decide +kernel)
theorem q_instanceMethod_X6_unsent : (Jvm.Cond.instanceMethod ({ cls := "StreamEndModel", name := "unsent", desc := "()I" } : Jvm.MethodName)) ∈ se_all := se_in 1003 (by decide +kernel) (by decide +kernel)
theorem qX6_m165 : (Jvm.Cond.methodLink "StreamEndModel" (165 : Nat) ({ cls := "StreamEndModel", name := "unsent", desc := "()I" } : Jvm.MethodName)) ∈ se_all := se_in 1001 (by decide +kernel) (by decide +kernel)
theorem q_code_X6_owesLast : (Jvm.Cond.code ({ cls := "StreamEndModel", name := "owesLast", desc := "()Z" } : Jvm.MethodName) prog_8_method_15_code (1 : Nat) (Option.some Jvm.ClassFile.FieldType.boolean)) ∈ se_all := se_in 1008 (by decide +kernel) (by decide +kernel)
theorem q_instanceMethod_X6_owesLast : (Jvm.Cond.instanceMethod ({ cls := "StreamEndModel", name := "owesLast", desc := "()Z" } : Jvm.MethodName)) ∈ se_all := se_in 1007 (by decide +kernel) (by decide +kernel)
theorem qX6_m168 : (Jvm.Cond.methodLink "StreamEndModel" (168 : Nat) ({ cls := "StreamEndModel", name := "owesLast", desc := "()Z" } : Jvm.MethodName)) ∈ se_all := se_in 1005 (by decide +kernel) (by decide +kernel)
theorem qX6_f121 : (Jvm.Cond.fieldLink "StreamEndModel" (121 : Nat) "StreamEndModel" "time" "I") ∈ se_all := se_in 823 (by decide +kernel) (by decide +kernel)
theorem q_code_X6_watch : (Jvm.Cond.code ({ cls := "StreamEndModel", name := "watch", desc := "()V" } : Jvm.MethodName) prog_8_method_16_code (2 : Nat) (Option.none : Option Jvm.ClassFile.FieldType)) ∈ se_all := se_in 996 (by decide +kernel) (by decide +kernel)
theorem q_instanceMethod_X6_watch : (Jvm.Cond.instanceMethod ({ cls := "StreamEndModel", name := "watch", desc := "()V" } : Jvm.MethodName)) ∈ se_all := se_in 995 (by decide +kernel) (by decide +kernel)
theorem qX6_m136 : (Jvm.Cond.methodLink "StreamEndModel" (136 : Nat) ({ cls := "StreamEndModel", name := "watch", desc := "()V" } : Jvm.MethodName)) ∈ se_all := se_in 993 (by decide +kernel) (by decide +kernel)
theorem qX6_f7 : (Jvm.Cond.fieldLink "StreamEndModel" (7 : Nat) "StreamEndModel" "out" "[I") ∈ se_all := se_in 832 (by decide +kernel) (by decide +kernel)
theorem qX6_k134 : (Jvm.Cond.constantLong "StreamEndModel" (134 : Nat) (255 : Int64)) ∈ se_all := se_in 992 (by decide +kernel) (by decide +kernel)
theorem q_code_X6_room : (Jvm.Cond.code ({ cls := "StreamEndModel", name := "room", desc := "()I" } : Jvm.MethodName) prog_8_method_8_code (1 : Nat) (Option.some Jvm.ClassFile.FieldType.int)) ∈ se_all := se_in 1020 (by decide +kernel) (by decide +kernel)
theorem q_instanceMethod_X6_room : (Jvm.Cond.instanceMethod ({ cls := "StreamEndModel", name := "room", desc := "()I" } : Jvm.MethodName)) ∈ se_all := se_in 1019 (by decide +kernel) (by decide +kernel)
theorem qX6_m139 : (Jvm.Cond.methodLink "StreamEndModel" (139 : Nat) ({ cls := "StreamEndModel", name := "room", desc := "()I" } : Jvm.MethodName)) ∈ se_all := se_in 1017 (by decide +kernel) (by decide +kernel)
theorem q_code_X6_isShort : (Jvm.Cond.code ({ cls := "StreamEndModel", name := "isShort", desc := "()Z" } : Jvm.MethodName) prog_8_method_9_code (1 : Nat) (Option.some Jvm.ClassFile.FieldType.boolean)) ∈ se_all := se_in 1016 (by decide +kernel) (by decide +kernel)
theorem q_instanceMethod_X6_isShort : (Jvm.Cond.instanceMethod ({ cls := "StreamEndModel", name := "isShort", desc := "()Z" } : Jvm.MethodName)) ∈ se_all := se_in 1015 (by decide +kernel) (by decide +kernel)
theorem qX6_m143 : (Jvm.Cond.methodLink "StreamEndModel" (143 : Nat) ({ cls := "StreamEndModel", name := "isShort", desc := "()Z" } : Jvm.MethodName)) ∈ se_all := se_in 1013 (by decide +kernel) (by decide +kernel)
theorem qX6_f13 : (Jvm.Cond.fieldLink "StreamEndModel" (13 : Nat) "StreamEndModel" "in" "[I") ∈ se_all := se_in 838 (by decide +kernel) (by decide +kernel)
theorem qX6_f39 : (Jvm.Cond.fieldLink "StreamEndModel" (39 : Nat) "StreamEndModel" "quietTime" "I") ∈ se_all := se_in 821 (by decide +kernel) (by decide +kernel)
theorem qX6_f124 : (Jvm.Cond.fieldLink "StreamEndModel" (124 : Nat) "StreamEndModel" "quietUntil" "I") ∈ se_all := se_in 863 (by decide +kernel) (by decide +kernel)
theorem q_code_X6_becomes : (Jvm.Cond.code ({ cls := "StreamEndModel", name := "becomes", desc := "(I)V" } : Jvm.MethodName) prog_8_method_5_code (3 : Nat) (Option.none : Option Jvm.ClassFile.FieldType)) ∈ se_all := se_in 1028 (by decide +kernel) (by decide +kernel)
theorem q_instanceMethod_X6_becomes : (Jvm.Cond.instanceMethod ({ cls := "StreamEndModel", name := "becomes", desc := "(I)V" } : Jvm.MethodName)) ∈ se_all := se_in 1027 (by decide +kernel) (by decide +kernel)
theorem qX6_m147 : (Jvm.Cond.methodLink "StreamEndModel" (147 : Nat) ({ cls := "StreamEndModel", name := "becomes", desc := "(I)V" } : Jvm.MethodName)) ∈ se_all := se_in 1025 (by decide +kernel) (by decide +kernel)
theorem qX6_f150 : (Jvm.Cond.fieldLink "StreamEndModel" (150 : Nat) "StreamEndModel" "reset" "Z") ∈ se_all := se_in 845 (by decide +kernel) (by decide +kernel)
theorem qX6_f153 : (Jvm.Cond.fieldLink "StreamEndModel" (153 : Nat) "StreamEndModel" "resetFlags" "I") ∈ se_all := se_in 846 (by decide +kernel) (by decide +kernel)
theorem qX6_f156 : (Jvm.Cond.fieldLink "StreamEndModel" (156 : Nat) "StreamEndModel" "resetNumber" "I") ∈ se_all := se_in 847 (by decide +kernel) (by decide +kernel)
theorem qX6_f159 : (Jvm.Cond.fieldLink "StreamEndModel" (159 : Nat) "StreamEndModel" "resetThanked" "I") ∈ se_all := se_in 848 (by decide +kernel) (by decide +kernel)
theorem q_code_X6_ring : (Jvm.Cond.code ({ cls := "StreamEndModel", name := "ring", desc := "()V" } : Jvm.MethodName) prog_8_method_17_code (1 : Nat) (Option.none : Option Jvm.ClassFile.FieldType)) ∈ se_all := se_in 1041 (by decide +kernel) (by decide +kernel)
theorem q_instanceMethod_X6_ring : (Jvm.Cond.instanceMethod ({ cls := "StreamEndModel", name := "ring", desc := "()V" } : Jvm.MethodName)) ∈ se_all := se_in 1040 (by decide +kernel) (by decide +kernel)
theorem qX6_m172 : (Jvm.Cond.methodLink "StreamEndModel" (172 : Nat) ({ cls := "StreamEndModel", name := "ring", desc := "()V" } : Jvm.MethodName)) ∈ se_all := se_in 1038 (by decide +kernel) (by decide +kernel)
theorem qX6_k171 : (Jvm.Cond.constant "StreamEndModel" (171 : Nat) (1000000 : Int32)) ∈ se_all := se_in 1037 (by decide +kernel) (by decide +kernel)
theorem qX6_f175 : (Jvm.Cond.fieldLink "StreamEndModel" (175 : Nat) "StreamEndModel" "fedCount" "I") ∈ se_all := se_in 865 (by decide +kernel) (by decide +kernel)
theorem qX6_f27 : (Jvm.Cond.fieldLink "StreamEndModel" (27 : Nat) "StreamEndModel" "fed" "[I") ∈ se_all := se_in 864 (by decide +kernel) (by decide +kernel)
theorem q_code_X6_has : (Jvm.Cond.code ({ cls := "StreamEndModel", name := "has", desc := "(II)Z" } : Jvm.MethodName) prog_8_method_21_code (2 : Nat) (Option.some Jvm.ClassFile.FieldType.boolean)) ∈ se_all := se_in 1057 (by decide +kernel) (by decide +kernel)
theorem q_static_X6_has : (Jvm.Cond.static ({ cls := "StreamEndModel", name := "has", desc := "(II)Z" } : Jvm.MethodName)) ∈ se_all := se_in 1056 (by decide +kernel) (by decide +kernel)
theorem qX6_m178 : (Jvm.Cond.methodLink "StreamEndModel" (178 : Nat) ({ cls := "StreamEndModel", name := "has", desc := "(II)Z" } : Jvm.MethodName)) ∈ se_all := se_in 1055 (by decide +kernel) (by decide +kernel)
theorem q_code_X6_size : (Jvm.Cond.code ({ cls := "StreamEndModel", name := "size", desc := "(I)I" } : Jvm.MethodName) prog_8_method_23_code (2 : Nat) (Option.some Jvm.ClassFile.FieldType.int)) ∈ se_all := se_in 1061 (by decide +kernel) (by decide +kernel)
theorem q_instanceMethod_X6_size : (Jvm.Cond.instanceMethod ({ cls := "StreamEndModel", name := "size", desc := "(I)I" } : Jvm.MethodName)) ∈ se_all := se_in 1060 (by decide +kernel) (by decide +kernel)
theorem qX6_m182 : (Jvm.Cond.methodLink "StreamEndModel" (182 : Nat) ({ cls := "StreamEndModel", name := "size", desc := "(I)I" } : Jvm.MethodName)) ∈ se_all := se_in 1058 (by decide +kernel) (by decide +kernel)
theorem qX6_f186 : (Jvm.Cond.fieldLink "StreamEndModel" (186 : Nat) "StreamEndModel" "toldNumber" "I") ∈ se_all := se_in 836 (by decide +kernel) (by decide +kernel)
theorem qX6_f189 : (Jvm.Cond.fieldLink "StreamEndModel" (189 : Nat) "StreamEndModel" "toldThanked" "I") ∈ se_all := se_in 837 (by decide +kernel) (by decide +kernel)
theorem qX6_f229 : (Jvm.Cond.fieldLink "StreamEndModel" (229 : Nat) "StreamEndModel" "lastAt" "I") ∈ se_all := se_in 843 (by decide +kernel) (by decide +kernel)
theorem qX6_f203 : (Jvm.Cond.fieldLink "StreamEndModel" (203 : Nat) "StreamEndModel" "measured" "I") ∈ se_all := se_in 858 (by decide +kernel) (by decide +kernel)
theorem qX6_f206 : (Jvm.Cond.fieldLink "StreamEndModel" (206 : Nat) "StreamEndModel" "measuredAt" "I") ∈ se_all := se_in 859 (by decide +kernel) (by decide +kernel)
theorem q_code_X6_learn : (Jvm.Cond.code ({ cls := "StreamEndModel", name := "learn", desc := "(I)V" } : Jvm.MethodName) prog_8_method_19_code (3 : Nat) (Option.none : Option Jvm.ClassFile.FieldType)) ∈ se_all := se_in 1081 (by decide +kernel) (by decide +kernel)
theorem q_instanceMethod_X6_learn : (Jvm.Cond.instanceMethod ({ cls := "StreamEndModel", name := "learn", desc := "(I)V" } : Jvm.MethodName)) ∈ se_all := se_in 1080 (by decide +kernel) (by decide +kernel)
theorem qX6_m209 : (Jvm.Cond.methodLink "StreamEndModel" (209 : Nat) ({ cls := "StreamEndModel", name := "learn", desc := "(I)V" } : Jvm.MethodName)) ∈ se_all := se_in 1078 (by decide +kernel) (by decide +kernel)
theorem q_code_X6_tell : (Jvm.Cond.code ({ cls := "StreamEndModel", name := "tell", desc := "(III)V" } : Jvm.MethodName) prog_8_method_28_code (6 : Nat) (Option.none : Option Jvm.ClassFile.FieldType)) ∈ se_all := se_in 1097 (by decide +kernel) (by decide +kernel)
theorem q_instanceMethod_X6_tell : (Jvm.Cond.instanceMethod ({ cls := "StreamEndModel", name := "tell", desc := "(III)V" } : Jvm.MethodName)) ∈ se_all := se_in 1096 (by decide +kernel) (by decide +kernel)
theorem qX6_m219 : (Jvm.Cond.methodLink "StreamEndModel" (219 : Nat) ({ cls := "StreamEndModel", name := "tell", desc := "(III)V" } : Jvm.MethodName)) ∈ se_all := se_in 1094 (by decide +kernel) (by decide +kernel)
theorem q_code_X6_wasLast : (Jvm.Cond.code ({ cls := "StreamEndModel", name := "wasLast", desc := "()Z" } : Jvm.MethodName) prog_8_method_32_code (2 : Nat) (Option.some Jvm.ClassFile.FieldType.boolean)) ∈ se_all := se_in 1101 (by decide +kernel) (by decide +kernel)
theorem q_instanceMethod_X6_wasLast : (Jvm.Cond.instanceMethod ({ cls := "StreamEndModel", name := "wasLast", desc := "()Z" } : Jvm.MethodName)) ∈ se_all := se_in 1100 (by decide +kernel) (by decide +kernel)
theorem qX6_m222 : (Jvm.Cond.methodLink "StreamEndModel" (222 : Nat) ({ cls := "StreamEndModel", name := "wasLast", desc := "()Z" } : Jvm.MethodName)) ∈ se_all := se_in 1098 (by decide +kernel) (by decide +kernel)
theorem q_code_X6_take : (Jvm.Cond.code ({ cls := "StreamEndModel", name := "take", desc := "(II)V" } : Jvm.MethodName) prog_8_method_33_code (9 : Nat) (Option.none : Option Jvm.ClassFile.FieldType)) ∈ se_all := se_in 1105 (by decide +kernel) (by decide +kernel)
theorem q_instanceMethod_X6_take : (Jvm.Cond.instanceMethod ({ cls := "StreamEndModel", name := "take", desc := "(II)V" } : Jvm.MethodName)) ∈ se_all := se_in 1104 (by decide +kernel) (by decide +kernel)
theorem qX6_m225 : (Jvm.Cond.methodLink "StreamEndModel" (225 : Nat) ({ cls := "StreamEndModel", name := "take", desc := "(II)V" } : Jvm.MethodName)) ∈ se_all := se_in 1102 (by decide +kernel) (by decide +kernel)
theorem q_code_X6_thanked : (Jvm.Cond.code ({ cls := "StreamEndModel", name := "thanked", desc := "(I)V" } : Jvm.MethodName) prog_8_method_27_code (5 : Nat) (Option.none : Option Jvm.ClassFile.FieldType)) ∈ se_all := se_in 1077 (by decide +kernel) (by decide +kernel)
theorem q_instanceMethod_X6_thanked : (Jvm.Cond.instanceMethod ({ cls := "StreamEndModel", name := "thanked", desc := "(I)V" } : Jvm.MethodName)) ∈ se_all := se_in 1076 (by decide +kernel) (by decide +kernel)
theorem qX6_m200 : (Jvm.Cond.methodLink "StreamEndModel" (200 : Nat) ({ cls := "StreamEndModel", name := "thanked", desc := "(I)V" } : Jvm.MethodName)) ∈ se_all := se_in 1074 (by decide +kernel) (by decide +kernel)
theorem q_code_X6_fits : (Jvm.Cond.code ({ cls := "StreamEndModel", name := "fits", desc := "(II)Z" } : Jvm.MethodName) prog_8_method_29_code (5 : Nat) (Option.some Jvm.ClassFile.FieldType.boolean)) ∈ se_all := se_in 1089 (by decide +kernel) (by decide +kernel)
theorem q_instanceMethod_X6_fits : (Jvm.Cond.instanceMethod ({ cls := "StreamEndModel", name := "fits", desc := "(II)Z" } : Jvm.MethodName)) ∈ se_all := se_in 1088 (by decide +kernel) (by decide +kernel)
theorem qX6_m212 : (Jvm.Cond.methodLink "StreamEndModel" (212 : Nat) ({ cls := "StreamEndModel", name := "fits", desc := "(II)Z" } : Jvm.MethodName)) ∈ se_all := se_in 1086 (by decide +kernel) (by decide +kernel)
theorem q_code_X6_resets : (Jvm.Cond.code ({ cls := "StreamEndModel", name := "resets", desc := "(III)V" } : Jvm.MethodName) prog_8_method_22_code (5 : Nat) (Option.none : Option Jvm.ClassFile.FieldType)) ∈ se_all := se_in 1054 (by decide +kernel) (by decide +kernel)
theorem q_instanceMethod_X6_resets : (Jvm.Cond.instanceMethod ({ cls := "StreamEndModel", name := "resets", desc := "(III)V" } : Jvm.MethodName)) ∈ se_all := se_in 1053 (by decide +kernel) (by decide +kernel)
theorem qX6_m192 : (Jvm.Cond.methodLink "StreamEndModel" (192 : Nat) ({ cls := "StreamEndModel", name := "resets", desc := "(III)V" } : Jvm.MethodName)) ∈ se_all := se_in 1051 (by decide +kernel) (by decide +kernel)
theorem q_code_X6_hitByReset : (Jvm.Cond.code ({ cls := "StreamEndModel", name := "hitByReset", desc := "(Z)V" } : Jvm.MethodName) prog_8_method_31_code (2 : Nat) (Option.none : Option Jvm.ClassFile.FieldType)) ∈ se_all := se_in 1093 (by decide +kernel) (by decide +kernel)
theorem q_instanceMethod_X6_hitByReset : (Jvm.Cond.instanceMethod ({ cls := "StreamEndModel", name := "hitByReset", desc := "(Z)V" } : Jvm.MethodName)) ∈ se_all := se_in 1092 (by decide +kernel) (by decide +kernel)
theorem qX6_m215 : (Jvm.Cond.methodLink "StreamEndModel" (215 : Nat) ({ cls := "StreamEndModel", name := "hitByReset", desc := "(Z)V" } : Jvm.MethodName)) ∈ se_all := se_in 1090 (by decide +kernel) (by decide +kernel)
theorem q_code_X6_greet : (Jvm.Cond.code ({ cls := "StreamEndModel", name := "greet", desc := "(IIIII)V" } : Jvm.MethodName) prog_8_method_24_code (7 : Nat) (Option.none : Option Jvm.ClassFile.FieldType)) ∈ se_all := se_in 1069 (by decide +kernel) (by decide +kernel)
theorem q_instanceMethod_X6_greet : (Jvm.Cond.instanceMethod ({ cls := "StreamEndModel", name := "greet", desc := "(IIIII)V" } : Jvm.MethodName)) ∈ se_all := se_in 1068 (by decide +kernel) (by decide +kernel)
theorem qX6_m196 : (Jvm.Cond.methodLink "StreamEndModel" (196 : Nat) ({ cls := "StreamEndModel", name := "greet", desc := "(IIIII)V" } : Jvm.MethodName)) ∈ se_all := se_in 1066 (by decide +kernel) (by decide +kernel)
theorem qX6_k232 : (Jvm.Cond.constant "StreamEndModel" (232 : Nat) (65535 : Int32)) ∈ se_all := se_in 1050 (by decide +kernel) (by decide +kernel)
theorem q_code_X6_toOthers : (Jvm.Cond.code ({ cls := "StreamEndModel", name := "toOthers", desc := "(IIII)V" } : Jvm.MethodName) prog_8_method_30_code (6 : Nat) (Option.none : Option Jvm.ClassFile.FieldType)) ∈ se_all := se_in 1085 (by decide +kernel) (by decide +kernel)
theorem q_instanceMethod_X6_toOthers : (Jvm.Cond.instanceMethod ({ cls := "StreamEndModel", name := "toOthers", desc := "(IIII)V" } : Jvm.MethodName)) ∈ se_all := se_in 1084 (by decide +kernel) (by decide +kernel)
theorem qX6_m239 : (Jvm.Cond.methodLink "StreamEndModel" (239 : Nat) ({ cls := "StreamEndModel", name := "toOthers", desc := "(IIII)V" } : Jvm.MethodName)) ∈ se_all := se_in 1082 (by decide +kernel) (by decide +kernel)
theorem q_code_X6_toAsking : (Jvm.Cond.code ({ cls := "StreamEndModel", name := "toAsking", desc := "(IIIII)V" } : Jvm.MethodName) prog_8_method_26_code (7 : Nat) (Option.none : Option Jvm.ClassFile.FieldType)) ∈ se_all := se_in 1073 (by decide +kernel) (by decide +kernel)
theorem q_instanceMethod_X6_toAsking : (Jvm.Cond.instanceMethod ({ cls := "StreamEndModel", name := "toAsking", desc := "(IIIII)V" } : Jvm.MethodName)) ∈ se_all := se_in 1072 (by decide +kernel) (by decide +kernel)
theorem qX6_m236 : (Jvm.Cond.methodLink "StreamEndModel" (236 : Nat) ({ cls := "StreamEndModel", name := "toAsking", desc := "(IIIII)V" } : Jvm.MethodName)) ∈ se_all := se_in 1070 (by decide +kernel) (by decide +kernel)
theorem q_code_X6_toListening : (Jvm.Cond.code ({ cls := "StreamEndModel", name := "toListening", desc := "(IIIII)V" } : Jvm.MethodName) prog_8_method_25_code (6 : Nat) (Option.none : Option Jvm.ClassFile.FieldType)) ∈ se_all := se_in 1065 (by decide +kernel) (by decide +kernel)
theorem q_instanceMethod_X6_toListening : (Jvm.Cond.instanceMethod ({ cls := "StreamEndModel", name := "toListening", desc := "(IIIII)V" } : Jvm.MethodName)) ∈ se_all := se_in 1064 (by decide +kernel) (by decide +kernel)
theorem qX6_m233 : (Jvm.Cond.methodLink "StreamEndModel" (233 : Nat) ({ cls := "StreamEndModel", name := "toListening", desc := "(IIIII)V" } : Jvm.MethodName)) ∈ se_all := se_in 1062 (by decide +kernel) (by decide +kernel)
theorem qX6_f243 : (Jvm.Cond.fieldLink "StreamEndModel" (243 : Nat) "StreamEndModel" "made" "Z") ∈ se_all := se_in 866 (by decide +kernel) (by decide +kernel)
theorem qX6_f30 : (Jvm.Cond.fieldLink "StreamEndModel" (30 : Nat) "StreamEndModel" "figures" "[I") ∈ se_all := se_in 867 (by decide +kernel) (by decide +kernel)
theorem qX6_f246 : (Jvm.Cond.fieldLink "StreamEndModel" (246 : Nat) "StreamEndModel" "byteCount" "I") ∈ se_all := se_in 869 (by decide +kernel) (by decide +kernel)
theorem qX6_f33 : (Jvm.Cond.fieldLink "StreamEndModel" (33 : Nat) "StreamEndModel" "bytes" "[I") ∈ se_all := se_in 868 (by decide +kernel) (by decide +kernel)
theorem q_code_X6_make : (Jvm.Cond.code ({ cls := "StreamEndModel", name := "make", desc := "(IIIII)V" } : Jvm.MethodName) prog_8_method_35_code (6 : Nat) (Option.none : Option Jvm.ClassFile.FieldType)) ∈ se_all := se_in 1113 (by decide +kernel) (by decide +kernel)
theorem q_instanceMethod_X6_make : (Jvm.Cond.instanceMethod ({ cls := "StreamEndModel", name := "make", desc := "(IIIII)V" } : Jvm.MethodName)) ∈ se_all := se_in 1112 (by decide +kernel) (by decide +kernel)
theorem qX6_m249 : (Jvm.Cond.methodLink "StreamEndModel" (249 : Nat) ({ cls := "StreamEndModel", name := "make", desc := "(IIIII)V" } : Jvm.MethodName)) ∈ se_all := se_in 1110 (by decide +kernel) (by decide +kernel)
theorem q_code_X6_tellBytes : (Jvm.Cond.code ({ cls := "StreamEndModel", name := "tellBytes", desc := "(III)V" } : Jvm.MethodName) prog_8_method_36_code (5 : Nat) (Option.none : Option Jvm.ClassFile.FieldType)) ∈ se_all := se_in 1121 (by decide +kernel) (by decide +kernel)
theorem q_instanceMethod_X6_tellBytes : (Jvm.Cond.instanceMethod ({ cls := "StreamEndModel", name := "tellBytes", desc := "(III)V" } : Jvm.MethodName)) ∈ se_all := se_in 1120 (by decide +kernel) (by decide +kernel)
theorem qX6_m252 : (Jvm.Cond.methodLink "StreamEndModel" (252 : Nat) ({ cls := "StreamEndModel", name := "tellBytes", desc := "(III)V" } : Jvm.MethodName)) ∈ se_all := se_in 1118 (by decide +kernel) (by decide +kernel)
theorem q_code_X6_sent : (Jvm.Cond.code ({ cls := "StreamEndModel", name := "sent", desc := "(IZ)V" } : Jvm.MethodName) prog_8_method_37_code (3 : Nat) (Option.none : Option Jvm.ClassFile.FieldType)) ∈ se_all := se_in 1125 (by decide +kernel) (by decide +kernel)
theorem q_instanceMethod_X6_sent : (Jvm.Cond.instanceMethod ({ cls := "StreamEndModel", name := "sent", desc := "(IZ)V" } : Jvm.MethodName)) ∈ se_all := se_in 1124 (by decide +kernel) (by decide +kernel)
theorem qX6_m255 : (Jvm.Cond.methodLink "StreamEndModel" (255 : Nat) ({ cls := "StreamEndModel", name := "sent", desc := "(IZ)V" } : Jvm.MethodName)) ∈ se_all := se_in 1122 (by decide +kernel) (by decide +kernel)
theorem q_code_X6_sendNew : (Jvm.Cond.code ({ cls := "StreamEndModel", name := "sendNew", desc := "(IZ)V" } : Jvm.MethodName) prog_8_method_40_code (3 : Nat) (Option.none : Option Jvm.ClassFile.FieldType)) ∈ se_all := se_in 1137 (by decide +kernel) (by decide +kernel)
theorem q_instanceMethod_X6_sendNew : (Jvm.Cond.instanceMethod ({ cls := "StreamEndModel", name := "sendNew", desc := "(IZ)V" } : Jvm.MethodName)) ∈ se_all := se_in 1136 (by decide +kernel) (by decide +kernel)
theorem qX6_m259 : (Jvm.Cond.methodLink "StreamEndModel" (259 : Nat) ({ cls := "StreamEndModel", name := "sendNew", desc := "(IZ)V" } : Jvm.MethodName)) ∈ se_all := se_in 1134 (by decide +kernel) (by decide +kernel)
theorem q_code_X6_sendFresh : (Jvm.Cond.code ({ cls := "StreamEndModel", name := "sendFresh", desc := "()Z" } : Jvm.MethodName) prog_8_method_41_code (5 : Nat) (Option.some Jvm.ClassFile.FieldType.boolean)) ∈ se_all := se_in 1133 (by decide +kernel) (by decide +kernel)
theorem q_instanceMethod_X6_sendFresh : (Jvm.Cond.instanceMethod ({ cls := "StreamEndModel", name := "sendFresh", desc := "()Z" } : Jvm.MethodName)) ∈ se_all := se_in 1132 (by decide +kernel) (by decide +kernel)
theorem qX6_m268 : (Jvm.Cond.methodLink "StreamEndModel" (268 : Nat) ({ cls := "StreamEndModel", name := "sendFresh", desc := "()Z" } : Jvm.MethodName)) ∈ se_all := se_in 1130 (by decide +kernel) (by decide +kernel)
theorem q_code_X6_sendAgain : (Jvm.Cond.code ({ cls := "StreamEndModel", name := "sendAgain", desc := "()V" } : Jvm.MethodName) prog_8_method_39_code (5 : Nat) (Option.none : Option Jvm.ClassFile.FieldType)) ∈ se_all := se_in 1129 (by decide +kernel) (by decide +kernel)
theorem q_instanceMethod_X6_sendAgain : (Jvm.Cond.instanceMethod ({ cls := "StreamEndModel", name := "sendAgain", desc := "()V" } : Jvm.MethodName)) ∈ se_all := se_in 1128 (by decide +kernel) (by decide +kernel)
theorem qX6_m265 : (Jvm.Cond.methodLink "StreamEndModel" (265 : Nat) ({ cls := "StreamEndModel", name := "sendAgain", desc := "()V" } : Jvm.MethodName)) ∈ se_all := se_in 1126 (by decide +kernel) (by decide +kernel)
theorem q_code_X6_sendOpen : (Jvm.Cond.code ({ cls := "StreamEndModel", name := "sendOpen", desc := "()V" } : Jvm.MethodName) prog_8_method_38_code (1 : Nat) (Option.none : Option Jvm.ClassFile.FieldType)) ∈ se_all := se_in 1117 (by decide +kernel) (by decide +kernel)
theorem q_instanceMethod_X6_sendOpen : (Jvm.Cond.instanceMethod ({ cls := "StreamEndModel", name := "sendOpen", desc := "()V" } : Jvm.MethodName)) ∈ se_all := se_in 1116 (by decide +kernel) (by decide +kernel)
theorem qX6_m262 : (Jvm.Cond.methodLink "StreamEndModel" (262 : Nat) ({ cls := "StreamEndModel", name := "sendOpen", desc := "()V" } : Jvm.MethodName)) ∈ se_all := se_in 1114 (by decide +kernel) (by decide +kernel)
theorem qX6_m1 : (Jvm.Cond.methodLink "StreamEndModel" (1 : Nat) ({ cls := "java/lang/Object", name := "<init>", desc := "()V" } : Jvm.MethodName)) ∈ se_all := se_in 819 (by decide +kernel) (by decide +kernel)
theorem q_arr_boolean : (Jvm.Cond.arrayClass Jvm.ClassFile.FieldType.boolean) ∈ se_all := se_in 971 (by decide +kernel) (by decide +kernel)
theorem q_sel_X6_quiesce : Cond.selects RX6 yX6_quiesce yX6_quiesce ∈ se_all := se_inS (y := yX6_quiesce) (n := 50) (by decide +kernel)
theorem q_sel_X6_clear : Cond.selects RX6 yX6_clear yX6_clear ∈ se_all := se_inS (y := yX6_clear) (n := 50) (by decide +kernel)
theorem q_sel_X6_sends : Cond.selects RX6 yX6_sends yX6_sends ∈ se_all := se_inS (y := yX6_sends) (n := 50) (by decide +kernel)
theorem q_sel_X6_unsent : Cond.selects RX6 yX6_unsent yX6_unsent ∈ se_all := se_inS (y := yX6_unsent) (n := 50) (by decide +kernel)
theorem q_sel_X6_owesLast : Cond.selects RX6 yX6_owesLast yX6_owesLast ∈ se_all := se_inS (y := yX6_owesLast) (n := 50) (by decide +kernel)
theorem q_sel_X6_watch : Cond.selects RX6 yX6_watch yX6_watch ∈ se_all := se_inS (y := yX6_watch) (n := 50) (by decide +kernel)
theorem q_sel_X6_room : Cond.selects RX6 yX6_room yX6_room ∈ se_all := se_inS (y := yX6_room) (n := 50) (by decide +kernel)
theorem q_sel_X6_isShort : Cond.selects RX6 yX6_isShort yX6_isShort ∈ se_all := se_inS (y := yX6_isShort) (n := 50) (by decide +kernel)
theorem q_sel_X6_becomes : Cond.selects RX6 yX6_becomes yX6_becomes ∈ se_all := se_inS (y := yX6_becomes) (n := 50) (by decide +kernel)
theorem q_sel_X6_ring : Cond.selects RX6 yX6_ring yX6_ring ∈ se_all := se_inS (y := yX6_ring) (n := 50) (by decide +kernel)
theorem q_sel_X6_size : Cond.selects RX6 yX6_size yX6_size ∈ se_all := se_inS (y := yX6_size) (n := 50) (by decide +kernel)
theorem q_sel_X6_learn : Cond.selects RX6 yX6_learn yX6_learn ∈ se_all := se_inS (y := yX6_learn) (n := 50) (by decide +kernel)
theorem q_sel_X6_tell : Cond.selects RX6 yX6_tell yX6_tell ∈ se_all := se_inS (y := yX6_tell) (n := 50) (by decide +kernel)
theorem q_sel_X6_wasLast : Cond.selects RX6 yX6_wasLast yX6_wasLast ∈ se_all := se_inS (y := yX6_wasLast) (n := 50) (by decide +kernel)
theorem q_sel_X6_take : Cond.selects RX6 yX6_take yX6_take ∈ se_all := se_inS (y := yX6_take) (n := 50) (by decide +kernel)
theorem q_sel_X6_thanked : Cond.selects RX6 yX6_thanked yX6_thanked ∈ se_all := se_inS (y := yX6_thanked) (n := 50) (by decide +kernel)
theorem q_sel_X6_fits : Cond.selects RX6 yX6_fits yX6_fits ∈ se_all := se_inS (y := yX6_fits) (n := 50) (by decide +kernel)
theorem q_sel_X6_resets : Cond.selects RX6 yX6_resets yX6_resets ∈ se_all := se_inS (y := yX6_resets) (n := 50) (by decide +kernel)
theorem q_sel_X6_hitByReset : Cond.selects RX6 yX6_hitByReset yX6_hitByReset ∈ se_all := se_inS (y := yX6_hitByReset) (n := 50) (by decide +kernel)
theorem q_sel_X6_greet : Cond.selects RX6 yX6_greet yX6_greet ∈ se_all := se_inS (y := yX6_greet) (n := 50) (by decide +kernel)
theorem q_sel_X6_toOthers : Cond.selects RX6 yX6_toOthers yX6_toOthers ∈ se_all := se_inS (y := yX6_toOthers) (n := 50) (by decide +kernel)
theorem q_sel_X6_toAsking : Cond.selects RX6 yX6_toAsking yX6_toAsking ∈ se_all := se_inS (y := yX6_toAsking) (n := 50) (by decide +kernel)
theorem q_sel_X6_toListening : Cond.selects RX6 yX6_toListening yX6_toListening ∈ se_all := se_inS (y := yX6_toListening) (n := 50) (by decide +kernel)
theorem q_sel_X6_make : Cond.selects RX6 yX6_make yX6_make ∈ se_all := se_inS (y := yX6_make) (n := 50) (by decide +kernel)
theorem q_sel_X6_tellBytes : Cond.selects RX6 yX6_tellBytes yX6_tellBytes ∈ se_all := se_inS (y := yX6_tellBytes) (n := 50) (by decide +kernel)
theorem q_sel_X6_sent : Cond.selects RX6 yX6_sent yX6_sent ∈ se_all := se_inS (y := yX6_sent) (n := 50) (by decide +kernel)
theorem q_sel_X6_sendNew : Cond.selects RX6 yX6_sendNew yX6_sendNew ∈ se_all := se_inS (y := yX6_sendNew) (n := 50) (by decide +kernel)
theorem q_sel_X6_sendFresh : Cond.selects RX6 yX6_sendFresh yX6_sendFresh ∈ se_all := se_inS (y := yX6_sendFresh) (n := 50) (by decide +kernel)
theorem q_sel_X6_sendAgain : Cond.selects RX6 yX6_sendAgain yX6_sendAgain ∈ se_all := se_inS (y := yX6_sendAgain) (n := 50) (by decide +kernel)
theorem q_sel_X6_sendOpen : Cond.selects RX6 yX6_sendOpen yX6_sendOpen ∈ se_all := se_inS (y := yX6_sendOpen) (n := 50) (by decide +kernel)
abbrev se_w_X6_thrown : List Cond := Cond.code yX6_thrown cX6_thrown 1 (Option.some FieldType.int) :: se_all
abbrev se_w_X6_quiesce : List Cond := Cond.code yX6_quiesce cX6_quiesce 1 (Option.none : Option FieldType) :: se_all
abbrev se_w_X6_clear : List Cond := Cond.code yX6_clear cX6_clear 3 (Option.none : Option FieldType) :: se_all
abbrev se_w_X6_begin : List Cond := Cond.code yX6_begin cX6_begin 3 (Option.none : Option FieldType) :: se_all
abbrev se_w_X6_sends : List Cond := Cond.code yX6_sends cX6_sends 1 (Option.some FieldType.boolean) :: se_all
abbrev se_w_X6_unsent : List Cond := Cond.code yX6_unsent cX6_unsent 1 (Option.some FieldType.int) :: se_all
abbrev se_w_X6_owesLast : List Cond := Cond.code yX6_owesLast cX6_owesLast 1 (Option.some FieldType.boolean) :: se_all
abbrev se_w_X6_watch : List Cond := Cond.code yX6_watch cX6_watch 2 (Option.none : Option FieldType) :: se_all
abbrev se_w_X6_write : List Cond := Cond.code yX6_write cX6_write 7 (Option.some FieldType.int) :: se_all
abbrev se_w_X6_room : List Cond := Cond.code yX6_room cX6_room 1 (Option.some FieldType.int) :: se_all
abbrev se_w_X6_isShort : List Cond := Cond.code yX6_isShort cX6_isShort 1 (Option.some FieldType.boolean) :: se_all
abbrev se_w_X6_read : List Cond := Cond.code yX6_read cX6_read 4 (Option.some FieldType.int) :: se_all
abbrev se_w_X6_becomes : List Cond := Cond.code yX6_becomes cX6_becomes 3 (Option.none : Option FieldType) :: se_all
abbrev se_w_X6_close : List Cond := Cond.code yX6_close cX6_close 1 (Option.none : Option FieldType) :: se_all
abbrev se_w_X6_abort : List Cond := Cond.code yX6_abort cX6_abort 1 (Option.none : Option FieldType) :: se_all
abbrev se_w_X6_ring : List Cond := Cond.code yX6_ring cX6_ring 1 (Option.none : Option FieldType) :: se_all
abbrev se_w_X6_run : List Cond := Cond.code yX6_run cX6_run 3 (Option.some FieldType.int) :: se_all
abbrev se_w_X6_feed : List Cond := Cond.code yX6_feed cX6_feed 5 (Option.some FieldType.int) :: se_all
abbrev se_w_X6_has : List Cond := Cond.code yX6_has cX6_has 2 (Option.some FieldType.boolean) :: se_all
abbrev se_w_X6_size : List Cond := Cond.code yX6_size cX6_size 2 (Option.some FieldType.int) :: se_all
abbrev se_w_X6_resets : List Cond := Cond.code yX6_resets cX6_resets 5 (Option.none : Option FieldType) :: se_all
abbrev se_w_X6_fits : List Cond := Cond.code yX6_fits cX6_fits 5 (Option.some FieldType.boolean) :: se_all
abbrev se_w_X6_tell : List Cond := Cond.code yX6_tell cX6_tell 6 (Option.none : Option FieldType) :: se_all
abbrev se_w_X6_wasLast : List Cond := Cond.code yX6_wasLast cX6_wasLast 2 (Option.some FieldType.boolean) :: se_all
abbrev se_w_X6_take : List Cond := Cond.code yX6_take cX6_take 9 (Option.none : Option FieldType) :: se_all
abbrev se_w_X6_learn : List Cond := Cond.code yX6_learn cX6_learn 3 (Option.none : Option FieldType) :: se_all
abbrev se_w_X6_thanked : List Cond := Cond.code yX6_thanked cX6_thanked 5 (Option.none : Option FieldType) :: se_all
abbrev se_w_X6_hitByReset : List Cond := Cond.code yX6_hitByReset cX6_hitByReset 2 (Option.none : Option FieldType) :: se_all
abbrev se_w_X6_toOthers : List Cond := Cond.code yX6_toOthers cX6_toOthers 6 (Option.none : Option FieldType) :: se_all
abbrev se_w_X6_greet : List Cond := Cond.code yX6_greet cX6_greet 7 (Option.none : Option FieldType) :: se_all
abbrev se_w_X6_toAsking : List Cond := Cond.code yX6_toAsking cX6_toAsking 7 (Option.none : Option FieldType) :: se_all
abbrev se_w_X6_toListening : List Cond := Cond.code yX6_toListening cX6_toListening 6 (Option.none : Option FieldType) :: se_all
abbrev se_w_X6_arrive : List Cond := Cond.code yX6_arrive cX6_arrive 7 (Option.some FieldType.int) :: se_all
abbrev se_w_X6_make : List Cond := Cond.code yX6_make cX6_make 6 (Option.none : Option FieldType) :: se_all
abbrev se_w_X6_tellBytes : List Cond := Cond.code yX6_tellBytes cX6_tellBytes 5 (Option.none : Option FieldType) :: se_all
abbrev se_w_X6_sent : List Cond := Cond.code yX6_sent cX6_sent 3 (Option.none : Option FieldType) :: se_all
abbrev se_w_X6_sendNew : List Cond := Cond.code yX6_sendNew cX6_sendNew 3 (Option.none : Option FieldType) :: se_all
abbrev se_w_X6_sendFresh : List Cond := Cond.code yX6_sendFresh cX6_sendFresh 5 (Option.some FieldType.boolean) :: se_all
abbrev se_w_X6_sendAgain : List Cond := Cond.code yX6_sendAgain cX6_sendAgain 5 (Option.none : Option FieldType) :: se_all
abbrev se_w_X6_sendOpen : List Cond := Cond.code yX6_sendOpen cX6_sendOpen 1 (Option.none : Option FieldType) :: se_all
abbrev se_w_X6_next : List Cond := Cond.code yX6_next cX6_next 1 (Option.some FieldType.boolean) :: se_all
abbrev se_w_X6_segment : List Cond := Cond.code yX6_segment cX6_segment 2 (Option.some FieldType.int) :: se_all
abbrev se_w_X6_byteAt : List Cond := Cond.code yX6_byteAt cX6_byteAt 2 (Option.some FieldType.int) :: se_all
abbrev se_w_X6_state : List Cond := Cond.code yX6_state cX6_state 1 (Option.some FieldType.int) :: se_all
abbrev se_w_X6_figure : List Cond := Cond.code yX6_figure cX6_figure 2 (Option.some FieldType.int) :: se_all
