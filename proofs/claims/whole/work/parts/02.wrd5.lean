/-! printed (gen/names.py): words among the good ones -/
theorem tw_1056 : (Jvm.Cond.selects "RouteDeskModel" ({ cls := "RouteDeskModel", name := "thrown", desc := "()I" } : Jvm.MethodName) ({ cls := "RouteDeskModel", name := "thrown", desc := "()I" } : Jvm.MethodName)) ∈ tb_G := tb_5 61 rfl rfl
theorem tw_1057 : (Jvm.Cond.code ({ cls := "RouteDeskModel", name := "thrown", desc := "()I" } : Jvm.MethodName) prog_11_method_2_code (1 : Nat) (Option.some Jvm.ClassFile.FieldType.int)) ∈ tb_G := tb_5 62 rfl rfl
theorem tw_1058 : (Jvm.Cond.methodLink "RouteDeskLaw" (43 : Nat) ({ cls := "RouteDeskModel", name := "type", desc := "(JI)Z" } : Jvm.MethodName)) ∈ tb_G := tb_5 63 rfl rfl
theorem tw_1059 : (Jvm.Cond.instanceMethod ({ cls := "RouteDeskModel", name := "type", desc := "(JI)Z" } : Jvm.MethodName)) ∈ tb_G := tb_5 64 rfl rfl
theorem tw_1060 : (Jvm.Cond.selects "RouteDeskModel" ({ cls := "RouteDeskModel", name := "type", desc := "(JI)Z" } : Jvm.MethodName) ({ cls := "RouteDeskModel", name := "type", desc := "(JI)Z" } : Jvm.MethodName)) ∈ tb_G := tb_5 65 rfl rfl
theorem tw_1061 : (Jvm.Cond.code ({ cls := "RouteDeskModel", name := "type", desc := "(JI)Z" } : Jvm.MethodName) prog_11_method_4_code (6 : Nat) (Option.some Jvm.ClassFile.FieldType.boolean)) ∈ tb_G := tb_5 66 rfl rfl
theorem tw_1062 : (Jvm.Cond.constantLong "RouteDeskModel" (67 : Nat) (255 : Int64)) ∈ tb_G := tb_5 67 rfl rfl
theorem tw_1063 : (Jvm.Cond.methodLink "RouteDeskLaw" (49 : Nat) ({ cls := "RouteDeskModel", name := "exchange", desc := "(I)I" } : Jvm.MethodName)) ∈ tb_G := tb_5 68 rfl rfl
theorem tw_1064 : (Jvm.Cond.instanceMethod ({ cls := "RouteDeskModel", name := "exchange", desc := "(I)I" } : Jvm.MethodName)) ∈ tb_G := tb_5 69 rfl rfl
theorem tw_1065 : (Jvm.Cond.selects "RouteDeskModel" ({ cls := "RouteDeskModel", name := "exchange", desc := "(I)I" } : Jvm.MethodName) ({ cls := "RouteDeskModel", name := "exchange", desc := "(I)I" } : Jvm.MethodName)) ∈ tb_G := tb_5 70 rfl rfl
theorem tw_1066 : (Jvm.Cond.code ({ cls := "RouteDeskModel", name := "exchange", desc := "(I)I" } : Jvm.MethodName) prog_11_method_7_code (3 : Nat) (Option.some Jvm.ClassFile.FieldType.int)) ∈ tb_G := tb_5 71 rfl rfl
theorem tw_1067 : (Jvm.Cond.methodLink "RouteDeskModel" (69 : Nat) ({ cls := "RouteDeskModel", name := "raise", desc := "(I)I" } : Jvm.MethodName)) ∈ tb_G := tb_5 72 rfl rfl
theorem tw_1069 : (Jvm.Cond.instanceMethod ({ cls := "RouteDeskModel", name := "raise", desc := "(I)I" } : Jvm.MethodName)) ∈ tb_G := tb_5 74 rfl rfl
theorem tw_1070 : (Jvm.Cond.code ({ cls := "RouteDeskModel", name := "raise", desc := "(I)I" } : Jvm.MethodName) prog_11_method_3_code (2 : Nat) (Option.some Jvm.ClassFile.FieldType.int)) ∈ tb_G := tb_5 75 rfl rfl
theorem tw_1071 : (Jvm.Cond.methodLink "RouteDeskLaw" (57 : Nat) ({ cls := "RouteDeskModel", name := "alternate", desc := "(II)Z" } : Jvm.MethodName)) ∈ tb_G := tb_5 76 rfl rfl
theorem tw_1072 : (Jvm.Cond.instanceMethod ({ cls := "RouteDeskModel", name := "alternate", desc := "(II)Z" } : Jvm.MethodName)) ∈ tb_G := tb_5 77 rfl rfl
theorem tw_1073 : (Jvm.Cond.selects "RouteDeskModel" ({ cls := "RouteDeskModel", name := "alternate", desc := "(II)Z" } : Jvm.MethodName) ({ cls := "RouteDeskModel", name := "alternate", desc := "(II)Z" } : Jvm.MethodName)) ∈ tb_G := tb_5 78 rfl rfl
theorem tw_1074 : (Jvm.Cond.code ({ cls := "RouteDeskModel", name := "alternate", desc := "(II)Z" } : Jvm.MethodName) prog_11_method_8_code (3 : Nat) (Option.some Jvm.ClassFile.FieldType.boolean)) ∈ tb_G := tb_5 79 rfl rfl
theorem tw_1075 : (Jvm.Cond.methodLink "RouteDeskModel" (73 : Nat) ({ cls := "RouteDeskModel", name := "isExchange", desc := "(I)Z" } : Jvm.MethodName)) ∈ tb_G := tb_5 80 rfl rfl
theorem tw_1077 : (Jvm.Cond.instanceMethod ({ cls := "RouteDeskModel", name := "isExchange", desc := "(I)Z" } : Jvm.MethodName)) ∈ tb_G := tb_5 82 rfl rfl
theorem tw_1078 : (Jvm.Cond.code ({ cls := "RouteDeskModel", name := "isExchange", desc := "(I)Z" } : Jvm.MethodName) prog_11_method_5_code (2 : Nat) (Option.some Jvm.ClassFile.FieldType.boolean)) ∈ tb_G := tb_5 83 rfl rfl
theorem tw_1079 : (Jvm.Cond.methodLink "RouteDeskLaw" (61 : Nat) ({ cls := "RouteDeskModel", name := "queue", desc := "()I" } : Jvm.MethodName)) ∈ tb_G := tb_5 84 rfl rfl
theorem tw_1080 : (Jvm.Cond.instanceMethod ({ cls := "RouteDeskModel", name := "queue", desc := "()I" } : Jvm.MethodName)) ∈ tb_G := tb_5 85 rfl rfl
theorem tw_1081 : (Jvm.Cond.selects "RouteDeskModel" ({ cls := "RouteDeskModel", name := "queue", desc := "()I" } : Jvm.MethodName) ({ cls := "RouteDeskModel", name := "queue", desc := "()I" } : Jvm.MethodName)) ∈ tb_G := tb_5 86 rfl rfl
theorem tw_1082 : (Jvm.Cond.code ({ cls := "RouteDeskModel", name := "queue", desc := "()I" } : Jvm.MethodName) prog_11_method_9_code (2 : Nat) (Option.some Jvm.ClassFile.FieldType.int)) ∈ tb_G := tb_5 87 rfl rfl
theorem tw_1083 : (Jvm.Cond.methodLink "RouteDeskLaw" (66 : Nat) ({ cls := "RouteDeskModel", name := "remove", desc := "(IZ)Z" } : Jvm.MethodName)) ∈ tb_G := tb_5 88 rfl rfl
theorem tw_1084 : (Jvm.Cond.instanceMethod ({ cls := "RouteDeskModel", name := "remove", desc := "(IZ)Z" } : Jvm.MethodName)) ∈ tb_G := tb_5 89 rfl rfl
theorem tw_1085 : (Jvm.Cond.selects "RouteDeskModel" ({ cls := "RouteDeskModel", name := "remove", desc := "(IZ)Z" } : Jvm.MethodName) ({ cls := "RouteDeskModel", name := "remove", desc := "(IZ)Z" } : Jvm.MethodName)) ∈ tb_G := tb_5 90 rfl rfl
theorem tw_1086 : (Jvm.Cond.code ({ cls := "RouteDeskModel", name := "remove", desc := "(IZ)Z" } : Jvm.MethodName) prog_11_method_11_code (4 : Nat) (Option.some Jvm.ClassFile.FieldType.boolean)) ∈ tb_G := tb_5 91 rfl rfl
theorem tw_1087 : (Jvm.Cond.methodLink "RouteDeskModel" (80 : Nat) ({ cls := "RouteDeskModel", name := "isQueue", desc := "(I)Z" } : Jvm.MethodName)) ∈ tb_G := tb_5 92 rfl rfl
theorem tw_1089 : (Jvm.Cond.instanceMethod ({ cls := "RouteDeskModel", name := "isQueue", desc := "(I)Z" } : Jvm.MethodName)) ∈ tb_G := tb_5 94 rfl rfl
theorem tw_1090 : (Jvm.Cond.code ({ cls := "RouteDeskModel", name := "isQueue", desc := "(I)Z" } : Jvm.MethodName) prog_11_method_6_code (2 : Nat) (Option.some Jvm.ClassFile.FieldType.boolean)) ∈ tb_G := tb_5 95 rfl rfl
theorem tw_1091 : (Jvm.Cond.methodLink "RouteDeskModel" (83 : Nat) ({ cls := "RouteDeskModel", name := "drop", desc := "(I)V" } : Jvm.MethodName)) ∈ tb_G := tb_5 96 rfl rfl
theorem tw_1093 : (Jvm.Cond.instanceMethod ({ cls := "RouteDeskModel", name := "drop", desc := "(I)V" } : Jvm.MethodName)) ∈ tb_G := tb_5 98 rfl rfl
theorem tw_1094 : (Jvm.Cond.code ({ cls := "RouteDeskModel", name := "drop", desc := "(I)V" } : Jvm.MethodName) prog_11_method_10_code (4 : Nat) (Option.none : Option Jvm.ClassFile.FieldType)) ∈ tb_G := tb_5 99 rfl rfl
theorem tw_1095 : (Jvm.Cond.methodLink "RouteDeskLaw" (70 : Nat) ({ cls := "RouteDeskModel", name := "bind", desc := "(IIZ)Z" } : Jvm.MethodName)) ∈ tb_G := tb_5 100 rfl rfl
theorem tw_1096 : (Jvm.Cond.instanceMethod ({ cls := "RouteDeskModel", name := "bind", desc := "(IIZ)Z" } : Jvm.MethodName)) ∈ tb_G := tb_5 101 rfl rfl
theorem tw_1097 : (Jvm.Cond.selects "RouteDeskModel" ({ cls := "RouteDeskModel", name := "bind", desc := "(IIZ)Z" } : Jvm.MethodName) ({ cls := "RouteDeskModel", name := "bind", desc := "(IIZ)Z" } : Jvm.MethodName)) ∈ tb_G := tb_5 102 rfl rfl
theorem tw_1098 : (Jvm.Cond.code ({ cls := "RouteDeskModel", name := "bind", desc := "(IIZ)Z" } : Jvm.MethodName) prog_11_method_21_code (8 : Nat) (Option.some Jvm.ClassFile.FieldType.boolean)) ∈ tb_G := tb_5 103 rfl rfl
theorem tw_1099 : (Jvm.Cond.methodLink "RouteDeskModel" (112 : Nat) ({ cls := "RouteDeskModel", name := "isGoal", desc := "(IZ)Z" } : Jvm.MethodName)) ∈ tb_G := tb_5 104 rfl rfl
theorem tw_1101 : (Jvm.Cond.instanceMethod ({ cls := "RouteDeskModel", name := "isGoal", desc := "(IZ)Z" } : Jvm.MethodName)) ∈ tb_G := tb_5 106 rfl rfl
theorem tw_1102 : (Jvm.Cond.code ({ cls := "RouteDeskModel", name := "isGoal", desc := "(IZ)Z" } : Jvm.MethodName) prog_11_method_20_code (3 : Nat) (Option.some Jvm.ClassFile.FieldType.boolean)) ∈ tb_G := tb_5 107 rfl rfl
theorem tw_1103 : (Jvm.Cond.methodLink "RouteDeskModel" (116 : Nat) ({ cls := "RouteDeskModel", name := "isText", desc := "(I)Z" } : Jvm.MethodName)) ∈ tb_G := tb_5 108 rfl rfl
theorem tw_1105 : (Jvm.Cond.instanceMethod ({ cls := "RouteDeskModel", name := "isText", desc := "(I)Z" } : Jvm.MethodName)) ∈ tb_G := tb_5 110 rfl rfl
theorem tw_1106 : (Jvm.Cond.code ({ cls := "RouteDeskModel", name := "isText", desc := "(I)Z" } : Jvm.MethodName) prog_11_method_18_code (2 : Nat) (Option.some Jvm.ClassFile.FieldType.boolean)) ∈ tb_G := tb_5 111 rfl rfl
theorem tw_1107 : (Jvm.Cond.methodLink "RouteDeskModel" (105 : Nat) ({ cls := "RouteDeskModel", name := "isPattern", desc := "()Z" } : Jvm.MethodName)) ∈ tb_G := tb_5 112 rfl rfl
theorem tw_1109 : (Jvm.Cond.instanceMethod ({ cls := "RouteDeskModel", name := "isPattern", desc := "()Z" } : Jvm.MethodName)) ∈ tb_G := tb_5 114 rfl rfl
theorem tw_1110 : (Jvm.Cond.code ({ cls := "RouteDeskModel", name := "isPattern", desc := "()Z" } : Jvm.MethodName) prog_11_method_17_code (2 : Nat) (Option.some Jvm.ClassFile.FieldType.boolean)) ∈ tb_G := tb_5 115 rfl rfl
theorem tw_1111 : (Jvm.Cond.methodLink "RouteDeskModel" (109 : Nat) ({ cls := "RouteDeskModel", name := "isHeaders", desc := "()Z" } : Jvm.MethodName)) ∈ tb_G := tb_5 116 rfl rfl
theorem tw_1113 : (Jvm.Cond.instanceMethod ({ cls := "RouteDeskModel", name := "isHeaders", desc := "()Z" } : Jvm.MethodName)) ∈ tb_G := tb_5 118 rfl rfl
theorem tw_1114 : (Jvm.Cond.code ({ cls := "RouteDeskModel", name := "isHeaders", desc := "()Z" } : Jvm.MethodName) prog_11_method_16_code (3 : Nat) (Option.some Jvm.ClassFile.FieldType.boolean)) ∈ tb_G := tb_5 119 rfl rfl
theorem tw_1115 : (Jvm.Cond.methodLink "RouteDeskModel" (98 : Nat) ({ cls := "RouteDeskModel", name := "readName", desc := "(I)J" } : Jvm.MethodName)) ∈ tb_G := tb_5 120 rfl rfl
theorem tw_1117 : (Jvm.Cond.instanceMethod ({ cls := "RouteDeskModel", name := "readName", desc := "(I)J" } : Jvm.MethodName)) ∈ tb_G := tb_5 122 rfl rfl
theorem tw_1118 : (Jvm.Cond.code ({ cls := "RouteDeskModel", name := "readName", desc := "(I)J" } : Jvm.MethodName) prog_11_method_14_code (5 : Nat) (Option.some Jvm.ClassFile.FieldType.long)) ∈ tb_G := tb_5 123 rfl rfl
theorem tw_1119 : (Jvm.Cond.methodLink "RouteDeskModel" (87 : Nat) ({ cls := "RouteDeskModel", name := "isSmall", desc := "(I)Z" } : Jvm.MethodName)) ∈ tb_G := tb_5 124 rfl rfl
theorem tw_1120 : (Jvm.Cond.static ({ cls := "RouteDeskModel", name := "isSmall", desc := "(I)Z" } : Jvm.MethodName)) ∈ tb_G := tb_5 125 rfl rfl
theorem tw_1121 : (Jvm.Cond.code ({ cls := "RouteDeskModel", name := "isSmall", desc := "(I)Z" } : Jvm.MethodName) prog_11_method_12_code (1 : Nat) (Option.some Jvm.ClassFile.FieldType.boolean)) ∈ tb_G := tb_5 126 rfl rfl
theorem tw_1122 : (Jvm.Cond.constantLong "RouteDeskModel" (93 : Nat) (-1 : Int64)) ∈ tb_G := tb_5 127 rfl rfl
theorem tw_1123 : (Jvm.Cond.methodLink "RouteDeskModel" (102 : Nat) ({ cls := "RouteDeskModel", name := "readValue", desc := "(I)J" } : Jvm.MethodName)) ∈ tb_G := tb_5 128 rfl rfl
theorem tw_1125 : (Jvm.Cond.instanceMethod ({ cls := "RouteDeskModel", name := "readValue", desc := "(I)J" } : Jvm.MethodName)) ∈ tb_G := tb_5 130 rfl rfl
theorem tw_1126 : (Jvm.Cond.code ({ cls := "RouteDeskModel", name := "readValue", desc := "(I)J" } : Jvm.MethodName) prog_11_method_15_code (5 : Nat) (Option.some Jvm.ClassFile.FieldType.long)) ∈ tb_G := tb_5 131 rfl rfl
theorem tw_1127 : (Jvm.Cond.methodLink "RouteDeskModel" (95 : Nat) ({ cls := "RouteDeskModel", name := "isPart", desc := "(I)Z" } : Jvm.MethodName)) ∈ tb_G := tb_5 132 rfl rfl
theorem tw_1128 : (Jvm.Cond.static ({ cls := "RouteDeskModel", name := "isPart", desc := "(I)Z" } : Jvm.MethodName)) ∈ tb_G := tb_5 133 rfl rfl
theorem tw_1129 : (Jvm.Cond.code ({ cls := "RouteDeskModel", name := "isPart", desc := "(I)Z" } : Jvm.MethodName) prog_11_method_13_code (1 : Nat) (Option.some Jvm.ClassFile.FieldType.boolean)) ∈ tb_G := tb_5 134 rfl rfl
theorem tw_1130 : (Jvm.Cond.methodLink "RouteDeskModel" (119 : Nat) ({ cls := "RouteDeskModel", name := "find", desc := "(II)I" } : Jvm.MethodName)) ∈ tb_G := tb_5 135 rfl rfl
theorem tw_1132 : (Jvm.Cond.instanceMethod ({ cls := "RouteDeskModel", name := "find", desc := "(II)I" } : Jvm.MethodName)) ∈ tb_G := tb_5 137 rfl rfl
theorem tw_1133 : (Jvm.Cond.code ({ cls := "RouteDeskModel", name := "find", desc := "(II)I" } : Jvm.MethodName) prog_11_method_19_code (6 : Nat) (Option.some Jvm.ClassFile.FieldType.int)) ∈ tb_G := tb_5 138 rfl rfl
theorem tw_1134 : (Jvm.Cond.methodLink "RouteDeskLaw" (74 : Nat) ({ cls := "RouteDeskModel", name := "unbind", desc := "(IIZ)Z" } : Jvm.MethodName)) ∈ tb_G := tb_5 139 rfl rfl
theorem tw_1135 : (Jvm.Cond.instanceMethod ({ cls := "RouteDeskModel", name := "unbind", desc := "(IIZ)Z" } : Jvm.MethodName)) ∈ tb_G := tb_5 140 rfl rfl
theorem tw_1136 : (Jvm.Cond.selects "RouteDeskModel" ({ cls := "RouteDeskModel", name := "unbind", desc := "(IIZ)Z" } : Jvm.MethodName) ({ cls := "RouteDeskModel", name := "unbind", desc := "(IIZ)Z" } : Jvm.MethodName)) ∈ tb_G := tb_5 141 rfl rfl
theorem tw_1137 : (Jvm.Cond.code ({ cls := "RouteDeskModel", name := "unbind", desc := "(IIZ)Z" } : Jvm.MethodName) prog_11_method_22_code (5 : Nat) (Option.some Jvm.ClassFile.FieldType.boolean)) ∈ tb_G := tb_5 142 rfl rfl
theorem tw_1138 : (Jvm.Cond.methodLink "RouteDeskLaw" (78 : Nat) ({ cls := "RouteDeskModel", name := "message", desc := "()V" } : Jvm.MethodName)) ∈ tb_G := tb_5 143 rfl rfl
theorem tw_1139 : (Jvm.Cond.instanceMethod ({ cls := "RouteDeskModel", name := "message", desc := "()V" } : Jvm.MethodName)) ∈ tb_G := tb_5 144 rfl rfl
theorem tw_1140 : (Jvm.Cond.selects "RouteDeskModel" ({ cls := "RouteDeskModel", name := "message", desc := "()V" } : Jvm.MethodName) ({ cls := "RouteDeskModel", name := "message", desc := "()V" } : Jvm.MethodName)) ∈ tb_G := tb_5 145 rfl rfl
theorem tw_1141 : (Jvm.Cond.code ({ cls := "RouteDeskModel", name := "message", desc := "()V" } : Jvm.MethodName) prog_11_method_23_code (2 : Nat) (Option.none : Option Jvm.ClassFile.FieldType)) ∈ tb_G := tb_5 146 rfl rfl
theorem tw_1142 : (Jvm.Cond.methodLink "RouteDeskLaw" (83 : Nat) ({ cls := "RouteDeskModel", name := "header", desc := "()Z" } : Jvm.MethodName)) ∈ tb_G := tb_5 147 rfl rfl
theorem tw_1143 : (Jvm.Cond.instanceMethod ({ cls := "RouteDeskModel", name := "header", desc := "()Z" } : Jvm.MethodName)) ∈ tb_G := tb_5 148 rfl rfl
theorem tw_1144 : (Jvm.Cond.selects "RouteDeskModel" ({ cls := "RouteDeskModel", name := "header", desc := "()Z" } : Jvm.MethodName) ({ cls := "RouteDeskModel", name := "header", desc := "()Z" } : Jvm.MethodName)) ∈ tb_G := tb_5 149 rfl rfl
theorem tw_1145 : (Jvm.Cond.code ({ cls := "RouteDeskModel", name := "header", desc := "()Z" } : Jvm.MethodName) prog_11_method_25_code (7 : Nat) (Option.some Jvm.ClassFile.FieldType.boolean)) ∈ tb_G := tb_5 150 rfl rfl
theorem tw_1146 : (Jvm.Cond.methodLink "RouteDeskModel" (129 : Nat) ({ cls := "RouteDeskModel", name := "headerOf", desc := "(J)I" } : Jvm.MethodName)) ∈ tb_G := tb_5 151 rfl rfl
theorem tw_1148 : (Jvm.Cond.instanceMethod ({ cls := "RouteDeskModel", name := "headerOf", desc := "(J)I" } : Jvm.MethodName)) ∈ tb_G := tb_5 153 rfl rfl
theorem tw_1149 : (Jvm.Cond.code ({ cls := "RouteDeskModel", name := "headerOf", desc := "(J)I" } : Jvm.MethodName) prog_11_method_24_code (4 : Nat) (Option.some Jvm.ClassFile.FieldType.int)) ∈ tb_G := tb_5 154 rfl rfl
theorem tw_1150 : (Jvm.Cond.methodLink "RouteDeskLaw" (86 : Nat) ({ cls := "RouteDeskModel", name := "route", desc := "(I)I" } : Jvm.MethodName)) ∈ tb_G := tb_5 155 rfl rfl
theorem tw_1151 : (Jvm.Cond.instanceMethod ({ cls := "RouteDeskModel", name := "route", desc := "(I)I" } : Jvm.MethodName)) ∈ tb_G := tb_5 156 rfl rfl
theorem tw_1152 : (Jvm.Cond.selects "RouteDeskModel" ({ cls := "RouteDeskModel", name := "route", desc := "(I)I" } : Jvm.MethodName) ({ cls := "RouteDeskModel", name := "route", desc := "(I)I" } : Jvm.MethodName)) ∈ tb_G := tb_5 157 rfl rfl
theorem tw_1153 : (Jvm.Cond.code ({ cls := "RouteDeskModel", name := "route", desc := "(I)I" } : Jvm.MethodName) prog_11_method_31_code (5 : Nat) (Option.some Jvm.ClassFile.FieldType.int)) ∈ tb_G := tb_5 158 rfl rfl
theorem tw_1154 : (Jvm.Cond.methodLink "RouteDeskModel" (146 : Nat) ({ cls := "RouteDeskModel", name := "goOn", desc := "(I)Z" } : Jvm.MethodName)) ∈ tb_G := tb_5 159 rfl rfl
theorem tw_1156 : (Jvm.Cond.instanceMethod ({ cls := "RouteDeskModel", name := "goOn", desc := "(I)Z" } : Jvm.MethodName)) ∈ tb_G := tb_5 161 rfl rfl
theorem tw_1157 : (Jvm.Cond.code ({ cls := "RouteDeskModel", name := "goOn", desc := "(I)Z" } : Jvm.MethodName) prog_11_method_32_code (5 : Nat) (Option.some Jvm.ClassFile.FieldType.boolean)) ∈ tb_G := tb_5 162 rfl rfl
theorem tw_1158 : (Jvm.Cond.methodLink "RouteDeskModel" (149 : Nat) ({ cls := "RouteDeskModel", name := "leads", desc := "(I)Z" } : Jvm.MethodName)) ∈ tb_G := tb_5 163 rfl rfl
theorem tw_1160 : (Jvm.Cond.instanceMethod ({ cls := "RouteDeskModel", name := "leads", desc := "(I)Z" } : Jvm.MethodName)) ∈ tb_G := tb_5 165 rfl rfl
theorem tw_1161 : (Jvm.Cond.code ({ cls := "RouteDeskModel", name := "leads", desc := "(I)Z" } : Jvm.MethodName) prog_11_method_30_code (2 : Nat) (Option.some Jvm.ClassFile.FieldType.boolean)) ∈ tb_G := tb_5 166 rfl rfl
theorem tw_1162 : (Jvm.Cond.methodLink "RouteDeskModel" (137 : Nat) ({ cls := "RouteDeskModel", name := "isDirect", desc := "(I)Z" } : Jvm.MethodName)) ∈ tb_G := tb_5 167 rfl rfl
theorem tw_1164 : (Jvm.Cond.instanceMethod ({ cls := "RouteDeskModel", name := "isDirect", desc := "(I)Z" } : Jvm.MethodName)) ∈ tb_G := tb_5 169 rfl rfl
theorem tw_1165 : (Jvm.Cond.code ({ cls := "RouteDeskModel", name := "isDirect", desc := "(I)Z" } : Jvm.MethodName) prog_11_method_28_code (4 : Nat) (Option.some Jvm.ClassFile.FieldType.boolean)) ∈ tb_G := tb_5 170 rfl rfl
theorem tw_1166 : (Jvm.Cond.methodLink "RouteDeskModel" (140 : Nat) ({ cls := "RouteDeskModel", name := "isTopic", desc := "(I)Z" } : Jvm.MethodName)) ∈ tb_G := tb_5 171 rfl rfl
theorem tw_1168 : (Jvm.Cond.instanceMethod ({ cls := "RouteDeskModel", name := "isTopic", desc := "(I)Z" } : Jvm.MethodName)) ∈ tb_G := tb_5 173 rfl rfl
theorem tw_1169 : (Jvm.Cond.code ({ cls := "RouteDeskModel", name := "isTopic", desc := "(I)Z" } : Jvm.MethodName) prog_11_method_26_code (9 : Nat) (Option.some Jvm.ClassFile.FieldType.boolean)) ∈ tb_G := tb_5 174 rfl rfl
theorem tw_1170 : (Jvm.Cond.methodLink "RouteDeskModel" (133 : Nat) ({ cls := "RouteDeskModel", name := "isWord", desc := "(III)Z" } : Jvm.MethodName)) ∈ tb_G := tb_5 175 rfl rfl
theorem tw_1172 : (Jvm.Cond.instanceMethod ({ cls := "RouteDeskModel", name := "isWord", desc := "(III)Z" } : Jvm.MethodName)) ∈ tb_G := tb_5 177 rfl rfl
theorem tw_1173 : (Jvm.Cond.code ({ cls := "RouteDeskModel", name := "isWord", desc := "(III)Z" } : Jvm.MethodName) prog_11_method_27_code (7 : Nat) (Option.some Jvm.ClassFile.FieldType.boolean)) ∈ tb_G := tb_5 178 rfl rfl
theorem tw_1174 : (Jvm.Cond.methodLink "RouteDeskModel" (143 : Nat) ({ cls := "RouteDeskModel", name := "isMet", desc := "(I)Z" } : Jvm.MethodName)) ∈ tb_G := tb_5 179 rfl rfl
theorem tw_1176 : (Jvm.Cond.instanceMethod ({ cls := "RouteDeskModel", name := "isMet", desc := "(I)Z" } : Jvm.MethodName)) ∈ tb_G := tb_5 181 rfl rfl
theorem tw_1177 : (Jvm.Cond.code ({ cls := "RouteDeskModel", name := "isMet", desc := "(I)Z" } : Jvm.MethodName) prog_11_method_29_code (12 : Nat) (Option.some Jvm.ClassFile.FieldType.boolean)) ∈ tb_G := tb_5 182 rfl rfl
theorem tw_1178 : (Jvm.Cond.methodLink "RouteDeskLaw" (89 : Nat) ({ cls := "RouteDeskModel", name := "found", desc := "(I)I" } : Jvm.MethodName)) ∈ tb_G := tb_5 183 rfl rfl
theorem tw_1179 : (Jvm.Cond.instanceMethod ({ cls := "RouteDeskModel", name := "found", desc := "(I)I" } : Jvm.MethodName)) ∈ tb_G := tb_5 184 rfl rfl
theorem tw_1180 : (Jvm.Cond.selects "RouteDeskModel" ({ cls := "RouteDeskModel", name := "found", desc := "(I)I" } : Jvm.MethodName) ({ cls := "RouteDeskModel", name := "found", desc := "(I)I" } : Jvm.MethodName)) ∈ tb_G := tb_5 185 rfl rfl
theorem tw_1181 : (Jvm.Cond.code ({ cls := "RouteDeskModel", name := "found", desc := "(I)I" } : Jvm.MethodName) prog_11_method_33_code (4 : Nat) (Option.some Jvm.ClassFile.FieldType.int)) ∈ tb_G := tb_5 186 rfl rfl
theorem tw_1182 : (Jvm.Cond.methodLink "RouteDeskLaw" (94 : Nat) ({ cls := "RouteDeskModel", name := "passed", desc := "(I)Z" } : Jvm.MethodName)) ∈ tb_G := tb_5 187 rfl rfl
theorem tw_1183 : (Jvm.Cond.instanceMethod ({ cls := "RouteDeskModel", name := "passed", desc := "(I)Z" } : Jvm.MethodName)) ∈ tb_G := tb_5 188 rfl rfl
theorem tw_1184 : (Jvm.Cond.selects "RouteDeskModel" ({ cls := "RouteDeskModel", name := "passed", desc := "(I)Z" } : Jvm.MethodName) ({ cls := "RouteDeskModel", name := "passed", desc := "(I)Z" } : Jvm.MethodName)) ∈ tb_G := tb_5 189 rfl rfl
theorem tw_1185 : (Jvm.Cond.code ({ cls := "RouteDeskModel", name := "passed", desc := "(I)Z" } : Jvm.MethodName) prog_11_method_34_code (2 : Nat) (Option.some Jvm.ClassFile.FieldType.boolean)) ∈ tb_G := tb_5 190 rfl rfl
theorem tw_1186 : (Jvm.Cond.methodLink "RouteDeskLaw" (99 : Nat) ({ cls := "RouteDeskModel", name := "of", desc := "(II)I" } : Jvm.MethodName)) ∈ tb_G := tb_5 191 rfl rfl
theorem tw_1187 : (Jvm.Cond.instanceMethod ({ cls := "RouteDeskModel", name := "of", desc := "(II)I" } : Jvm.MethodName)) ∈ tb_G := tb_5 192 rfl rfl
theorem tw_1188 : (Jvm.Cond.selects "RouteDeskModel" ({ cls := "RouteDeskModel", name := "of", desc := "(II)I" } : Jvm.MethodName) ({ cls := "RouteDeskModel", name := "of", desc := "(II)I" } : Jvm.MethodName)) ∈ tb_G := tb_5 193 rfl rfl
theorem tw_1189 : (Jvm.Cond.code ({ cls := "RouteDeskModel", name := "of", desc := "(II)I" } : Jvm.MethodName) prog_11_method_35_code (5 : Nat) (Option.some Jvm.ClassFile.FieldType.int)) ∈ tb_G := tb_5 194 rfl rfl
theorem tw_1190 : (Jvm.Cond.methodLink "RouteDeskLaw" (103 : Nat) ({ cls := "RouteDeskModel", name := "total", desc := "(I)I" } : Jvm.MethodName)) ∈ tb_G := tb_5 195 rfl rfl
theorem tw_1191 : (Jvm.Cond.instanceMethod ({ cls := "RouteDeskModel", name := "total", desc := "(I)I" } : Jvm.MethodName)) ∈ tb_G := tb_5 196 rfl rfl
theorem tw_1192 : (Jvm.Cond.selects "RouteDeskModel" ({ cls := "RouteDeskModel", name := "total", desc := "(I)I" } : Jvm.MethodName) ({ cls := "RouteDeskModel", name := "total", desc := "(I)I" } : Jvm.MethodName)) ∈ tb_G := tb_5 197 rfl rfl
theorem tw_1193 : (Jvm.Cond.code ({ cls := "RouteDeskModel", name := "total", desc := "(I)I" } : Jvm.MethodName) prog_11_method_36_code (5 : Nat) (Option.some Jvm.ClassFile.FieldType.int)) ∈ tb_G := tb_5 198 rfl rfl
theorem tw_1194 : (Jvm.Cond.constantLong "RouteDeskLaw" (37 : Nat) (4294967295 : Int64)) ∈ tb_G := tb_5 199 rfl rfl
theorem tw_1195 : (Jvm.Cond.sameMethod "java/lang/AbstractStringBuilder" "java/lang/AbstractStringBuilder" "length" "()I") ∈ tb_G := tb_5 200 rfl rfl
theorem tw_1196 : (Jvm.Cond.sameMethod "java/lang/AbstractStringBuilder" "java/lang/AbstractStringBuilder" "append" "(C)Ljava/lang/AbstractStringBuilder;") ∈ tb_G := tb_5 201 rfl rfl
theorem tw_1197 : (Jvm.Cond.sameMethod "java/lang/AbstractStringBuilder" "java/lang/AbstractStringBuilder" "ensureCapacityInternal" "(I)V") ∈ tb_G := tb_5 202 rfl rfl
theorem tw_1198 : (Jvm.Cond.sameMethod "java/lang/AbstractStringBuilder" "java/lang/AbstractStringBuilder" "newCapacity" "(I)I") ∈ tb_G := tb_5 203 rfl rfl
theorem tw_1199 : (Jvm.Cond.sameMethod "java/lang/AbstractStringBuilder" "java/lang/AbstractStringBuilder" "inflate" "()V") ∈ tb_G := tb_5 204 rfl rfl
theorem tw_1200 : (Jvm.Cond.selects "java/lang/StringBuilder" ({ cls := "java/lang/AbstractStringBuilder", name := "length", desc := "()I" } : Jvm.MethodName) ({ cls := "java/lang/StringBuilder", name := "length", desc := "()I" } : Jvm.MethodName)) ∈ tb_G := tb_5 205 rfl rfl
theorem tw_1201 : (Jvm.Cond.sameMethod "java/lang/Throwable" "java/lang/Throwable" "fillInStackTrace" "(I)Ljava/lang/Throwable;") ∈ tb_G := tb_5 206 rfl rfl
theorem tw_1202 : (Jvm.Cond.sameMethod "java/lang/AbstractStringBuilder" "java/lang/AbstractStringBuilder" "append" "(I)Ljava/lang/AbstractStringBuilder;") ∈ tb_G := tb_5 207 rfl rfl
theorem tw_1203 : (Jvm.Cond.sameMethod "java/lang/AbstractStringBuilder" "java/lang/AbstractStringBuilder" "append" "(Ljava/lang/String;)Ljava/lang/AbstractStringBuilder;") ∈ tb_G := tb_5 208 rfl rfl
theorem tw_1204 : (Jvm.Cond.sameMethod "java/lang/AbstractStringBuilder" "java/lang/AbstractStringBuilder" "appendNull" "()Ljava/lang/AbstractStringBuilder;") ∈ tb_G := tb_5 209 rfl rfl
theorem tw_1205 : (Jvm.Cond.sameMethod "java/lang/AbstractStringBuilder" "java/lang/AbstractStringBuilder" "putStringAt" "(ILjava/lang/String;)V") ∈ tb_G := tb_5 210 rfl rfl
theorem tw_1206 : (Jvm.Cond.sameMethod "java/lang/AbstractStringBuilder" "java/lang/AbstractStringBuilder" "inflateIfNeededFor" "(Ljava/lang/String;)V") ∈ tb_G := tb_5 211 rfl rfl
theorem tw_1207 : (Jvm.Cond.sameMethod "java/lang/AbstractStringBuilder" "java/lang/AbstractStringBuilder" "setLength" "(I)V") ∈ tb_G := tb_5 212 rfl rfl
theorem tw_1210 : (Jvm.Cond.sameMethod "[Ljava/lang/Object;" "java/lang/Object" "getClass" "()Ljava/lang/Class;") ∈ tb_G := tb_5 215 rfl rfl
theorem tw_1211 : (Jvm.Cond.selects "[Ljava/lang/Object;" ({ cls := "java/lang/Object", name := "getClass", desc := "()Ljava/lang/Class;" } : Jvm.MethodName) ({ cls := "java/lang/Object", name := "getClass", desc := "()Ljava/lang/Class;" } : Jvm.MethodName)) ∈ tb_G := tb_5 216 rfl rfl
