/-! printed by a program of ours (gen/names.py) out of the statement: the good words of the tables, by their places -/
def tb_G : List Cond := lw_tbl.filter goodWord
theorem tb_m {w : Cond} (i : Nat) (h : lw_tbl[i]? = some w) (g : goodWord w = true) : w ∈ tb_G := List.mem_filter.mpr ⟨List.mem_of_getElem? h, g⟩
theorem tb_good {w : Cond} (h : w ∈ tb_G) : (w.onTables && w.keeps) = true ∨ ∃ ty, w = .arrayClass ty := good_of_word (List.mem_filter.mp h).2
theorem tb_p {w : Cond} (i : Nat) (h : (k2_sels lw_privs)[i]? = some w) (g : goodWord w = true) : w ∈ tb_G := List.mem_filter.mpr ⟨List.mem_append_left _ (List.mem_of_getElem? h), g⟩
theorem tb_1 {w : Cond} (i : Nat) (h : tables_1_1[i]? = some w) (g : goodWord w = true) : w ∈ tb_G := List.mem_filter.mpr ⟨List.mem_append_right _ (List.mem_append_left _ (List.mem_of_getElem? h)), g⟩
theorem tb_2 {w : Cond} (i : Nat) (h : tables_1_2[i]? = some w) (g : goodWord w = true) : w ∈ tb_G := List.mem_filter.mpr ⟨List.mem_append_right _ (List.mem_append_right _ (List.mem_append_left _ (List.mem_of_getElem? h))), g⟩
theorem tb_3 {w : Cond} (i : Nat) (h : tables_1_3[i]? = some w) (g : goodWord w = true) : w ∈ tb_G := List.mem_filter.mpr ⟨List.mem_append_right _ (List.mem_append_right _ (List.mem_append_right _ (List.mem_append_left _ (List.mem_of_getElem? h)))), g⟩
theorem tb_4 {w : Cond} (i : Nat) (h : tables_1_4[i]? = some w) (g : goodWord w = true) : w ∈ tb_G := List.mem_filter.mpr ⟨List.mem_append_right _ (List.mem_append_right _ (List.mem_append_right _ (List.mem_append_right _ (List.mem_append_left _ (List.mem_of_getElem? h))))), g⟩
theorem tb_5 {w : Cond} (i : Nat) (h : tables_1_5[i]? = some w) (g : goodWord w = true) : w ∈ tb_G := List.mem_filter.mpr ⟨List.mem_append_right _ (List.mem_append_right _ (List.mem_append_right _ (List.mem_append_right _ (List.mem_append_right _ (List.mem_of_getElem? h))))), g⟩
theorem tw_190 : (Jvm.Cond.laysFinal "RouteDesk" "RouteDesk" "tape" "Ljava/lang/StringBuilder;") ∈ tb_G := tb_1 155 rfl rfl
theorem tw_192 : (Jvm.Cond.laysFinal "RouteDesk" "RouteDesk" "exchanges" "[LRouteDesk$Exchange;") ∈ tb_G := tb_1 157 rfl rfl
theorem tw_194 : (Jvm.Cond.laysFinal "RouteDesk" "RouteDesk" "queues" "[Z") ∈ tb_G := tb_1 159 rfl rfl
theorem tw_196 : (Jvm.Cond.laysFinal "RouteDesk" "RouteDesk" "bindings" "Ljava/util/ArrayList;") ∈ tb_G := tb_1 161 rfl rfl
theorem tw_198 : (Jvm.Cond.laysFinal "RouteDesk" "RouteDesk" "current" "LRouteDesk$Message;") ∈ tb_G := tb_1 163 rfl rfl
theorem tw_200 : (Jvm.Cond.laysFinal "RouteDesk" "RouteDesk" "latest" "LRouteDesk$Routing;") ∈ tb_G := tb_1 165 rfl rfl
theorem tw_879 : (Jvm.Cond.laysFinal "RouteDesk$Binding" "RouteDesk$Binding" "from" "I") ∈ tb_G := tb_4 124 rfl rfl
theorem tw_881 : (Jvm.Cond.laysFinal "RouteDesk$Binding" "RouteDesk$Binding" "to" "I") ∈ tb_G := tb_4 126 rfl rfl
theorem tw_883 : (Jvm.Cond.laysFinal "RouteDesk$Binding" "RouteDesk$Binding" "toQueue" "Z") ∈ tb_G := tb_4 128 rfl rfl
theorem tw_885 : (Jvm.Cond.laysFinal "RouteDesk$Binding" "RouteDesk$Binding" "text" "Ljava/lang/String;") ∈ tb_G := tb_4 130 rfl rfl
theorem tw_794 : (Jvm.Cond.laysFinal "RouteDesk$Exchange" "RouteDesk$Exchange" "sort" "I") ∈ tb_G := tb_4 39 rfl rfl
theorem tw_796 : (Jvm.Cond.lays "RouteDesk$Exchange" "RouteDesk$Exchange" "other" "I") ∈ tb_G := tb_4 41 rfl rfl
theorem tw_695 : (Jvm.Cond.laysFinal "RouteDesk$Header" "RouteDesk$Header" "name" "Ljava/lang/String;") ∈ tb_G := tb_3 180 rfl rfl
theorem tw_697 : (Jvm.Cond.lays "RouteDesk$Header" "RouteDesk$Header" "value" "Ljava/lang/String;") ∈ tb_G := tb_3 182 rfl rfl
theorem tw_152 : (Jvm.Cond.lays "RouteDesk$Message" "RouteDesk$Message" "key" "Ljava/lang/String;") ∈ tb_G := tb_1 117 rfl rfl
theorem tw_154 : (Jvm.Cond.laysFinal "RouteDesk$Message" "RouteDesk$Message" "headers" "Ljava/util/ArrayList;") ∈ tb_G := tb_1 119 rfl rfl
theorem tw_172 : (Jvm.Cond.laysFinal "RouteDesk$Routing" "RouteDesk$Routing" "isPassed" "[Z") ∈ tb_G := tb_1 137 rfl rfl
theorem tw_174 : (Jvm.Cond.laysFinal "RouteDesk$Routing" "RouteDesk$Routing" "order" "[I") ∈ tb_G := tb_1 139 rfl rfl
theorem tw_176 : (Jvm.Cond.lays "RouteDesk$Routing" "RouteDesk$Routing" "passedCount" "I") ∈ tb_G := tb_1 141 rfl rfl
theorem tw_178 : (Jvm.Cond.laysFinal "RouteDesk$Routing" "RouteDesk$Routing" "isFound" "[Z") ∈ tb_G := tb_1 143 rfl rfl
theorem tw_180 : (Jvm.Cond.lays "RouteDesk$Routing" "RouteDesk$Routing" "foundCount" "I") ∈ tb_G := tb_1 145 rfl rfl
theorem tw_1008 : (Jvm.Cond.lays "RouteDeskModel" "RouteDeskModel" "thrown" "I") ∈ tb_G := tb_5 13 rfl rfl
theorem tw_1010 : (Jvm.Cond.laysFinal "RouteDeskModel" "RouteDeskModel" "tape" "[I") ∈ tb_G := tb_5 15 rfl rfl
theorem tw_1012 : (Jvm.Cond.lays "RouteDeskModel" "RouteDeskModel" "taped" "I") ∈ tb_G := tb_5 17 rfl rfl
theorem tw_1014 : (Jvm.Cond.laysFinal "RouteDeskModel" "RouteDeskModel" "sort" "[I") ∈ tb_G := tb_5 19 rfl rfl
theorem tw_1016 : (Jvm.Cond.laysFinal "RouteDeskModel" "RouteDeskModel" "other" "[I") ∈ tb_G := tb_5 21 rfl rfl
theorem tw_1018 : (Jvm.Cond.laysFinal "RouteDeskModel" "RouteDeskModel" "queue" "[Z") ∈ tb_G := tb_5 23 rfl rfl
theorem tw_1020 : (Jvm.Cond.lays "RouteDeskModel" "RouteDeskModel" "bindings" "I") ∈ tb_G := tb_5 25 rfl rfl
theorem tw_1022 : (Jvm.Cond.laysFinal "RouteDeskModel" "RouteDeskModel" "from" "[I") ∈ tb_G := tb_5 27 rfl rfl
theorem tw_1024 : (Jvm.Cond.laysFinal "RouteDeskModel" "RouteDeskModel" "to" "[I") ∈ tb_G := tb_5 29 rfl rfl
theorem tw_1026 : (Jvm.Cond.laysFinal "RouteDeskModel" "RouteDeskModel" "size" "[I") ∈ tb_G := tb_5 31 rfl rfl
theorem tw_1028 : (Jvm.Cond.laysFinal "RouteDeskModel" "RouteDeskModel" "text" "[I") ∈ tb_G := tb_5 33 rfl rfl
theorem tw_1030 : (Jvm.Cond.laysFinal "RouteDeskModel" "RouteDeskModel" "key" "[I") ∈ tb_G := tb_5 35 rfl rfl
theorem tw_1032 : (Jvm.Cond.lays "RouteDeskModel" "RouteDeskModel" "keySize" "I") ∈ tb_G := tb_5 37 rfl rfl
theorem tw_1034 : (Jvm.Cond.lays "RouteDeskModel" "RouteDeskModel" "headers" "I") ∈ tb_G := tb_5 39 rfl rfl
theorem tw_1036 : (Jvm.Cond.laysFinal "RouteDeskModel" "RouteDeskModel" "headerName" "[J") ∈ tb_G := tb_5 41 rfl rfl
theorem tw_1038 : (Jvm.Cond.laysFinal "RouteDeskModel" "RouteDeskModel" "headerValue" "[J") ∈ tb_G := tb_5 43 rfl rfl
theorem tw_1040 : (Jvm.Cond.laysFinal "RouteDeskModel" "RouteDeskModel" "found" "[Z") ∈ tb_G := tb_5 45 rfl rfl
theorem tw_1042 : (Jvm.Cond.laysFinal "RouteDeskModel" "RouteDeskModel" "passed" "[Z") ∈ tb_G := tb_5 47 rfl rfl
theorem tw_1044 : (Jvm.Cond.lays "RouteDeskModel" "RouteDeskModel" "at" "I") ∈ tb_G := tb_5 49 rfl rfl
theorem tw_1046 : (Jvm.Cond.laysFinal "RouteDeskModel" "RouteDeskModel" "like" "[Z") ∈ tb_G := tb_5 51 rfl rfl
theorem tw_1048 : (Jvm.Cond.laysFinal "RouteDeskModel" "RouteDeskModel" "patternFrom" "[I") ∈ tb_G := tb_5 53 rfl rfl
theorem tw_1050 : (Jvm.Cond.laysFinal "RouteDeskModel" "RouteDeskModel" "keyFrom" "[I") ∈ tb_G := tb_5 55 rfl rfl
theorem tw_99 : (Jvm.Cond.lays "java/lang/StringBuilder" "java/lang/AbstractStringBuilder" "value" "[B") ∈ tb_G := tb_1 64 rfl rfl
theorem tw_101 : (Jvm.Cond.lays "java/lang/StringBuilder" "java/lang/AbstractStringBuilder" "coder" "B") ∈ tb_G := tb_1 66 rfl rfl
theorem tw_103 : (Jvm.Cond.lays "java/lang/StringBuilder" "java/lang/AbstractStringBuilder" "maybeLatin1" "Z") ∈ tb_G := tb_1 68 rfl rfl
theorem tw_105 : (Jvm.Cond.lays "java/lang/StringBuilder" "java/lang/AbstractStringBuilder" "count" "I") ∈ tb_G := tb_1 70 rfl rfl
theorem tw_552 : (Jvm.Cond.laysFinal "java/lang/String" "java/lang/String" "value" "[B") ∈ tb_G := tb_3 37 rfl rfl
theorem tw_554 : (Jvm.Cond.laysFinal "java/lang/String" "java/lang/String" "coder" "B") ∈ tb_G := tb_3 39 rfl rfl
theorem tw_130 : (Jvm.Cond.lays "java/util/ArrayList" "java/util/ArrayList" "elementData" "[Ljava/lang/Object;") ∈ tb_G := tb_1 95 rfl rfl
theorem tw_132 : (Jvm.Cond.lays "java/util/ArrayList" "java/util/ArrayList" "size" "I") ∈ tb_G := tb_1 97 rfl rfl
theorem tw_134 : (Jvm.Cond.lays "java/util/ArrayList" "java/util/AbstractList" "modCount" "I") ∈ tb_G := tb_1 99 rfl rfl
theorem tw_72 : (Jvm.Cond.code ({ cls := "RouteDesk", name := "<init>", desc := "()V" } : Jvm.MethodName) prog_1_method_1_code (1 : Nat) (Option.none : Option Jvm.ClassFile.FieldType)) ∈ tb_G := tb_1 37 rfl rfl
theorem tw_71 : (Jvm.Cond.instanceMethod ({ cls := "RouteDesk", name := "<init>", desc := "()V" } : Jvm.MethodName)) ∈ tb_G := tb_1 36 rfl rfl
theorem tw_36 : (Jvm.Cond.initialized "RouteDesk") ∈ tb_G := tb_1 1 rfl rfl
theorem tw_142 : (Jvm.Cond.code ({ cls := "RouteDesk$Message", name := "<init>", desc := "()V" } : Jvm.MethodName) prog_6_method_1_code (1 : Nat) (Option.none : Option Jvm.ClassFile.FieldType)) ∈ tb_G := tb_1 107 rfl rfl
theorem tw_141 : (Jvm.Cond.instanceMethod ({ cls := "RouteDesk$Message", name := "<init>", desc := "()V" } : Jvm.MethodName)) ∈ tb_G := tb_1 106 rfl rfl
theorem tw_44 : (Jvm.Cond.initialized "RouteDesk$Message") ∈ tb_G := tb_1 9 rfl rfl
theorem tw_161 : (Jvm.Cond.code ({ cls := "RouteDesk$Routing", name := "<init>", desc := "()V" } : Jvm.MethodName) prog_8_method_1_code (1 : Nat) (Option.none : Option Jvm.ClassFile.FieldType)) ∈ tb_G := tb_1 126 rfl rfl
theorem tw_160 : (Jvm.Cond.instanceMethod ({ cls := "RouteDesk$Routing", name := "<init>", desc := "()V" } : Jvm.MethodName)) ∈ tb_G := tb_1 125 rfl rfl
theorem tw_45 : (Jvm.Cond.initialized "RouteDesk$Routing") ∈ tb_G := tb_1 10 rfl rfl
theorem tw_206 : (Jvm.Cond.code ({ cls := "RouteDesk", name := "type", desc := "(JI)Z" } : Jvm.MethodName) prog_1_method_2_code (6 : Nat) (Option.some Jvm.ClassFile.FieldType.boolean)) ∈ tb_G := tb_1 171 rfl rfl
theorem tw_204 : (Jvm.Cond.instanceMethod ({ cls := "RouteDesk", name := "type", desc := "(JI)Z" } : Jvm.MethodName)) ∈ tb_G := tb_1 169 rfl rfl
theorem tw_205 : (Jvm.Cond.selects "RouteDesk" ({ cls := "RouteDesk", name := "type", desc := "(JI)Z" } : Jvm.MethodName) ({ cls := "RouteDesk", name := "type", desc := "(JI)Z" } : Jvm.MethodName)) ∈ tb_G := tb_1 170 rfl rfl
theorem tw_216 : (Jvm.Cond.code ({ cls := "RouteDesk", name := "byteOf", desc := "(JI)I" } : Jvm.MethodName) prog_1_method_16_code (3 : Nat) (Option.some Jvm.ClassFile.FieldType.int)) ∈ tb_G := tb_1 181 rfl rfl
theorem tw_215 : (Jvm.Cond.static ({ cls := "RouteDesk", name := "byteOf", desc := "(JI)I" } : Jvm.MethodName)) ∈ tb_G := tb_1 180 rfl rfl
theorem tw_315 : (Jvm.Cond.code ({ cls := "RouteDesk", name := "alternate", desc := "(II)Z" } : Jvm.MethodName) prog_1_method_4_code (4 : Nat) (Option.some Jvm.ClassFile.FieldType.boolean)) ∈ tb_G := tb_2 40 rfl rfl
theorem tw_313 : (Jvm.Cond.instanceMethod ({ cls := "RouteDesk", name := "alternate", desc := "(II)Z" } : Jvm.MethodName)) ∈ tb_G := tb_2 38 rfl rfl
theorem tw_314 : (Jvm.Cond.selects "RouteDesk" ({ cls := "RouteDesk", name := "alternate", desc := "(II)Z" } : Jvm.MethodName) ({ cls := "RouteDesk", name := "alternate", desc := "(II)Z" } : Jvm.MethodName)) ∈ tb_G := tb_2 39 rfl rfl
theorem tw_319 : (Jvm.Cond.code ({ cls := "RouteDesk", name := "exchangeAt", desc := "(I)LRouteDesk$Exchange;" } : Jvm.MethodName) prog_1_method_18_code (2 : Nat) (Option.some (Jvm.ClassFile.FieldType.object "RouteDesk$Exchange"))) ∈ tb_G := tb_2 44 rfl rfl
theorem tw_318 : (Jvm.Cond.instanceMethod ({ cls := "RouteDesk", name := "exchangeAt", desc := "(I)LRouteDesk$Exchange;" } : Jvm.MethodName)) ∈ tb_G := tb_2 43 rfl rfl
theorem tw_0 : (Jvm.Cond.selects "RouteDesk" ({ cls := "RouteDesk", name := "exchangeAt", desc := "(I)LRouteDesk$Exchange;" } : Jvm.MethodName) ({ cls := "RouteDesk", name := "exchangeAt", desc := "(I)LRouteDesk$Exchange;" } : Jvm.MethodName)) ∈ tb_G := tb_p 0 rfl rfl
theorem tw_323 : (Jvm.Cond.code ({ cls := "RouteDesk", name := "remove", desc := "(IZ)Z" } : Jvm.MethodName) prog_1_method_6_code (5 : Nat) (Option.some Jvm.ClassFile.FieldType.boolean)) ∈ tb_G := tb_2 48 rfl rfl
theorem tw_321 : (Jvm.Cond.instanceMethod ({ cls := "RouteDesk", name := "remove", desc := "(IZ)Z" } : Jvm.MethodName)) ∈ tb_G := tb_2 46 rfl rfl
theorem tw_322 : (Jvm.Cond.selects "RouteDesk" ({ cls := "RouteDesk", name := "remove", desc := "(IZ)Z" } : Jvm.MethodName) ({ cls := "RouteDesk", name := "remove", desc := "(IZ)Z" } : Jvm.MethodName)) ∈ tb_G := tb_2 47 rfl rfl
theorem tw_327 : (Jvm.Cond.code ({ cls := "RouteDesk", name := "isThere", desc := "(IZ)Z" } : Jvm.MethodName) prog_1_method_19_code (3 : Nat) (Option.some Jvm.ClassFile.FieldType.boolean)) ∈ tb_G := tb_2 52 rfl rfl
theorem tw_326 : (Jvm.Cond.instanceMethod ({ cls := "RouteDesk", name := "isThere", desc := "(IZ)Z" } : Jvm.MethodName)) ∈ tb_G := tb_2 51 rfl rfl
theorem tw_1 : (Jvm.Cond.selects "RouteDesk" ({ cls := "RouteDesk", name := "isThere", desc := "(IZ)Z" } : Jvm.MethodName) ({ cls := "RouteDesk", name := "isThere", desc := "(IZ)Z" } : Jvm.MethodName)) ∈ tb_G := tb_p 1 rfl rfl
theorem tw_348 : (Jvm.Cond.code ({ cls := "RouteDesk$Binding", name := "leadsTo", desc := "(IZ)Z" } : Jvm.MethodName) prog_2_method_2_code (3 : Nat) (Option.some Jvm.ClassFile.FieldType.boolean)) ∈ tb_G := tb_2 73 rfl rfl
theorem tw_346 : (Jvm.Cond.instanceMethod ({ cls := "RouteDesk$Binding", name := "leadsTo", desc := "(IZ)Z" } : Jvm.MethodName)) ∈ tb_G := tb_2 71 rfl rfl
theorem tw_64 : (Jvm.Cond.initialized "RouteDesk$Binding") ∈ tb_G := tb_1 29 rfl rfl
theorem tw_347 : (Jvm.Cond.selects "RouteDesk$Binding" ({ cls := "RouteDesk$Binding", name := "leadsTo", desc := "(IZ)Z" } : Jvm.MethodName) ({ cls := "RouteDesk$Binding", name := "leadsTo", desc := "(IZ)Z" } : Jvm.MethodName)) ∈ tb_G := tb_2 72 rfl rfl
theorem tw_361 : (Jvm.Cond.code ({ cls := "RouteDesk", name := "unbind", desc := "(IIZ)Z" } : Jvm.MethodName) prog_1_method_8_code (5 : Nat) (Option.some Jvm.ClassFile.FieldType.boolean)) ∈ tb_G := tb_2 86 rfl rfl
theorem tw_359 : (Jvm.Cond.instanceMethod ({ cls := "RouteDesk", name := "unbind", desc := "(IIZ)Z" } : Jvm.MethodName)) ∈ tb_G := tb_2 84 rfl rfl
theorem tw_360 : (Jvm.Cond.selects "RouteDesk" ({ cls := "RouteDesk", name := "unbind", desc := "(IIZ)Z" } : Jvm.MethodName) ({ cls := "RouteDesk", name := "unbind", desc := "(IIZ)Z" } : Jvm.MethodName)) ∈ tb_G := tb_2 85 rfl rfl
theorem tw_365 : (Jvm.Cond.code ({ cls := "RouteDesk", name := "takeTape", desc := "()Ljava/lang/String;" } : Jvm.MethodName) prog_1_method_17_code (2 : Nat) (Option.some (Jvm.ClassFile.FieldType.object "java/lang/String"))) ∈ tb_G := tb_2 90 rfl rfl
theorem tw_364 : (Jvm.Cond.instanceMethod ({ cls := "RouteDesk", name := "takeTape", desc := "()Ljava/lang/String;" } : Jvm.MethodName)) ∈ tb_G := tb_2 89 rfl rfl
theorem tw_3 : (Jvm.Cond.selects "RouteDesk" ({ cls := "RouteDesk", name := "takeTape", desc := "()Ljava/lang/String;" } : Jvm.MethodName) ({ cls := "RouteDesk", name := "takeTape", desc := "()Ljava/lang/String;" } : Jvm.MethodName)) ∈ tb_G := tb_p 3 rfl rfl
theorem tw_587 : (Jvm.Cond.code ({ cls := "RouteDesk", name := "placeOf", desc := "(IIZLjava/lang/String;)I" } : Jvm.MethodName) prog_1_method_20_code (7 : Nat) (Option.some Jvm.ClassFile.FieldType.int)) ∈ tb_G := tb_3 72 rfl rfl
theorem tw_586 : (Jvm.Cond.instanceMethod ({ cls := "RouteDesk", name := "placeOf", desc := "(IIZLjava/lang/String;)I" } : Jvm.MethodName)) ∈ tb_G := tb_3 71 rfl rfl
theorem tw_5 : (Jvm.Cond.selects "RouteDesk" ({ cls := "RouteDesk", name := "placeOf", desc := "(IIZLjava/lang/String;)I" } : Jvm.MethodName) ({ cls := "RouteDesk", name := "placeOf", desc := "(IIZLjava/lang/String;)I" } : Jvm.MethodName)) ∈ tb_G := tb_p 5 rfl rfl
theorem tw_599 : (Jvm.Cond.code ({ cls := "RouteDesk", name := "message", desc := "()V" } : Jvm.MethodName) prog_1_method_9_code (1 : Nat) (Option.none : Option Jvm.ClassFile.FieldType)) ∈ tb_G := tb_3 84 rfl rfl
theorem tw_597 : (Jvm.Cond.instanceMethod ({ cls := "RouteDesk", name := "message", desc := "()V" } : Jvm.MethodName)) ∈ tb_G := tb_3 82 rfl rfl
theorem tw_598 : (Jvm.Cond.selects "RouteDesk" ({ cls := "RouteDesk", name := "message", desc := "()V" } : Jvm.MethodName) ({ cls := "RouteDesk", name := "message", desc := "()V" } : Jvm.MethodName)) ∈ tb_G := tb_3 83 rfl rfl
theorem tw_603 : (Jvm.Cond.code ({ cls := "RouteDesk$Message", name := "startAnew", desc := "(Ljava/lang/String;)V" } : Jvm.MethodName) prog_6_method_2_code (2 : Nat) (Option.none : Option Jvm.ClassFile.FieldType)) ∈ tb_G := tb_3 88 rfl rfl
theorem tw_601 : (Jvm.Cond.instanceMethod ({ cls := "RouteDesk$Message", name := "startAnew", desc := "(Ljava/lang/String;)V" } : Jvm.MethodName)) ∈ tb_G := tb_3 86 rfl rfl
theorem tw_602 : (Jvm.Cond.selects "RouteDesk$Message" ({ cls := "RouteDesk$Message", name := "startAnew", desc := "(Ljava/lang/String;)V" } : Jvm.MethodName) ({ cls := "RouteDesk$Message", name := "startAnew", desc := "(Ljava/lang/String;)V" } : Jvm.MethodName)) ∈ tb_G := tb_3 87 rfl rfl
theorem tw_611 : (Jvm.Cond.code ({ cls := "RouteDesk", name := "header", desc := "()Z" } : Jvm.MethodName) prog_1_method_10_code (3 : Nat) (Option.some Jvm.ClassFile.FieldType.boolean)) ∈ tb_G := tb_3 96 rfl rfl
theorem tw_609 : (Jvm.Cond.instanceMethod ({ cls := "RouteDesk", name := "header", desc := "()Z" } : Jvm.MethodName)) ∈ tb_G := tb_3 94 rfl rfl
theorem tw_610 : (Jvm.Cond.selects "RouteDesk" ({ cls := "RouteDesk", name := "header", desc := "()Z" } : Jvm.MethodName) ({ cls := "RouteDesk", name := "header", desc := "()Z" } : Jvm.MethodName)) ∈ tb_G := tb_3 95 rfl rfl
theorem tw_615 : (Jvm.Cond.code ({ cls := "RouteDesk$HeaderText", name := "isPair", desc := "(Ljava/lang/String;IIZ)Z" } : Jvm.MethodName) prog_5_method_2_code (5 : Nat) (Option.some Jvm.ClassFile.FieldType.boolean)) ∈ tb_G := tb_3 100 rfl rfl
theorem tw_614 : (Jvm.Cond.static ({ cls := "RouteDesk$HeaderText", name := "isPair", desc := "(Ljava/lang/String;IIZ)Z" } : Jvm.MethodName)) ∈ tb_G := tb_3 99 rfl rfl
theorem tw_63 : (Jvm.Cond.initialized "RouteDesk$HeaderText") ∈ tb_G := tb_1 28 rfl rfl
theorem tw_618 : (Jvm.Cond.code ({ cls := "RouteDesk$Texts", name := "find", desc := "(Ljava/lang/String;CII)I" } : Jvm.MethodName) prog_9_method_2_code (5 : Nat) (Option.some Jvm.ClassFile.FieldType.int)) ∈ tb_G := tb_3 103 rfl rfl
theorem tw_617 : (Jvm.Cond.static ({ cls := "RouteDesk$Texts", name := "find", desc := "(Ljava/lang/String;CII)I" } : Jvm.MethodName)) ∈ tb_G := tb_3 102 rfl rfl
theorem tw_62 : (Jvm.Cond.initialized "RouteDesk$Texts") ∈ tb_G := tb_1 27 rfl rfl
theorem tw_636 : (Jvm.Cond.code ({ cls := "RouteDesk$HeaderText", name := "isName", desc := "(Ljava/lang/String;II)Z" } : Jvm.MethodName) prog_5_method_6_code (4 : Nat) (Option.some Jvm.ClassFile.FieldType.boolean)) ∈ tb_G := tb_3 121 rfl rfl
theorem tw_635 : (Jvm.Cond.static ({ cls := "RouteDesk$HeaderText", name := "isName", desc := "(Ljava/lang/String;II)Z" } : Jvm.MethodName)) ∈ tb_G := tb_3 120 rfl rfl
theorem tw_640 : (Jvm.Cond.code ({ cls := "RouteDesk$HeaderText", name := "isSmallLetter", desc := "(C)Z" } : Jvm.MethodName) prog_5_method_8_code (1 : Nat) (Option.some Jvm.ClassFile.FieldType.boolean)) ∈ tb_G := tb_3 125 rfl rfl
theorem tw_639 : (Jvm.Cond.static ({ cls := "RouteDesk$HeaderText", name := "isSmallLetter", desc := "(C)Z" } : Jvm.MethodName)) ∈ tb_G := tb_3 124 rfl rfl
theorem tw_643 : (Jvm.Cond.code ({ cls := "RouteDesk$HeaderText", name := "isValue", desc := "(Ljava/lang/String;II)Z" } : Jvm.MethodName) prog_5_method_7_code (4 : Nat) (Option.some Jvm.ClassFile.FieldType.boolean)) ∈ tb_G := tb_3 128 rfl rfl
theorem tw_642 : (Jvm.Cond.static ({ cls := "RouteDesk$HeaderText", name := "isValue", desc := "(Ljava/lang/String;II)Z" } : Jvm.MethodName)) ∈ tb_G := tb_3 127 rfl rfl
theorem tw_646 : (Jvm.Cond.code ({ cls := "RouteDesk$HeaderText", name := "isDigit", desc := "(C)Z" } : Jvm.MethodName) prog_5_method_9_code (1 : Nat) (Option.some Jvm.ClassFile.FieldType.boolean)) ∈ tb_G := tb_3 131 rfl rfl
theorem tw_645 : (Jvm.Cond.static ({ cls := "RouteDesk$HeaderText", name := "isDigit", desc := "(C)Z" } : Jvm.MethodName)) ∈ tb_G := tb_3 130 rfl rfl
theorem tw_675 : (Jvm.Cond.code ({ cls := "RouteDesk$Message", name := "put", desc := "(Ljava/lang/String;Ljava/lang/String;)Z" } : Jvm.MethodName) prog_6_method_3_code (4 : Nat) (Option.some Jvm.ClassFile.FieldType.boolean)) ∈ tb_G := tb_3 160 rfl rfl
theorem tw_673 : (Jvm.Cond.instanceMethod ({ cls := "RouteDesk$Message", name := "put", desc := "(Ljava/lang/String;Ljava/lang/String;)Z" } : Jvm.MethodName)) ∈ tb_G := tb_3 158 rfl rfl
theorem tw_674 : (Jvm.Cond.selects "RouteDesk$Message" ({ cls := "RouteDesk$Message", name := "put", desc := "(Ljava/lang/String;Ljava/lang/String;)Z" } : Jvm.MethodName) ({ cls := "RouteDesk$Message", name := "put", desc := "(Ljava/lang/String;Ljava/lang/String;)Z" } : Jvm.MethodName)) ∈ tb_G := tb_3 159 rfl rfl
theorem tw_679 : (Jvm.Cond.code ({ cls := "RouteDesk$Message", name := "headerOf", desc := "(Ljava/lang/String;)LRouteDesk$Header;" } : Jvm.MethodName) prog_6_method_4_code (3 : Nat) (Option.some (Jvm.ClassFile.FieldType.object "RouteDesk$Header"))) ∈ tb_G := tb_3 164 rfl rfl
theorem tw_678 : (Jvm.Cond.instanceMethod ({ cls := "RouteDesk$Message", name := "headerOf", desc := "(Ljava/lang/String;)LRouteDesk$Header;" } : Jvm.MethodName)) ∈ tb_G := tb_3 163 rfl rfl
theorem tw_6 : (Jvm.Cond.selects "RouteDesk$Message" ({ cls := "RouteDesk$Message", name := "headerOf", desc := "(Ljava/lang/String;)LRouteDesk$Header;" } : Jvm.MethodName) ({ cls := "RouteDesk$Message", name := "headerOf", desc := "(Ljava/lang/String;)LRouteDesk$Header;" } : Jvm.MethodName)) ∈ tb_G := tb_p 6 rfl rfl
theorem tw_687 : (Jvm.Cond.code ({ cls := "RouteDesk$Header", name := "<init>", desc := "(Ljava/lang/String;Ljava/lang/String;)V" } : Jvm.MethodName) prog_4_method_1_code (3 : Nat) (Option.none : Option Jvm.ClassFile.FieldType)) ∈ tb_G := tb_3 172 rfl rfl
theorem tw_686 : (Jvm.Cond.instanceMethod ({ cls := "RouteDesk$Header", name := "<init>", desc := "(Ljava/lang/String;Ljava/lang/String;)V" } : Jvm.MethodName)) ∈ tb_G := tb_3 171 rfl rfl
theorem tw_65 : (Jvm.Cond.initialized "RouteDesk$Header") ∈ tb_G := tb_1 30 rfl rfl
theorem tw_748 : (Jvm.Cond.code ({ cls := "RouteDesk", name := "passed", desc := "(I)Z" } : Jvm.MethodName) prog_1_method_13_code (2 : Nat) (Option.some Jvm.ClassFile.FieldType.boolean)) ∈ tb_G := tb_3 233 rfl rfl
theorem tw_746 : (Jvm.Cond.instanceMethod ({ cls := "RouteDesk", name := "passed", desc := "(I)Z" } : Jvm.MethodName)) ∈ tb_G := tb_3 231 rfl rfl
theorem tw_747 : (Jvm.Cond.selects "RouteDesk" ({ cls := "RouteDesk", name := "passed", desc := "(I)Z" } : Jvm.MethodName) ({ cls := "RouteDesk", name := "passed", desc := "(I)Z" } : Jvm.MethodName)) ∈ tb_G := tb_3 232 rfl rfl
theorem tw_752 : (Jvm.Cond.code ({ cls := "RouteDesk", name := "of", desc := "(II)I" } : Jvm.MethodName) prog_1_method_14_code (4 : Nat) (Option.some Jvm.ClassFile.FieldType.int)) ∈ tb_G := tb_3 237 rfl rfl
theorem tw_750 : (Jvm.Cond.instanceMethod ({ cls := "RouteDesk", name := "of", desc := "(II)I" } : Jvm.MethodName)) ∈ tb_G := tb_3 235 rfl rfl
theorem tw_751 : (Jvm.Cond.selects "RouteDesk" ({ cls := "RouteDesk", name := "of", desc := "(II)I" } : Jvm.MethodName) ({ cls := "RouteDesk", name := "of", desc := "(II)I" } : Jvm.MethodName)) ∈ tb_G := tb_3 236 rfl rfl
theorem tw_756 : (Jvm.Cond.code ({ cls := "RouteDesk", name := "countTo", desc := "(IZ)I" } : Jvm.MethodName) prog_1_method_26_code (5 : Nat) (Option.some Jvm.ClassFile.FieldType.int)) ∈ tb_G := tb_4 1 rfl rfl
theorem tw_755 : (Jvm.Cond.instanceMethod ({ cls := "RouteDesk", name := "countTo", desc := "(IZ)I" } : Jvm.MethodName)) ∈ tb_G := tb_4 0 rfl rfl
theorem tw_10 : (Jvm.Cond.selects "RouteDesk" ({ cls := "RouteDesk", name := "countTo", desc := "(IZ)I" } : Jvm.MethodName) ({ cls := "RouteDesk", name := "countTo", desc := "(IZ)I" } : Jvm.MethodName)) ∈ tb_G := tb_p 10 rfl rfl
theorem tw_760 : (Jvm.Cond.code ({ cls := "RouteDesk", name := "countFrom", desc := "(I)I" } : Jvm.MethodName) prog_1_method_25_code (4 : Nat) (Option.some Jvm.ClassFile.FieldType.int)) ∈ tb_G := tb_4 5 rfl rfl
theorem tw_759 : (Jvm.Cond.instanceMethod ({ cls := "RouteDesk", name := "countFrom", desc := "(I)I" } : Jvm.MethodName)) ∈ tb_G := tb_4 4 rfl rfl
theorem tw_11 : (Jvm.Cond.selects "RouteDesk" ({ cls := "RouteDesk", name := "countFrom", desc := "(I)I" } : Jvm.MethodName) ({ cls := "RouteDesk", name := "countFrom", desc := "(I)I" } : Jvm.MethodName)) ∈ tb_G := tb_p 11 rfl rfl
theorem tw_764 : (Jvm.Cond.code ({ cls := "RouteDesk", name := "total", desc := "(I)I" } : Jvm.MethodName) prog_1_method_15_code (2 : Nat) (Option.some Jvm.ClassFile.FieldType.int)) ∈ tb_G := tb_4 9 rfl rfl
theorem tw_762 : (Jvm.Cond.instanceMethod ({ cls := "RouteDesk", name := "total", desc := "(I)I" } : Jvm.MethodName)) ∈ tb_G := tb_4 7 rfl rfl
theorem tw_763 : (Jvm.Cond.selects "RouteDesk" ({ cls := "RouteDesk", name := "total", desc := "(I)I" } : Jvm.MethodName) ({ cls := "RouteDesk", name := "total", desc := "(I)I" } : Jvm.MethodName)) ∈ tb_G := tb_4 8 rfl rfl
theorem tw_768 : (Jvm.Cond.code ({ cls := "RouteDesk", name := "countExchanges", desc := "()I" } : Jvm.MethodName) prog_1_method_27_code (3 : Nat) (Option.some Jvm.ClassFile.FieldType.int)) ∈ tb_G := tb_4 13 rfl rfl
theorem tw_767 : (Jvm.Cond.instanceMethod ({ cls := "RouteDesk", name := "countExchanges", desc := "()I" } : Jvm.MethodName)) ∈ tb_G := tb_4 12 rfl rfl
theorem tw_12 : (Jvm.Cond.selects "RouteDesk" ({ cls := "RouteDesk", name := "countExchanges", desc := "()I" } : Jvm.MethodName) ({ cls := "RouteDesk", name := "countExchanges", desc := "()I" } : Jvm.MethodName)) ∈ tb_G := tb_p 12 rfl rfl
theorem tw_772 : (Jvm.Cond.code ({ cls := "RouteDesk", name := "countQueues", desc := "()I" } : Jvm.MethodName) prog_1_method_28_code (3 : Nat) (Option.some Jvm.ClassFile.FieldType.int)) ∈ tb_G := tb_4 17 rfl rfl
theorem tw_771 : (Jvm.Cond.instanceMethod ({ cls := "RouteDesk", name := "countQueues", desc := "()I" } : Jvm.MethodName)) ∈ tb_G := tb_4 16 rfl rfl
theorem tw_13 : (Jvm.Cond.selects "RouteDesk" ({ cls := "RouteDesk", name := "countQueues", desc := "()I" } : Jvm.MethodName) ({ cls := "RouteDesk", name := "countQueues", desc := "()I" } : Jvm.MethodName)) ∈ tb_G := tb_p 13 rfl rfl
theorem tw_774 : (Jvm.Cond.static ({ cls := "RouteDeskLaw", name := "exchange", desc := "(LRouteDesk;I[J)I" } : Jvm.MethodName)) ∈ tb_G := tb_4 19 rfl rfl
theorem tw_35 : (Jvm.Cond.initialized "RouteDeskLaw") ∈ tb_G := tb_1 0 rfl rfl
theorem tw_781 : (Jvm.Cond.code ({ cls := "RouteDesk", name := "exchange", desc := "(I)I" } : Jvm.MethodName) prog_1_method_3_code (3 : Nat) (Option.some Jvm.ClassFile.FieldType.int)) ∈ tb_G := tb_4 26 rfl rfl
theorem tw_779 : (Jvm.Cond.instanceMethod ({ cls := "RouteDesk", name := "exchange", desc := "(I)I" } : Jvm.MethodName)) ∈ tb_G := tb_4 24 rfl rfl
theorem tw_780 : (Jvm.Cond.selects "RouteDesk" ({ cls := "RouteDesk", name := "exchange", desc := "(I)I" } : Jvm.MethodName) ({ cls := "RouteDesk", name := "exchange", desc := "(I)I" } : Jvm.MethodName)) ∈ tb_G := tb_4 25 rfl rfl
theorem tw_788 : (Jvm.Cond.code ({ cls := "RouteDesk$Exchange", name := "<init>", desc := "(I)V" } : Jvm.MethodName) prog_3_method_1_code (2 : Nat) (Option.none : Option Jvm.ClassFile.FieldType)) ∈ tb_G := tb_4 33 rfl rfl
theorem tw_787 : (Jvm.Cond.instanceMethod ({ cls := "RouteDesk$Exchange", name := "<init>", desc := "(I)V" } : Jvm.MethodName)) ∈ tb_G := tb_4 32 rfl rfl
theorem tw_57 : (Jvm.Cond.initialized "RouteDesk$Exchange") ∈ tb_G := tb_1 22 rfl rfl
theorem tw_816 : (Jvm.Cond.static ({ cls := "RouteDeskLaw", name := "queue", desc := "(LRouteDesk;[J)I" } : Jvm.MethodName)) ∈ tb_G := tb_4 61 rfl rfl
theorem tw_821 : (Jvm.Cond.code ({ cls := "RouteDesk", name := "queue", desc := "()I" } : Jvm.MethodName) prog_1_method_5_code (2 : Nat) (Option.some Jvm.ClassFile.FieldType.int)) ∈ tb_G := tb_4 66 rfl rfl
theorem tw_819 : (Jvm.Cond.instanceMethod ({ cls := "RouteDesk", name := "queue", desc := "()I" } : Jvm.MethodName)) ∈ tb_G := tb_4 64 rfl rfl
theorem tw_820 : (Jvm.Cond.selects "RouteDesk" ({ cls := "RouteDesk", name := "queue", desc := "()I" } : Jvm.MethodName) ({ cls := "RouteDesk", name := "queue", desc := "()I" } : Jvm.MethodName)) ∈ tb_G := tb_4 65 rfl rfl
theorem tw_824 : (Jvm.Cond.static ({ cls := "RouteDeskLaw", name := "bind", desc := "(LRouteDesk;IIZ[J)I" } : Jvm.MethodName)) ∈ tb_G := tb_4 69 rfl rfl
theorem tw_829 : (Jvm.Cond.code ({ cls := "RouteDesk", name := "bind", desc := "(IIZ)Z" } : Jvm.MethodName) prog_1_method_7_code (6 : Nat) (Option.some Jvm.ClassFile.FieldType.boolean)) ∈ tb_G := tb_4 74 rfl rfl
theorem tw_827 : (Jvm.Cond.instanceMethod ({ cls := "RouteDesk", name := "bind", desc := "(IIZ)Z" } : Jvm.MethodName)) ∈ tb_G := tb_4 72 rfl rfl
theorem tw_828 : (Jvm.Cond.selects "RouteDesk" ({ cls := "RouteDesk", name := "bind", desc := "(IIZ)Z" } : Jvm.MethodName) ({ cls := "RouteDesk", name := "bind", desc := "(IIZ)Z" } : Jvm.MethodName)) ∈ tb_G := tb_4 73 rfl rfl
theorem tw_833 : (Jvm.Cond.code ({ cls := "RouteDesk", name := "isTextFor", desc := "(ILjava/lang/String;)Z" } : Jvm.MethodName) prog_1_method_21_code (2 : Nat) (Option.some Jvm.ClassFile.FieldType.boolean)) ∈ tb_G := tb_4 78 rfl rfl
theorem tw_832 : (Jvm.Cond.static ({ cls := "RouteDesk", name := "isTextFor", desc := "(ILjava/lang/String;)Z" } : Jvm.MethodName)) ∈ tb_G := tb_4 77 rfl rfl
theorem tw_840 : (Jvm.Cond.code ({ cls := "RouteDesk$Pattern", name := "isPattern", desc := "(Ljava/lang/String;)Z" } : Jvm.MethodName) prog_7_method_2_code (3 : Nat) (Option.some Jvm.ClassFile.FieldType.boolean)) ∈ tb_G := tb_4 85 rfl rfl
theorem tw_839 : (Jvm.Cond.static ({ cls := "RouteDesk$Pattern", name := "isPattern", desc := "(Ljava/lang/String;)Z" } : Jvm.MethodName)) ∈ tb_G := tb_4 84 rfl rfl
theorem tw_61 : (Jvm.Cond.initialized "RouteDesk$Pattern") ∈ tb_G := tb_1 26 rfl rfl
theorem tw_844 : (Jvm.Cond.code ({ cls := "RouteDesk$Texts", name := "isPartEnd", desc := "(Ljava/lang/String;IC)Z" } : Jvm.MethodName) prog_9_method_3_code (3 : Nat) (Option.some Jvm.ClassFile.FieldType.boolean)) ∈ tb_G := tb_4 89 rfl rfl
theorem tw_843 : (Jvm.Cond.static ({ cls := "RouteDesk$Texts", name := "isPartEnd", desc := "(Ljava/lang/String;IC)Z" } : Jvm.MethodName)) ∈ tb_G := tb_4 88 rfl rfl
theorem tw_848 : (Jvm.Cond.code ({ cls := "RouteDesk$Pattern", name := "hasWildSign", desc := "(Ljava/lang/String;II)Z" } : Jvm.MethodName) prog_7_method_8_code (3 : Nat) (Option.some Jvm.ClassFile.FieldType.boolean)) ∈ tb_G := tb_4 93 rfl rfl
theorem tw_847 : (Jvm.Cond.static ({ cls := "RouteDesk$Pattern", name := "hasWildSign", desc := "(Ljava/lang/String;II)Z" } : Jvm.MethodName)) ∈ tb_G := tb_4 92 rfl rfl
theorem tw_852 : (Jvm.Cond.code ({ cls := "RouteDesk$HeaderText", name := "isRule", desc := "(Ljava/lang/String;)Z" } : Jvm.MethodName) prog_5_method_3_code (4 : Nat) (Option.some Jvm.ClassFile.FieldType.boolean)) ∈ tb_G := tb_4 97 rfl rfl
theorem tw_851 : (Jvm.Cond.static ({ cls := "RouteDesk$HeaderText", name := "isRule", desc := "(Ljava/lang/String;)Z" } : Jvm.MethodName)) ∈ tb_G := tb_4 96 rfl rfl
theorem tw_856 : (Jvm.Cond.code ({ cls := "RouteDesk$Texts", name := "beginsWith", desc := "(Ljava/lang/String;Ljava/lang/String;)Z" } : Jvm.MethodName) prog_9_method_5_code (2 : Nat) (Option.some Jvm.ClassFile.FieldType.boolean)) ∈ tb_G := tb_4 101 rfl rfl
theorem tw_855 : (Jvm.Cond.static ({ cls := "RouteDesk$Texts", name := "beginsWith", desc := "(Ljava/lang/String;Ljava/lang/String;)Z" } : Jvm.MethodName)) ∈ tb_G := tb_4 100 rfl rfl
theorem tw_859 : (Jvm.Cond.code ({ cls := "RouteDesk$Texts", name := "isSame", desc := "(Ljava/lang/String;IILjava/lang/String;II)Z" } : Jvm.MethodName) prog_9_method_4_code (7 : Nat) (Option.some Jvm.ClassFile.FieldType.boolean)) ∈ tb_G := tb_4 104 rfl rfl
theorem tw_858 : (Jvm.Cond.static ({ cls := "RouteDesk$Texts", name := "isSame", desc := "(Ljava/lang/String;IILjava/lang/String;II)Z" } : Jvm.MethodName)) ∈ tb_G := tb_4 103 rfl rfl
theorem tw_869 : (Jvm.Cond.code ({ cls := "RouteDesk$Binding", name := "<init>", desc := "(IIZLjava/lang/String;)V" } : Jvm.MethodName) prog_2_method_1_code (5 : Nat) (Option.none : Option Jvm.ClassFile.FieldType)) ∈ tb_G := tb_4 114 rfl rfl
theorem tw_868 : (Jvm.Cond.instanceMethod ({ cls := "RouteDesk$Binding", name := "<init>", desc := "(IIZLjava/lang/String;)V" } : Jvm.MethodName)) ∈ tb_G := tb_4 113 rfl rfl
theorem tw_890 : (Jvm.Cond.static ({ cls := "RouteDeskLaw", name := "route", desc := "(LRouteDesk;I[J)I" } : Jvm.MethodName)) ∈ tb_G := tb_4 135 rfl rfl
theorem tw_895 : (Jvm.Cond.code ({ cls := "RouteDesk", name := "route", desc := "(I)I" } : Jvm.MethodName) prog_1_method_11_code (3 : Nat) (Option.some Jvm.ClassFile.FieldType.int)) ∈ tb_G := tb_4 140 rfl rfl
theorem tw_893 : (Jvm.Cond.instanceMethod ({ cls := "RouteDesk", name := "route", desc := "(I)I" } : Jvm.MethodName)) ∈ tb_G := tb_4 138 rfl rfl
theorem tw_894 : (Jvm.Cond.selects "RouteDesk" ({ cls := "RouteDesk", name := "route", desc := "(I)I" } : Jvm.MethodName) ({ cls := "RouteDesk", name := "route", desc := "(I)I" } : Jvm.MethodName)) ∈ tb_G := tb_4 139 rfl rfl
theorem tw_900 : (Jvm.Cond.code ({ cls := "RouteDesk$Routing", name := "startAt", desc := "(I)V" } : Jvm.MethodName) prog_8_method_2_code (3 : Nat) (Option.none : Option Jvm.ClassFile.FieldType)) ∈ tb_G := tb_4 145 rfl rfl
theorem tw_898 : (Jvm.Cond.instanceMethod ({ cls := "RouteDesk$Routing", name := "startAt", desc := "(I)V" } : Jvm.MethodName)) ∈ tb_G := tb_4 143 rfl rfl
theorem tw_899 : (Jvm.Cond.selects "RouteDesk$Routing" ({ cls := "RouteDesk$Routing", name := "startAt", desc := "(I)V" } : Jvm.MethodName) ({ cls := "RouteDesk$Routing", name := "startAt", desc := "(I)V" } : Jvm.MethodName)) ∈ tb_G := tb_4 144 rfl rfl
theorem tw_904 : (Jvm.Cond.code ({ cls := "RouteDesk$Routing", name := "markPassed", desc := "(I)V" } : Jvm.MethodName) prog_8_method_3_code (2 : Nat) (Option.none : Option Jvm.ClassFile.FieldType)) ∈ tb_G := tb_4 149 rfl rfl
theorem tw_902 : (Jvm.Cond.instanceMethod ({ cls := "RouteDesk$Routing", name := "markPassed", desc := "(I)V" } : Jvm.MethodName)) ∈ tb_G := tb_4 147 rfl rfl
theorem tw_903 : (Jvm.Cond.selects "RouteDesk$Routing" ({ cls := "RouteDesk$Routing", name := "markPassed", desc := "(I)V" } : Jvm.MethodName) ({ cls := "RouteDesk$Routing", name := "markPassed", desc := "(I)V" } : Jvm.MethodName)) ∈ tb_G := tb_4 148 rfl rfl
theorem tw_908 : (Jvm.Cond.code ({ cls := "RouteDesk", name := "leadOn", desc := "(I)V" } : Jvm.MethodName) prog_1_method_23_code (6 : Nat) (Option.none : Option Jvm.ClassFile.FieldType)) ∈ tb_G := tb_4 153 rfl rfl
theorem tw_907 : (Jvm.Cond.instanceMethod ({ cls := "RouteDesk", name := "leadOn", desc := "(I)V" } : Jvm.MethodName)) ∈ tb_G := tb_4 152 rfl rfl
theorem tw_14 : (Jvm.Cond.selects "RouteDesk" ({ cls := "RouteDesk", name := "leadOn", desc := "(I)V" } : Jvm.MethodName) ({ cls := "RouteDesk", name := "leadOn", desc := "(I)V" } : Jvm.MethodName)) ∈ tb_G := tb_p 14 rfl rfl
theorem tw_912 : (Jvm.Cond.code ({ cls := "RouteDesk", name := "isMet", desc := "(ILjava/lang/String;)Z" } : Jvm.MethodName) prog_1_method_22_code (3 : Nat) (Option.some Jvm.ClassFile.FieldType.boolean)) ∈ tb_G := tb_4 157 rfl rfl
theorem tw_911 : (Jvm.Cond.instanceMethod ({ cls := "RouteDesk", name := "isMet", desc := "(ILjava/lang/String;)Z" } : Jvm.MethodName)) ∈ tb_G := tb_4 156 rfl rfl
theorem tw_15 : (Jvm.Cond.selects "RouteDesk" ({ cls := "RouteDesk", name := "isMet", desc := "(ILjava/lang/String;)Z" } : Jvm.MethodName) ({ cls := "RouteDesk", name := "isMet", desc := "(ILjava/lang/String;)Z" } : Jvm.MethodName)) ∈ tb_G := tb_p 15 rfl rfl
theorem tw_915 : (Jvm.Cond.code ({ cls := "RouteDesk$Pattern", name := "isLike", desc := "(Ljava/lang/String;Ljava/lang/String;)Z" } : Jvm.MethodName) prog_7_method_3_code (6 : Nat) (Option.some Jvm.ClassFile.FieldType.boolean)) ∈ tb_G := tb_4 160 rfl rfl
theorem tw_914 : (Jvm.Cond.static ({ cls := "RouteDesk$Pattern", name := "isLike", desc := "(Ljava/lang/String;Ljava/lang/String;)Z" } : Jvm.MethodName)) ∈ tb_G := tb_4 159 rfl rfl
theorem tw_918 : (Jvm.Cond.code ({ cls := "RouteDesk$Pattern", name := "isJust", desc := "(Ljava/lang/String;IIC)Z" } : Jvm.MethodName) prog_7_method_7_code (4 : Nat) (Option.some Jvm.ClassFile.FieldType.boolean)) ∈ tb_G := tb_4 163 rfl rfl
theorem tw_917 : (Jvm.Cond.static ({ cls := "RouteDesk$Pattern", name := "isJust", desc := "(Ljava/lang/String;IIC)Z" } : Jvm.MethodName)) ∈ tb_G := tb_4 162 rfl rfl
theorem tw_922 : (Jvm.Cond.code ({ cls := "RouteDesk$Pattern", name := "afterAnyWords", desc := "(J)J" } : Jvm.MethodName) prog_7_method_4_code (2 : Nat) (Option.some Jvm.ClassFile.FieldType.long)) ∈ tb_G := tb_4 167 rfl rfl
theorem tw_921 : (Jvm.Cond.static ({ cls := "RouteDesk$Pattern", name := "afterAnyWords", desc := "(J)J" } : Jvm.MethodName)) ∈ tb_G := tb_4 166 rfl rfl
theorem tw_928 : (Jvm.Cond.code ({ cls := "RouteDesk$Pattern", name := "afterOneWord", desc := "(JLjava/lang/String;IILjava/lang/String;)J" } : Jvm.MethodName) prog_7_method_5_code (13 : Nat) (Option.some Jvm.ClassFile.FieldType.long)) ∈ tb_G := tb_4 173 rfl rfl
theorem tw_927 : (Jvm.Cond.static ({ cls := "RouteDesk$Pattern", name := "afterOneWord", desc := "(JLjava/lang/String;IILjava/lang/String;)J" } : Jvm.MethodName)) ∈ tb_G := tb_4 172 rfl rfl
theorem tw_932 : (Jvm.Cond.code ({ cls := "RouteDesk$Pattern", name := "countWords", desc := "(Ljava/lang/String;)I" } : Jvm.MethodName) prog_7_method_6_code (3 : Nat) (Option.some Jvm.ClassFile.FieldType.int)) ∈ tb_G := tb_4 177 rfl rfl
theorem tw_931 : (Jvm.Cond.static ({ cls := "RouteDesk$Pattern", name := "countWords", desc := "(Ljava/lang/String;)I" } : Jvm.MethodName)) ∈ tb_G := tb_4 176 rfl rfl
theorem tw_935 : (Jvm.Cond.code ({ cls := "RouteDesk$HeaderText", name := "isRuleMet", desc := "(Ljava/lang/String;LRouteDesk$Message;)Z" } : Jvm.MethodName) prog_5_method_4_code (5 : Nat) (Option.some Jvm.ClassFile.FieldType.boolean)) ∈ tb_G := tb_4 180 rfl rfl
theorem tw_934 : (Jvm.Cond.static ({ cls := "RouteDesk$HeaderText", name := "isRuleMet", desc := "(Ljava/lang/String;LRouteDesk$Message;)Z" } : Jvm.MethodName)) ∈ tb_G := tb_4 179 rfl rfl
theorem tw_938 : (Jvm.Cond.code ({ cls := "RouteDesk$HeaderText", name := "isNameMet", desc := "(Ljava/lang/String;IILRouteDesk$Message;)Z" } : Jvm.MethodName) prog_5_method_5_code (7 : Nat) (Option.some Jvm.ClassFile.FieldType.boolean)) ∈ tb_G := tb_4 183 rfl rfl
theorem tw_937 : (Jvm.Cond.static ({ cls := "RouteDesk$HeaderText", name := "isNameMet", desc := "(Ljava/lang/String;IILRouteDesk$Message;)Z" } : Jvm.MethodName)) ∈ tb_G := tb_4 182 rfl rfl
theorem tw_946 : (Jvm.Cond.code ({ cls := "RouteDesk", name := "follow", desc := "(LRouteDesk$Binding;)V" } : Jvm.MethodName) prog_1_method_24_code (2 : Nat) (Option.none : Option Jvm.ClassFile.FieldType)) ∈ tb_G := tb_4 191 rfl rfl
theorem tw_945 : (Jvm.Cond.instanceMethod ({ cls := "RouteDesk", name := "follow", desc := "(LRouteDesk$Binding;)V" } : Jvm.MethodName)) ∈ tb_G := tb_4 190 rfl rfl
theorem tw_16 : (Jvm.Cond.selects "RouteDesk" ({ cls := "RouteDesk", name := "follow", desc := "(LRouteDesk$Binding;)V" } : Jvm.MethodName) ({ cls := "RouteDesk", name := "follow", desc := "(LRouteDesk$Binding;)V" } : Jvm.MethodName)) ∈ tb_G := tb_p 16 rfl rfl
theorem tw_950 : (Jvm.Cond.code ({ cls := "RouteDesk$Routing", name := "markFound", desc := "(I)V" } : Jvm.MethodName) prog_8_method_4_code (2 : Nat) (Option.none : Option Jvm.ClassFile.FieldType)) ∈ tb_G := tb_4 195 rfl rfl
theorem tw_948 : (Jvm.Cond.instanceMethod ({ cls := "RouteDesk$Routing", name := "markFound", desc := "(I)V" } : Jvm.MethodName)) ∈ tb_G := tb_4 193 rfl rfl
theorem tw_949 : (Jvm.Cond.selects "RouteDesk$Routing" ({ cls := "RouteDesk$Routing", name := "markFound", desc := "(I)V" } : Jvm.MethodName) ({ cls := "RouteDesk$Routing", name := "markFound", desc := "(I)V" } : Jvm.MethodName)) ∈ tb_G := tb_4 194 rfl rfl
theorem tw_953 : (Jvm.Cond.static ({ cls := "RouteDeskLaw", name := "found", desc := "(LRouteDesk;I[J)I" } : Jvm.MethodName)) ∈ tb_G := tb_4 198 rfl rfl
theorem tw_959 : (Jvm.Cond.code ({ cls := "RouteDesk", name := "found", desc := "(I)I" } : Jvm.MethodName) prog_1_method_12_code (3 : Nat) (Option.some Jvm.ClassFile.FieldType.int)) ∈ tb_G := tb_4 204 rfl rfl
theorem tw_957 : (Jvm.Cond.instanceMethod ({ cls := "RouteDesk", name := "found", desc := "(I)I" } : Jvm.MethodName)) ∈ tb_G := tb_4 202 rfl rfl
theorem tw_958 : (Jvm.Cond.selects "RouteDesk" ({ cls := "RouteDesk", name := "found", desc := "(I)I" } : Jvm.MethodName) ({ cls := "RouteDesk", name := "found", desc := "(I)I" } : Jvm.MethodName)) ∈ tb_G := tb_4 203 rfl rfl
theorem tw_963 : (Jvm.Cond.code ({ cls := "RouteDesk$Routing", name := "foundAt", desc := "(I)I" } : Jvm.MethodName) prog_8_method_5_code (4 : Nat) (Option.some Jvm.ClassFile.FieldType.int)) ∈ tb_G := tb_4 208 rfl rfl
theorem tw_961 : (Jvm.Cond.instanceMethod ({ cls := "RouteDesk$Routing", name := "foundAt", desc := "(I)I" } : Jvm.MethodName)) ∈ tb_G := tb_4 206 rfl rfl
theorem tw_962 : (Jvm.Cond.selects "RouteDesk$Routing" ({ cls := "RouteDesk$Routing", name := "foundAt", desc := "(I)I" } : Jvm.MethodName) ({ cls := "RouteDesk$Routing", name := "foundAt", desc := "(I)I" } : Jvm.MethodName)) ∈ tb_G := tb_4 207 rfl rfl
theorem tw_984 : (Jvm.Cond.code ({ cls := "RouteDeskModel", name := "<init>", desc := "()V" } : Jvm.MethodName) prog_11_method_1_code (2 : Nat) (Option.none : Option Jvm.ClassFile.FieldType)) ∈ tb_G := tb_4 229 rfl rfl
