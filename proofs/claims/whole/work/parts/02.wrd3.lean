/-! printed (gen/names.py): words among the good ones -/
theorem tw_333 : (Jvm.Cond.instanceMethod ({ cls := "java/util/ArrayList", name := "get", desc := "(I)Ljava/lang/Object;" } : Jvm.MethodName)) ∈ tb_G := tb_2 58 rfl rfl
theorem tw_334 : (Jvm.Cond.selects "java/util/ArrayList" ({ cls := "java/util/ArrayList", name := "get", desc := "(I)Ljava/lang/Object;" } : Jvm.MethodName) ({ cls := "java/util/ArrayList", name := "get", desc := "(I)Ljava/lang/Object;" } : Jvm.MethodName)) ∈ tb_G := tb_2 59 rfl rfl
theorem tw_343 : (Jvm.Cond.code ({ cls := "java/util/ArrayList", name := "elementData", desc := "(I)Ljava/lang/Object;" } : Jvm.MethodName) prog_31_method_18_code (2 : Nat) (Option.some (Jvm.ClassFile.FieldType.object "java/lang/Object"))) ∈ tb_G := tb_2 68 rfl rfl
theorem tw_341 : (Jvm.Cond.instanceMethod ({ cls := "java/util/ArrayList", name := "elementData", desc := "(I)Ljava/lang/Object;" } : Jvm.MethodName)) ∈ tb_G := tb_2 66 rfl rfl
theorem tw_342 : (Jvm.Cond.selects "java/util/ArrayList" ({ cls := "java/util/ArrayList", name := "elementData", desc := "(I)Ljava/lang/Object;" } : Jvm.MethodName) ({ cls := "java/util/ArrayList", name := "elementData", desc := "(I)Ljava/lang/Object;" } : Jvm.MethodName)) ∈ tb_G := tb_2 67 rfl rfl
theorem tw_352 : (Jvm.Cond.code ({ cls := "java/util/ArrayList", name := "remove", desc := "(I)Ljava/lang/Object;" } : Jvm.MethodName) prog_31_method_29_code (4 : Nat) (Option.some (Jvm.ClassFile.FieldType.object "java/lang/Object"))) ∈ tb_G := tb_2 77 rfl rfl
theorem tw_350 : (Jvm.Cond.instanceMethod ({ cls := "java/util/ArrayList", name := "remove", desc := "(I)Ljava/lang/Object;" } : Jvm.MethodName)) ∈ tb_G := tb_2 75 rfl rfl
theorem tw_351 : (Jvm.Cond.selects "java/util/ArrayList" ({ cls := "java/util/ArrayList", name := "remove", desc := "(I)Ljava/lang/Object;" } : Jvm.MethodName) ({ cls := "java/util/ArrayList", name := "remove", desc := "(I)Ljava/lang/Object;" } : Jvm.MethodName)) ∈ tb_G := tb_2 76 rfl rfl
theorem tw_356 : (Jvm.Cond.code ({ cls := "java/util/ArrayList", name := "fastRemove", desc := "([Ljava/lang/Object;I)V" } : Jvm.MethodName) prog_31_method_39_code (4 : Nat) (Option.none : Option Jvm.ClassFile.FieldType)) ∈ tb_G := tb_2 81 rfl rfl
theorem tw_355 : (Jvm.Cond.instanceMethod ({ cls := "java/util/ArrayList", name := "fastRemove", desc := "([Ljava/lang/Object;I)V" } : Jvm.MethodName)) ∈ tb_G := tb_2 80 rfl rfl
theorem tw_2 : (Jvm.Cond.selects "java/util/ArrayList" ({ cls := "java/util/ArrayList", name := "fastRemove", desc := "([Ljava/lang/Object;I)V" } : Jvm.MethodName) ({ cls := "java/util/ArrayList", name := "fastRemove", desc := "([Ljava/lang/Object;I)V" } : Jvm.MethodName)) ∈ tb_G := tb_p 2 rfl rfl
theorem tw_331 : (Jvm.Cond.code ({ cls := "java/util/ArrayList", name := "size", desc := "()I" } : Jvm.MethodName) prog_31_method_8_code (1 : Nat) (Option.some Jvm.ClassFile.FieldType.int)) ∈ tb_G := tb_2 56 rfl rfl
theorem tw_329 : (Jvm.Cond.instanceMethod ({ cls := "java/util/ArrayList", name := "size", desc := "()I" } : Jvm.MethodName)) ∈ tb_G := tb_2 54 rfl rfl
theorem tw_330 : (Jvm.Cond.selects "java/util/ArrayList" ({ cls := "java/util/ArrayList", name := "size", desc := "()I" } : Jvm.MethodName) ({ cls := "java/util/ArrayList", name := "size", desc := "()I" } : Jvm.MethodName)) ∈ tb_G := tb_2 55 rfl rfl
theorem tw_607 : (Jvm.Cond.code ({ cls := "java/util/ArrayList", name := "clear", desc := "()V" } : Jvm.MethodName) prog_31_method_40_code (4 : Nat) (Option.none : Option Jvm.ClassFile.FieldType)) ∈ tb_G := tb_3 92 rfl rfl
theorem tw_605 : (Jvm.Cond.instanceMethod ({ cls := "java/util/ArrayList", name := "clear", desc := "()V" } : Jvm.MethodName)) ∈ tb_G := tb_3 90 rfl rfl
theorem tw_606 : (Jvm.Cond.selects "java/util/ArrayList" ({ cls := "java/util/ArrayList", name := "clear", desc := "()V" } : Jvm.MethodName) ({ cls := "java/util/ArrayList", name := "clear", desc := "()V" } : Jvm.MethodName)) ∈ tb_G := tb_3 91 rfl rfl
theorem tw_118 : (Jvm.Cond.code ({ cls := "java/util/AbstractList", name := "<init>", desc := "()V" } : Jvm.MethodName) prog_30_method_1_code (1 : Nat) (Option.none : Option Jvm.ClassFile.FieldType)) ∈ tb_G := tb_1 83 rfl rfl
theorem tw_117 : (Jvm.Cond.instanceMethod ({ cls := "java/util/AbstractList", name := "<init>", desc := "()V" } : Jvm.MethodName)) ∈ tb_G := tb_1 82 rfl rfl
theorem tw_42 : (Jvm.Cond.initialized "java/util/AbstractList") ∈ tb_G := tb_1 7 rfl rfl
theorem tw_121 : (Jvm.Cond.code ({ cls := "java/util/AbstractCollection", name := "<init>", desc := "()V" } : Jvm.MethodName) prog_29_method_1_code (1 : Nat) (Option.none : Option Jvm.ClassFile.FieldType)) ∈ tb_G := tb_1 86 rfl rfl
theorem tw_120 : (Jvm.Cond.instanceMethod ({ cls := "java/util/AbstractCollection", name := "<init>", desc := "()V" } : Jvm.MethodName)) ∈ tb_G := tb_1 85 rfl rfl
theorem tw_41 : (Jvm.Cond.initialized "java/util/AbstractCollection") ∈ tb_G := tb_1 6 rfl rfl
theorem tw_73 : (Jvm.Cond.methodLink "RouteDesk" (1 : Nat) ({ cls := "java/lang/Object", name := "<init>", desc := "()V" } : Jvm.MethodName)) ∈ tb_G := tb_1 38 rfl rfl
theorem tw_76 : (Jvm.Cond.classLink "RouteDesk" (7 : Nat) "java/lang/StringBuilder") ∈ tb_G := tb_1 41 rfl rfl
theorem tw_78 : (Jvm.Cond.methodLink "RouteDesk" (9 : Nat) ({ cls := "java/lang/StringBuilder", name := "<init>", desc := "()V" } : Jvm.MethodName)) ∈ tb_G := tb_1 43 rfl rfl
theorem tw_184 : (Jvm.Cond.fieldLink "RouteDesk" (10 : Nat) "RouteDesk" "tape" "Ljava/lang/StringBuilder;") ∈ tb_G := tb_1 149 rfl rfl
theorem tw_109 : (Jvm.Cond.classLink "RouteDesk" (16 : Nat) "RouteDesk$Exchange") ∈ tb_G := tb_1 74 rfl rfl
theorem tw_185 : (Jvm.Cond.fieldLink "RouteDesk" (18 : Nat) "RouteDesk" "exchanges" "[LRouteDesk$Exchange;") ∈ tb_G := tb_1 150 rfl rfl
theorem tw_186 : (Jvm.Cond.fieldLink "RouteDesk" (22 : Nat) "RouteDesk" "queues" "[Z") ∈ tb_G := tb_1 151 rfl rfl
theorem tw_111 : (Jvm.Cond.classLink "RouteDesk" (26 : Nat) "java/util/ArrayList") ∈ tb_G := tb_1 76 rfl rfl
theorem tw_113 : (Jvm.Cond.methodLink "RouteDesk" (28 : Nat) ({ cls := "java/util/ArrayList", name := "<init>", desc := "()V" } : Jvm.MethodName)) ∈ tb_G := tb_1 78 rfl rfl
theorem tw_187 : (Jvm.Cond.fieldLink "RouteDesk" (29 : Nat) "RouteDesk" "bindings" "Ljava/util/ArrayList;") ∈ tb_G := tb_1 152 rfl rfl
theorem tw_138 : (Jvm.Cond.classLink "RouteDesk" (33 : Nat) "RouteDesk$Message") ∈ tb_G := tb_1 103 rfl rfl
theorem tw_188 : (Jvm.Cond.fieldLink "RouteDesk" (36 : Nat) "RouteDesk" "current" "LRouteDesk$Message;") ∈ tb_G := tb_1 153 rfl rfl
theorem tw_157 : (Jvm.Cond.classLink "RouteDesk" (40 : Nat) "RouteDesk$Routing") ∈ tb_G := tb_1 122 rfl rfl
theorem tw_189 : (Jvm.Cond.fieldLink "RouteDesk" (43 : Nat) "RouteDesk" "latest" "LRouteDesk$Routing;") ∈ tb_G := tb_1 154 rfl rfl
theorem tw_143 : (Jvm.Cond.methodLink "RouteDesk$Message" (1 : Nat) ({ cls := "java/lang/Object", name := "<init>", desc := "()V" } : Jvm.MethodName)) ∈ tb_G := tb_1 108 rfl rfl
theorem tw_147 : (Jvm.Cond.fieldLink "RouteDesk$Message" (9 : Nat) "RouteDesk$Message" "key" "Ljava/lang/String;") ∈ tb_G := tb_1 112 rfl rfl
theorem tw_145 : (Jvm.Cond.classLink "RouteDesk$Message" (15 : Nat) "java/util/ArrayList") ∈ tb_G := tb_1 110 rfl rfl
theorem tw_146 : (Jvm.Cond.methodLink "RouteDesk$Message" (17 : Nat) ({ cls := "java/util/ArrayList", name := "<init>", desc := "()V" } : Jvm.MethodName)) ∈ tb_G := tb_1 111 rfl rfl
theorem tw_149 : (Jvm.Cond.fieldLink "RouteDesk$Message" (18 : Nat) "RouteDesk$Message" "headers" "Ljava/util/ArrayList;") ∈ tb_G := tb_1 114 rfl rfl
theorem tw_162 : (Jvm.Cond.methodLink "RouteDesk$Routing" (3 : Nat) ({ cls := "java/lang/Object", name := "<init>", desc := "()V" } : Jvm.MethodName)) ∈ tb_G := tb_1 127 rfl rfl
theorem tw_163 : (Jvm.Cond.fieldLink "RouteDesk$Routing" (9 : Nat) "RouteDesk$Routing" "isPassed" "[Z") ∈ tb_G := tb_1 128 rfl rfl
theorem tw_165 : (Jvm.Cond.fieldLink "RouteDesk$Routing" (15 : Nat) "RouteDesk$Routing" "order" "[I") ∈ tb_G := tb_1 130 rfl rfl
theorem tw_167 : (Jvm.Cond.fieldLink "RouteDesk$Routing" (19 : Nat) "RouteDesk$Routing" "passedCount" "I") ∈ tb_G := tb_1 132 rfl rfl
theorem tw_169 : (Jvm.Cond.fieldLink "RouteDesk$Routing" (23 : Nat) "RouteDesk$Routing" "isFound" "[Z") ∈ tb_G := tb_1 134 rfl rfl
theorem tw_170 : (Jvm.Cond.fieldLink "RouteDesk$Routing" (26 : Nat) "RouteDesk$Routing" "foundCount" "I") ∈ tb_G := tb_1 135 rfl rfl
theorem tw_207 : (Jvm.Cond.methodLink "RouteDesk" (47 : Nat) ({ cls := "java/lang/StringBuilder", name := "length", desc := "()I" } : Jvm.MethodName)) ∈ tb_G := tb_1 172 rfl rfl
theorem tw_214 : (Jvm.Cond.methodLink "RouteDesk" (51 : Nat) ({ cls := "RouteDesk", name := "byteOf", desc := "(JI)I" } : Jvm.MethodName)) ∈ tb_G := tb_1 179 rfl rfl
theorem tw_217 : (Jvm.Cond.methodLink "RouteDesk" (55 : Nat) ({ cls := "java/lang/StringBuilder", name := "append", desc := "(C)Ljava/lang/StringBuilder;" } : Jvm.MethodName)) ∈ tb_G := tb_1 182 rfl rfl
theorem tw_316 : (Jvm.Cond.methodLink "RouteDesk" (74 : Nat) ({ cls := "RouteDesk", name := "exchangeAt", desc := "(I)LRouteDesk$Exchange;" } : Jvm.MethodName)) ∈ tb_G := tb_2 41 rfl rfl
theorem tw_324 : (Jvm.Cond.methodLink "RouteDesk" (84 : Nat) ({ cls := "RouteDesk", name := "isThere", desc := "(IZ)Z" } : Jvm.MethodName)) ∈ tb_G := tb_2 49 rfl rfl
theorem tw_328 : (Jvm.Cond.methodLink "RouteDesk" (88 : Nat) ({ cls := "java/util/ArrayList", name := "size", desc := "()I" } : Jvm.MethodName)) ∈ tb_G := tb_2 53 rfl rfl
theorem tw_332 : (Jvm.Cond.methodLink "RouteDesk" (91 : Nat) ({ cls := "java/util/ArrayList", name := "get", desc := "(I)Ljava/lang/Object;" } : Jvm.MethodName)) ∈ tb_G := tb_2 57 rfl rfl
theorem tw_344 : (Jvm.Cond.classLink "RouteDesk" (95 : Nat) "RouteDesk$Binding") ∈ tb_G := tb_2 69 rfl rfl
theorem tw_345 : (Jvm.Cond.methodLink "RouteDesk" (97 : Nat) ({ cls := "RouteDesk$Binding", name := "leadsTo", desc := "(IZ)Z" } : Jvm.MethodName)) ∈ tb_G := tb_2 70 rfl rfl
theorem tw_349 : (Jvm.Cond.methodLink "RouteDesk" (103 : Nat) ({ cls := "java/util/ArrayList", name := "remove", desc := "(I)Ljava/lang/Object;" } : Jvm.MethodName)) ∈ tb_G := tb_2 74 rfl rfl
theorem tw_873 : (Jvm.Cond.fieldLink "RouteDesk$Binding" (13 : Nat) "RouteDesk$Binding" "to" "I") ∈ tb_G := tb_4 118 rfl rfl
theorem tw_875 : (Jvm.Cond.fieldLink "RouteDesk$Binding" (16 : Nat) "RouteDesk$Binding" "toQueue" "Z") ∈ tb_G := tb_4 120 rfl rfl
theorem tw_362 : (Jvm.Cond.methodLink "RouteDesk" (106 : Nat) ({ cls := "RouteDesk", name := "takeTape", desc := "()Ljava/lang/String;" } : Jvm.MethodName)) ∈ tb_G := tb_2 87 rfl rfl
theorem tw_584 : (Jvm.Cond.methodLink "RouteDesk" (121 : Nat) ({ cls := "RouteDesk", name := "placeOf", desc := "(IIZLjava/lang/String;)I" } : Jvm.MethodName)) ∈ tb_G := tb_3 69 rfl rfl
theorem tw_366 : (Jvm.Cond.methodLink "RouteDesk" (210 : Nat) ({ cls := "java/lang/StringBuilder", name := "toString", desc := "()Ljava/lang/String;" } : Jvm.MethodName)) ∈ tb_G := tb_2 91 rfl rfl
theorem tw_561 : (Jvm.Cond.methodLink "RouteDesk" (213 : Nat) ({ cls := "java/lang/StringBuilder", name := "setLength", desc := "(I)V" } : Jvm.MethodName)) ∈ tb_G := tb_3 46 rfl rfl
theorem tw_588 : (Jvm.Cond.methodLink "RouteDesk" (219 : Nat) ({ cls := "java/lang/String", name := "equals", desc := "(Ljava/lang/Object;)Z" } : Jvm.MethodName)) ∈ tb_G := tb_3 73 rfl rfl
theorem tw_600 : (Jvm.Cond.methodLink "RouteDesk" (134 : Nat) ({ cls := "RouteDesk$Message", name := "startAnew", desc := "(Ljava/lang/String;)V" } : Jvm.MethodName)) ∈ tb_G := tb_3 85 rfl rfl
theorem tw_604 : (Jvm.Cond.methodLink "RouteDesk$Message" (22 : Nat) ({ cls := "java/util/ArrayList", name := "clear", desc := "()V" } : Jvm.MethodName)) ∈ tb_G := tb_3 89 rfl rfl
theorem tw_612 : (Jvm.Cond.methodLink "RouteDesk" (137 : Nat) ({ cls := "java/lang/String", name := "length", desc := "()I" } : Jvm.MethodName)) ∈ tb_G := tb_3 97 rfl rfl
theorem tw_613 : (Jvm.Cond.methodLink "RouteDesk" (140 : Nat) ({ cls := "RouteDesk$HeaderText", name := "isPair", desc := "(Ljava/lang/String;IIZ)Z" } : Jvm.MethodName)) ∈ tb_G := tb_3 98 rfl rfl
theorem tw_647 : (Jvm.Cond.methodLink "RouteDesk" (146 : Nat) ({ cls := "RouteDesk$Texts", name := "find", desc := "(Ljava/lang/String;CII)I" } : Jvm.MethodName)) ∈ tb_G := tb_3 132 rfl rfl
theorem tw_648 : (Jvm.Cond.methodLink "RouteDesk" (152 : Nat) ({ cls := "java/lang/String", name := "substring", desc := "(II)Ljava/lang/String;" } : Jvm.MethodName)) ∈ tb_G := tb_3 133 rfl rfl
theorem tw_672 : (Jvm.Cond.methodLink "RouteDesk" (156 : Nat) ({ cls := "RouteDesk$Message", name := "put", desc := "(Ljava/lang/String;Ljava/lang/String;)Z" } : Jvm.MethodName)) ∈ tb_G := tb_3 157 rfl rfl
theorem tw_616 : (Jvm.Cond.methodLink "RouteDesk$HeaderText" (9 : Nat) ({ cls := "RouteDesk$Texts", name := "find", desc := "(Ljava/lang/String;CII)I" } : Jvm.MethodName)) ∈ tb_G := tb_3 101 rfl rfl
theorem tw_634 : (Jvm.Cond.methodLink "RouteDesk$HeaderText" (15 : Nat) ({ cls := "RouteDesk$HeaderText", name := "isName", desc := "(Ljava/lang/String;II)Z" } : Jvm.MethodName)) ∈ tb_G := tb_3 119 rfl rfl
theorem tw_641 : (Jvm.Cond.methodLink "RouteDesk$HeaderText" (19 : Nat) ({ cls := "RouteDesk$HeaderText", name := "isValue", desc := "(Ljava/lang/String;II)Z" } : Jvm.MethodName)) ∈ tb_G := tb_3 126 rfl rfl
theorem tw_619 : (Jvm.Cond.methodLink "RouteDesk$Texts" (7 : Nat) ({ cls := "java/lang/String", name := "charAt", desc := "(I)C" } : Jvm.MethodName)) ∈ tb_G := tb_3 104 rfl rfl
theorem tw_637 : (Jvm.Cond.methodLink "RouteDesk$HeaderText" (76 : Nat) ({ cls := "java/lang/String", name := "charAt", desc := "(I)C" } : Jvm.MethodName)) ∈ tb_G := tb_3 122 rfl rfl
theorem tw_638 : (Jvm.Cond.methodLink "RouteDesk$HeaderText" (80 : Nat) ({ cls := "RouteDesk$HeaderText", name := "isSmallLetter", desc := "(C)Z" } : Jvm.MethodName)) ∈ tb_G := tb_3 123 rfl rfl
theorem tw_644 : (Jvm.Cond.methodLink "RouteDesk$HeaderText" (84 : Nat) ({ cls := "RouteDesk$HeaderText", name := "isDigit", desc := "(C)Z" } : Jvm.MethodName)) ∈ tb_G := tb_3 129 rfl rfl
theorem tw_676 : (Jvm.Cond.methodLink "RouteDesk$Message" (25 : Nat) ({ cls := "RouteDesk$Message", name := "headerOf", desc := "(Ljava/lang/String;)LRouteDesk$Header;" } : Jvm.MethodName)) ∈ tb_G := tb_3 161 rfl rfl
theorem tw_680 : (Jvm.Cond.methodLink "RouteDesk$Message" (34 : Nat) ({ cls := "java/util/ArrayList", name := "size", desc := "()I" } : Jvm.MethodName)) ∈ tb_G := tb_3 165 rfl rfl
theorem tw_682 : (Jvm.Cond.classLink "RouteDesk$Message" (30 : Nat) "RouteDesk$Header") ∈ tb_G := tb_3 167 rfl rfl
theorem tw_685 : (Jvm.Cond.methodLink "RouteDesk$Message" (38 : Nat) ({ cls := "RouteDesk$Header", name := "<init>", desc := "(Ljava/lang/String;Ljava/lang/String;)V" } : Jvm.MethodName)) ∈ tb_G := tb_3 170 rfl rfl
theorem tw_700 : (Jvm.Cond.methodLink "RouteDesk$Message" (41 : Nat) ({ cls := "java/util/ArrayList", name := "add", desc := "(Ljava/lang/Object;)Z" } : Jvm.MethodName)) ∈ tb_G := tb_3 185 rfl rfl
theorem tw_681 : (Jvm.Cond.methodLink "RouteDesk$Message" (45 : Nat) ({ cls := "java/util/ArrayList", name := "get", desc := "(I)Ljava/lang/Object;" } : Jvm.MethodName)) ∈ tb_G := tb_3 166 rfl rfl
theorem tw_683 : (Jvm.Cond.methodLink "RouteDesk$Message" (52 : Nat) ({ cls := "java/lang/String", name := "equals", desc := "(Ljava/lang/Object;)Z" } : Jvm.MethodName)) ∈ tb_G := tb_3 168 rfl rfl
theorem tw_688 : (Jvm.Cond.methodLink "RouteDesk$Header" (1 : Nat) ({ cls := "java/lang/Object", name := "<init>", desc := "()V" } : Jvm.MethodName)) ∈ tb_G := tb_3 173 rfl rfl
theorem tw_689 : (Jvm.Cond.fieldLink "RouteDesk$Header" (7 : Nat) "RouteDesk$Header" "name" "Ljava/lang/String;") ∈ tb_G := tb_3 174 rfl rfl
theorem tw_692 : (Jvm.Cond.fieldLink "RouteDesk$Header" (13 : Nat) "RouteDesk$Header" "value" "Ljava/lang/String;") ∈ tb_G := tb_3 177 rfl rfl
theorem tw_753 : (Jvm.Cond.methodLink "RouteDesk" (190 : Nat) ({ cls := "RouteDesk", name := "countTo", desc := "(IZ)I" } : Jvm.MethodName)) ∈ tb_G := tb_3 238 rfl rfl
theorem tw_757 : (Jvm.Cond.methodLink "RouteDesk" (194 : Nat) ({ cls := "RouteDesk", name := "countFrom", desc := "(I)I" } : Jvm.MethodName)) ∈ tb_G := tb_4 2 rfl rfl
theorem tw_765 : (Jvm.Cond.methodLink "RouteDesk" (197 : Nat) ({ cls := "RouteDesk", name := "countExchanges", desc := "()I" } : Jvm.MethodName)) ∈ tb_G := tb_4 10 rfl rfl
theorem tw_769 : (Jvm.Cond.methodLink "RouteDesk" (200 : Nat) ({ cls := "RouteDesk", name := "countQueues", desc := "()I" } : Jvm.MethodName)) ∈ tb_G := tb_4 14 rfl rfl
theorem tw_778 : (Jvm.Cond.methodLink "RouteDeskLaw" (7 : Nat) ({ cls := "RouteDesk", name := "exchange", desc := "(I)I" } : Jvm.MethodName)) ∈ tb_G := tb_4 23 rfl rfl
theorem tw_782 : (Jvm.Cond.classLink "RouteDesk" (59 : Nat) "java/lang/IllegalArgumentException") ∈ tb_G := tb_4 27 rfl rfl
theorem tw_784 : (Jvm.Cond.methodLink "RouteDesk" (63 : Nat) ({ cls := "java/lang/IllegalArgumentException", name := "<init>", desc := "(Ljava/lang/String;)V" } : Jvm.MethodName)) ∈ tb_G := tb_4 29 rfl rfl
theorem tw_786 : (Jvm.Cond.methodLink "RouteDesk" (66 : Nat) ({ cls := "RouteDesk$Exchange", name := "<init>", desc := "(I)V" } : Jvm.MethodName)) ∈ tb_G := tb_4 31 rfl rfl
theorem tw_799 : (Jvm.Cond.classLink "RouteDesk" (69 : Nat) "java/lang/IllegalStateException") ∈ tb_G := tb_4 44 rfl rfl
theorem tw_809 : (Jvm.Cond.methodLink "RouteDesk" (73 : Nat) ({ cls := "java/lang/IllegalStateException", name := "<init>", desc := "(Ljava/lang/String;)V" } : Jvm.MethodName)) ∈ tb_G := tb_4 54 rfl rfl
theorem tw_789 : (Jvm.Cond.methodLink "RouteDesk$Exchange" (3 : Nat) ({ cls := "java/lang/Object", name := "<init>", desc := "()V" } : Jvm.MethodName)) ∈ tb_G := tb_4 34 rfl rfl
theorem tw_792 : (Jvm.Cond.fieldLink "RouteDesk$Exchange" (9 : Nat) "RouteDesk$Exchange" "other" "I") ∈ tb_G := tb_4 37 rfl rfl
theorem tw_790 : (Jvm.Cond.fieldLink "RouteDesk$Exchange" (15 : Nat) "RouteDesk$Exchange" "sort" "I") ∈ tb_G := tb_4 35 rfl rfl
theorem tw_818 : (Jvm.Cond.methodLink "RouteDeskLaw" (17 : Nat) ({ cls := "RouteDesk", name := "queue", desc := "()I" } : Jvm.MethodName)) ∈ tb_G := tb_4 63 rfl rfl
theorem tw_826 : (Jvm.Cond.methodLink "RouteDeskLaw" (21 : Nat) ({ cls := "RouteDesk", name := "bind", desc := "(IIZ)Z" } : Jvm.MethodName)) ∈ tb_G := tb_4 71 rfl rfl
theorem tw_831 : (Jvm.Cond.methodLink "RouteDesk" (115 : Nat) ({ cls := "RouteDesk", name := "isTextFor", desc := "(ILjava/lang/String;)Z" } : Jvm.MethodName)) ∈ tb_G := tb_4 76 rfl rfl
theorem tw_867 : (Jvm.Cond.methodLink "RouteDesk" (127 : Nat) ({ cls := "RouteDesk$Binding", name := "<init>", desc := "(IIZLjava/lang/String;)V" } : Jvm.MethodName)) ∈ tb_G := tb_4 112 rfl rfl
theorem tw_888 : (Jvm.Cond.methodLink "RouteDesk" (130 : Nat) ({ cls := "java/util/ArrayList", name := "add", desc := "(Ljava/lang/Object;)Z" } : Jvm.MethodName)) ∈ tb_G := tb_4 133 rfl rfl
theorem tw_834 : (Jvm.Cond.methodLink "RouteDesk" (222 : Nat) ({ cls := "java/lang/String", name := "isEmpty", desc := "()Z" } : Jvm.MethodName)) ∈ tb_G := tb_4 79 rfl rfl
theorem tw_838 : (Jvm.Cond.methodLink "RouteDesk" (226 : Nat) ({ cls := "RouteDesk$Pattern", name := "isPattern", desc := "(Ljava/lang/String;)Z" } : Jvm.MethodName)) ∈ tb_G := tb_4 83 rfl rfl
theorem tw_850 : (Jvm.Cond.methodLink "RouteDesk" (232 : Nat) ({ cls := "RouteDesk$HeaderText", name := "isRule", desc := "(Ljava/lang/String;)Z" } : Jvm.MethodName)) ∈ tb_G := tb_4 95 rfl rfl
theorem tw_841 : (Jvm.Cond.methodLink "RouteDesk$Pattern" (7 : Nat) ({ cls := "java/lang/String", name := "length", desc := "()I" } : Jvm.MethodName)) ∈ tb_G := tb_4 86 rfl rfl
theorem tw_842 : (Jvm.Cond.methodLink "RouteDesk$Pattern" (15 : Nat) ({ cls := "RouteDesk$Texts", name := "isPartEnd", desc := "(Ljava/lang/String;IC)Z" } : Jvm.MethodName)) ∈ tb_G := tb_4 87 rfl rfl
theorem tw_846 : (Jvm.Cond.methodLink "RouteDesk$Pattern" (21 : Nat) ({ cls := "RouteDesk$Pattern", name := "hasWildSign", desc := "(Ljava/lang/String;II)Z" } : Jvm.MethodName)) ∈ tb_G := tb_4 91 rfl rfl
theorem tw_845 : (Jvm.Cond.methodLink "RouteDesk$Texts" (13 : Nat) ({ cls := "java/lang/String", name := "length", desc := "()I" } : Jvm.MethodName)) ∈ tb_G := tb_4 90 rfl rfl
theorem tw_849 : (Jvm.Cond.methodLink "RouteDesk$Pattern" (54 : Nat) ({ cls := "RouteDesk$Texts", name := "find", desc := "(Ljava/lang/String;CII)I" } : Jvm.MethodName)) ∈ tb_G := tb_4 94 rfl rfl
theorem tw_854 : (Jvm.Cond.methodLink "RouteDesk$HeaderText" (24 : Nat) ({ cls := "RouteDesk$Texts", name := "beginsWith", desc := "(Ljava/lang/String;Ljava/lang/String;)Z" } : Jvm.MethodName)) ∈ tb_G := tb_4 99 rfl rfl
theorem tw_861 : (Jvm.Cond.methodLink "RouteDesk$HeaderText" (30 : Nat) ({ cls := "RouteDesk$Texts", name := "isPartEnd", desc := "(Ljava/lang/String;IC)Z" } : Jvm.MethodName)) ∈ tb_G := tb_4 106 rfl rfl
theorem tw_862 : (Jvm.Cond.methodLink "RouteDesk$HeaderText" (34 : Nat) ({ cls := "java/lang/String", name := "length", desc := "()I" } : Jvm.MethodName)) ∈ tb_G := tb_4 107 rfl rfl
theorem tw_863 : (Jvm.Cond.methodLink "RouteDesk$HeaderText" (40 : Nat) ({ cls := "RouteDesk$HeaderText", name := "isPair", desc := "(Ljava/lang/String;IIZ)Z" } : Jvm.MethodName)) ∈ tb_G := tb_4 108 rfl rfl
theorem tw_857 : (Jvm.Cond.methodLink "RouteDesk$Texts" (17 : Nat) ({ cls := "RouteDesk$Texts", name := "isSame", desc := "(Ljava/lang/String;IILjava/lang/String;II)Z" } : Jvm.MethodName)) ∈ tb_G := tb_4 102 rfl rfl
theorem tw_870 : (Jvm.Cond.methodLink "RouteDesk$Binding" (1 : Nat) ({ cls := "java/lang/Object", name := "<init>", desc := "()V" } : Jvm.MethodName)) ∈ tb_G := tb_4 115 rfl rfl
theorem tw_871 : (Jvm.Cond.fieldLink "RouteDesk$Binding" (7 : Nat) "RouteDesk$Binding" "from" "I") ∈ tb_G := tb_4 116 rfl rfl
theorem tw_877 : (Jvm.Cond.fieldLink "RouteDesk$Binding" (20 : Nat) "RouteDesk$Binding" "text" "Ljava/lang/String;") ∈ tb_G := tb_4 122 rfl rfl
theorem tw_892 : (Jvm.Cond.methodLink "RouteDeskLaw" (25 : Nat) ({ cls := "RouteDesk", name := "route", desc := "(I)I" } : Jvm.MethodName)) ∈ tb_G := tb_4 137 rfl rfl
theorem tw_897 : (Jvm.Cond.methodLink "RouteDesk" (162 : Nat) ({ cls := "RouteDesk$Routing", name := "startAt", desc := "(I)V" } : Jvm.MethodName)) ∈ tb_G := tb_4 142 rfl rfl
theorem tw_905 : (Jvm.Cond.methodLink "RouteDesk" (172 : Nat) ({ cls := "RouteDesk", name := "leadOn", desc := "(I)V" } : Jvm.MethodName)) ∈ tb_G := tb_4 150 rfl rfl
theorem tw_901 : (Jvm.Cond.methodLink "RouteDesk$Routing" (29 : Nat) ({ cls := "RouteDesk$Routing", name := "markPassed", desc := "(I)V" } : Jvm.MethodName)) ∈ tb_G := tb_4 146 rfl rfl
theorem tw_909 : (Jvm.Cond.methodLink "RouteDesk" (242 : Nat) ({ cls := "RouteDesk", name := "isMet", desc := "(ILjava/lang/String;)Z" } : Jvm.MethodName)) ∈ tb_G := tb_4 154 rfl rfl
theorem tw_943 : (Jvm.Cond.methodLink "RouteDesk" (245 : Nat) ({ cls := "RouteDesk", name := "follow", desc := "(LRouteDesk$Binding;)V" } : Jvm.MethodName)) ∈ tb_G := tb_4 188 rfl rfl
theorem tw_951 : (Jvm.Cond.methodLink "RouteDesk" (249 : Nat) ({ cls := "RouteDesk$Routing", name := "markPassed", desc := "(I)V" } : Jvm.MethodName)) ∈ tb_G := tb_4 196 rfl rfl
theorem tw_913 : (Jvm.Cond.methodLink "RouteDesk" (235 : Nat) ({ cls := "RouteDesk$Pattern", name := "isLike", desc := "(Ljava/lang/String;Ljava/lang/String;)Z" } : Jvm.MethodName)) ∈ tb_G := tb_4 158 rfl rfl
theorem tw_933 : (Jvm.Cond.methodLink "RouteDesk" (238 : Nat) ({ cls := "RouteDesk$HeaderText", name := "isRuleMet", desc := "(Ljava/lang/String;LRouteDesk$Message;)Z" } : Jvm.MethodName)) ∈ tb_G := tb_4 178 rfl rfl
theorem tw_916 : (Jvm.Cond.methodLink "RouteDesk$Pattern" (25 : Nat) ({ cls := "RouteDesk$Pattern", name := "isJust", desc := "(Ljava/lang/String;IIC)Z" } : Jvm.MethodName)) ∈ tb_G := tb_4 161 rfl rfl
theorem tw_920 : (Jvm.Cond.methodLink "RouteDesk$Pattern" (29 : Nat) ({ cls := "RouteDesk$Pattern", name := "afterAnyWords", desc := "(J)J" } : Jvm.MethodName)) ∈ tb_G := tb_4 165 rfl rfl
theorem tw_926 : (Jvm.Cond.methodLink "RouteDesk$Pattern" (33 : Nat) ({ cls := "RouteDesk$Pattern", name := "afterOneWord", desc := "(JLjava/lang/String;IILjava/lang/String;)J" } : Jvm.MethodName)) ∈ tb_G := tb_4 171 rfl rfl
theorem tw_930 : (Jvm.Cond.methodLink "RouteDesk$Pattern" (37 : Nat) ({ cls := "RouteDesk$Pattern", name := "countWords", desc := "(Ljava/lang/String;)I" } : Jvm.MethodName)) ∈ tb_G := tb_4 175 rfl rfl
theorem tw_919 : (Jvm.Cond.methodLink "RouteDesk$Pattern" (50 : Nat) ({ cls := "java/lang/String", name := "charAt", desc := "(I)C" } : Jvm.MethodName)) ∈ tb_G := tb_4 164 rfl rfl
theorem tw_923 : (Jvm.Cond.methodLink "RouteDesk$Pattern" (41 : Nat) ({ cls := "java/lang/Long", name := "lowestOneBit", desc := "(J)J" } : Jvm.MethodName)) ∈ tb_G := tb_4 168 rfl rfl
theorem tw_929 : (Jvm.Cond.methodLink "RouteDesk$Pattern" (46 : Nat) ({ cls := "RouteDesk$Texts", name := "isSame", desc := "(Ljava/lang/String;IILjava/lang/String;II)Z" } : Jvm.MethodName)) ∈ tb_G := tb_4 174 rfl rfl
theorem tw_936 : (Jvm.Cond.methodLink "RouteDesk$HeaderText" (44 : Nat) ({ cls := "RouteDesk$HeaderText", name := "isNameMet", desc := "(Ljava/lang/String;IILRouteDesk$Message;)Z" } : Jvm.MethodName)) ∈ tb_G := tb_4 181 rfl rfl
theorem tw_939 : (Jvm.Cond.methodLink "RouteDesk$HeaderText" (54 : Nat) ({ cls := "java/util/ArrayList", name := "size", desc := "()I" } : Jvm.MethodName)) ∈ tb_G := tb_4 184 rfl rfl
theorem tw_940 : (Jvm.Cond.methodLink "RouteDesk$HeaderText" (59 : Nat) ({ cls := "java/util/ArrayList", name := "get", desc := "(I)Ljava/lang/Object;" } : Jvm.MethodName)) ∈ tb_G := tb_4 185 rfl rfl
theorem tw_941 : (Jvm.Cond.classLink "RouteDesk$HeaderText" (63 : Nat) "RouteDesk$Header") ∈ tb_G := tb_4 186 rfl rfl
theorem tw_942 : (Jvm.Cond.methodLink "RouteDesk$HeaderText" (69 : Nat) ({ cls := "RouteDesk$Texts", name := "isSame", desc := "(Ljava/lang/String;IILjava/lang/String;II)Z" } : Jvm.MethodName)) ∈ tb_G := tb_4 187 rfl rfl
theorem tw_947 : (Jvm.Cond.methodLink "RouteDesk" (259 : Nat) ({ cls := "RouteDesk$Routing", name := "markFound", desc := "(I)V" } : Jvm.MethodName)) ∈ tb_G := tb_4 192 rfl rfl
theorem tw_956 : (Jvm.Cond.methodLink "RouteDeskLaw" (28 : Nat) ({ cls := "RouteDesk", name := "found", desc := "(I)I" } : Jvm.MethodName)) ∈ tb_G := tb_4 201 rfl rfl
theorem tw_960 : (Jvm.Cond.methodLink "RouteDesk" (178 : Nat) ({ cls := "RouteDesk$Routing", name := "foundAt", desc := "(I)I" } : Jvm.MethodName)) ∈ tb_G := tb_4 205 rfl rfl
theorem tw_964 : (Jvm.Cond.classLink "RouteDesk" (182 : Nat) "java/util/NoSuchElementException") ∈ tb_G := tb_4 209 rfl rfl
theorem tw_974 : (Jvm.Cond.methodLink "RouteDesk" (186 : Nat) ({ cls := "java/util/NoSuchElementException", name := "<init>", desc := "(Ljava/lang/String;)V" } : Jvm.MethodName)) ∈ tb_G := tb_4 219 rfl rfl
theorem tw_985 : (Jvm.Cond.methodLink "RouteDeskModel" (1 : Nat) ({ cls := "java/lang/Object", name := "<init>", desc := "()V" } : Jvm.MethodName)) ∈ tb_G := tb_4 230 rfl rfl
theorem tw_987 : (Jvm.Cond.fieldLink "RouteDeskModel" (7 : Nat) "RouteDeskModel" "tape" "[I") ∈ tb_G := tb_4 232 rfl rfl
theorem tw_989 : (Jvm.Cond.fieldLink "RouteDeskModel" (13 : Nat) "RouteDeskModel" "sort" "[I") ∈ tb_G := tb_4 234 rfl rfl
theorem tw_990 : (Jvm.Cond.fieldLink "RouteDeskModel" (16 : Nat) "RouteDeskModel" "other" "[I") ∈ tb_G := tb_4 235 rfl rfl
theorem tw_991 : (Jvm.Cond.fieldLink "RouteDeskModel" (19 : Nat) "RouteDeskModel" "queue" "[Z") ∈ tb_G := tb_4 236 rfl rfl
theorem tw_993 : (Jvm.Cond.fieldLink "RouteDeskModel" (23 : Nat) "RouteDeskModel" "from" "[I") ∈ tb_G := tb_4 238 rfl rfl
theorem tw_994 : (Jvm.Cond.fieldLink "RouteDeskModel" (26 : Nat) "RouteDeskModel" "to" "[I") ∈ tb_G := tb_4 239 rfl rfl
theorem tw_995 : (Jvm.Cond.fieldLink "RouteDeskModel" (29 : Nat) "RouteDeskModel" "size" "[I") ∈ tb_G := tb_5 0 rfl rfl
theorem tw_996 : (Jvm.Cond.fieldLink "RouteDeskModel" (32 : Nat) "RouteDeskModel" "text" "[I") ∈ tb_G := tb_5 1 rfl rfl
theorem tw_997 : (Jvm.Cond.fieldLink "RouteDeskModel" (35 : Nat) "RouteDeskModel" "key" "[I") ∈ tb_G := tb_5 2 rfl rfl
theorem tw_1000 : (Jvm.Cond.fieldLink "RouteDeskModel" (38 : Nat) "RouteDeskModel" "headerName" "[J") ∈ tb_G := tb_5 5 rfl rfl
theorem tw_1001 : (Jvm.Cond.fieldLink "RouteDeskModel" (42 : Nat) "RouteDeskModel" "headerValue" "[J") ∈ tb_G := tb_5 6 rfl rfl
theorem tw_1002 : (Jvm.Cond.fieldLink "RouteDeskModel" (45 : Nat) "RouteDeskModel" "found" "[Z") ∈ tb_G := tb_5 7 rfl rfl
theorem tw_1003 : (Jvm.Cond.fieldLink "RouteDeskModel" (48 : Nat) "RouteDeskModel" "passed" "[Z") ∈ tb_G := tb_5 8 rfl rfl
theorem tw_1005 : (Jvm.Cond.fieldLink "RouteDeskModel" (51 : Nat) "RouteDeskModel" "like" "[Z") ∈ tb_G := tb_5 10 rfl rfl
theorem tw_1006 : (Jvm.Cond.fieldLink "RouteDeskModel" (54 : Nat) "RouteDeskModel" "patternFrom" "[I") ∈ tb_G := tb_5 11 rfl rfl
theorem tw_1007 : (Jvm.Cond.fieldLink "RouteDeskModel" (57 : Nat) "RouteDeskModel" "keyFrom" "[I") ∈ tb_G := tb_5 12 rfl rfl
theorem tw_986 : (Jvm.Cond.fieldLink "RouteDeskModel" (60 : Nat) "RouteDeskModel" "thrown" "I") ∈ tb_G := tb_4 231 rfl rfl
theorem tw_988 : (Jvm.Cond.fieldLink "RouteDeskModel" (64 : Nat) "RouteDeskModel" "taped" "I") ∈ tb_G := tb_4 233 rfl rfl
theorem tw_1062 : (Jvm.Cond.constantLong "RouteDeskModel" (67 : Nat) (255 : Int64)) ∈ tb_G := tb_5 67 rfl rfl
theorem tw_1067 : (Jvm.Cond.methodLink "RouteDeskModel" (69 : Nat) ({ cls := "RouteDeskModel", name := "raise", desc := "(I)I" } : Jvm.MethodName)) ∈ tb_G := tb_5 72 rfl rfl
theorem tw_1075 : (Jvm.Cond.methodLink "RouteDeskModel" (73 : Nat) ({ cls := "RouteDeskModel", name := "isExchange", desc := "(I)Z" } : Jvm.MethodName)) ∈ tb_G := tb_5 80 rfl rfl
theorem tw_1087 : (Jvm.Cond.methodLink "RouteDeskModel" (80 : Nat) ({ cls := "RouteDeskModel", name := "isQueue", desc := "(I)Z" } : Jvm.MethodName)) ∈ tb_G := tb_5 92 rfl rfl
theorem tw_992 : (Jvm.Cond.fieldLink "RouteDeskModel" (77 : Nat) "RouteDeskModel" "bindings" "I") ∈ tb_G := tb_4 237 rfl rfl
theorem tw_1091 : (Jvm.Cond.methodLink "RouteDeskModel" (83 : Nat) ({ cls := "RouteDeskModel", name := "drop", desc := "(I)V" } : Jvm.MethodName)) ∈ tb_G := tb_5 96 rfl rfl
theorem tw_1099 : (Jvm.Cond.methodLink "RouteDeskModel" (112 : Nat) ({ cls := "RouteDeskModel", name := "isGoal", desc := "(IZ)Z" } : Jvm.MethodName)) ∈ tb_G := tb_5 104 rfl rfl
theorem tw_1103 : (Jvm.Cond.methodLink "RouteDeskModel" (116 : Nat) ({ cls := "RouteDeskModel", name := "isText", desc := "(I)Z" } : Jvm.MethodName)) ∈ tb_G := tb_5 108 rfl rfl
theorem tw_1130 : (Jvm.Cond.methodLink "RouteDeskModel" (119 : Nat) ({ cls := "RouteDeskModel", name := "find", desc := "(II)I" } : Jvm.MethodName)) ∈ tb_G := tb_5 135 rfl rfl
theorem tw_1107 : (Jvm.Cond.methodLink "RouteDeskModel" (105 : Nat) ({ cls := "RouteDeskModel", name := "isPattern", desc := "()Z" } : Jvm.MethodName)) ∈ tb_G := tb_5 112 rfl rfl
theorem tw_1111 : (Jvm.Cond.methodLink "RouteDeskModel" (109 : Nat) ({ cls := "RouteDeskModel", name := "isHeaders", desc := "()Z" } : Jvm.MethodName)) ∈ tb_G := tb_5 116 rfl rfl
theorem tw_1004 : (Jvm.Cond.fieldLink "RouteDeskModel" (90 : Nat) "RouteDeskModel" "at" "I") ∈ tb_G := tb_5 9 rfl rfl
theorem tw_1115 : (Jvm.Cond.methodLink "RouteDeskModel" (98 : Nat) ({ cls := "RouteDeskModel", name := "readName", desc := "(I)J" } : Jvm.MethodName)) ∈ tb_G := tb_5 120 rfl rfl
theorem tw_1122 : (Jvm.Cond.constantLong "RouteDeskModel" (93 : Nat) (-1 : Int64)) ∈ tb_G := tb_5 127 rfl rfl
theorem tw_1123 : (Jvm.Cond.methodLink "RouteDeskModel" (102 : Nat) ({ cls := "RouteDeskModel", name := "readValue", desc := "(I)J" } : Jvm.MethodName)) ∈ tb_G := tb_5 128 rfl rfl
theorem tw_1119 : (Jvm.Cond.methodLink "RouteDeskModel" (87 : Nat) ({ cls := "RouteDeskModel", name := "isSmall", desc := "(I)Z" } : Jvm.MethodName)) ∈ tb_G := tb_5 124 rfl rfl
theorem tw_1127 : (Jvm.Cond.methodLink "RouteDeskModel" (95 : Nat) ({ cls := "RouteDeskModel", name := "isPart", desc := "(I)Z" } : Jvm.MethodName)) ∈ tb_G := tb_5 132 rfl rfl
theorem tw_998 : (Jvm.Cond.fieldLink "RouteDeskModel" (123 : Nat) "RouteDeskModel" "keySize" "I") ∈ tb_G := tb_5 3 rfl rfl
theorem tw_999 : (Jvm.Cond.fieldLink "RouteDeskModel" (126 : Nat) "RouteDeskModel" "headers" "I") ∈ tb_G := tb_5 4 rfl rfl
theorem tw_1146 : (Jvm.Cond.methodLink "RouteDeskModel" (129 : Nat) ({ cls := "RouteDeskModel", name := "headerOf", desc := "(J)I" } : Jvm.MethodName)) ∈ tb_G := tb_5 151 rfl rfl
theorem tw_1154 : (Jvm.Cond.methodLink "RouteDeskModel" (146 : Nat) ({ cls := "RouteDeskModel", name := "goOn", desc := "(I)Z" } : Jvm.MethodName)) ∈ tb_G := tb_5 159 rfl rfl
theorem tw_1158 : (Jvm.Cond.methodLink "RouteDeskModel" (149 : Nat) ({ cls := "RouteDeskModel", name := "leads", desc := "(I)Z" } : Jvm.MethodName)) ∈ tb_G := tb_5 163 rfl rfl
theorem tw_1162 : (Jvm.Cond.methodLink "RouteDeskModel" (137 : Nat) ({ cls := "RouteDeskModel", name := "isDirect", desc := "(I)Z" } : Jvm.MethodName)) ∈ tb_G := tb_5 167 rfl rfl
theorem tw_1166 : (Jvm.Cond.methodLink "RouteDeskModel" (140 : Nat) ({ cls := "RouteDeskModel", name := "isTopic", desc := "(I)Z" } : Jvm.MethodName)) ∈ tb_G := tb_5 171 rfl rfl
theorem tw_1174 : (Jvm.Cond.methodLink "RouteDeskModel" (143 : Nat) ({ cls := "RouteDeskModel", name := "isMet", desc := "(I)Z" } : Jvm.MethodName)) ∈ tb_G := tb_5 179 rfl rfl
theorem tw_1170 : (Jvm.Cond.methodLink "RouteDeskModel" (133 : Nat) ({ cls := "RouteDeskModel", name := "isWord", desc := "(III)Z" } : Jvm.MethodName)) ∈ tb_G := tb_5 175 rfl rfl
theorem tw_81 : (Jvm.Cond.methodLink "java/lang/StringBuilder" (1 : Nat) ({ cls := "java/lang/AbstractStringBuilder", name := "<init>", desc := "(I)V" } : Jvm.MethodName)) ∈ tb_G := tb_1 46 rfl rfl
theorem tw_84 : (Jvm.Cond.methodLink "java/lang/AbstractStringBuilder" (3 : Nat) ({ cls := "java/lang/Object", name := "<init>", desc := "()V" } : Jvm.MethodName)) ∈ tb_G := tb_1 49 rfl rfl
theorem tw_85 : (Jvm.Cond.fieldLink "java/lang/AbstractStringBuilder" (18 : Nat) "java/lang/String" "COMPACT_STRINGS" "Z") ∈ tb_G := tb_1 50 rfl rfl
theorem tw_94 : (Jvm.Cond.fieldLink "java/lang/AbstractStringBuilder" (15 : Nat) "java/lang/AbstractStringBuilder" "value" "[B") ∈ tb_G := tb_1 59 rfl rfl
theorem tw_95 : (Jvm.Cond.fieldLink "java/lang/AbstractStringBuilder" (22 : Nat) "java/lang/AbstractStringBuilder" "coder" "B") ∈ tb_G := tb_1 60 rfl rfl
theorem tw_87 : (Jvm.Cond.methodLink "java/lang/AbstractStringBuilder" (26 : Nat) ({ cls := "java/lang/StringUTF16", name := "newBytesFor", desc := "(I)[B" } : Jvm.MethodName)) ∈ tb_G := tb_1 52 rfl rfl
theorem tw_221 : (Jvm.Cond.methodLink "java/lang/StringBuilder" (50 : Nat) ({ cls := "java/lang/AbstractStringBuilder", name := "append", desc := "(C)Ljava/lang/AbstractStringBuilder;" } : Jvm.MethodName)) ∈ tb_G := tb_1 186 rfl rfl
theorem tw_98 : (Jvm.Cond.fieldLink "java/lang/AbstractStringBuilder" (79 : Nat) "java/lang/AbstractStringBuilder" "count" "I") ∈ tb_G := tb_1 63 rfl rfl
theorem tw_224 : (Jvm.Cond.methodLink "java/lang/AbstractStringBuilder" (100 : Nat) ({ cls := "java/lang/AbstractStringBuilder", name := "ensureCapacityInternal", desc := "(I)V" } : Jvm.MethodName)) ∈ tb_G := tb_1 189 rfl rfl
theorem tw_259 : (Jvm.Cond.methodLink "java/lang/AbstractStringBuilder" (83 : Nat) ({ cls := "java/lang/AbstractStringBuilder", name := "isLatin1", desc := "()Z" } : Jvm.MethodName)) ∈ tb_G := tb_1 224 rfl rfl
theorem tw_264 : (Jvm.Cond.methodLink "java/lang/AbstractStringBuilder" (191 : Nat) ({ cls := "java/lang/StringLatin1", name := "canEncode", desc := "(C)Z" } : Jvm.MethodName)) ∈ tb_G := tb_1 229 rfl rfl
theorem tw_267 : (Jvm.Cond.methodLink "java/lang/AbstractStringBuilder" (195 : Nat) ({ cls := "java/lang/AbstractStringBuilder", name := "inflate", desc := "()V" } : Jvm.MethodName)) ∈ tb_G := tb_1 232 rfl rfl
theorem tw_300 : (Jvm.Cond.methodLink "java/lang/AbstractStringBuilder" (197 : Nat) ({ cls := "java/lang/StringUTF16", name := "putCharSB", desc := "([BII)V" } : Jvm.MethodName)) ∈ tb_G := tb_2 25 rfl rfl
theorem tw_228 : (Jvm.Cond.methodLink "java/lang/AbstractStringBuilder" (104 : Nat) ({ cls := "java/lang/AbstractStringBuilder", name := "newCapacity", desc := "(I)I" } : Jvm.MethodName)) ∈ tb_G := tb_1 193 rfl rfl
theorem tw_243 : (Jvm.Cond.methodLink "java/lang/AbstractStringBuilder" (108 : Nat) ({ cls := "java/util/Arrays", name := "copyOf", desc := "([BI)[B" } : Jvm.MethodName)) ∈ tb_G := tb_1 208 rfl rfl
theorem tw_232 : (Jvm.Cond.methodLink "java/lang/AbstractStringBuilder" (114 : Nat) ({ cls := "jdk/internal/util/ArraysSupport", name := "newLength", desc := "(III)I" } : Jvm.MethodName)) ∈ tb_G := tb_1 197 rfl rfl
theorem tw_242 : (Jvm.Cond.constant "java/lang/AbstractStringBuilder" (39 : Nat) (2147483647 : Int32)) ∈ tb_G := tb_1 207 rfl rfl
theorem tw_235 : (Jvm.Cond.methodLink "jdk/internal/util/ArraysSupport" (194 : Nat) ({ cls := "java/lang/Math", name := "max", desc := "(II)I" } : Jvm.MethodName)) ∈ tb_G := tb_1 200 rfl rfl
theorem tw_238 : (Jvm.Cond.constant "jdk/internal/util/ArraysSupport" (200 : Nat) (2147483639 : Int32)) ∈ tb_G := tb_1 203 rfl rfl
theorem tw_239 : (Jvm.Cond.methodLink "jdk/internal/util/ArraysSupport" (201 : Nat) ({ cls := "jdk/internal/util/ArraysSupport", name := "hugeLength", desc := "(II)I" } : Jvm.MethodName)) ∈ tb_G := tb_1 204 rfl rfl
theorem tw_246 : (Jvm.Cond.methodLink "java/util/Arrays" (310 : Nat) ({ cls := "[B", name := "clone", desc := "()Ljava/lang/Object;" } : Jvm.MethodName)) ∈ tb_G := tb_1 211 rfl rfl
theorem tw_252 : (Jvm.Cond.classLink "java/util/Arrays" (311 : Nat) "[B") ∈ tb_G := tb_1 217 rfl rfl
theorem tw_253 : (Jvm.Cond.methodLink "java/util/Arrays" (304 : Nat) ({ cls := "java/lang/Math", name := "min", desc := "(II)I" } : Jvm.MethodName)) ∈ tb_G := tb_1 218 rfl rfl
theorem tw_256 : (Jvm.Cond.methodLink "java/util/Arrays" (150 : Nat) ({ cls := "java/lang/System", name := "arraycopy", desc := "(Ljava/lang/Object;ILjava/lang/Object;II)V" } : Jvm.MethodName)) ∈ tb_G := tb_1 221 rfl rfl
theorem tw_720 : (Jvm.Cond.methodLink "java/util/Arrays" (86 : Nat) ({ cls := "java/lang/Object", name := "getClass", desc := "()Ljava/lang/Class;" } : Jvm.MethodName)) ∈ tb_G := tb_3 205 rfl rfl
theorem tw_737 : (Jvm.Cond.methodLink "java/util/Arrays" (300 : Nat) ({ cls := "java/util/Arrays", name := "copyOf", desc := "([Ljava/lang/Object;ILjava/lang/Class;)[Ljava/lang/Object;" } : Jvm.MethodName)) ∈ tb_G := tb_3 222 rfl rfl
theorem tw_740 : (Jvm.Cond.classLink "java/util/Arrays" (110 : Nat) "[Ljava/lang/Object;") ∈ tb_G := tb_3 225 rfl rfl
theorem tw_742 : (Jvm.Cond.classLink "java/util/Arrays" (2 : Nat) "java/lang/Object") ∈ tb_G := tb_3 227 rfl rfl
theorem tw_370 : (Jvm.Cond.classLink "java/lang/StringBuilder" (18 : Nat) "java/lang/String") ∈ tb_G := tb_2 95 rfl rfl
theorem tw_372 : (Jvm.Cond.methodLink "java/lang/StringBuilder" (137 : Nat) ({ cls := "java/lang/String", name := "<init>", desc := "(Ljava/lang/StringBuilder;)V" } : Jvm.MethodName)) ∈ tb_G := tb_2 97 rfl rfl
theorem tw_375 : (Jvm.Cond.methodLink "java/lang/String" (489 : Nat) ({ cls := "java/lang/String", name := "<init>", desc := "(Ljava/lang/AbstractStringBuilder;Ljava/lang/Void;)V" } : Jvm.MethodName)) ∈ tb_G := tb_2 100 rfl rfl
theorem tw_378 : (Jvm.Cond.methodLink "java/lang/String" (1 : Nat) ({ cls := "java/lang/Object", name := "<init>", desc := "()V" } : Jvm.MethodName)) ∈ tb_G := tb_2 103 rfl rfl
theorem tw_379 : (Jvm.Cond.methodLink "java/lang/String" (552 : Nat) ({ cls := "java/lang/AbstractStringBuilder", name := "getValue", desc := "()[B" } : Jvm.MethodName)) ∈ tb_G := tb_2 104 rfl rfl
theorem tw_384 : (Jvm.Cond.methodLink "java/lang/String" (549 : Nat) ({ cls := "java/lang/AbstractStringBuilder", name := "length", desc := "()I" } : Jvm.MethodName)) ∈ tb_G := tb_2 109 rfl rfl
theorem tw_385 : (Jvm.Cond.methodLink "java/lang/String" (1047 : Nat) ({ cls := "java/lang/AbstractStringBuilder", name := "isLatin1", desc := "()Z" } : Jvm.MethodName)) ∈ tb_G := tb_2 110 rfl rfl
theorem tw_551 : (Jvm.Cond.fieldLink "java/lang/String" (15 : Nat) "java/lang/String" "coder" "B") ∈ tb_G := tb_3 36 rfl rfl
