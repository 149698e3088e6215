/-! printed (gen/names.py): words among the good ones -/
theorem tw_386 : (Jvm.Cond.methodLink "java/lang/String" (54 : Nat) ({ cls := "java/util/Arrays", name := "copyOfRange", desc := "([BII)[B" } : Jvm.MethodName)) ∈ tb_G := tb_2 111 rfl rfl
theorem tw_550 : (Jvm.Cond.fieldLink "java/lang/String" (9 : Nat) "java/lang/String" "value" "[B") ∈ tb_G := tb_3 35 rfl rfl
theorem tw_495 : (Jvm.Cond.fieldLink "java/lang/String" (38 : Nat) "java/lang/String" "COMPACT_STRINGS" "Z") ∈ tb_G := tb_2 220 rfl rfl
theorem tw_97 : (Jvm.Cond.fieldLink "java/lang/String" (1048 : Nat) "java/lang/AbstractStringBuilder" "maybeLatin1" "Z") ∈ tb_G := tb_1 62 rfl rfl
theorem tw_537 : (Jvm.Cond.methodLink "java/lang/String" (1051 : Nat) ({ cls := "java/lang/StringUTF16", name := "compress", desc := "([BII)[B" } : Jvm.MethodName)) ∈ tb_G := tb_3 22 rfl rfl
theorem tw_547 : (Jvm.Cond.methodLink "java/lang/String" (47 : Nat) ({ cls := "java/lang/StringUTF16", name := "coderFromArrayLen", desc := "([BI)B" } : Jvm.MethodName)) ∈ tb_G := tb_3 32 rfl rfl
theorem tw_389 : (Jvm.Cond.methodLink "java/util/Arrays" (339 : Nat) ({ cls := "java/util/Arrays", name := "copyOfRangeByte", desc := "([BII)[B" } : Jvm.MethodName)) ∈ tb_G := tb_2 114 rfl rfl
theorem tw_392 : (Jvm.Cond.methodLink "java/util/Arrays" (343 : Nat) ({ cls := "java/util/Arrays", name := "checkLength", desc := "(II)V" } : Jvm.MethodName)) ∈ tb_G := tb_2 117 rfl rfl
theorem tw_395 : (Jvm.Cond.classLink "java/util/Arrays" (43 : Nat) "java/lang/IllegalArgumentException") ∈ tb_G := tb_2 120 rfl rfl
theorem tw_436 : (Jvm.Cond.classLink "java/util/Arrays" (45 : Nat) "java/lang/StringBuilder") ∈ tb_G := tb_2 161 rfl rfl
theorem tw_437 : (Jvm.Cond.methodLink "java/util/Arrays" (47 : Nat) ({ cls := "java/lang/StringBuilder", name := "<init>", desc := "()V" } : Jvm.MethodName)) ∈ tb_G := tb_2 162 rfl rfl
theorem tw_438 : (Jvm.Cond.methodLink "java/util/Arrays" (54 : Nat) ({ cls := "java/lang/StringBuilder", name := "append", desc := "(I)Ljava/lang/StringBuilder;" } : Jvm.MethodName)) ∈ tb_G := tb_2 163 rfl rfl
theorem tw_473 : (Jvm.Cond.methodLink "java/util/Arrays" (50 : Nat) ({ cls := "java/lang/StringBuilder", name := "append", desc := "(Ljava/lang/String;)Ljava/lang/StringBuilder;" } : Jvm.MethodName)) ∈ tb_G := tb_2 198 rfl rfl
theorem tw_511 : (Jvm.Cond.methodLink "java/util/Arrays" (61 : Nat) ({ cls := "java/lang/StringBuilder", name := "toString", desc := "()Ljava/lang/String;" } : Jvm.MethodName)) ∈ tb_G := tb_2 236 rfl rfl
theorem tw_512 : (Jvm.Cond.methodLink "java/util/Arrays" (65 : Nat) ({ cls := "java/lang/IllegalArgumentException", name := "<init>", desc := "(Ljava/lang/String;)V" } : Jvm.MethodName)) ∈ tb_G := tb_2 237 rfl rfl
theorem tw_568 : (Jvm.Cond.methodLink "java/lang/AbstractStringBuilder" (133 : Nat) ({ cls := "java/lang/StringLatin1", name := "fillNull", desc := "([BII)V" } : Jvm.MethodName)) ∈ tb_G := tb_3 53 rfl rfl
theorem tw_580 : (Jvm.Cond.methodLink "java/lang/AbstractStringBuilder" (137 : Nat) ({ cls := "java/lang/StringUTF16", name := "fillNull", desc := "([BII)V" } : Jvm.MethodName)) ∈ tb_G := tb_3 65 rfl rfl
theorem tw_96 : (Jvm.Cond.fieldLink "java/lang/AbstractStringBuilder" (73 : Nat) "java/lang/AbstractStringBuilder" "maybeLatin1" "Z") ∈ tb_G := tb_1 61 rfl rfl
theorem tw_565 : (Jvm.Cond.methodLink "java/lang/StringBuilder" (333 : Nat) ({ cls := "java/lang/AbstractStringBuilder", name := "setLength", desc := "(I)V" } : Jvm.MethodName)) ∈ tb_G := tb_3 50 rfl rfl
theorem tw_211 : (Jvm.Cond.methodLink "java/lang/StringBuilder" (343 : Nat) ({ cls := "java/lang/AbstractStringBuilder", name := "length", desc := "()I" } : Jvm.MethodName)) ∈ tb_G := tb_1 176 rfl rfl
theorem tw_491 : (Jvm.Cond.methodLink "java/lang/String" (335 : Nat) ({ cls := "java/lang/String", name := "coder", desc := "()B" } : Jvm.MethodName)) ∈ tb_G := tb_2 216 rfl rfl
theorem tw_623 : (Jvm.Cond.methodLink "java/lang/String" (492 : Nat) ({ cls := "java/lang/String", name := "isLatin1", desc := "()Z" } : Jvm.MethodName)) ∈ tb_G := tb_3 108 rfl rfl
theorem tw_627 : (Jvm.Cond.methodLink "java/lang/String" (495 : Nat) ({ cls := "java/lang/StringLatin1", name := "charAt", desc := "([BI)C" } : Jvm.MethodName)) ∈ tb_G := tb_3 112 rfl rfl
theorem tw_631 : (Jvm.Cond.methodLink "java/lang/String" (498 : Nat) ({ cls := "java/lang/StringUTF16", name := "charAt", desc := "([BI)C" } : Jvm.MethodName)) ∈ tb_G := tb_3 116 rfl rfl
theorem tw_630 : (Jvm.Cond.methodLink "java/lang/StringLatin1" (9 : Nat) ({ cls := "java/lang/String", name := "checkIndex", desc := "(II)V" } : Jvm.MethodName)) ∈ tb_G := tb_3 115 rfl rfl
theorem tw_592 : (Jvm.Cond.classLink "java/lang/String" (10 : Nat) "java/lang/String") ∈ tb_G := tb_3 77 rfl rfl
theorem tw_593 : (Jvm.Cond.methodLink "java/lang/String" (541 : Nat) ({ cls := "java/lang/StringLatin1", name := "equals", desc := "([B[B)Z" } : Jvm.MethodName)) ∈ tb_G := tb_3 78 rfl rfl
theorem tw_652 : (Jvm.Cond.methodLink "java/lang/String" (505 : Nat) ({ cls := "java/lang/String", name := "length", desc := "()I" } : Jvm.MethodName)) ∈ tb_G := tb_3 137 rfl rfl
theorem tw_653 : (Jvm.Cond.methodLink "java/lang/String" (521 : Nat) ({ cls := "java/lang/String", name := "checkBoundsBeginEnd", desc := "(III)V" } : Jvm.MethodName)) ∈ tb_G := tb_3 138 rfl rfl
theorem tw_654 : (Jvm.Cond.methodLink "java/lang/String" (685 : Nat) ({ cls := "java/lang/StringLatin1", name := "newString", desc := "([BII)Ljava/lang/String;" } : Jvm.MethodName)) ∈ tb_G := tb_3 139 rfl rfl
theorem tw_663 : (Jvm.Cond.methodLink "java/lang/String" (689 : Nat) ({ cls := "java/lang/StringUTF16", name := "newString", desc := "([BII)Ljava/lang/String;" } : Jvm.MethodName)) ∈ tb_G := tb_3 148 rfl rfl
theorem tw_286 : (Jvm.Cond.fieldLink "java/lang/String" (1053 : Nat) "jdk/internal/util/Preconditions" "SIOOBE_FORMATTER" "Ljava/util/function/BiFunction;") ∈ tb_G := tb_2 11 rfl rfl
theorem tw_464 : (Jvm.Cond.methodLink "java/lang/String" (1062 : Nat) ({ cls := "jdk/internal/util/Preconditions", name := "checkFromToIndex", desc := "(IIILjava/util/function/BiFunction;)I" } : Jvm.MethodName)) ∈ tb_G := tb_2 189 rfl rfl
theorem tw_658 : (Jvm.Cond.classLink "java/lang/StringLatin1" (1 : Nat) "java/lang/String") ∈ tb_G := tb_3 143 rfl rfl
theorem tw_659 : (Jvm.Cond.methodLink "java/lang/StringLatin1" (232 : Nat) ({ cls := "java/util/Arrays", name := "copyOfRange", desc := "([BII)[B" } : Jvm.MethodName)) ∈ tb_G := tb_3 144 rfl rfl
theorem tw_660 : (Jvm.Cond.methodLink "java/lang/StringLatin1" (112 : Nat) ({ cls := "java/lang/String", name := "<init>", desc := "([BB)V" } : Jvm.MethodName)) ∈ tb_G := tb_3 145 rfl rfl
theorem tw_309 : (Jvm.Cond.methodLink "java/lang/String" (1059 : Nat) ({ cls := "jdk/internal/util/Preconditions", name := "checkIndex", desc := "(IILjava/util/function/BiFunction;)I" } : Jvm.MethodName)) ∈ tb_G := tb_2 34 rfl rfl
theorem tw_339 : (Jvm.Cond.methodLink "java/util/Objects" (105 : Nat) ({ cls := "jdk/internal/util/Preconditions", name := "checkIndex", desc := "(IILjava/util/function/BiFunction;)I" } : Jvm.MethodName)) ∈ tb_G := tb_2 64 rfl rfl
theorem tw_116 : (Jvm.Cond.methodLink "java/util/ArrayList" (1 : Nat) ({ cls := "java/util/AbstractList", name := "<init>", desc := "()V" } : Jvm.MethodName)) ∈ tb_G := tb_1 81 rfl rfl
theorem tw_123 : (Jvm.Cond.fieldLink "java/util/ArrayList" (39 : Nat) "java/util/ArrayList" "DEFAULTCAPACITY_EMPTY_ELEMENTDATA" "[Ljava/lang/Object;") ∈ tb_G := tb_1 88 rfl rfl
theorem tw_125 : (Jvm.Cond.fieldLink "java/util/ArrayList" (9 : Nat) "java/util/ArrayList" "elementData" "[Ljava/lang/Object;") ∈ tb_G := tb_1 90 rfl rfl
theorem tw_128 : (Jvm.Cond.fieldLink "java/util/ArrayList" (63 : Nat) "java/util/ArrayList" "modCount" "I") ∈ tb_G := tb_1 93 rfl rfl
theorem tw_126 : (Jvm.Cond.fieldLink "java/util/ArrayList" (48 : Nat) "java/util/ArrayList" "size" "I") ∈ tb_G := tb_1 91 rfl rfl
theorem tw_704 : (Jvm.Cond.methodLink "java/util/ArrayList" (131 : Nat) ({ cls := "java/util/ArrayList", name := "add", desc := "(Ljava/lang/Object;[Ljava/lang/Object;I)V" } : Jvm.MethodName)) ∈ tb_G := tb_3 189 rfl rfl
theorem tw_708 : (Jvm.Cond.methodLink "java/util/ArrayList" (129 : Nat) ({ cls := "java/util/ArrayList", name := "grow", desc := "()[Ljava/lang/Object;" } : Jvm.MethodName)) ∈ tb_G := tb_3 193 rfl rfl
theorem tw_712 : (Jvm.Cond.methodLink "java/util/ArrayList" (69 : Nat) ({ cls := "java/util/ArrayList", name := "grow", desc := "(I)[Ljava/lang/Object;" } : Jvm.MethodName)) ∈ tb_G := tb_3 197 rfl rfl
theorem tw_716 : (Jvm.Cond.methodLink "java/util/ArrayList" (73 : Nat) ({ cls := "jdk/internal/util/ArraysSupport", name := "newLength", desc := "(III)I" } : Jvm.MethodName)) ∈ tb_G := tb_3 201 rfl rfl
theorem tw_717 : (Jvm.Cond.methodLink "java/util/ArrayList" (66 : Nat) ({ cls := "java/util/Arrays", name := "copyOf", desc := "([Ljava/lang/Object;I)[Ljava/lang/Object;" } : Jvm.MethodName)) ∈ tb_G := tb_3 202 rfl rfl
theorem tw_743 : (Jvm.Cond.methodLink "java/util/ArrayList" (79 : Nat) ({ cls := "java/lang/Math", name := "max", desc := "(II)I" } : Jvm.MethodName)) ∈ tb_G := tb_3 228 rfl rfl
theorem tw_744 : (Jvm.Cond.classLink "java/util/ArrayList" (7 : Nat) "java/lang/Object") ∈ tb_G := tb_3 229 rfl rfl
theorem tw_336 : (Jvm.Cond.methodLink "java/util/ArrayList" (118 : Nat) ({ cls := "java/util/Objects", name := "checkIndex", desc := "(II)I" } : Jvm.MethodName)) ∈ tb_G := tb_2 61 rfl rfl
theorem tw_340 : (Jvm.Cond.methodLink "java/util/ArrayList" (123 : Nat) ({ cls := "java/util/ArrayList", name := "elementData", desc := "(I)Ljava/lang/Object;" } : Jvm.MethodName)) ∈ tb_G := tb_2 65 rfl rfl
theorem tw_353 : (Jvm.Cond.methodLink "java/util/ArrayList" (144 : Nat) ({ cls := "java/util/ArrayList", name := "fastRemove", desc := "([Ljava/lang/Object;I)V" } : Jvm.MethodName)) ∈ tb_G := tb_2 78 rfl rfl
theorem tw_357 : (Jvm.Cond.methodLink "java/util/ArrayList" (112 : Nat) ({ cls := "java/lang/System", name := "arraycopy", desc := "(Ljava/lang/Object;ILjava/lang/Object;II)V" } : Jvm.MethodName)) ∈ tb_G := tb_2 82 rfl rfl
theorem tw_119 : (Jvm.Cond.methodLink "java/util/AbstractList" (1 : Nat) ({ cls := "java/util/AbstractCollection", name := "<init>", desc := "()V" } : Jvm.MethodName)) ∈ tb_G := tb_1 84 rfl rfl
theorem tw_127 : (Jvm.Cond.fieldLink "java/util/AbstractList" (7 : Nat) "java/util/AbstractList" "modCount" "I") ∈ tb_G := tb_1 92 rfl rfl
theorem tw_122 : (Jvm.Cond.methodLink "java/util/AbstractCollection" (1 : Nat) ({ cls := "java/lang/Object", name := "<init>", desc := "()V" } : Jvm.MethodName)) ∈ tb_G := tb_1 87 rfl rfl
theorem tw_68 : (Jvm.Cond.classLink "RouteDeskLaw" (8 : Nat) "RouteDesk") ∈ tb_G := tb_1 33 rfl rfl
theorem tw_70 : (Jvm.Cond.methodLink "RouteDeskLaw" (33 : Nat) ({ cls := "RouteDesk", name := "<init>", desc := "()V" } : Jvm.MethodName)) ∈ tb_G := tb_1 35 rfl rfl
theorem tw_980 : (Jvm.Cond.classLink "RouteDeskLaw" (34 : Nat) "RouteDeskModel") ∈ tb_G := tb_4 225 rfl rfl
theorem tw_982 : (Jvm.Cond.methodLink "RouteDeskLaw" (36 : Nat) ({ cls := "RouteDeskModel", name := "<init>", desc := "()V" } : Jvm.MethodName)) ∈ tb_G := tb_4 227 rfl rfl
theorem tw_1194 : (Jvm.Cond.constantLong "RouteDeskLaw" (37 : Nat) (4294967295 : Int64)) ∈ tb_G := tb_5 199 rfl rfl
theorem tw_203 : (Jvm.Cond.methodLink "RouteDeskLaw" (39 : Nat) ({ cls := "RouteDesk", name := "type", desc := "(JI)Z" } : Jvm.MethodName)) ∈ tb_G := tb_1 168 rfl rfl
theorem tw_1058 : (Jvm.Cond.methodLink "RouteDeskLaw" (43 : Nat) ({ cls := "RouteDeskModel", name := "type", desc := "(JI)Z" } : Jvm.MethodName)) ∈ tb_G := tb_5 63 rfl rfl
theorem tw_773 : (Jvm.Cond.methodLink "RouteDeskLaw" (44 : Nat) ({ cls := "RouteDeskLaw", name := "exchange", desc := "(LRouteDesk;I[J)I" } : Jvm.MethodName)) ∈ tb_G := tb_4 18 rfl rfl
theorem tw_1063 : (Jvm.Cond.methodLink "RouteDeskLaw" (49 : Nat) ({ cls := "RouteDeskModel", name := "exchange", desc := "(I)I" } : Jvm.MethodName)) ∈ tb_G := tb_5 68 rfl rfl
theorem tw_1054 : (Jvm.Cond.methodLink "RouteDeskLaw" (50 : Nat) ({ cls := "RouteDeskModel", name := "thrown", desc := "()I" } : Jvm.MethodName)) ∈ tb_G := tb_5 59 rfl rfl
theorem tw_312 : (Jvm.Cond.methodLink "RouteDeskLaw" (53 : Nat) ({ cls := "RouteDesk", name := "alternate", desc := "(II)Z" } : Jvm.MethodName)) ∈ tb_G := tb_2 37 rfl rfl
theorem tw_1071 : (Jvm.Cond.methodLink "RouteDeskLaw" (57 : Nat) ({ cls := "RouteDeskModel", name := "alternate", desc := "(II)Z" } : Jvm.MethodName)) ∈ tb_G := tb_5 76 rfl rfl
theorem tw_815 : (Jvm.Cond.methodLink "RouteDeskLaw" (58 : Nat) ({ cls := "RouteDeskLaw", name := "queue", desc := "(LRouteDesk;[J)I" } : Jvm.MethodName)) ∈ tb_G := tb_4 60 rfl rfl
theorem tw_1079 : (Jvm.Cond.methodLink "RouteDeskLaw" (61 : Nat) ({ cls := "RouteDeskModel", name := "queue", desc := "()I" } : Jvm.MethodName)) ∈ tb_G := tb_5 84 rfl rfl
theorem tw_320 : (Jvm.Cond.methodLink "RouteDeskLaw" (62 : Nat) ({ cls := "RouteDesk", name := "remove", desc := "(IZ)Z" } : Jvm.MethodName)) ∈ tb_G := tb_2 45 rfl rfl
theorem tw_1083 : (Jvm.Cond.methodLink "RouteDeskLaw" (66 : Nat) ({ cls := "RouteDeskModel", name := "remove", desc := "(IZ)Z" } : Jvm.MethodName)) ∈ tb_G := tb_5 88 rfl rfl
theorem tw_823 : (Jvm.Cond.methodLink "RouteDeskLaw" (67 : Nat) ({ cls := "RouteDeskLaw", name := "bind", desc := "(LRouteDesk;IIZ[J)I" } : Jvm.MethodName)) ∈ tb_G := tb_4 68 rfl rfl
theorem tw_1095 : (Jvm.Cond.methodLink "RouteDeskLaw" (70 : Nat) ({ cls := "RouteDeskModel", name := "bind", desc := "(IIZ)Z" } : Jvm.MethodName)) ∈ tb_G := tb_5 100 rfl rfl
theorem tw_358 : (Jvm.Cond.methodLink "RouteDeskLaw" (71 : Nat) ({ cls := "RouteDesk", name := "unbind", desc := "(IIZ)Z" } : Jvm.MethodName)) ∈ tb_G := tb_2 83 rfl rfl
theorem tw_1134 : (Jvm.Cond.methodLink "RouteDeskLaw" (74 : Nat) ({ cls := "RouteDeskModel", name := "unbind", desc := "(IIZ)Z" } : Jvm.MethodName)) ∈ tb_G := tb_5 139 rfl rfl
theorem tw_596 : (Jvm.Cond.methodLink "RouteDeskLaw" (75 : Nat) ({ cls := "RouteDesk", name := "message", desc := "()V" } : Jvm.MethodName)) ∈ tb_G := tb_3 81 rfl rfl
theorem tw_1138 : (Jvm.Cond.methodLink "RouteDeskLaw" (78 : Nat) ({ cls := "RouteDeskModel", name := "message", desc := "()V" } : Jvm.MethodName)) ∈ tb_G := tb_5 143 rfl rfl
theorem tw_608 : (Jvm.Cond.methodLink "RouteDeskLaw" (79 : Nat) ({ cls := "RouteDesk", name := "header", desc := "()Z" } : Jvm.MethodName)) ∈ tb_G := tb_3 93 rfl rfl
theorem tw_1142 : (Jvm.Cond.methodLink "RouteDeskLaw" (83 : Nat) ({ cls := "RouteDeskModel", name := "header", desc := "()Z" } : Jvm.MethodName)) ∈ tb_G := tb_5 147 rfl rfl
theorem tw_889 : (Jvm.Cond.methodLink "RouteDeskLaw" (84 : Nat) ({ cls := "RouteDeskLaw", name := "route", desc := "(LRouteDesk;I[J)I" } : Jvm.MethodName)) ∈ tb_G := tb_4 134 rfl rfl
theorem tw_1150 : (Jvm.Cond.methodLink "RouteDeskLaw" (86 : Nat) ({ cls := "RouteDeskModel", name := "route", desc := "(I)I" } : Jvm.MethodName)) ∈ tb_G := tb_5 155 rfl rfl
theorem tw_952 : (Jvm.Cond.methodLink "RouteDeskLaw" (87 : Nat) ({ cls := "RouteDeskLaw", name := "found", desc := "(LRouteDesk;I[J)I" } : Jvm.MethodName)) ∈ tb_G := tb_4 197 rfl rfl
theorem tw_1178 : (Jvm.Cond.methodLink "RouteDeskLaw" (89 : Nat) ({ cls := "RouteDeskModel", name := "found", desc := "(I)I" } : Jvm.MethodName)) ∈ tb_G := tb_5 183 rfl rfl
theorem tw_745 : (Jvm.Cond.methodLink "RouteDeskLaw" (90 : Nat) ({ cls := "RouteDesk", name := "passed", desc := "(I)Z" } : Jvm.MethodName)) ∈ tb_G := tb_3 230 rfl rfl
theorem tw_1182 : (Jvm.Cond.methodLink "RouteDeskLaw" (94 : Nat) ({ cls := "RouteDeskModel", name := "passed", desc := "(I)Z" } : Jvm.MethodName)) ∈ tb_G := tb_5 187 rfl rfl
theorem tw_749 : (Jvm.Cond.methodLink "RouteDeskLaw" (95 : Nat) ({ cls := "RouteDesk", name := "of", desc := "(II)I" } : Jvm.MethodName)) ∈ tb_G := tb_3 234 rfl rfl
theorem tw_1186 : (Jvm.Cond.methodLink "RouteDeskLaw" (99 : Nat) ({ cls := "RouteDeskModel", name := "of", desc := "(II)I" } : Jvm.MethodName)) ∈ tb_G := tb_5 191 rfl rfl
theorem tw_761 : (Jvm.Cond.methodLink "RouteDeskLaw" (100 : Nat) ({ cls := "RouteDesk", name := "total", desc := "(I)I" } : Jvm.MethodName)) ∈ tb_G := tb_4 6 rfl rfl
theorem tw_1190 : (Jvm.Cond.methodLink "RouteDeskLaw" (103 : Nat) ({ cls := "RouteDeskModel", name := "total", desc := "(I)I" } : Jvm.MethodName)) ∈ tb_G := tb_5 195 rfl rfl
theorem tw_40 : (Jvm.Cond.initialized "java/lang/StringUTF16") ∈ tb_G := tb_1 5 rfl rfl
theorem tw_48 : (Jvm.Cond.initialized "java/lang/Math") ∈ tb_G := tb_1 13 rfl rfl
theorem tw_50 : (Jvm.Cond.initialized "java/lang/System") ∈ tb_G := tb_1 15 rfl rfl
theorem tw_53 : (Jvm.Cond.initialized "java/lang/Throwable") ∈ tb_G := tb_1 18 rfl rfl
theorem tw_54 : (Jvm.Cond.initialized "java/lang/Exception") ∈ tb_G := tb_1 19 rfl rfl
theorem tw_55 : (Jvm.Cond.initialized "java/lang/RuntimeException") ∈ tb_G := tb_1 20 rfl rfl
theorem tw_56 : (Jvm.Cond.initialized "java/lang/IllegalArgumentException") ∈ tb_G := tb_1 21 rfl rfl
theorem tw_58 : (Jvm.Cond.initialized "java/lang/IllegalStateException") ∈ tb_G := tb_1 23 rfl rfl
theorem tw_60 : (Jvm.Cond.initialized "java/lang/Integer") ∈ tb_G := tb_1 25 rfl rfl
theorem tw_67 : (Jvm.Cond.initialized "java/util/NoSuchElementException") ∈ tb_G := tb_1 32 rfl rfl
theorem tw_69 : (Jvm.Cond.instantiable "RouteDesk" (6 : Nat)) ∈ tb_G := tb_1 34 rfl rfl
theorem tw_77 : (Jvm.Cond.instantiable "java/lang/StringBuilder" (4 : Nat)) ∈ tb_G := tb_1 42 rfl rfl
theorem tw_107 : (Jvm.Cond.superclass "java/lang/StringBuilder" "java/lang/AbstractStringBuilder") ∈ tb_G := tb_1 72 rfl rfl
theorem tw_108 : (Jvm.Cond.arrayClass Jvm.ClassFile.FieldType.byte) ∈ tb_G := tb_1 73 rfl rfl
theorem tw_112 : (Jvm.Cond.instantiable "java/util/ArrayList" (3 : Nat)) ∈ tb_G := tb_1 77 rfl rfl
theorem tw_129 : (Jvm.Cond.sameField "java/util/ArrayList" "java/util/AbstractList" "modCount" "I") ∈ tb_G := tb_1 94 rfl rfl
theorem tw_136 : (Jvm.Cond.superclass "java/util/ArrayList" "java/util/AbstractList") ∈ tb_G := tb_1 101 rfl rfl
theorem tw_137 : (Jvm.Cond.arrayClass Jvm.ClassFile.FieldType.boolean) ∈ tb_G := tb_1 102 rfl rfl
theorem tw_139 : (Jvm.Cond.instantiable "RouteDesk$Message" (2 : Nat)) ∈ tb_G := tb_1 104 rfl rfl
theorem tw_156 : (Jvm.Cond.superclass "RouteDesk$Message" "java/lang/Object") ∈ tb_G := tb_1 121 rfl rfl
theorem tw_158 : (Jvm.Cond.instantiable "RouteDesk$Routing" (5 : Nat)) ∈ tb_G := tb_1 123 rfl rfl
theorem tw_182 : (Jvm.Cond.superclass "RouteDesk$Routing" "java/lang/Object") ∈ tb_G := tb_1 147 rfl rfl
theorem tw_183 : (Jvm.Cond.arrayClass Jvm.ClassFile.FieldType.int) ∈ tb_G := tb_1 148 rfl rfl
theorem tw_202 : (Jvm.Cond.superclass "RouteDesk" "java/lang/Object") ∈ tb_G := tb_1 167 rfl rfl
theorem tw_247 : (Jvm.Cond.sameMethod "[B" "java/lang/Object" "clone" "()Ljava/lang/Object;") ∈ tb_G := tb_1 212 rfl rfl
theorem tw_248 : (Jvm.Cond.native ({ cls := "java/lang/Object", name := "clone", desc := "()Ljava/lang/Object;" } : Jvm.MethodName)) ∈ tb_G := tb_1 213 rfl rfl
theorem tw_258 : (Jvm.Cond.native ({ cls := "java/lang/System", name := "arraycopy", desc := "(Ljava/lang/Object;ILjava/lang/Object;II)V" } : Jvm.MethodName)) ∈ tb_G := tb_1 223 rfl rfl
theorem tw_371 : (Jvm.Cond.instantiable "java/lang/String" (4 : Nat)) ∈ tb_G := tb_2 96 rfl rfl
theorem tw_396 : (Jvm.Cond.instantiable "java/lang/IllegalArgumentException" (6 : Nat)) ∈ tb_G := tb_2 121 rfl rfl
theorem tw_417 : (Jvm.Cond.superclass "java/lang/Throwable" "java/lang/Object") ∈ tb_G := tb_2 142 rfl rfl
theorem tw_427 : (Jvm.Cond.sameMethod "java/lang/Throwable" "java/lang/Throwable" "fillInStackTrace" "()Ljava/lang/Throwable;") ∈ tb_G := tb_2 152 rfl rfl
theorem tw_434 : (Jvm.Cond.instantiable "java/lang/Throwable" (6 : Nat)) ∈ tb_G := tb_2 159 rfl rfl
theorem tw_435 : (Jvm.Cond.native ({ cls := "java/lang/Throwable", name := "fillInStackTrace", desc := "(I)Ljava/lang/Throwable;" } : Jvm.MethodName)) ∈ tb_G := tb_2 160 rfl rfl
theorem tw_536 : (Jvm.Cond.superclass "java/lang/IllegalArgumentException" "java/lang/RuntimeException") ∈ tb_G := tb_3 21 rfl rfl
theorem tw_560 : (Jvm.Cond.superclass "java/lang/String" "java/lang/Object") ∈ tb_G := tb_3 45 rfl rfl
theorem tw_684 : (Jvm.Cond.instantiable "RouteDesk$Header" (2 : Nat)) ∈ tb_G := tb_3 169 rfl rfl
theorem tw_699 : (Jvm.Cond.superclass "RouteDesk$Header" "java/lang/Object") ∈ tb_G := tb_3 184 rfl rfl
theorem tw_722 : (Jvm.Cond.sameMethod "java/lang/Object" "java/lang/Object" "getClass" "()Ljava/lang/Class;") ∈ tb_G := tb_3 207 rfl rfl
theorem tw_736 : (Jvm.Cond.native ({ cls := "java/lang/Object", name := "getClass", desc := "()Ljava/lang/Class;" } : Jvm.MethodName)) ∈ tb_G := tb_3 221 rfl rfl
theorem tw_785 : (Jvm.Cond.instantiable "RouteDesk$Exchange" (2 : Nat)) ∈ tb_G := tb_4 30 rfl rfl
theorem tw_798 : (Jvm.Cond.superclass "RouteDesk$Exchange" "java/lang/Object") ∈ tb_G := tb_4 43 rfl rfl
theorem tw_800 : (Jvm.Cond.instantiable "java/lang/IllegalStateException" (6 : Nat)) ∈ tb_G := tb_4 45 rfl rfl
theorem tw_814 : (Jvm.Cond.superclass "java/lang/IllegalStateException" "java/lang/RuntimeException") ∈ tb_G := tb_4 59 rfl rfl
theorem tw_866 : (Jvm.Cond.instantiable "RouteDesk$Binding" (4 : Nat)) ∈ tb_G := tb_4 111 rfl rfl
theorem tw_887 : (Jvm.Cond.superclass "RouteDesk$Binding" "java/lang/Object") ∈ tb_G := tb_4 132 rfl rfl
theorem tw_965 : (Jvm.Cond.instantiable "java/util/NoSuchElementException" (6 : Nat)) ∈ tb_G := tb_4 210 rfl rfl
theorem tw_979 : (Jvm.Cond.superclass "java/util/NoSuchElementException" "java/lang/RuntimeException") ∈ tb_G := tb_4 224 rfl rfl
theorem tw_981 : (Jvm.Cond.instantiable "RouteDeskModel" (22 : Nat)) ∈ tb_G := tb_4 226 rfl rfl
theorem tw_1052 : (Jvm.Cond.superclass "RouteDeskModel" "java/lang/Object") ∈ tb_G := tb_5 57 rfl rfl
theorem tw_1053 : (Jvm.Cond.arrayClass Jvm.ClassFile.FieldType.long) ∈ tb_G := tb_5 58 rfl rfl
theorem tw_1199 : (Jvm.Cond.sameMethod "java/lang/AbstractStringBuilder" "java/lang/AbstractStringBuilder" "inflate" "()V") ∈ tb_G := tb_5 204 rfl rfl
theorem tw_1201 : (Jvm.Cond.sameMethod "java/lang/Throwable" "java/lang/Throwable" "fillInStackTrace" "(I)Ljava/lang/Throwable;") ∈ tb_G := tb_5 206 rfl rfl
theorem tw_1202 : (Jvm.Cond.sameMethod "java/lang/AbstractStringBuilder" "java/lang/AbstractStringBuilder" "append" "(I)Ljava/lang/AbstractStringBuilder;") ∈ tb_G := tb_5 207 rfl rfl
theorem tw_1203 : (Jvm.Cond.sameMethod "java/lang/AbstractStringBuilder" "java/lang/AbstractStringBuilder" "append" "(Ljava/lang/String;)Ljava/lang/AbstractStringBuilder;") ∈ tb_G := tb_5 208 rfl rfl
theorem tw_1204 : (Jvm.Cond.sameMethod "java/lang/AbstractStringBuilder" "java/lang/AbstractStringBuilder" "appendNull" "()Ljava/lang/AbstractStringBuilder;") ∈ tb_G := tb_5 209 rfl rfl
theorem tw_1205 : (Jvm.Cond.sameMethod "java/lang/AbstractStringBuilder" "java/lang/AbstractStringBuilder" "putStringAt" "(ILjava/lang/String;)V") ∈ tb_G := tb_5 210 rfl rfl
theorem tw_1206 : (Jvm.Cond.sameMethod "java/lang/AbstractStringBuilder" "java/lang/AbstractStringBuilder" "inflateIfNeededFor" "(Ljava/lang/String;)V") ∈ tb_G := tb_5 211 rfl rfl
theorem tw_1210 : (Jvm.Cond.sameMethod "[Ljava/lang/Object;" "java/lang/Object" "getClass" "()Ljava/lang/Class;") ∈ tb_G := tb_5 215 rfl rfl
theorem tw_74 : (Jvm.Cond.instanceMethod ({ cls := "java/lang/Object", name := "<init>", desc := "()V" } : Jvm.MethodName)) ∈ tb_G := tb_1 39 rfl rfl
theorem tw_257 : (Jvm.Cond.static ({ cls := "java/lang/System", name := "arraycopy", desc := "(Ljava/lang/Object;ILjava/lang/Object;II)V" } : Jvm.MethodName)) ∈ tb_G := tb_1 222 rfl rfl
theorem tw_75 : (Jvm.Cond.code ({ cls := "java/lang/Object", name := "<init>", desc := "()V" } : Jvm.MethodName) object_method_1_code (1 : Nat) (Option.none : Option Jvm.ClassFile.FieldType)) ∈ tb_G := tb_1 40 rfl rfl
theorem tw_237 : (Jvm.Cond.code ({ cls := "java/lang/Math", name := "max", desc := "(II)I" } : Jvm.MethodName) prog_21_method_65_code (2 : Nat) (Option.some Jvm.ClassFile.FieldType.int)) ∈ tb_G := tb_1 202 rfl rfl
theorem tw_255 : (Jvm.Cond.code ({ cls := "java/lang/Math", name := "min", desc := "(II)I" } : Jvm.MethodName) prog_21_method_69_code (2 : Nat) (Option.some Jvm.ClassFile.FieldType.int)) ∈ tb_G := tb_1 220 rfl rfl
