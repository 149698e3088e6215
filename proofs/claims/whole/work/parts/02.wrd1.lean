/-! printed by a program of ours (gen/names.py) out of the statement: the good words of the tables, by their places -/
/-- private methods of the class above that of the receiver -/
def tb_E : List Cond := [(Jvm.Cond.selects "java/lang/StringBuilder" ({ cls := "java/lang/AbstractStringBuilder", name := "ensureCapacityInternal", desc := "(I)V" } : Jvm.MethodName) ({ cls := "java/lang/AbstractStringBuilder", name := "ensureCapacityInternal", desc := "(I)V" } : Jvm.MethodName)), (Jvm.Cond.selects "java/lang/StringBuilder" ({ cls := "java/lang/AbstractStringBuilder", name := "newCapacity", desc := "(I)I" } : Jvm.MethodName) ({ cls := "java/lang/AbstractStringBuilder", name := "newCapacity", desc := "(I)I" } : Jvm.MethodName))]
def tb_G : List Cond := (tb_E ++ lw_tbl).filter goodWord
theorem tb_e {w : Cond} (i : Nat) (h : tb_E[i]? = some w) (g : goodWord w = true) : w ∈ tb_G := List.mem_filter.mpr ⟨List.mem_append_left _ (List.mem_of_getElem? h), g⟩
theorem tb_good {w : Cond} (h : w ∈ tb_G) : (w.onTables && w.keeps) = true ∨ ∃ ty, w = .arrayClass ty := good_of_word (List.mem_filter.mp h).2
theorem tb_p {w : Cond} (i : Nat) (h : (k2_sels lw_privs)[i]? = some w) (g : goodWord w = true) : w ∈ tb_G := List.mem_filter.mpr ⟨List.mem_append_right _ (List.mem_append_left _ (List.mem_of_getElem? h)), g⟩
theorem tb_1 {w : Cond} (i : Nat) (h : tables_1_1[i]? = some w) (g : goodWord w = true) : w ∈ tb_G := List.mem_filter.mpr ⟨List.mem_append_right _ (List.mem_append_right _ (List.mem_append_left _ (List.mem_of_getElem? h))), g⟩
theorem tb_2 {w : Cond} (i : Nat) (h : tables_1_2[i]? = some w) (g : goodWord w = true) : w ∈ tb_G := List.mem_filter.mpr ⟨List.mem_append_right _ (List.mem_append_right _ (List.mem_append_right _ (List.mem_append_left _ (List.mem_of_getElem? h)))), g⟩
theorem tb_3 {w : Cond} (i : Nat) (h : tables_1_3[i]? = some w) (g : goodWord w = true) : w ∈ tb_G := List.mem_filter.mpr ⟨List.mem_append_right _ (List.mem_append_right _ (List.mem_append_right _ (List.mem_append_right _ (List.mem_append_left _ (List.mem_of_getElem? h))))), g⟩
theorem tb_4 {w : Cond} (i : Nat) (h : tables_1_4[i]? = some w) (g : goodWord w = true) : w ∈ tb_G := List.mem_filter.mpr ⟨List.mem_append_right _ (List.mem_append_right _ (List.mem_append_right _ (List.mem_append_right _ (List.mem_append_right _ (List.mem_append_left _ (List.mem_of_getElem? h)))))), g⟩
theorem tb_5 {w : Cond} (i : Nat) (h : tables_1_5[i]? = some w) (g : goodWord w = true) : w ∈ tb_G := List.mem_filter.mpr ⟨List.mem_append_right _ (List.mem_append_right _ (List.mem_append_right _ (List.mem_append_right _ (List.mem_append_right _ (List.mem_append_right _ (List.mem_of_getElem? h)))))), g⟩
theorem tw_90000 : (Jvm.Cond.selects "java/lang/StringBuilder" ({ cls := "java/lang/AbstractStringBuilder", name := "ensureCapacityInternal", desc := "(I)V" } : Jvm.MethodName) ({ cls := "java/lang/AbstractStringBuilder", name := "ensureCapacityInternal", desc := "(I)V" } : Jvm.MethodName)) ∈ tb_G := tb_e 0 rfl rfl
theorem tw_90001 : (Jvm.Cond.selects "java/lang/StringBuilder" ({ cls := "java/lang/AbstractStringBuilder", name := "newCapacity", desc := "(I)I" } : Jvm.MethodName) ({ cls := "java/lang/AbstractStringBuilder", name := "newCapacity", desc := "(I)I" } : Jvm.MethodName)) ∈ tb_G := tb_e 1 rfl rfl
theorem tw_0 : (Jvm.Cond.selects "RouteDesk" ({ cls := "RouteDesk", name := "exchangeAt", desc := "(I)LRouteDesk$Exchange;" } : Jvm.MethodName) ({ cls := "RouteDesk", name := "exchangeAt", desc := "(I)LRouteDesk$Exchange;" } : Jvm.MethodName)) ∈ tb_G := tb_p 0 rfl rfl
theorem tw_1 : (Jvm.Cond.selects "RouteDesk" ({ cls := "RouteDesk", name := "isThere", desc := "(IZ)Z" } : Jvm.MethodName) ({ cls := "RouteDesk", name := "isThere", desc := "(IZ)Z" } : Jvm.MethodName)) ∈ tb_G := tb_p 1 rfl rfl
theorem tw_2 : (Jvm.Cond.selects "java/util/ArrayList" ({ cls := "java/util/ArrayList", name := "fastRemove", desc := "([Ljava/lang/Object;I)V" } : Jvm.MethodName) ({ cls := "java/util/ArrayList", name := "fastRemove", desc := "([Ljava/lang/Object;I)V" } : Jvm.MethodName)) ∈ tb_G := tb_p 2 rfl rfl
theorem tw_3 : (Jvm.Cond.selects "RouteDesk" ({ cls := "RouteDesk", name := "takeTape", desc := "()Ljava/lang/String;" } : Jvm.MethodName) ({ cls := "RouteDesk", name := "takeTape", desc := "()Ljava/lang/String;" } : Jvm.MethodName)) ∈ tb_G := tb_p 3 rfl rfl
theorem tw_5 : (Jvm.Cond.selects "RouteDesk" ({ cls := "RouteDesk", name := "placeOf", desc := "(IIZLjava/lang/String;)I" } : Jvm.MethodName) ({ cls := "RouteDesk", name := "placeOf", desc := "(IIZLjava/lang/String;)I" } : Jvm.MethodName)) ∈ tb_G := tb_p 5 rfl rfl
theorem tw_6 : (Jvm.Cond.selects "RouteDesk$Message" ({ cls := "RouteDesk$Message", name := "headerOf", desc := "(Ljava/lang/String;)LRouteDesk$Header;" } : Jvm.MethodName) ({ cls := "RouteDesk$Message", name := "headerOf", desc := "(Ljava/lang/String;)LRouteDesk$Header;" } : Jvm.MethodName)) ∈ tb_G := tb_p 6 rfl rfl
theorem tw_7 : (Jvm.Cond.selects "java/util/ArrayList" ({ cls := "java/util/ArrayList", name := "add", desc := "(Ljava/lang/Object;[Ljava/lang/Object;I)V" } : Jvm.MethodName) ({ cls := "java/util/ArrayList", name := "add", desc := "(Ljava/lang/Object;[Ljava/lang/Object;I)V" } : Jvm.MethodName)) ∈ tb_G := tb_p 7 rfl rfl
theorem tw_8 : (Jvm.Cond.selects "java/util/ArrayList" ({ cls := "java/util/ArrayList", name := "grow", desc := "()[Ljava/lang/Object;" } : Jvm.MethodName) ({ cls := "java/util/ArrayList", name := "grow", desc := "()[Ljava/lang/Object;" } : Jvm.MethodName)) ∈ tb_G := tb_p 8 rfl rfl
theorem tw_9 : (Jvm.Cond.selects "java/util/ArrayList" ({ cls := "java/util/ArrayList", name := "grow", desc := "(I)[Ljava/lang/Object;" } : Jvm.MethodName) ({ cls := "java/util/ArrayList", name := "grow", desc := "(I)[Ljava/lang/Object;" } : Jvm.MethodName)) ∈ tb_G := tb_p 9 rfl rfl
theorem tw_10 : (Jvm.Cond.selects "RouteDesk" ({ cls := "RouteDesk", name := "countTo", desc := "(IZ)I" } : Jvm.MethodName) ({ cls := "RouteDesk", name := "countTo", desc := "(IZ)I" } : Jvm.MethodName)) ∈ tb_G := tb_p 10 rfl rfl
theorem tw_11 : (Jvm.Cond.selects "RouteDesk" ({ cls := "RouteDesk", name := "countFrom", desc := "(I)I" } : Jvm.MethodName) ({ cls := "RouteDesk", name := "countFrom", desc := "(I)I" } : Jvm.MethodName)) ∈ tb_G := tb_p 11 rfl rfl
theorem tw_12 : (Jvm.Cond.selects "RouteDesk" ({ cls := "RouteDesk", name := "countExchanges", desc := "()I" } : Jvm.MethodName) ({ cls := "RouteDesk", name := "countExchanges", desc := "()I" } : Jvm.MethodName)) ∈ tb_G := tb_p 12 rfl rfl
theorem tw_13 : (Jvm.Cond.selects "RouteDesk" ({ cls := "RouteDesk", name := "countQueues", desc := "()I" } : Jvm.MethodName) ({ cls := "RouteDesk", name := "countQueues", desc := "()I" } : Jvm.MethodName)) ∈ tb_G := tb_p 13 rfl rfl
theorem tw_14 : (Jvm.Cond.selects "RouteDesk" ({ cls := "RouteDesk", name := "leadOn", desc := "(I)V" } : Jvm.MethodName) ({ cls := "RouteDesk", name := "leadOn", desc := "(I)V" } : Jvm.MethodName)) ∈ tb_G := tb_p 14 rfl rfl
theorem tw_15 : (Jvm.Cond.selects "RouteDesk" ({ cls := "RouteDesk", name := "isMet", desc := "(ILjava/lang/String;)Z" } : Jvm.MethodName) ({ cls := "RouteDesk", name := "isMet", desc := "(ILjava/lang/String;)Z" } : Jvm.MethodName)) ∈ tb_G := tb_p 15 rfl rfl
theorem tw_16 : (Jvm.Cond.selects "RouteDesk" ({ cls := "RouteDesk", name := "follow", desc := "(LRouteDesk$Binding;)V" } : Jvm.MethodName) ({ cls := "RouteDesk", name := "follow", desc := "(LRouteDesk$Binding;)V" } : Jvm.MethodName)) ∈ tb_G := tb_p 16 rfl rfl
theorem tw_17 : (Jvm.Cond.selects "RouteDeskModel" ({ cls := "RouteDeskModel", name := "raise", desc := "(I)I" } : Jvm.MethodName) ({ cls := "RouteDeskModel", name := "raise", desc := "(I)I" } : Jvm.MethodName)) ∈ tb_G := tb_p 17 rfl rfl
theorem tw_18 : (Jvm.Cond.selects "RouteDeskModel" ({ cls := "RouteDeskModel", name := "isExchange", desc := "(I)Z" } : Jvm.MethodName) ({ cls := "RouteDeskModel", name := "isExchange", desc := "(I)Z" } : Jvm.MethodName)) ∈ tb_G := tb_p 18 rfl rfl
theorem tw_19 : (Jvm.Cond.selects "RouteDeskModel" ({ cls := "RouteDeskModel", name := "isQueue", desc := "(I)Z" } : Jvm.MethodName) ({ cls := "RouteDeskModel", name := "isQueue", desc := "(I)Z" } : Jvm.MethodName)) ∈ tb_G := tb_p 19 rfl rfl
theorem tw_20 : (Jvm.Cond.selects "RouteDeskModel" ({ cls := "RouteDeskModel", name := "drop", desc := "(I)V" } : Jvm.MethodName) ({ cls := "RouteDeskModel", name := "drop", desc := "(I)V" } : Jvm.MethodName)) ∈ tb_G := tb_p 20 rfl rfl
theorem tw_21 : (Jvm.Cond.selects "RouteDeskModel" ({ cls := "RouteDeskModel", name := "isGoal", desc := "(IZ)Z" } : Jvm.MethodName) ({ cls := "RouteDeskModel", name := "isGoal", desc := "(IZ)Z" } : Jvm.MethodName)) ∈ tb_G := tb_p 21 rfl rfl
theorem tw_22 : (Jvm.Cond.selects "RouteDeskModel" ({ cls := "RouteDeskModel", name := "isText", desc := "(I)Z" } : Jvm.MethodName) ({ cls := "RouteDeskModel", name := "isText", desc := "(I)Z" } : Jvm.MethodName)) ∈ tb_G := tb_p 22 rfl rfl
theorem tw_23 : (Jvm.Cond.selects "RouteDeskModel" ({ cls := "RouteDeskModel", name := "isPattern", desc := "()Z" } : Jvm.MethodName) ({ cls := "RouteDeskModel", name := "isPattern", desc := "()Z" } : Jvm.MethodName)) ∈ tb_G := tb_p 23 rfl rfl
theorem tw_24 : (Jvm.Cond.selects "RouteDeskModel" ({ cls := "RouteDeskModel", name := "isHeaders", desc := "()Z" } : Jvm.MethodName) ({ cls := "RouteDeskModel", name := "isHeaders", desc := "()Z" } : Jvm.MethodName)) ∈ tb_G := tb_p 24 rfl rfl
theorem tw_25 : (Jvm.Cond.selects "RouteDeskModel" ({ cls := "RouteDeskModel", name := "readName", desc := "(I)J" } : Jvm.MethodName) ({ cls := "RouteDeskModel", name := "readName", desc := "(I)J" } : Jvm.MethodName)) ∈ tb_G := tb_p 25 rfl rfl
theorem tw_26 : (Jvm.Cond.selects "RouteDeskModel" ({ cls := "RouteDeskModel", name := "readValue", desc := "(I)J" } : Jvm.MethodName) ({ cls := "RouteDeskModel", name := "readValue", desc := "(I)J" } : Jvm.MethodName)) ∈ tb_G := tb_p 26 rfl rfl
theorem tw_27 : (Jvm.Cond.selects "RouteDeskModel" ({ cls := "RouteDeskModel", name := "find", desc := "(II)I" } : Jvm.MethodName) ({ cls := "RouteDeskModel", name := "find", desc := "(II)I" } : Jvm.MethodName)) ∈ tb_G := tb_p 27 rfl rfl
theorem tw_28 : (Jvm.Cond.selects "RouteDeskModel" ({ cls := "RouteDeskModel", name := "headerOf", desc := "(J)I" } : Jvm.MethodName) ({ cls := "RouteDeskModel", name := "headerOf", desc := "(J)I" } : Jvm.MethodName)) ∈ tb_G := tb_p 28 rfl rfl
theorem tw_29 : (Jvm.Cond.selects "RouteDeskModel" ({ cls := "RouteDeskModel", name := "goOn", desc := "(I)Z" } : Jvm.MethodName) ({ cls := "RouteDeskModel", name := "goOn", desc := "(I)Z" } : Jvm.MethodName)) ∈ tb_G := tb_p 29 rfl rfl
theorem tw_30 : (Jvm.Cond.selects "RouteDeskModel" ({ cls := "RouteDeskModel", name := "leads", desc := "(I)Z" } : Jvm.MethodName) ({ cls := "RouteDeskModel", name := "leads", desc := "(I)Z" } : Jvm.MethodName)) ∈ tb_G := tb_p 30 rfl rfl
theorem tw_31 : (Jvm.Cond.selects "RouteDeskModel" ({ cls := "RouteDeskModel", name := "isDirect", desc := "(I)Z" } : Jvm.MethodName) ({ cls := "RouteDeskModel", name := "isDirect", desc := "(I)Z" } : Jvm.MethodName)) ∈ tb_G := tb_p 31 rfl rfl
theorem tw_32 : (Jvm.Cond.selects "RouteDeskModel" ({ cls := "RouteDeskModel", name := "isTopic", desc := "(I)Z" } : Jvm.MethodName) ({ cls := "RouteDeskModel", name := "isTopic", desc := "(I)Z" } : Jvm.MethodName)) ∈ tb_G := tb_p 32 rfl rfl
theorem tw_33 : (Jvm.Cond.selects "RouteDeskModel" ({ cls := "RouteDeskModel", name := "isWord", desc := "(III)Z" } : Jvm.MethodName) ({ cls := "RouteDeskModel", name := "isWord", desc := "(III)Z" } : Jvm.MethodName)) ∈ tb_G := tb_p 33 rfl rfl
theorem tw_34 : (Jvm.Cond.selects "RouteDeskModel" ({ cls := "RouteDeskModel", name := "isMet", desc := "(I)Z" } : Jvm.MethodName) ({ cls := "RouteDeskModel", name := "isMet", desc := "(I)Z" } : Jvm.MethodName)) ∈ tb_G := tb_p 34 rfl rfl
theorem tw_35 : (Jvm.Cond.initialized "RouteDeskLaw") ∈ tb_G := tb_1 0 rfl rfl
theorem tw_36 : (Jvm.Cond.initialized "RouteDesk") ∈ tb_G := tb_1 1 rfl rfl
theorem tw_37 : (Jvm.Cond.initialized "java/lang/AbstractStringBuilder") ∈ tb_G := tb_1 2 rfl rfl
theorem tw_38 : (Jvm.Cond.initialized "java/lang/StringBuilder") ∈ tb_G := tb_1 3 rfl rfl
theorem tw_39 : (Jvm.Cond.initialized "java/lang/String") ∈ tb_G := tb_1 4 rfl rfl
theorem tw_40 : (Jvm.Cond.initialized "java/lang/StringUTF16") ∈ tb_G := tb_1 5 rfl rfl
theorem tw_41 : (Jvm.Cond.initialized "java/util/AbstractCollection") ∈ tb_G := tb_1 6 rfl rfl
theorem tw_42 : (Jvm.Cond.initialized "java/util/AbstractList") ∈ tb_G := tb_1 7 rfl rfl
theorem tw_43 : (Jvm.Cond.initialized "java/util/ArrayList") ∈ tb_G := tb_1 8 rfl rfl
theorem tw_44 : (Jvm.Cond.initialized "RouteDesk$Message") ∈ tb_G := tb_1 9 rfl rfl
theorem tw_45 : (Jvm.Cond.initialized "RouteDesk$Routing") ∈ tb_G := tb_1 10 rfl rfl
theorem tw_46 : (Jvm.Cond.initialized "RouteDeskModel") ∈ tb_G := tb_1 11 rfl rfl
theorem tw_47 : (Jvm.Cond.initialized "jdk/internal/util/ArraysSupport") ∈ tb_G := tb_1 12 rfl rfl
theorem tw_48 : (Jvm.Cond.initialized "java/lang/Math") ∈ tb_G := tb_1 13 rfl rfl
theorem tw_49 : (Jvm.Cond.initialized "java/util/Arrays") ∈ tb_G := tb_1 14 rfl rfl
theorem tw_50 : (Jvm.Cond.initialized "java/lang/System") ∈ tb_G := tb_1 15 rfl rfl
theorem tw_51 : (Jvm.Cond.initialized "java/lang/StringLatin1") ∈ tb_G := tb_1 16 rfl rfl
theorem tw_52 : (Jvm.Cond.initialized "jdk/internal/util/Preconditions") ∈ tb_G := tb_1 17 rfl rfl
theorem tw_53 : (Jvm.Cond.initialized "java/lang/Throwable") ∈ tb_G := tb_1 18 rfl rfl
theorem tw_54 : (Jvm.Cond.initialized "java/lang/Exception") ∈ tb_G := tb_1 19 rfl rfl
theorem tw_55 : (Jvm.Cond.initialized "java/lang/RuntimeException") ∈ tb_G := tb_1 20 rfl rfl
theorem tw_56 : (Jvm.Cond.initialized "java/lang/IllegalArgumentException") ∈ tb_G := tb_1 21 rfl rfl
theorem tw_57 : (Jvm.Cond.initialized "RouteDesk$Exchange") ∈ tb_G := tb_1 22 rfl rfl
theorem tw_58 : (Jvm.Cond.initialized "java/lang/IllegalStateException") ∈ tb_G := tb_1 23 rfl rfl
theorem tw_59 : (Jvm.Cond.initialized "java/util/Objects") ∈ tb_G := tb_1 24 rfl rfl
theorem tw_60 : (Jvm.Cond.initialized "java/lang/Integer") ∈ tb_G := tb_1 25 rfl rfl
theorem tw_61 : (Jvm.Cond.initialized "RouteDesk$Pattern") ∈ tb_G := tb_1 26 rfl rfl
theorem tw_62 : (Jvm.Cond.initialized "RouteDesk$Texts") ∈ tb_G := tb_1 27 rfl rfl
theorem tw_63 : (Jvm.Cond.initialized "RouteDesk$HeaderText") ∈ tb_G := tb_1 28 rfl rfl
theorem tw_64 : (Jvm.Cond.initialized "RouteDesk$Binding") ∈ tb_G := tb_1 29 rfl rfl
theorem tw_65 : (Jvm.Cond.initialized "RouteDesk$Header") ∈ tb_G := tb_1 30 rfl rfl
theorem tw_66 : (Jvm.Cond.initialized "java/lang/Long") ∈ tb_G := tb_1 31 rfl rfl
theorem tw_67 : (Jvm.Cond.initialized "java/util/NoSuchElementException") ∈ tb_G := tb_1 32 rfl rfl
theorem tw_68 : (Jvm.Cond.classLink "RouteDeskLaw" (8 : Nat) "RouteDesk") ∈ tb_G := tb_1 33 rfl rfl
theorem tw_69 : (Jvm.Cond.instantiable "RouteDesk" (6 : Nat)) ∈ tb_G := tb_1 34 rfl rfl
theorem tw_70 : (Jvm.Cond.methodLink "RouteDeskLaw" (33 : Nat) ({ cls := "RouteDesk", name := "<init>", desc := "()V" } : Jvm.MethodName)) ∈ tb_G := tb_1 35 rfl rfl
theorem tw_71 : (Jvm.Cond.instanceMethod ({ cls := "RouteDesk", name := "<init>", desc := "()V" } : Jvm.MethodName)) ∈ tb_G := tb_1 36 rfl rfl
theorem tw_72 : (Jvm.Cond.code ({ cls := "RouteDesk", name := "<init>", desc := "()V" } : Jvm.MethodName) prog_1_method_1_code (1 : Nat) (Option.none : Option Jvm.ClassFile.FieldType)) ∈ tb_G := tb_1 37 rfl rfl
theorem tw_73 : (Jvm.Cond.methodLink "RouteDesk" (1 : Nat) ({ cls := "java/lang/Object", name := "<init>", desc := "()V" } : Jvm.MethodName)) ∈ tb_G := tb_1 38 rfl rfl
theorem tw_74 : (Jvm.Cond.instanceMethod ({ cls := "java/lang/Object", name := "<init>", desc := "()V" } : Jvm.MethodName)) ∈ tb_G := tb_1 39 rfl rfl
theorem tw_75 : (Jvm.Cond.code ({ cls := "java/lang/Object", name := "<init>", desc := "()V" } : Jvm.MethodName) object_method_1_code (1 : Nat) (Option.none : Option Jvm.ClassFile.FieldType)) ∈ tb_G := tb_1 40 rfl rfl
theorem tw_76 : (Jvm.Cond.classLink "RouteDesk" (7 : Nat) "java/lang/StringBuilder") ∈ tb_G := tb_1 41 rfl rfl
theorem tw_77 : (Jvm.Cond.instantiable "java/lang/StringBuilder" (4 : Nat)) ∈ tb_G := tb_1 42 rfl rfl
theorem tw_78 : (Jvm.Cond.methodLink "RouteDesk" (9 : Nat) ({ cls := "java/lang/StringBuilder", name := "<init>", desc := "()V" } : Jvm.MethodName)) ∈ tb_G := tb_1 43 rfl rfl
theorem tw_79 : (Jvm.Cond.instanceMethod ({ cls := "java/lang/StringBuilder", name := "<init>", desc := "()V" } : Jvm.MethodName)) ∈ tb_G := tb_1 44 rfl rfl
theorem tw_80 : (Jvm.Cond.code ({ cls := "java/lang/StringBuilder", name := "<init>", desc := "()V" } : Jvm.MethodName) prog_24_method_1_code (1 : Nat) (Option.none : Option Jvm.ClassFile.FieldType)) ∈ tb_G := tb_1 45 rfl rfl
theorem tw_81 : (Jvm.Cond.methodLink "java/lang/StringBuilder" (1 : Nat) ({ cls := "java/lang/AbstractStringBuilder", name := "<init>", desc := "(I)V" } : Jvm.MethodName)) ∈ tb_G := tb_1 46 rfl rfl
theorem tw_82 : (Jvm.Cond.instanceMethod ({ cls := "java/lang/AbstractStringBuilder", name := "<init>", desc := "(I)V" } : Jvm.MethodName)) ∈ tb_G := tb_1 47 rfl rfl
theorem tw_83 : (Jvm.Cond.code ({ cls := "java/lang/AbstractStringBuilder", name := "<init>", desc := "(I)V" } : Jvm.MethodName) prog_13_method_2_code (2 : Nat) (Option.none : Option Jvm.ClassFile.FieldType)) ∈ tb_G := tb_1 48 rfl rfl
theorem tw_84 : (Jvm.Cond.methodLink "java/lang/AbstractStringBuilder" (3 : Nat) ({ cls := "java/lang/Object", name := "<init>", desc := "()V" } : Jvm.MethodName)) ∈ tb_G := tb_1 49 rfl rfl
theorem tw_85 : (Jvm.Cond.fieldLink "java/lang/AbstractStringBuilder" (18 : Nat) "java/lang/String" "COMPACT_STRINGS" "Z") ∈ tb_G := tb_1 50 rfl rfl
theorem tw_87 : (Jvm.Cond.methodLink "java/lang/AbstractStringBuilder" (26 : Nat) ({ cls := "java/lang/StringUTF16", name := "newBytesFor", desc := "(I)[B" } : Jvm.MethodName)) ∈ tb_G := tb_1 52 rfl rfl
theorem tw_88 : (Jvm.Cond.static ({ cls := "java/lang/StringUTF16", name := "newBytesFor", desc := "(I)[B" } : Jvm.MethodName)) ∈ tb_G := tb_1 53 rfl rfl
theorem tw_89 : (Jvm.Cond.code ({ cls := "java/lang/StringUTF16", name := "newBytesFor", desc := "(I)[B" } : Jvm.MethodName) prog_26_method_2_code (1 : Nat) (Option.some (Jvm.ClassFile.FieldType.array Jvm.ClassFile.FieldType.byte))) ∈ tb_G := tb_1 54 rfl rfl
theorem tw_90 : (Jvm.Cond.methodLink "java/lang/StringUTF16" (11 : Nat) ({ cls := "java/lang/StringUTF16", name := "newBytesLength", desc := "(I)I" } : Jvm.MethodName)) ∈ tb_G := tb_1 55 rfl rfl
theorem tw_91 : (Jvm.Cond.static ({ cls := "java/lang/StringUTF16", name := "newBytesLength", desc := "(I)I" } : Jvm.MethodName)) ∈ tb_G := tb_1 56 rfl rfl
theorem tw_92 : (Jvm.Cond.code ({ cls := "java/lang/StringUTF16", name := "newBytesLength", desc := "(I)I" } : Jvm.MethodName) prog_26_method_3_code (1 : Nat) (Option.some Jvm.ClassFile.FieldType.int)) ∈ tb_G := tb_1 57 rfl rfl
theorem tw_93 : (Jvm.Cond.constant "java/lang/StringUTF16" (20 : Nat) (1073741823 : Int32)) ∈ tb_G := tb_1 58 rfl rfl
theorem tw_94 : (Jvm.Cond.fieldLink "java/lang/AbstractStringBuilder" (15 : Nat) "java/lang/AbstractStringBuilder" "value" "[B") ∈ tb_G := tb_1 59 rfl rfl
theorem tw_95 : (Jvm.Cond.fieldLink "java/lang/AbstractStringBuilder" (22 : Nat) "java/lang/AbstractStringBuilder" "coder" "B") ∈ tb_G := tb_1 60 rfl rfl
theorem tw_96 : (Jvm.Cond.fieldLink "java/lang/AbstractStringBuilder" (73 : Nat) "java/lang/AbstractStringBuilder" "maybeLatin1" "Z") ∈ tb_G := tb_1 61 rfl rfl
theorem tw_97 : (Jvm.Cond.fieldLink "java/lang/String" (1048 : Nat) "java/lang/AbstractStringBuilder" "maybeLatin1" "Z") ∈ tb_G := tb_1 62 rfl rfl
theorem tw_98 : (Jvm.Cond.fieldLink "java/lang/AbstractStringBuilder" (79 : Nat) "java/lang/AbstractStringBuilder" "count" "I") ∈ tb_G := tb_1 63 rfl rfl
theorem tw_99 : (Jvm.Cond.lays "java/lang/StringBuilder" "java/lang/AbstractStringBuilder" "value" "[B") ∈ tb_G := tb_1 64 rfl rfl
theorem tw_101 : (Jvm.Cond.lays "java/lang/StringBuilder" "java/lang/AbstractStringBuilder" "coder" "B") ∈ tb_G := tb_1 66 rfl rfl
theorem tw_103 : (Jvm.Cond.lays "java/lang/StringBuilder" "java/lang/AbstractStringBuilder" "maybeLatin1" "Z") ∈ tb_G := tb_1 68 rfl rfl
theorem tw_105 : (Jvm.Cond.lays "java/lang/StringBuilder" "java/lang/AbstractStringBuilder" "count" "I") ∈ tb_G := tb_1 70 rfl rfl
theorem tw_107 : (Jvm.Cond.superclass "java/lang/StringBuilder" "java/lang/AbstractStringBuilder") ∈ tb_G := tb_1 72 rfl rfl
theorem tw_108 : (Jvm.Cond.arrayClass Jvm.ClassFile.FieldType.byte) ∈ tb_G := tb_1 73 rfl rfl
theorem tw_109 : (Jvm.Cond.classLink "RouteDesk" (16 : Nat) "RouteDesk$Exchange") ∈ tb_G := tb_1 74 rfl rfl
theorem tw_111 : (Jvm.Cond.classLink "RouteDesk" (26 : Nat) "java/util/ArrayList") ∈ tb_G := tb_1 76 rfl rfl
theorem tw_112 : (Jvm.Cond.instantiable "java/util/ArrayList" (3 : Nat)) ∈ tb_G := tb_1 77 rfl rfl
theorem tw_113 : (Jvm.Cond.methodLink "RouteDesk" (28 : Nat) ({ cls := "java/util/ArrayList", name := "<init>", desc := "()V" } : Jvm.MethodName)) ∈ tb_G := tb_1 78 rfl rfl
theorem tw_114 : (Jvm.Cond.instanceMethod ({ cls := "java/util/ArrayList", name := "<init>", desc := "()V" } : Jvm.MethodName)) ∈ tb_G := tb_1 79 rfl rfl
theorem tw_115 : (Jvm.Cond.code ({ cls := "java/util/ArrayList", name := "<init>", desc := "()V" } : Jvm.MethodName) prog_31_method_2_code (1 : Nat) (Option.none : Option Jvm.ClassFile.FieldType)) ∈ tb_G := tb_1 80 rfl rfl
theorem tw_116 : (Jvm.Cond.methodLink "java/util/ArrayList" (1 : Nat) ({ cls := "java/util/AbstractList", name := "<init>", desc := "()V" } : Jvm.MethodName)) ∈ tb_G := tb_1 81 rfl rfl
theorem tw_117 : (Jvm.Cond.instanceMethod ({ cls := "java/util/AbstractList", name := "<init>", desc := "()V" } : Jvm.MethodName)) ∈ tb_G := tb_1 82 rfl rfl
theorem tw_118 : (Jvm.Cond.code ({ cls := "java/util/AbstractList", name := "<init>", desc := "()V" } : Jvm.MethodName) prog_30_method_1_code (1 : Nat) (Option.none : Option Jvm.ClassFile.FieldType)) ∈ tb_G := tb_1 83 rfl rfl
theorem tw_119 : (Jvm.Cond.methodLink "java/util/AbstractList" (1 : Nat) ({ cls := "java/util/AbstractCollection", name := "<init>", desc := "()V" } : Jvm.MethodName)) ∈ tb_G := tb_1 84 rfl rfl
theorem tw_120 : (Jvm.Cond.instanceMethod ({ cls := "java/util/AbstractCollection", name := "<init>", desc := "()V" } : Jvm.MethodName)) ∈ tb_G := tb_1 85 rfl rfl
theorem tw_121 : (Jvm.Cond.code ({ cls := "java/util/AbstractCollection", name := "<init>", desc := "()V" } : Jvm.MethodName) prog_29_method_1_code (1 : Nat) (Option.none : Option Jvm.ClassFile.FieldType)) ∈ tb_G := tb_1 86 rfl rfl
theorem tw_122 : (Jvm.Cond.methodLink "java/util/AbstractCollection" (1 : Nat) ({ cls := "java/lang/Object", name := "<init>", desc := "()V" } : Jvm.MethodName)) ∈ tb_G := tb_1 87 rfl rfl
theorem tw_123 : (Jvm.Cond.fieldLink "java/util/ArrayList" (39 : Nat) "java/util/ArrayList" "DEFAULTCAPACITY_EMPTY_ELEMENTDATA" "[Ljava/lang/Object;") ∈ tb_G := tb_1 88 rfl rfl
theorem tw_125 : (Jvm.Cond.fieldLink "java/util/ArrayList" (9 : Nat) "java/util/ArrayList" "elementData" "[Ljava/lang/Object;") ∈ tb_G := tb_1 90 rfl rfl
theorem tw_126 : (Jvm.Cond.fieldLink "java/util/ArrayList" (48 : Nat) "java/util/ArrayList" "size" "I") ∈ tb_G := tb_1 91 rfl rfl
theorem tw_127 : (Jvm.Cond.fieldLink "java/util/AbstractList" (7 : Nat) "java/util/AbstractList" "modCount" "I") ∈ tb_G := tb_1 92 rfl rfl
theorem tw_128 : (Jvm.Cond.fieldLink "java/util/ArrayList" (63 : Nat) "java/util/ArrayList" "modCount" "I") ∈ tb_G := tb_1 93 rfl rfl
theorem tw_129 : (Jvm.Cond.sameField "java/util/ArrayList" "java/util/AbstractList" "modCount" "I") ∈ tb_G := tb_1 94 rfl rfl
theorem tw_130 : (Jvm.Cond.lays "java/util/ArrayList" "java/util/ArrayList" "elementData" "[Ljava/lang/Object;") ∈ tb_G := tb_1 95 rfl rfl
theorem tw_132 : (Jvm.Cond.lays "java/util/ArrayList" "java/util/ArrayList" "size" "I") ∈ tb_G := tb_1 97 rfl rfl
theorem tw_134 : (Jvm.Cond.lays "java/util/ArrayList" "java/util/AbstractList" "modCount" "I") ∈ tb_G := tb_1 99 rfl rfl
theorem tw_136 : (Jvm.Cond.superclass "java/util/ArrayList" "java/util/AbstractList") ∈ tb_G := tb_1 101 rfl rfl
theorem tw_137 : (Jvm.Cond.arrayClass Jvm.ClassFile.FieldType.boolean) ∈ tb_G := tb_1 102 rfl rfl
theorem tw_138 : (Jvm.Cond.classLink "RouteDesk" (33 : Nat) "RouteDesk$Message") ∈ tb_G := tb_1 103 rfl rfl
theorem tw_139 : (Jvm.Cond.instantiable "RouteDesk$Message" (2 : Nat)) ∈ tb_G := tb_1 104 rfl rfl
theorem tw_141 : (Jvm.Cond.instanceMethod ({ cls := "RouteDesk$Message", name := "<init>", desc := "()V" } : Jvm.MethodName)) ∈ tb_G := tb_1 106 rfl rfl
theorem tw_142 : (Jvm.Cond.code ({ cls := "RouteDesk$Message", name := "<init>", desc := "()V" } : Jvm.MethodName) prog_6_method_1_code (1 : Nat) (Option.none : Option Jvm.ClassFile.FieldType)) ∈ tb_G := tb_1 107 rfl rfl
theorem tw_143 : (Jvm.Cond.methodLink "RouteDesk$Message" (1 : Nat) ({ cls := "java/lang/Object", name := "<init>", desc := "()V" } : Jvm.MethodName)) ∈ tb_G := tb_1 108 rfl rfl
theorem tw_145 : (Jvm.Cond.classLink "RouteDesk$Message" (15 : Nat) "java/util/ArrayList") ∈ tb_G := tb_1 110 rfl rfl
theorem tw_146 : (Jvm.Cond.methodLink "RouteDesk$Message" (17 : Nat) ({ cls := "java/util/ArrayList", name := "<init>", desc := "()V" } : Jvm.MethodName)) ∈ tb_G := tb_1 111 rfl rfl
theorem tw_147 : (Jvm.Cond.fieldLink "RouteDesk$Message" (9 : Nat) "RouteDesk$Message" "key" "Ljava/lang/String;") ∈ tb_G := tb_1 112 rfl rfl
theorem tw_149 : (Jvm.Cond.fieldLink "RouteDesk$Message" (18 : Nat) "RouteDesk$Message" "headers" "Ljava/util/ArrayList;") ∈ tb_G := tb_1 114 rfl rfl
theorem tw_152 : (Jvm.Cond.lays "RouteDesk$Message" "RouteDesk$Message" "key" "Ljava/lang/String;") ∈ tb_G := tb_1 117 rfl rfl
theorem tw_154 : (Jvm.Cond.laysFinal "RouteDesk$Message" "RouteDesk$Message" "headers" "Ljava/util/ArrayList;") ∈ tb_G := tb_1 119 rfl rfl
theorem tw_156 : (Jvm.Cond.superclass "RouteDesk$Message" "java/lang/Object") ∈ tb_G := tb_1 121 rfl rfl
theorem tw_157 : (Jvm.Cond.classLink "RouteDesk" (40 : Nat) "RouteDesk$Routing") ∈ tb_G := tb_1 122 rfl rfl
theorem tw_158 : (Jvm.Cond.instantiable "RouteDesk$Routing" (5 : Nat)) ∈ tb_G := tb_1 123 rfl rfl
theorem tw_160 : (Jvm.Cond.instanceMethod ({ cls := "RouteDesk$Routing", name := "<init>", desc := "()V" } : Jvm.MethodName)) ∈ tb_G := tb_1 125 rfl rfl
theorem tw_161 : (Jvm.Cond.code ({ cls := "RouteDesk$Routing", name := "<init>", desc := "()V" } : Jvm.MethodName) prog_8_method_1_code (1 : Nat) (Option.none : Option Jvm.ClassFile.FieldType)) ∈ tb_G := tb_1 126 rfl rfl
theorem tw_162 : (Jvm.Cond.methodLink "RouteDesk$Routing" (3 : Nat) ({ cls := "java/lang/Object", name := "<init>", desc := "()V" } : Jvm.MethodName)) ∈ tb_G := tb_1 127 rfl rfl
theorem tw_163 : (Jvm.Cond.fieldLink "RouteDesk$Routing" (9 : Nat) "RouteDesk$Routing" "isPassed" "[Z") ∈ tb_G := tb_1 128 rfl rfl
theorem tw_165 : (Jvm.Cond.fieldLink "RouteDesk$Routing" (15 : Nat) "RouteDesk$Routing" "order" "[I") ∈ tb_G := tb_1 130 rfl rfl
theorem tw_167 : (Jvm.Cond.fieldLink "RouteDesk$Routing" (19 : Nat) "RouteDesk$Routing" "passedCount" "I") ∈ tb_G := tb_1 132 rfl rfl
theorem tw_169 : (Jvm.Cond.fieldLink "RouteDesk$Routing" (23 : Nat) "RouteDesk$Routing" "isFound" "[Z") ∈ tb_G := tb_1 134 rfl rfl
theorem tw_170 : (Jvm.Cond.fieldLink "RouteDesk$Routing" (26 : Nat) "RouteDesk$Routing" "foundCount" "I") ∈ tb_G := tb_1 135 rfl rfl
theorem tw_172 : (Jvm.Cond.laysFinal "RouteDesk$Routing" "RouteDesk$Routing" "isPassed" "[Z") ∈ tb_G := tb_1 137 rfl rfl
theorem tw_174 : (Jvm.Cond.laysFinal "RouteDesk$Routing" "RouteDesk$Routing" "order" "[I") ∈ tb_G := tb_1 139 rfl rfl
theorem tw_176 : (Jvm.Cond.lays "RouteDesk$Routing" "RouteDesk$Routing" "passedCount" "I") ∈ tb_G := tb_1 141 rfl rfl
theorem tw_178 : (Jvm.Cond.laysFinal "RouteDesk$Routing" "RouteDesk$Routing" "isFound" "[Z") ∈ tb_G := tb_1 143 rfl rfl
theorem tw_180 : (Jvm.Cond.lays "RouteDesk$Routing" "RouteDesk$Routing" "foundCount" "I") ∈ tb_G := tb_1 145 rfl rfl
theorem tw_182 : (Jvm.Cond.superclass "RouteDesk$Routing" "java/lang/Object") ∈ tb_G := tb_1 147 rfl rfl
theorem tw_183 : (Jvm.Cond.arrayClass Jvm.ClassFile.FieldType.int) ∈ tb_G := tb_1 148 rfl rfl
theorem tw_184 : (Jvm.Cond.fieldLink "RouteDesk" (10 : Nat) "RouteDesk" "tape" "Ljava/lang/StringBuilder;") ∈ tb_G := tb_1 149 rfl rfl
theorem tw_185 : (Jvm.Cond.fieldLink "RouteDesk" (18 : Nat) "RouteDesk" "exchanges" "[LRouteDesk$Exchange;") ∈ tb_G := tb_1 150 rfl rfl
theorem tw_186 : (Jvm.Cond.fieldLink "RouteDesk" (22 : Nat) "RouteDesk" "queues" "[Z") ∈ tb_G := tb_1 151 rfl rfl
theorem tw_187 : (Jvm.Cond.fieldLink "RouteDesk" (29 : Nat) "RouteDesk" "bindings" "Ljava/util/ArrayList;") ∈ tb_G := tb_1 152 rfl rfl
theorem tw_188 : (Jvm.Cond.fieldLink "RouteDesk" (36 : Nat) "RouteDesk" "current" "LRouteDesk$Message;") ∈ tb_G := tb_1 153 rfl rfl
theorem tw_189 : (Jvm.Cond.fieldLink "RouteDesk" (43 : Nat) "RouteDesk" "latest" "LRouteDesk$Routing;") ∈ tb_G := tb_1 154 rfl rfl
theorem tw_190 : (Jvm.Cond.laysFinal "RouteDesk" "RouteDesk" "tape" "Ljava/lang/StringBuilder;") ∈ tb_G := tb_1 155 rfl rfl
theorem tw_192 : (Jvm.Cond.laysFinal "RouteDesk" "RouteDesk" "exchanges" "[LRouteDesk$Exchange;") ∈ tb_G := tb_1 157 rfl rfl
theorem tw_194 : (Jvm.Cond.laysFinal "RouteDesk" "RouteDesk" "queues" "[Z") ∈ tb_G := tb_1 159 rfl rfl
theorem tw_196 : (Jvm.Cond.laysFinal "RouteDesk" "RouteDesk" "bindings" "Ljava/util/ArrayList;") ∈ tb_G := tb_1 161 rfl rfl
theorem tw_198 : (Jvm.Cond.laysFinal "RouteDesk" "RouteDesk" "current" "LRouteDesk$Message;") ∈ tb_G := tb_1 163 rfl rfl
theorem tw_200 : (Jvm.Cond.laysFinal "RouteDesk" "RouteDesk" "latest" "LRouteDesk$Routing;") ∈ tb_G := tb_1 165 rfl rfl
theorem tw_202 : (Jvm.Cond.superclass "RouteDesk" "java/lang/Object") ∈ tb_G := tb_1 167 rfl rfl
theorem tw_203 : (Jvm.Cond.methodLink "RouteDeskLaw" (39 : Nat) ({ cls := "RouteDesk", name := "type", desc := "(JI)Z" } : Jvm.MethodName)) ∈ tb_G := tb_1 168 rfl rfl
theorem tw_204 : (Jvm.Cond.instanceMethod ({ cls := "RouteDesk", name := "type", desc := "(JI)Z" } : Jvm.MethodName)) ∈ tb_G := tb_1 169 rfl rfl
theorem tw_205 : (Jvm.Cond.selects "RouteDesk" ({ cls := "RouteDesk", name := "type", desc := "(JI)Z" } : Jvm.MethodName) ({ cls := "RouteDesk", name := "type", desc := "(JI)Z" } : Jvm.MethodName)) ∈ tb_G := tb_1 170 rfl rfl
theorem tw_206 : (Jvm.Cond.code ({ cls := "RouteDesk", name := "type", desc := "(JI)Z" } : Jvm.MethodName) prog_1_method_2_code (6 : Nat) (Option.some Jvm.ClassFile.FieldType.boolean)) ∈ tb_G := tb_1 171 rfl rfl
theorem tw_207 : (Jvm.Cond.methodLink "RouteDesk" (47 : Nat) ({ cls := "java/lang/StringBuilder", name := "length", desc := "()I" } : Jvm.MethodName)) ∈ tb_G := tb_1 172 rfl rfl
theorem tw_208 : (Jvm.Cond.instanceMethod ({ cls := "java/lang/StringBuilder", name := "length", desc := "()I" } : Jvm.MethodName)) ∈ tb_G := tb_1 173 rfl rfl
theorem tw_209 : (Jvm.Cond.selects "java/lang/StringBuilder" ({ cls := "java/lang/StringBuilder", name := "length", desc := "()I" } : Jvm.MethodName) ({ cls := "java/lang/StringBuilder", name := "length", desc := "()I" } : Jvm.MethodName)) ∈ tb_G := tb_1 174 rfl rfl
theorem tw_210 : (Jvm.Cond.code ({ cls := "java/lang/StringBuilder", name := "length", desc := "()I" } : Jvm.MethodName) prog_24_method_93_code (1 : Nat) (Option.some Jvm.ClassFile.FieldType.int)) ∈ tb_G := tb_1 175 rfl rfl
theorem tw_211 : (Jvm.Cond.methodLink "java/lang/StringBuilder" (343 : Nat) ({ cls := "java/lang/AbstractStringBuilder", name := "length", desc := "()I" } : Jvm.MethodName)) ∈ tb_G := tb_1 176 rfl rfl
theorem tw_212 : (Jvm.Cond.instanceMethod ({ cls := "java/lang/AbstractStringBuilder", name := "length", desc := "()I" } : Jvm.MethodName)) ∈ tb_G := tb_1 177 rfl rfl
theorem tw_213 : (Jvm.Cond.code ({ cls := "java/lang/AbstractStringBuilder", name := "length", desc := "()I" } : Jvm.MethodName) prog_13_method_6_code (1 : Nat) (Option.some Jvm.ClassFile.FieldType.int)) ∈ tb_G := tb_1 178 rfl rfl
theorem tw_214 : (Jvm.Cond.methodLink "RouteDesk" (51 : Nat) ({ cls := "RouteDesk", name := "byteOf", desc := "(JI)I" } : Jvm.MethodName)) ∈ tb_G := tb_1 179 rfl rfl
theorem tw_215 : (Jvm.Cond.static ({ cls := "RouteDesk", name := "byteOf", desc := "(JI)I" } : Jvm.MethodName)) ∈ tb_G := tb_1 180 rfl rfl
theorem tw_216 : (Jvm.Cond.code ({ cls := "RouteDesk", name := "byteOf", desc := "(JI)I" } : Jvm.MethodName) prog_1_method_16_code (3 : Nat) (Option.some Jvm.ClassFile.FieldType.int)) ∈ tb_G := tb_1 181 rfl rfl
theorem tw_217 : (Jvm.Cond.methodLink "RouteDesk" (55 : Nat) ({ cls := "java/lang/StringBuilder", name := "append", desc := "(C)Ljava/lang/StringBuilder;" } : Jvm.MethodName)) ∈ tb_G := tb_1 182 rfl rfl
theorem tw_218 : (Jvm.Cond.instanceMethod ({ cls := "java/lang/StringBuilder", name := "append", desc := "(C)Ljava/lang/StringBuilder;" } : Jvm.MethodName)) ∈ tb_G := tb_1 183 rfl rfl
theorem tw_219 : (Jvm.Cond.selects "java/lang/StringBuilder" ({ cls := "java/lang/StringBuilder", name := "append", desc := "(C)Ljava/lang/StringBuilder;" } : Jvm.MethodName) ({ cls := "java/lang/StringBuilder", name := "append", desc := "(C)Ljava/lang/StringBuilder;" } : Jvm.MethodName)) ∈ tb_G := tb_1 184 rfl rfl
theorem tw_220 : (Jvm.Cond.code ({ cls := "java/lang/StringBuilder", name := "append", desc := "(C)Ljava/lang/StringBuilder;" } : Jvm.MethodName) prog_24_method_14_code (2 : Nat) (Option.some (Jvm.ClassFile.FieldType.object "java/lang/StringBuilder"))) ∈ tb_G := tb_1 185 rfl rfl
theorem tw_221 : (Jvm.Cond.methodLink "java/lang/StringBuilder" (50 : Nat) ({ cls := "java/lang/AbstractStringBuilder", name := "append", desc := "(C)Ljava/lang/AbstractStringBuilder;" } : Jvm.MethodName)) ∈ tb_G := tb_1 186 rfl rfl
theorem tw_222 : (Jvm.Cond.instanceMethod ({ cls := "java/lang/AbstractStringBuilder", name := "append", desc := "(C)Ljava/lang/AbstractStringBuilder;" } : Jvm.MethodName)) ∈ tb_G := tb_1 187 rfl rfl
theorem tw_223 : (Jvm.Cond.code ({ cls := "java/lang/AbstractStringBuilder", name := "append", desc := "(C)Ljava/lang/AbstractStringBuilder;" } : Jvm.MethodName) prog_13_method_31_code (2 : Nat) (Option.some (Jvm.ClassFile.FieldType.object "java/lang/AbstractStringBuilder"))) ∈ tb_G := tb_1 188 rfl rfl
theorem tw_224 : (Jvm.Cond.methodLink "java/lang/AbstractStringBuilder" (100 : Nat) ({ cls := "java/lang/AbstractStringBuilder", name := "ensureCapacityInternal", desc := "(I)V" } : Jvm.MethodName)) ∈ tb_G := tb_1 189 rfl rfl
theorem tw_226 : (Jvm.Cond.instanceMethod ({ cls := "java/lang/AbstractStringBuilder", name := "ensureCapacityInternal", desc := "(I)V" } : Jvm.MethodName)) ∈ tb_G := tb_1 191 rfl rfl
theorem tw_227 : (Jvm.Cond.code ({ cls := "java/lang/AbstractStringBuilder", name := "ensureCapacityInternal", desc := "(I)V" } : Jvm.MethodName) prog_13_method_9_code (3 : Nat) (Option.none : Option Jvm.ClassFile.FieldType)) ∈ tb_G := tb_1 192 rfl rfl
theorem tw_228 : (Jvm.Cond.methodLink "java/lang/AbstractStringBuilder" (104 : Nat) ({ cls := "java/lang/AbstractStringBuilder", name := "newCapacity", desc := "(I)I" } : Jvm.MethodName)) ∈ tb_G := tb_1 193 rfl rfl
theorem tw_230 : (Jvm.Cond.instanceMethod ({ cls := "java/lang/AbstractStringBuilder", name := "newCapacity", desc := "(I)I" } : Jvm.MethodName)) ∈ tb_G := tb_1 195 rfl rfl
theorem tw_231 : (Jvm.Cond.code ({ cls := "java/lang/AbstractStringBuilder", name := "newCapacity", desc := "(I)I" } : Jvm.MethodName) prog_13_method_10_code (6 : Nat) (Option.some Jvm.ClassFile.FieldType.int)) ∈ tb_G := tb_1 196 rfl rfl
theorem tw_232 : (Jvm.Cond.methodLink "java/lang/AbstractStringBuilder" (114 : Nat) ({ cls := "jdk/internal/util/ArraysSupport", name := "newLength", desc := "(III)I" } : Jvm.MethodName)) ∈ tb_G := tb_1 197 rfl rfl
theorem tw_233 : (Jvm.Cond.static ({ cls := "jdk/internal/util/ArraysSupport", name := "newLength", desc := "(III)I" } : Jvm.MethodName)) ∈ tb_G := tb_1 198 rfl rfl
theorem tw_234 : (Jvm.Cond.code ({ cls := "jdk/internal/util/ArraysSupport", name := "newLength", desc := "(III)I" } : Jvm.MethodName) prog_39_method_27_code (4 : Nat) (Option.some Jvm.ClassFile.FieldType.int)) ∈ tb_G := tb_1 199 rfl rfl
theorem tw_235 : (Jvm.Cond.methodLink "jdk/internal/util/ArraysSupport" (194 : Nat) ({ cls := "java/lang/Math", name := "max", desc := "(II)I" } : Jvm.MethodName)) ∈ tb_G := tb_1 200 rfl rfl
theorem tw_236 : (Jvm.Cond.static ({ cls := "java/lang/Math", name := "max", desc := "(II)I" } : Jvm.MethodName)) ∈ tb_G := tb_1 201 rfl rfl
theorem tw_237 : (Jvm.Cond.code ({ cls := "java/lang/Math", name := "max", desc := "(II)I" } : Jvm.MethodName) prog_21_method_65_code (2 : Nat) (Option.some Jvm.ClassFile.FieldType.int)) ∈ tb_G := tb_1 202 rfl rfl
theorem tw_238 : (Jvm.Cond.constant "jdk/internal/util/ArraysSupport" (200 : Nat) (2147483639 : Int32)) ∈ tb_G := tb_1 203 rfl rfl
theorem tw_239 : (Jvm.Cond.methodLink "jdk/internal/util/ArraysSupport" (201 : Nat) ({ cls := "jdk/internal/util/ArraysSupport", name := "hugeLength", desc := "(II)I" } : Jvm.MethodName)) ∈ tb_G := tb_1 204 rfl rfl
theorem tw_240 : (Jvm.Cond.static ({ cls := "jdk/internal/util/ArraysSupport", name := "hugeLength", desc := "(II)I" } : Jvm.MethodName)) ∈ tb_G := tb_1 205 rfl rfl
theorem tw_241 : (Jvm.Cond.code ({ cls := "jdk/internal/util/ArraysSupport", name := "hugeLength", desc := "(II)I" } : Jvm.MethodName) prog_39_method_28_code (3 : Nat) (Option.some Jvm.ClassFile.FieldType.int)) ∈ tb_G := tb_1 206 rfl rfl
theorem tw_242 : (Jvm.Cond.constant "java/lang/AbstractStringBuilder" (39 : Nat) (2147483647 : Int32)) ∈ tb_G := tb_1 207 rfl rfl
theorem tw_243 : (Jvm.Cond.methodLink "java/lang/AbstractStringBuilder" (108 : Nat) ({ cls := "java/util/Arrays", name := "copyOf", desc := "([BI)[B" } : Jvm.MethodName)) ∈ tb_G := tb_1 208 rfl rfl
theorem tw_244 : (Jvm.Cond.static ({ cls := "java/util/Arrays", name := "copyOf", desc := "([BI)[B" } : Jvm.MethodName)) ∈ tb_G := tb_1 209 rfl rfl
theorem tw_245 : (Jvm.Cond.code ({ cls := "java/util/Arrays", name := "copyOf", desc := "([BI)[B" } : Jvm.MethodName) prog_32_method_121_code (3 : Nat) (Option.some (Jvm.ClassFile.FieldType.array Jvm.ClassFile.FieldType.byte))) ∈ tb_G := tb_1 210 rfl rfl
theorem tw_246 : (Jvm.Cond.methodLink "java/util/Arrays" (310 : Nat) ({ cls := "[B", name := "clone", desc := "()Ljava/lang/Object;" } : Jvm.MethodName)) ∈ tb_G := tb_1 211 rfl rfl
theorem tw_247 : (Jvm.Cond.sameMethod "[B" "java/lang/Object" "clone" "()Ljava/lang/Object;") ∈ tb_G := tb_1 212 rfl rfl
theorem tw_248 : (Jvm.Cond.native ({ cls := "java/lang/Object", name := "clone", desc := "()Ljava/lang/Object;" } : Jvm.MethodName)) ∈ tb_G := tb_1 213 rfl rfl
theorem tw_249 : (Jvm.Cond.instanceMethod ({ cls := "java/lang/Object", name := "clone", desc := "()Ljava/lang/Object;" } : Jvm.MethodName)) ∈ tb_G := tb_1 214 rfl rfl
theorem tw_250 : (Jvm.Cond.selects "[B" ({ cls := "[B", name := "clone", desc := "()Ljava/lang/Object;" } : Jvm.MethodName) ({ cls := "java/lang/Object", name := "clone", desc := "()Ljava/lang/Object;" } : Jvm.MethodName)) ∈ tb_G := tb_1 215 rfl rfl
theorem tw_252 : (Jvm.Cond.classLink "java/util/Arrays" (311 : Nat) "[B") ∈ tb_G := tb_1 217 rfl rfl
theorem tw_253 : (Jvm.Cond.methodLink "java/util/Arrays" (304 : Nat) ({ cls := "java/lang/Math", name := "min", desc := "(II)I" } : Jvm.MethodName)) ∈ tb_G := tb_1 218 rfl rfl
