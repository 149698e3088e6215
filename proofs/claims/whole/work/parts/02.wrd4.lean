/-! printed (gen/names.py): words among the good ones -/
theorem tw_772 : (Jvm.Cond.code ({ cls := "RouteDesk", name := "countQueues", desc := "()I" } : Jvm.MethodName) prog_1_method_28_code (3 : Nat) (Option.some Jvm.ClassFile.FieldType.int)) ∈ tb_G := tb_4 17 rfl rfl
theorem tw_773 : (Jvm.Cond.methodLink "RouteDeskLaw" (44 : Nat) ({ cls := "RouteDeskLaw", name := "exchange", desc := "(LRouteDesk;I[J)I" } : Jvm.MethodName)) ∈ tb_G := tb_4 18 rfl rfl
theorem tw_774 : (Jvm.Cond.static ({ cls := "RouteDeskLaw", name := "exchange", desc := "(LRouteDesk;I[J)I" } : Jvm.MethodName)) ∈ tb_G := tb_4 19 rfl rfl
theorem tw_776 : (Jvm.Cond.classLink "RouteDeskLaw" (13 : Nat) "java/lang/IllegalArgumentException") ∈ tb_G := tb_4 21 rfl rfl
theorem tw_777 : (Jvm.Cond.classLink "RouteDeskLaw" (15 : Nat) "java/lang/IllegalStateException") ∈ tb_G := tb_4 22 rfl rfl
theorem tw_778 : (Jvm.Cond.methodLink "RouteDeskLaw" (7 : Nat) ({ cls := "RouteDesk", name := "exchange", desc := "(I)I" } : Jvm.MethodName)) ∈ tb_G := tb_4 23 rfl rfl
theorem tw_779 : (Jvm.Cond.instanceMethod ({ cls := "RouteDesk", name := "exchange", desc := "(I)I" } : Jvm.MethodName)) ∈ tb_G := tb_4 24 rfl rfl
theorem tw_780 : (Jvm.Cond.selects "RouteDesk" ({ cls := "RouteDesk", name := "exchange", desc := "(I)I" } : Jvm.MethodName) ({ cls := "RouteDesk", name := "exchange", desc := "(I)I" } : Jvm.MethodName)) ∈ tb_G := tb_4 25 rfl rfl
theorem tw_781 : (Jvm.Cond.code ({ cls := "RouteDesk", name := "exchange", desc := "(I)I" } : Jvm.MethodName) prog_1_method_3_code (3 : Nat) (Option.some Jvm.ClassFile.FieldType.int)) ∈ tb_G := tb_4 26 rfl rfl
theorem tw_782 : (Jvm.Cond.classLink "RouteDesk" (59 : Nat) "java/lang/IllegalArgumentException") ∈ tb_G := tb_4 27 rfl rfl
theorem tw_784 : (Jvm.Cond.methodLink "RouteDesk" (63 : Nat) ({ cls := "java/lang/IllegalArgumentException", name := "<init>", desc := "(Ljava/lang/String;)V" } : Jvm.MethodName)) ∈ tb_G := tb_4 29 rfl rfl
theorem tw_785 : (Jvm.Cond.instantiable "RouteDesk$Exchange" (2 : Nat)) ∈ tb_G := tb_4 30 rfl rfl
theorem tw_786 : (Jvm.Cond.methodLink "RouteDesk" (66 : Nat) ({ cls := "RouteDesk$Exchange", name := "<init>", desc := "(I)V" } : Jvm.MethodName)) ∈ tb_G := tb_4 31 rfl rfl
theorem tw_787 : (Jvm.Cond.instanceMethod ({ cls := "RouteDesk$Exchange", name := "<init>", desc := "(I)V" } : Jvm.MethodName)) ∈ tb_G := tb_4 32 rfl rfl
theorem tw_788 : (Jvm.Cond.code ({ cls := "RouteDesk$Exchange", name := "<init>", desc := "(I)V" } : Jvm.MethodName) prog_3_method_1_code (2 : Nat) (Option.none : Option Jvm.ClassFile.FieldType)) ∈ tb_G := tb_4 33 rfl rfl
theorem tw_789 : (Jvm.Cond.methodLink "RouteDesk$Exchange" (3 : Nat) ({ cls := "java/lang/Object", name := "<init>", desc := "()V" } : Jvm.MethodName)) ∈ tb_G := tb_4 34 rfl rfl
theorem tw_790 : (Jvm.Cond.fieldLink "RouteDesk$Exchange" (15 : Nat) "RouteDesk$Exchange" "sort" "I") ∈ tb_G := tb_4 35 rfl rfl
theorem tw_792 : (Jvm.Cond.fieldLink "RouteDesk$Exchange" (9 : Nat) "RouteDesk$Exchange" "other" "I") ∈ tb_G := tb_4 37 rfl rfl
theorem tw_794 : (Jvm.Cond.laysFinal "RouteDesk$Exchange" "RouteDesk$Exchange" "sort" "I") ∈ tb_G := tb_4 39 rfl rfl
theorem tw_796 : (Jvm.Cond.lays "RouteDesk$Exchange" "RouteDesk$Exchange" "other" "I") ∈ tb_G := tb_4 41 rfl rfl
theorem tw_798 : (Jvm.Cond.superclass "RouteDesk$Exchange" "java/lang/Object") ∈ tb_G := tb_4 43 rfl rfl
theorem tw_799 : (Jvm.Cond.classLink "RouteDesk" (69 : Nat) "java/lang/IllegalStateException") ∈ tb_G := tb_4 44 rfl rfl
theorem tw_800 : (Jvm.Cond.instantiable "java/lang/IllegalStateException" (6 : Nat)) ∈ tb_G := tb_4 45 rfl rfl
theorem tw_802 : (Jvm.Cond.selects "java/lang/IllegalStateException" ({ cls := "java/lang/Throwable", name := "fillInStackTrace", desc := "(I)Ljava/lang/Throwable;" } : Jvm.MethodName) ({ cls := "java/lang/Throwable", name := "fillInStackTrace", desc := "(I)Ljava/lang/Throwable;" } : Jvm.MethodName)) ∈ tb_G := tb_4 47 rfl rfl
theorem tw_803 : (Jvm.Cond.lays "java/lang/IllegalStateException" "java/lang/Throwable" "cause" "Ljava/lang/Throwable;") ∈ tb_G := tb_4 48 rfl rfl
theorem tw_804 : (Jvm.Cond.lays "java/lang/IllegalStateException" "java/lang/Throwable" "stackTrace" "[Ljava/lang/StackTraceElement;") ∈ tb_G := tb_4 49 rfl rfl
theorem tw_805 : (Jvm.Cond.lays "java/lang/IllegalStateException" "java/lang/Throwable" "suppressedExceptions" "Ljava/util/List;") ∈ tb_G := tb_4 50 rfl rfl
theorem tw_806 : (Jvm.Cond.lays "java/lang/IllegalStateException" "java/lang/Throwable" "detailMessage" "Ljava/lang/String;") ∈ tb_G := tb_4 51 rfl rfl
theorem tw_807 : (Jvm.Cond.lays "java/lang/IllegalStateException" "java/lang/Throwable" "backtrace" "Ljava/lang/Object;") ∈ tb_G := tb_4 52 rfl rfl
theorem tw_809 : (Jvm.Cond.methodLink "RouteDesk" (73 : Nat) ({ cls := "java/lang/IllegalStateException", name := "<init>", desc := "(Ljava/lang/String;)V" } : Jvm.MethodName)) ∈ tb_G := tb_4 54 rfl rfl
theorem tw_810 : (Jvm.Cond.instanceMethod ({ cls := "java/lang/IllegalStateException", name := "<init>", desc := "(Ljava/lang/String;)V" } : Jvm.MethodName)) ∈ tb_G := tb_4 55 rfl rfl
theorem tw_811 : (Jvm.Cond.code ({ cls := "java/lang/IllegalStateException", name := "<init>", desc := "(Ljava/lang/String;)V" } : Jvm.MethodName) prog_17_method_2_code (2 : Nat) (Option.none : Option Jvm.ClassFile.FieldType)) ∈ tb_G := tb_4 56 rfl rfl
theorem tw_812 : (Jvm.Cond.methodLink "java/lang/IllegalStateException" (7 : Nat) ({ cls := "java/lang/RuntimeException", name := "<init>", desc := "(Ljava/lang/String;)V" } : Jvm.MethodName)) ∈ tb_G := tb_4 57 rfl rfl
theorem tw_813 : (Jvm.Cond.lays "java/lang/IllegalStateException" "java/lang/Throwable" "depth" "I") ∈ tb_G := tb_4 58 rfl rfl
theorem tw_814 : (Jvm.Cond.superclass "java/lang/IllegalStateException" "java/lang/RuntimeException") ∈ tb_G := tb_4 59 rfl rfl
theorem tw_815 : (Jvm.Cond.methodLink "RouteDeskLaw" (58 : Nat) ({ cls := "RouteDeskLaw", name := "queue", desc := "(LRouteDesk;[J)I" } : Jvm.MethodName)) ∈ tb_G := tb_4 60 rfl rfl
theorem tw_816 : (Jvm.Cond.static ({ cls := "RouteDeskLaw", name := "queue", desc := "(LRouteDesk;[J)I" } : Jvm.MethodName)) ∈ tb_G := tb_4 61 rfl rfl
theorem tw_818 : (Jvm.Cond.methodLink "RouteDeskLaw" (17 : Nat) ({ cls := "RouteDesk", name := "queue", desc := "()I" } : Jvm.MethodName)) ∈ tb_G := tb_4 63 rfl rfl
theorem tw_819 : (Jvm.Cond.instanceMethod ({ cls := "RouteDesk", name := "queue", desc := "()I" } : Jvm.MethodName)) ∈ tb_G := tb_4 64 rfl rfl
theorem tw_820 : (Jvm.Cond.selects "RouteDesk" ({ cls := "RouteDesk", name := "queue", desc := "()I" } : Jvm.MethodName) ({ cls := "RouteDesk", name := "queue", desc := "()I" } : Jvm.MethodName)) ∈ tb_G := tb_4 65 rfl rfl
theorem tw_821 : (Jvm.Cond.code ({ cls := "RouteDesk", name := "queue", desc := "()I" } : Jvm.MethodName) prog_1_method_5_code (2 : Nat) (Option.some Jvm.ClassFile.FieldType.int)) ∈ tb_G := tb_4 66 rfl rfl
theorem tw_823 : (Jvm.Cond.methodLink "RouteDeskLaw" (67 : Nat) ({ cls := "RouteDeskLaw", name := "bind", desc := "(LRouteDesk;IIZ[J)I" } : Jvm.MethodName)) ∈ tb_G := tb_4 68 rfl rfl
theorem tw_824 : (Jvm.Cond.static ({ cls := "RouteDeskLaw", name := "bind", desc := "(LRouteDesk;IIZ[J)I" } : Jvm.MethodName)) ∈ tb_G := tb_4 69 rfl rfl
theorem tw_826 : (Jvm.Cond.methodLink "RouteDeskLaw" (21 : Nat) ({ cls := "RouteDesk", name := "bind", desc := "(IIZ)Z" } : Jvm.MethodName)) ∈ tb_G := tb_4 71 rfl rfl
theorem tw_827 : (Jvm.Cond.instanceMethod ({ cls := "RouteDesk", name := "bind", desc := "(IIZ)Z" } : Jvm.MethodName)) ∈ tb_G := tb_4 72 rfl rfl
theorem tw_828 : (Jvm.Cond.selects "RouteDesk" ({ cls := "RouteDesk", name := "bind", desc := "(IIZ)Z" } : Jvm.MethodName) ({ cls := "RouteDesk", name := "bind", desc := "(IIZ)Z" } : Jvm.MethodName)) ∈ tb_G := tb_4 73 rfl rfl
theorem tw_829 : (Jvm.Cond.code ({ cls := "RouteDesk", name := "bind", desc := "(IIZ)Z" } : Jvm.MethodName) prog_1_method_7_code (6 : Nat) (Option.some Jvm.ClassFile.FieldType.boolean)) ∈ tb_G := tb_4 74 rfl rfl
theorem tw_831 : (Jvm.Cond.methodLink "RouteDesk" (115 : Nat) ({ cls := "RouteDesk", name := "isTextFor", desc := "(ILjava/lang/String;)Z" } : Jvm.MethodName)) ∈ tb_G := tb_4 76 rfl rfl
theorem tw_832 : (Jvm.Cond.static ({ cls := "RouteDesk", name := "isTextFor", desc := "(ILjava/lang/String;)Z" } : Jvm.MethodName)) ∈ tb_G := tb_4 77 rfl rfl
theorem tw_833 : (Jvm.Cond.code ({ cls := "RouteDesk", name := "isTextFor", desc := "(ILjava/lang/String;)Z" } : Jvm.MethodName) prog_1_method_21_code (2 : Nat) (Option.some Jvm.ClassFile.FieldType.boolean)) ∈ tb_G := tb_4 78 rfl rfl
theorem tw_834 : (Jvm.Cond.methodLink "RouteDesk" (222 : Nat) ({ cls := "java/lang/String", name := "isEmpty", desc := "()Z" } : Jvm.MethodName)) ∈ tb_G := tb_4 79 rfl rfl
theorem tw_835 : (Jvm.Cond.instanceMethod ({ cls := "java/lang/String", name := "isEmpty", desc := "()Z" } : Jvm.MethodName)) ∈ tb_G := tb_4 80 rfl rfl
theorem tw_836 : (Jvm.Cond.selects "java/lang/String" ({ cls := "java/lang/String", name := "isEmpty", desc := "()Z" } : Jvm.MethodName) ({ cls := "java/lang/String", name := "isEmpty", desc := "()Z" } : Jvm.MethodName)) ∈ tb_G := tb_4 81 rfl rfl
theorem tw_837 : (Jvm.Cond.code ({ cls := "java/lang/String", name := "isEmpty", desc := "()Z" } : Jvm.MethodName) prog_23_method_55_code (1 : Nat) (Option.some Jvm.ClassFile.FieldType.boolean)) ∈ tb_G := tb_4 82 rfl rfl
theorem tw_838 : (Jvm.Cond.methodLink "RouteDesk" (226 : Nat) ({ cls := "RouteDesk$Pattern", name := "isPattern", desc := "(Ljava/lang/String;)Z" } : Jvm.MethodName)) ∈ tb_G := tb_4 83 rfl rfl
theorem tw_839 : (Jvm.Cond.static ({ cls := "RouteDesk$Pattern", name := "isPattern", desc := "(Ljava/lang/String;)Z" } : Jvm.MethodName)) ∈ tb_G := tb_4 84 rfl rfl
theorem tw_840 : (Jvm.Cond.code ({ cls := "RouteDesk$Pattern", name := "isPattern", desc := "(Ljava/lang/String;)Z" } : Jvm.MethodName) prog_7_method_2_code (3 : Nat) (Option.some Jvm.ClassFile.FieldType.boolean)) ∈ tb_G := tb_4 85 rfl rfl
theorem tw_841 : (Jvm.Cond.methodLink "RouteDesk$Pattern" (7 : Nat) ({ cls := "java/lang/String", name := "length", desc := "()I" } : Jvm.MethodName)) ∈ tb_G := tb_4 86 rfl rfl
theorem tw_842 : (Jvm.Cond.methodLink "RouteDesk$Pattern" (15 : Nat) ({ cls := "RouteDesk$Texts", name := "isPartEnd", desc := "(Ljava/lang/String;IC)Z" } : Jvm.MethodName)) ∈ tb_G := tb_4 87 rfl rfl
theorem tw_843 : (Jvm.Cond.static ({ cls := "RouteDesk$Texts", name := "isPartEnd", desc := "(Ljava/lang/String;IC)Z" } : Jvm.MethodName)) ∈ tb_G := tb_4 88 rfl rfl
theorem tw_844 : (Jvm.Cond.code ({ cls := "RouteDesk$Texts", name := "isPartEnd", desc := "(Ljava/lang/String;IC)Z" } : Jvm.MethodName) prog_9_method_3_code (3 : Nat) (Option.some Jvm.ClassFile.FieldType.boolean)) ∈ tb_G := tb_4 89 rfl rfl
theorem tw_845 : (Jvm.Cond.methodLink "RouteDesk$Texts" (13 : Nat) ({ cls := "java/lang/String", name := "length", desc := "()I" } : Jvm.MethodName)) ∈ tb_G := tb_4 90 rfl rfl
theorem tw_846 : (Jvm.Cond.methodLink "RouteDesk$Pattern" (21 : Nat) ({ cls := "RouteDesk$Pattern", name := "hasWildSign", desc := "(Ljava/lang/String;II)Z" } : Jvm.MethodName)) ∈ tb_G := tb_4 91 rfl rfl
theorem tw_847 : (Jvm.Cond.static ({ cls := "RouteDesk$Pattern", name := "hasWildSign", desc := "(Ljava/lang/String;II)Z" } : Jvm.MethodName)) ∈ tb_G := tb_4 92 rfl rfl
theorem tw_848 : (Jvm.Cond.code ({ cls := "RouteDesk$Pattern", name := "hasWildSign", desc := "(Ljava/lang/String;II)Z" } : Jvm.MethodName) prog_7_method_8_code (3 : Nat) (Option.some Jvm.ClassFile.FieldType.boolean)) ∈ tb_G := tb_4 93 rfl rfl
theorem tw_849 : (Jvm.Cond.methodLink "RouteDesk$Pattern" (54 : Nat) ({ cls := "RouteDesk$Texts", name := "find", desc := "(Ljava/lang/String;CII)I" } : Jvm.MethodName)) ∈ tb_G := tb_4 94 rfl rfl
theorem tw_850 : (Jvm.Cond.methodLink "RouteDesk" (232 : Nat) ({ cls := "RouteDesk$HeaderText", name := "isRule", desc := "(Ljava/lang/String;)Z" } : Jvm.MethodName)) ∈ tb_G := tb_4 95 rfl rfl
theorem tw_851 : (Jvm.Cond.static ({ cls := "RouteDesk$HeaderText", name := "isRule", desc := "(Ljava/lang/String;)Z" } : Jvm.MethodName)) ∈ tb_G := tb_4 96 rfl rfl
theorem tw_852 : (Jvm.Cond.code ({ cls := "RouteDesk$HeaderText", name := "isRule", desc := "(Ljava/lang/String;)Z" } : Jvm.MethodName) prog_5_method_3_code (4 : Nat) (Option.some Jvm.ClassFile.FieldType.boolean)) ∈ tb_G := tb_4 97 rfl rfl
theorem tw_854 : (Jvm.Cond.methodLink "RouteDesk$HeaderText" (24 : Nat) ({ cls := "RouteDesk$Texts", name := "beginsWith", desc := "(Ljava/lang/String;Ljava/lang/String;)Z" } : Jvm.MethodName)) ∈ tb_G := tb_4 99 rfl rfl
theorem tw_855 : (Jvm.Cond.static ({ cls := "RouteDesk$Texts", name := "beginsWith", desc := "(Ljava/lang/String;Ljava/lang/String;)Z" } : Jvm.MethodName)) ∈ tb_G := tb_4 100 rfl rfl
theorem tw_856 : (Jvm.Cond.code ({ cls := "RouteDesk$Texts", name := "beginsWith", desc := "(Ljava/lang/String;Ljava/lang/String;)Z" } : Jvm.MethodName) prog_9_method_5_code (2 : Nat) (Option.some Jvm.ClassFile.FieldType.boolean)) ∈ tb_G := tb_4 101 rfl rfl
theorem tw_857 : (Jvm.Cond.methodLink "RouteDesk$Texts" (17 : Nat) ({ cls := "RouteDesk$Texts", name := "isSame", desc := "(Ljava/lang/String;IILjava/lang/String;II)Z" } : Jvm.MethodName)) ∈ tb_G := tb_4 102 rfl rfl
theorem tw_858 : (Jvm.Cond.static ({ cls := "RouteDesk$Texts", name := "isSame", desc := "(Ljava/lang/String;IILjava/lang/String;II)Z" } : Jvm.MethodName)) ∈ tb_G := tb_4 103 rfl rfl
theorem tw_859 : (Jvm.Cond.code ({ cls := "RouteDesk$Texts", name := "isSame", desc := "(Ljava/lang/String;IILjava/lang/String;II)Z" } : Jvm.MethodName) prog_9_method_4_code (7 : Nat) (Option.some Jvm.ClassFile.FieldType.boolean)) ∈ tb_G := tb_4 104 rfl rfl
theorem tw_861 : (Jvm.Cond.methodLink "RouteDesk$HeaderText" (30 : Nat) ({ cls := "RouteDesk$Texts", name := "isPartEnd", desc := "(Ljava/lang/String;IC)Z" } : Jvm.MethodName)) ∈ tb_G := tb_4 106 rfl rfl
theorem tw_862 : (Jvm.Cond.methodLink "RouteDesk$HeaderText" (34 : Nat) ({ cls := "java/lang/String", name := "length", desc := "()I" } : Jvm.MethodName)) ∈ tb_G := tb_4 107 rfl rfl
theorem tw_863 : (Jvm.Cond.methodLink "RouteDesk$HeaderText" (40 : Nat) ({ cls := "RouteDesk$HeaderText", name := "isNameOrPair", desc := "(Ljava/lang/String;II)Z" } : Jvm.MethodName)) ∈ tb_G := tb_4 108 rfl rfl
theorem tw_866 : (Jvm.Cond.instantiable "RouteDesk$Binding" (4 : Nat)) ∈ tb_G := tb_4 111 rfl rfl
theorem tw_867 : (Jvm.Cond.methodLink "RouteDesk" (127 : Nat) ({ cls := "RouteDesk$Binding", name := "<init>", desc := "(IIZLjava/lang/String;)V" } : Jvm.MethodName)) ∈ tb_G := tb_4 112 rfl rfl
theorem tw_868 : (Jvm.Cond.instanceMethod ({ cls := "RouteDesk$Binding", name := "<init>", desc := "(IIZLjava/lang/String;)V" } : Jvm.MethodName)) ∈ tb_G := tb_4 113 rfl rfl
theorem tw_869 : (Jvm.Cond.code ({ cls := "RouteDesk$Binding", name := "<init>", desc := "(IIZLjava/lang/String;)V" } : Jvm.MethodName) prog_2_method_1_code (5 : Nat) (Option.none : Option Jvm.ClassFile.FieldType)) ∈ tb_G := tb_4 114 rfl rfl
theorem tw_870 : (Jvm.Cond.methodLink "RouteDesk$Binding" (1 : Nat) ({ cls := "java/lang/Object", name := "<init>", desc := "()V" } : Jvm.MethodName)) ∈ tb_G := tb_4 115 rfl rfl
theorem tw_871 : (Jvm.Cond.fieldLink "RouteDesk$Binding" (7 : Nat) "RouteDesk$Binding" "from" "I") ∈ tb_G := tb_4 116 rfl rfl
theorem tw_873 : (Jvm.Cond.fieldLink "RouteDesk$Binding" (13 : Nat) "RouteDesk$Binding" "to" "I") ∈ tb_G := tb_4 118 rfl rfl
theorem tw_875 : (Jvm.Cond.fieldLink "RouteDesk$Binding" (16 : Nat) "RouteDesk$Binding" "toQueue" "Z") ∈ tb_G := tb_4 120 rfl rfl
theorem tw_877 : (Jvm.Cond.fieldLink "RouteDesk$Binding" (20 : Nat) "RouteDesk$Binding" "text" "Ljava/lang/String;") ∈ tb_G := tb_4 122 rfl rfl
theorem tw_879 : (Jvm.Cond.laysFinal "RouteDesk$Binding" "RouteDesk$Binding" "from" "I") ∈ tb_G := tb_4 124 rfl rfl
theorem tw_881 : (Jvm.Cond.laysFinal "RouteDesk$Binding" "RouteDesk$Binding" "to" "I") ∈ tb_G := tb_4 126 rfl rfl
theorem tw_883 : (Jvm.Cond.laysFinal "RouteDesk$Binding" "RouteDesk$Binding" "toQueue" "Z") ∈ tb_G := tb_4 128 rfl rfl
theorem tw_885 : (Jvm.Cond.laysFinal "RouteDesk$Binding" "RouteDesk$Binding" "text" "Ljava/lang/String;") ∈ tb_G := tb_4 130 rfl rfl
theorem tw_887 : (Jvm.Cond.superclass "RouteDesk$Binding" "java/lang/Object") ∈ tb_G := tb_4 132 rfl rfl
theorem tw_888 : (Jvm.Cond.methodLink "RouteDesk" (130 : Nat) ({ cls := "java/util/ArrayList", name := "add", desc := "(Ljava/lang/Object;)Z" } : Jvm.MethodName)) ∈ tb_G := tb_4 133 rfl rfl
theorem tw_889 : (Jvm.Cond.methodLink "RouteDeskLaw" (84 : Nat) ({ cls := "RouteDeskLaw", name := "route", desc := "(LRouteDesk;I[J)I" } : Jvm.MethodName)) ∈ tb_G := tb_4 134 rfl rfl
theorem tw_890 : (Jvm.Cond.static ({ cls := "RouteDeskLaw", name := "route", desc := "(LRouteDesk;I[J)I" } : Jvm.MethodName)) ∈ tb_G := tb_4 135 rfl rfl
theorem tw_892 : (Jvm.Cond.methodLink "RouteDeskLaw" (25 : Nat) ({ cls := "RouteDesk", name := "route", desc := "(I)I" } : Jvm.MethodName)) ∈ tb_G := tb_4 137 rfl rfl
theorem tw_893 : (Jvm.Cond.instanceMethod ({ cls := "RouteDesk", name := "route", desc := "(I)I" } : Jvm.MethodName)) ∈ tb_G := tb_4 138 rfl rfl
theorem tw_894 : (Jvm.Cond.selects "RouteDesk" ({ cls := "RouteDesk", name := "route", desc := "(I)I" } : Jvm.MethodName) ({ cls := "RouteDesk", name := "route", desc := "(I)I" } : Jvm.MethodName)) ∈ tb_G := tb_4 139 rfl rfl
theorem tw_895 : (Jvm.Cond.code ({ cls := "RouteDesk", name := "route", desc := "(I)I" } : Jvm.MethodName) prog_1_method_11_code (3 : Nat) (Option.some Jvm.ClassFile.FieldType.int)) ∈ tb_G := tb_4 140 rfl rfl
theorem tw_897 : (Jvm.Cond.methodLink "RouteDesk" (162 : Nat) ({ cls := "RouteDesk$Routing", name := "startAt", desc := "(I)V" } : Jvm.MethodName)) ∈ tb_G := tb_4 142 rfl rfl
theorem tw_898 : (Jvm.Cond.instanceMethod ({ cls := "RouteDesk$Routing", name := "startAt", desc := "(I)V" } : Jvm.MethodName)) ∈ tb_G := tb_4 143 rfl rfl
theorem tw_899 : (Jvm.Cond.selects "RouteDesk$Routing" ({ cls := "RouteDesk$Routing", name := "startAt", desc := "(I)V" } : Jvm.MethodName) ({ cls := "RouteDesk$Routing", name := "startAt", desc := "(I)V" } : Jvm.MethodName)) ∈ tb_G := tb_4 144 rfl rfl
theorem tw_900 : (Jvm.Cond.code ({ cls := "RouteDesk$Routing", name := "startAt", desc := "(I)V" } : Jvm.MethodName) prog_8_method_2_code (3 : Nat) (Option.none : Option Jvm.ClassFile.FieldType)) ∈ tb_G := tb_4 145 rfl rfl
theorem tw_901 : (Jvm.Cond.methodLink "RouteDesk$Routing" (29 : Nat) ({ cls := "RouteDesk$Routing", name := "markPassed", desc := "(I)V" } : Jvm.MethodName)) ∈ tb_G := tb_4 146 rfl rfl
theorem tw_902 : (Jvm.Cond.instanceMethod ({ cls := "RouteDesk$Routing", name := "markPassed", desc := "(I)V" } : Jvm.MethodName)) ∈ tb_G := tb_4 147 rfl rfl
theorem tw_903 : (Jvm.Cond.selects "RouteDesk$Routing" ({ cls := "RouteDesk$Routing", name := "markPassed", desc := "(I)V" } : Jvm.MethodName) ({ cls := "RouteDesk$Routing", name := "markPassed", desc := "(I)V" } : Jvm.MethodName)) ∈ tb_G := tb_4 148 rfl rfl
theorem tw_904 : (Jvm.Cond.code ({ cls := "RouteDesk$Routing", name := "markPassed", desc := "(I)V" } : Jvm.MethodName) prog_8_method_3_code (2 : Nat) (Option.none : Option Jvm.ClassFile.FieldType)) ∈ tb_G := tb_4 149 rfl rfl
theorem tw_905 : (Jvm.Cond.methodLink "RouteDesk" (172 : Nat) ({ cls := "RouteDesk", name := "leadOn", desc := "(I)V" } : Jvm.MethodName)) ∈ tb_G := tb_4 150 rfl rfl
theorem tw_907 : (Jvm.Cond.instanceMethod ({ cls := "RouteDesk", name := "leadOn", desc := "(I)V" } : Jvm.MethodName)) ∈ tb_G := tb_4 152 rfl rfl
theorem tw_908 : (Jvm.Cond.code ({ cls := "RouteDesk", name := "leadOn", desc := "(I)V" } : Jvm.MethodName) prog_1_method_23_code (6 : Nat) (Option.none : Option Jvm.ClassFile.FieldType)) ∈ tb_G := tb_4 153 rfl rfl
theorem tw_909 : (Jvm.Cond.methodLink "RouteDesk" (242 : Nat) ({ cls := "RouteDesk", name := "isMet", desc := "(ILjava/lang/String;)Z" } : Jvm.MethodName)) ∈ tb_G := tb_4 154 rfl rfl
theorem tw_911 : (Jvm.Cond.instanceMethod ({ cls := "RouteDesk", name := "isMet", desc := "(ILjava/lang/String;)Z" } : Jvm.MethodName)) ∈ tb_G := tb_4 156 rfl rfl
theorem tw_912 : (Jvm.Cond.code ({ cls := "RouteDesk", name := "isMet", desc := "(ILjava/lang/String;)Z" } : Jvm.MethodName) prog_1_method_22_code (3 : Nat) (Option.some Jvm.ClassFile.FieldType.boolean)) ∈ tb_G := tb_4 157 rfl rfl
theorem tw_913 : (Jvm.Cond.methodLink "RouteDesk" (235 : Nat) ({ cls := "RouteDesk$Pattern", name := "isLike", desc := "(Ljava/lang/String;Ljava/lang/String;)Z" } : Jvm.MethodName)) ∈ tb_G := tb_4 158 rfl rfl
theorem tw_914 : (Jvm.Cond.static ({ cls := "RouteDesk$Pattern", name := "isLike", desc := "(Ljava/lang/String;Ljava/lang/String;)Z" } : Jvm.MethodName)) ∈ tb_G := tb_4 159 rfl rfl
theorem tw_915 : (Jvm.Cond.code ({ cls := "RouteDesk$Pattern", name := "isLike", desc := "(Ljava/lang/String;Ljava/lang/String;)Z" } : Jvm.MethodName) prog_7_method_3_code (6 : Nat) (Option.some Jvm.ClassFile.FieldType.boolean)) ∈ tb_G := tb_4 160 rfl rfl
theorem tw_916 : (Jvm.Cond.methodLink "RouteDesk$Pattern" (25 : Nat) ({ cls := "RouteDesk$Pattern", name := "isJust", desc := "(Ljava/lang/String;IIC)Z" } : Jvm.MethodName)) ∈ tb_G := tb_4 161 rfl rfl
theorem tw_917 : (Jvm.Cond.static ({ cls := "RouteDesk$Pattern", name := "isJust", desc := "(Ljava/lang/String;IIC)Z" } : Jvm.MethodName)) ∈ tb_G := tb_4 162 rfl rfl
theorem tw_918 : (Jvm.Cond.code ({ cls := "RouteDesk$Pattern", name := "isJust", desc := "(Ljava/lang/String;IIC)Z" } : Jvm.MethodName) prog_7_method_7_code (4 : Nat) (Option.some Jvm.ClassFile.FieldType.boolean)) ∈ tb_G := tb_4 163 rfl rfl
theorem tw_919 : (Jvm.Cond.methodLink "RouteDesk$Pattern" (50 : Nat) ({ cls := "java/lang/String", name := "charAt", desc := "(I)C" } : Jvm.MethodName)) ∈ tb_G := tb_4 164 rfl rfl
theorem tw_920 : (Jvm.Cond.methodLink "RouteDesk$Pattern" (29 : Nat) ({ cls := "RouteDesk$Pattern", name := "afterAnyWords", desc := "(J)J" } : Jvm.MethodName)) ∈ tb_G := tb_4 165 rfl rfl
theorem tw_921 : (Jvm.Cond.static ({ cls := "RouteDesk$Pattern", name := "afterAnyWords", desc := "(J)J" } : Jvm.MethodName)) ∈ tb_G := tb_4 166 rfl rfl
theorem tw_922 : (Jvm.Cond.code ({ cls := "RouteDesk$Pattern", name := "afterAnyWords", desc := "(J)J" } : Jvm.MethodName) prog_7_method_4_code (2 : Nat) (Option.some Jvm.ClassFile.FieldType.long)) ∈ tb_G := tb_4 167 rfl rfl
theorem tw_923 : (Jvm.Cond.methodLink "RouteDesk$Pattern" (41 : Nat) ({ cls := "java/lang/Long", name := "lowestOneBit", desc := "(J)J" } : Jvm.MethodName)) ∈ tb_G := tb_4 168 rfl rfl
theorem tw_924 : (Jvm.Cond.static ({ cls := "java/lang/Long", name := "lowestOneBit", desc := "(J)J" } : Jvm.MethodName)) ∈ tb_G := tb_4 169 rfl rfl
theorem tw_925 : (Jvm.Cond.code ({ cls := "java/lang/Long", name := "lowestOneBit", desc := "(J)J" } : Jvm.MethodName) prog_20_method_47_code (2 : Nat) (Option.some Jvm.ClassFile.FieldType.long)) ∈ tb_G := tb_4 170 rfl rfl
theorem tw_926 : (Jvm.Cond.methodLink "RouteDesk$Pattern" (33 : Nat) ({ cls := "RouteDesk$Pattern", name := "afterOneWord", desc := "(JLjava/lang/String;IILjava/lang/String;)J" } : Jvm.MethodName)) ∈ tb_G := tb_4 171 rfl rfl
theorem tw_927 : (Jvm.Cond.static ({ cls := "RouteDesk$Pattern", name := "afterOneWord", desc := "(JLjava/lang/String;IILjava/lang/String;)J" } : Jvm.MethodName)) ∈ tb_G := tb_4 172 rfl rfl
theorem tw_928 : (Jvm.Cond.code ({ cls := "RouteDesk$Pattern", name := "afterOneWord", desc := "(JLjava/lang/String;IILjava/lang/String;)J" } : Jvm.MethodName) prog_7_method_5_code (13 : Nat) (Option.some Jvm.ClassFile.FieldType.long)) ∈ tb_G := tb_4 173 rfl rfl
theorem tw_929 : (Jvm.Cond.methodLink "RouteDesk$Pattern" (46 : Nat) ({ cls := "RouteDesk$Texts", name := "isSame", desc := "(Ljava/lang/String;IILjava/lang/String;II)Z" } : Jvm.MethodName)) ∈ tb_G := tb_4 174 rfl rfl
theorem tw_930 : (Jvm.Cond.methodLink "RouteDesk$Pattern" (37 : Nat) ({ cls := "RouteDesk$Pattern", name := "countWords", desc := "(Ljava/lang/String;)I" } : Jvm.MethodName)) ∈ tb_G := tb_4 175 rfl rfl
theorem tw_931 : (Jvm.Cond.static ({ cls := "RouteDesk$Pattern", name := "countWords", desc := "(Ljava/lang/String;)I" } : Jvm.MethodName)) ∈ tb_G := tb_4 176 rfl rfl
theorem tw_932 : (Jvm.Cond.code ({ cls := "RouteDesk$Pattern", name := "countWords", desc := "(Ljava/lang/String;)I" } : Jvm.MethodName) prog_7_method_6_code (3 : Nat) (Option.some Jvm.ClassFile.FieldType.int)) ∈ tb_G := tb_4 177 rfl rfl
theorem tw_933 : (Jvm.Cond.methodLink "RouteDesk" (238 : Nat) ({ cls := "RouteDesk$HeaderText", name := "isRuleMet", desc := "(Ljava/lang/String;LRouteDesk$Message;)Z" } : Jvm.MethodName)) ∈ tb_G := tb_4 178 rfl rfl
theorem tw_934 : (Jvm.Cond.static ({ cls := "RouteDesk$HeaderText", name := "isRuleMet", desc := "(Ljava/lang/String;LRouteDesk$Message;)Z" } : Jvm.MethodName)) ∈ tb_G := tb_4 179 rfl rfl
theorem tw_935 : (Jvm.Cond.code ({ cls := "RouteDesk$HeaderText", name := "isRuleMet", desc := "(Ljava/lang/String;LRouteDesk$Message;)Z" } : Jvm.MethodName) prog_5_method_4_code (5 : Nat) (Option.some Jvm.ClassFile.FieldType.boolean)) ∈ tb_G := tb_4 180 rfl rfl
theorem tw_936 : (Jvm.Cond.methodLink "RouteDesk$HeaderText" (43 : Nat) ({ cls := "RouteDesk$HeaderText", name := "isNameMet", desc := "(Ljava/lang/String;IILRouteDesk$Message;)Z" } : Jvm.MethodName)) ∈ tb_G := tb_4 181 rfl rfl
theorem tw_937 : (Jvm.Cond.static ({ cls := "RouteDesk$HeaderText", name := "isNameMet", desc := "(Ljava/lang/String;IILRouteDesk$Message;)Z" } : Jvm.MethodName)) ∈ tb_G := tb_4 182 rfl rfl
theorem tw_938 : (Jvm.Cond.code ({ cls := "RouteDesk$HeaderText", name := "isNameMet", desc := "(Ljava/lang/String;IILRouteDesk$Message;)Z" } : Jvm.MethodName) prog_5_method_5_code (7 : Nat) (Option.some Jvm.ClassFile.FieldType.boolean)) ∈ tb_G := tb_4 183 rfl rfl
theorem tw_939 : (Jvm.Cond.methodLink "RouteDesk$HeaderText" (53 : Nat) ({ cls := "java/util/ArrayList", name := "size", desc := "()I" } : Jvm.MethodName)) ∈ tb_G := tb_4 184 rfl rfl
theorem tw_940 : (Jvm.Cond.methodLink "RouteDesk$HeaderText" (58 : Nat) ({ cls := "java/util/ArrayList", name := "get", desc := "(I)Ljava/lang/Object;" } : Jvm.MethodName)) ∈ tb_G := tb_4 185 rfl rfl
theorem tw_941 : (Jvm.Cond.classLink "RouteDesk$HeaderText" (62 : Nat) "RouteDesk$Header") ∈ tb_G := tb_4 186 rfl rfl
theorem tw_942 : (Jvm.Cond.methodLink "RouteDesk$HeaderText" (68 : Nat) ({ cls := "RouteDesk$Texts", name := "isSame", desc := "(Ljava/lang/String;IILjava/lang/String;II)Z" } : Jvm.MethodName)) ∈ tb_G := tb_4 187 rfl rfl
theorem tw_943 : (Jvm.Cond.methodLink "RouteDesk" (245 : Nat) ({ cls := "RouteDesk", name := "follow", desc := "(LRouteDesk$Binding;)V" } : Jvm.MethodName)) ∈ tb_G := tb_4 188 rfl rfl
theorem tw_945 : (Jvm.Cond.instanceMethod ({ cls := "RouteDesk", name := "follow", desc := "(LRouteDesk$Binding;)V" } : Jvm.MethodName)) ∈ tb_G := tb_4 190 rfl rfl
theorem tw_946 : (Jvm.Cond.code ({ cls := "RouteDesk", name := "follow", desc := "(LRouteDesk$Binding;)V" } : Jvm.MethodName) prog_1_method_24_code (2 : Nat) (Option.none : Option Jvm.ClassFile.FieldType)) ∈ tb_G := tb_4 191 rfl rfl
theorem tw_947 : (Jvm.Cond.methodLink "RouteDesk" (259 : Nat) ({ cls := "RouteDesk$Routing", name := "markFound", desc := "(I)V" } : Jvm.MethodName)) ∈ tb_G := tb_4 192 rfl rfl
theorem tw_948 : (Jvm.Cond.instanceMethod ({ cls := "RouteDesk$Routing", name := "markFound", desc := "(I)V" } : Jvm.MethodName)) ∈ tb_G := tb_4 193 rfl rfl
theorem tw_949 : (Jvm.Cond.selects "RouteDesk$Routing" ({ cls := "RouteDesk$Routing", name := "markFound", desc := "(I)V" } : Jvm.MethodName) ({ cls := "RouteDesk$Routing", name := "markFound", desc := "(I)V" } : Jvm.MethodName)) ∈ tb_G := tb_4 194 rfl rfl
theorem tw_950 : (Jvm.Cond.code ({ cls := "RouteDesk$Routing", name := "markFound", desc := "(I)V" } : Jvm.MethodName) prog_8_method_4_code (2 : Nat) (Option.none : Option Jvm.ClassFile.FieldType)) ∈ tb_G := tb_4 195 rfl rfl
theorem tw_951 : (Jvm.Cond.methodLink "RouteDesk" (249 : Nat) ({ cls := "RouteDesk$Routing", name := "markPassed", desc := "(I)V" } : Jvm.MethodName)) ∈ tb_G := tb_4 196 rfl rfl
theorem tw_952 : (Jvm.Cond.methodLink "RouteDeskLaw" (87 : Nat) ({ cls := "RouteDeskLaw", name := "found", desc := "(LRouteDesk;I[J)I" } : Jvm.MethodName)) ∈ tb_G := tb_4 197 rfl rfl
theorem tw_953 : (Jvm.Cond.static ({ cls := "RouteDeskLaw", name := "found", desc := "(LRouteDesk;I[J)I" } : Jvm.MethodName)) ∈ tb_G := tb_4 198 rfl rfl
theorem tw_955 : (Jvm.Cond.classLink "RouteDeskLaw" (31 : Nat) "java/util/NoSuchElementException") ∈ tb_G := tb_4 200 rfl rfl
theorem tw_956 : (Jvm.Cond.methodLink "RouteDeskLaw" (28 : Nat) ({ cls := "RouteDesk", name := "found", desc := "(I)I" } : Jvm.MethodName)) ∈ tb_G := tb_4 201 rfl rfl
theorem tw_957 : (Jvm.Cond.instanceMethod ({ cls := "RouteDesk", name := "found", desc := "(I)I" } : Jvm.MethodName)) ∈ tb_G := tb_4 202 rfl rfl
theorem tw_958 : (Jvm.Cond.selects "RouteDesk" ({ cls := "RouteDesk", name := "found", desc := "(I)I" } : Jvm.MethodName) ({ cls := "RouteDesk", name := "found", desc := "(I)I" } : Jvm.MethodName)) ∈ tb_G := tb_4 203 rfl rfl
theorem tw_959 : (Jvm.Cond.code ({ cls := "RouteDesk", name := "found", desc := "(I)I" } : Jvm.MethodName) prog_1_method_12_code (3 : Nat) (Option.some Jvm.ClassFile.FieldType.int)) ∈ tb_G := tb_4 204 rfl rfl
theorem tw_960 : (Jvm.Cond.methodLink "RouteDesk" (178 : Nat) ({ cls := "RouteDesk$Routing", name := "foundAt", desc := "(I)I" } : Jvm.MethodName)) ∈ tb_G := tb_4 205 rfl rfl
theorem tw_961 : (Jvm.Cond.instanceMethod ({ cls := "RouteDesk$Routing", name := "foundAt", desc := "(I)I" } : Jvm.MethodName)) ∈ tb_G := tb_4 206 rfl rfl
theorem tw_962 : (Jvm.Cond.selects "RouteDesk$Routing" ({ cls := "RouteDesk$Routing", name := "foundAt", desc := "(I)I" } : Jvm.MethodName) ({ cls := "RouteDesk$Routing", name := "foundAt", desc := "(I)I" } : Jvm.MethodName)) ∈ tb_G := tb_4 207 rfl rfl
theorem tw_963 : (Jvm.Cond.code ({ cls := "RouteDesk$Routing", name := "foundAt", desc := "(I)I" } : Jvm.MethodName) prog_8_method_5_code (4 : Nat) (Option.some Jvm.ClassFile.FieldType.int)) ∈ tb_G := tb_4 208 rfl rfl
theorem tw_964 : (Jvm.Cond.classLink "RouteDesk" (182 : Nat) "java/util/NoSuchElementException") ∈ tb_G := tb_4 209 rfl rfl
theorem tw_965 : (Jvm.Cond.instantiable "java/util/NoSuchElementException" (6 : Nat)) ∈ tb_G := tb_4 210 rfl rfl
theorem tw_967 : (Jvm.Cond.selects "java/util/NoSuchElementException" ({ cls := "java/lang/Throwable", name := "fillInStackTrace", desc := "(I)Ljava/lang/Throwable;" } : Jvm.MethodName) ({ cls := "java/lang/Throwable", name := "fillInStackTrace", desc := "(I)Ljava/lang/Throwable;" } : Jvm.MethodName)) ∈ tb_G := tb_4 212 rfl rfl
theorem tw_968 : (Jvm.Cond.lays "java/util/NoSuchElementException" "java/lang/Throwable" "cause" "Ljava/lang/Throwable;") ∈ tb_G := tb_4 213 rfl rfl
theorem tw_969 : (Jvm.Cond.lays "java/util/NoSuchElementException" "java/lang/Throwable" "stackTrace" "[Ljava/lang/StackTraceElement;") ∈ tb_G := tb_4 214 rfl rfl
theorem tw_970 : (Jvm.Cond.lays "java/util/NoSuchElementException" "java/lang/Throwable" "suppressedExceptions" "Ljava/util/List;") ∈ tb_G := tb_4 215 rfl rfl
theorem tw_971 : (Jvm.Cond.lays "java/util/NoSuchElementException" "java/lang/Throwable" "detailMessage" "Ljava/lang/String;") ∈ tb_G := tb_4 216 rfl rfl
theorem tw_972 : (Jvm.Cond.lays "java/util/NoSuchElementException" "java/lang/Throwable" "backtrace" "Ljava/lang/Object;") ∈ tb_G := tb_4 217 rfl rfl
theorem tw_974 : (Jvm.Cond.methodLink "RouteDesk" (186 : Nat) ({ cls := "java/util/NoSuchElementException", name := "<init>", desc := "(Ljava/lang/String;)V" } : Jvm.MethodName)) ∈ tb_G := tb_4 219 rfl rfl
theorem tw_975 : (Jvm.Cond.instanceMethod ({ cls := "java/util/NoSuchElementException", name := "<init>", desc := "(Ljava/lang/String;)V" } : Jvm.MethodName)) ∈ tb_G := tb_4 220 rfl rfl
theorem tw_976 : (Jvm.Cond.code ({ cls := "java/util/NoSuchElementException", name := "<init>", desc := "(Ljava/lang/String;)V" } : Jvm.MethodName) prog_35_method_4_code (2 : Nat) (Option.none : Option Jvm.ClassFile.FieldType)) ∈ tb_G := tb_4 221 rfl rfl
theorem tw_977 : (Jvm.Cond.methodLink "java/util/NoSuchElementException" (13 : Nat) ({ cls := "java/lang/RuntimeException", name := "<init>", desc := "(Ljava/lang/String;)V" } : Jvm.MethodName)) ∈ tb_G := tb_4 222 rfl rfl
theorem tw_978 : (Jvm.Cond.lays "java/util/NoSuchElementException" "java/lang/Throwable" "depth" "I") ∈ tb_G := tb_4 223 rfl rfl
theorem tw_979 : (Jvm.Cond.superclass "java/util/NoSuchElementException" "java/lang/RuntimeException") ∈ tb_G := tb_4 224 rfl rfl
theorem tw_980 : (Jvm.Cond.classLink "RouteDeskLaw" (34 : Nat) "RouteDeskModel") ∈ tb_G := tb_4 225 rfl rfl
theorem tw_981 : (Jvm.Cond.instantiable "RouteDeskModel" (22 : Nat)) ∈ tb_G := tb_4 226 rfl rfl
theorem tw_982 : (Jvm.Cond.methodLink "RouteDeskLaw" (36 : Nat) ({ cls := "RouteDeskModel", name := "<init>", desc := "()V" } : Jvm.MethodName)) ∈ tb_G := tb_4 227 rfl rfl
theorem tw_983 : (Jvm.Cond.instanceMethod ({ cls := "RouteDeskModel", name := "<init>", desc := "()V" } : Jvm.MethodName)) ∈ tb_G := tb_4 228 rfl rfl
theorem tw_984 : (Jvm.Cond.code ({ cls := "RouteDeskModel", name := "<init>", desc := "()V" } : Jvm.MethodName) prog_11_method_1_code (2 : Nat) (Option.none : Option Jvm.ClassFile.FieldType)) ∈ tb_G := tb_4 229 rfl rfl
theorem tw_985 : (Jvm.Cond.methodLink "RouteDeskModel" (1 : Nat) ({ cls := "java/lang/Object", name := "<init>", desc := "()V" } : Jvm.MethodName)) ∈ tb_G := tb_4 230 rfl rfl
theorem tw_986 : (Jvm.Cond.fieldLink "RouteDeskModel" (60 : Nat) "RouteDeskModel" "thrown" "I") ∈ tb_G := tb_4 231 rfl rfl
theorem tw_987 : (Jvm.Cond.fieldLink "RouteDeskModel" (7 : Nat) "RouteDeskModel" "tape" "[I") ∈ tb_G := tb_4 232 rfl rfl
theorem tw_988 : (Jvm.Cond.fieldLink "RouteDeskModel" (64 : Nat) "RouteDeskModel" "taped" "I") ∈ tb_G := tb_4 233 rfl rfl
theorem tw_989 : (Jvm.Cond.fieldLink "RouteDeskModel" (13 : Nat) "RouteDeskModel" "sort" "[I") ∈ tb_G := tb_4 234 rfl rfl
theorem tw_990 : (Jvm.Cond.fieldLink "RouteDeskModel" (16 : Nat) "RouteDeskModel" "other" "[I") ∈ tb_G := tb_4 235 rfl rfl
theorem tw_991 : (Jvm.Cond.fieldLink "RouteDeskModel" (19 : Nat) "RouteDeskModel" "queue" "[Z") ∈ tb_G := tb_4 236 rfl rfl
theorem tw_992 : (Jvm.Cond.fieldLink "RouteDeskModel" (77 : Nat) "RouteDeskModel" "bindings" "I") ∈ tb_G := tb_4 237 rfl rfl
theorem tw_993 : (Jvm.Cond.fieldLink "RouteDeskModel" (23 : Nat) "RouteDeskModel" "from" "[I") ∈ tb_G := tb_4 238 rfl rfl
theorem tw_994 : (Jvm.Cond.fieldLink "RouteDeskModel" (26 : Nat) "RouteDeskModel" "to" "[I") ∈ tb_G := tb_4 239 rfl rfl
theorem tw_995 : (Jvm.Cond.fieldLink "RouteDeskModel" (29 : Nat) "RouteDeskModel" "size" "[I") ∈ tb_G := tb_5 0 rfl rfl
theorem tw_996 : (Jvm.Cond.fieldLink "RouteDeskModel" (32 : Nat) "RouteDeskModel" "text" "[I") ∈ tb_G := tb_5 1 rfl rfl
theorem tw_997 : (Jvm.Cond.fieldLink "RouteDeskModel" (35 : Nat) "RouteDeskModel" "key" "[I") ∈ tb_G := tb_5 2 rfl rfl
theorem tw_998 : (Jvm.Cond.fieldLink "RouteDeskModel" (123 : Nat) "RouteDeskModel" "keySize" "I") ∈ tb_G := tb_5 3 rfl rfl
theorem tw_999 : (Jvm.Cond.fieldLink "RouteDeskModel" (126 : Nat) "RouteDeskModel" "headers" "I") ∈ tb_G := tb_5 4 rfl rfl
theorem tw_1000 : (Jvm.Cond.fieldLink "RouteDeskModel" (38 : Nat) "RouteDeskModel" "headerName" "[J") ∈ tb_G := tb_5 5 rfl rfl
theorem tw_1001 : (Jvm.Cond.fieldLink "RouteDeskModel" (42 : Nat) "RouteDeskModel" "headerValue" "[J") ∈ tb_G := tb_5 6 rfl rfl
theorem tw_1002 : (Jvm.Cond.fieldLink "RouteDeskModel" (45 : Nat) "RouteDeskModel" "found" "[Z") ∈ tb_G := tb_5 7 rfl rfl
theorem tw_1003 : (Jvm.Cond.fieldLink "RouteDeskModel" (48 : Nat) "RouteDeskModel" "passed" "[Z") ∈ tb_G := tb_5 8 rfl rfl
theorem tw_1004 : (Jvm.Cond.fieldLink "RouteDeskModel" (90 : Nat) "RouteDeskModel" "at" "I") ∈ tb_G := tb_5 9 rfl rfl
theorem tw_1005 : (Jvm.Cond.fieldLink "RouteDeskModel" (51 : Nat) "RouteDeskModel" "like" "[Z") ∈ tb_G := tb_5 10 rfl rfl
theorem tw_1006 : (Jvm.Cond.fieldLink "RouteDeskModel" (54 : Nat) "RouteDeskModel" "patternFrom" "[I") ∈ tb_G := tb_5 11 rfl rfl
theorem tw_1007 : (Jvm.Cond.fieldLink "RouteDeskModel" (57 : Nat) "RouteDeskModel" "keyFrom" "[I") ∈ tb_G := tb_5 12 rfl rfl
theorem tw_1008 : (Jvm.Cond.lays "RouteDeskModel" "RouteDeskModel" "thrown" "I") ∈ tb_G := tb_5 13 rfl rfl
theorem tw_1010 : (Jvm.Cond.laysFinal "RouteDeskModel" "RouteDeskModel" "tape" "[I") ∈ tb_G := tb_5 15 rfl rfl
theorem tw_1012 : (Jvm.Cond.lays "RouteDeskModel" "RouteDeskModel" "taped" "I") ∈ tb_G := tb_5 17 rfl rfl
theorem tw_1014 : (Jvm.Cond.laysFinal "RouteDeskModel" "RouteDeskModel" "sort" "[I") ∈ tb_G := tb_5 19 rfl rfl
theorem tw_1016 : (Jvm.Cond.laysFinal "RouteDeskModel" "RouteDeskModel" "other" "[I") ∈ tb_G := tb_5 21 rfl rfl
theorem tw_1018 : (Jvm.Cond.laysFinal "RouteDeskModel" "RouteDeskModel" "queue" "[Z") ∈ tb_G := tb_5 23 rfl rfl
theorem tw_1020 : (Jvm.Cond.lays "RouteDeskModel" "RouteDeskModel" "bindings" "I") ∈ tb_G := tb_5 25 rfl rfl
theorem tw_1022 : (Jvm.Cond.laysFinal "RouteDeskModel" "RouteDeskModel" "from" "[I") ∈ tb_G := tb_5 27 rfl rfl
theorem tw_1024 : (Jvm.Cond.laysFinal "RouteDeskModel" "RouteDeskModel" "to" "[I") ∈ tb_G := tb_5 29 rfl rfl
theorem tw_1026 : (Jvm.Cond.laysFinal "RouteDeskModel" "RouteDeskModel" "size" "[I") ∈ tb_G := tb_5 31 rfl rfl
theorem tw_1028 : (Jvm.Cond.laysFinal "RouteDeskModel" "RouteDeskModel" "text" "[I") ∈ tb_G := tb_5 33 rfl rfl
theorem tw_1030 : (Jvm.Cond.laysFinal "RouteDeskModel" "RouteDeskModel" "key" "[I") ∈ tb_G := tb_5 35 rfl rfl
theorem tw_1032 : (Jvm.Cond.lays "RouteDeskModel" "RouteDeskModel" "keySize" "I") ∈ tb_G := tb_5 37 rfl rfl
theorem tw_1034 : (Jvm.Cond.lays "RouteDeskModel" "RouteDeskModel" "headers" "I") ∈ tb_G := tb_5 39 rfl rfl
theorem tw_1036 : (Jvm.Cond.laysFinal "RouteDeskModel" "RouteDeskModel" "headerName" "[J") ∈ tb_G := tb_5 41 rfl rfl
theorem tw_1038 : (Jvm.Cond.laysFinal "RouteDeskModel" "RouteDeskModel" "headerValue" "[J") ∈ tb_G := tb_5 43 rfl rfl
theorem tw_1040 : (Jvm.Cond.laysFinal "RouteDeskModel" "RouteDeskModel" "found" "[Z") ∈ tb_G := tb_5 45 rfl rfl
theorem tw_1042 : (Jvm.Cond.laysFinal "RouteDeskModel" "RouteDeskModel" "passed" "[Z") ∈ tb_G := tb_5 47 rfl rfl
theorem tw_1044 : (Jvm.Cond.lays "RouteDeskModel" "RouteDeskModel" "at" "I") ∈ tb_G := tb_5 49 rfl rfl
theorem tw_1046 : (Jvm.Cond.laysFinal "RouteDeskModel" "RouteDeskModel" "like" "[Z") ∈ tb_G := tb_5 51 rfl rfl
theorem tw_1048 : (Jvm.Cond.laysFinal "RouteDeskModel" "RouteDeskModel" "patternFrom" "[I") ∈ tb_G := tb_5 53 rfl rfl
theorem tw_1050 : (Jvm.Cond.laysFinal "RouteDeskModel" "RouteDeskModel" "keyFrom" "[I") ∈ tb_G := tb_5 55 rfl rfl
theorem tw_1052 : (Jvm.Cond.superclass "RouteDeskModel" "java/lang/Object") ∈ tb_G := tb_5 57 rfl rfl
theorem tw_1053 : (Jvm.Cond.arrayClass Jvm.ClassFile.FieldType.long) ∈ tb_G := tb_5 58 rfl rfl
theorem tw_1054 : (Jvm.Cond.methodLink "RouteDeskLaw" (50 : Nat) ({ cls := "RouteDeskModel", name := "thrown", desc := "()I" } : Jvm.MethodName)) ∈ tb_G := tb_5 59 rfl rfl
theorem tw_1055 : (Jvm.Cond.instanceMethod ({ cls := "RouteDeskModel", name := "thrown", desc := "()I" } : Jvm.MethodName)) ∈ tb_G := tb_5 60 rfl rfl
