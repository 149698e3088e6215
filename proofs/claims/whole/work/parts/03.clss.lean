/-! printed (gen/names.py): the classes whose objects the worlds hold; methods: code, name, words -/
def rn_RD : String := "RouteDesk"
def ft_RD : u_T := fun k => match k with
  | 0 => ("RouteDesk", "tape", "Ljava/lang/StringBuilder;", true)
  | 1 => ("RouteDesk", "exchanges", "[LRouteDesk$Exchange;", true)
  | 2 => ("RouteDesk", "queues", "[Z", true)
  | 3 => ("RouteDesk", "bindings", "Ljava/util/ArrayList;", true)
  | 4 => ("RouteDesk", "current", "LRouteDesk$Message;", true)
  | _ => ("RouteDesk", "latest", "LRouteDesk$Routing;", true)
def fy_RD : Nat → FieldType := fun k => match k with
  | 0 => .object "java/lang/StringBuilder"
  | 1 => .array (.object "RouteDesk$Exchange")
  | 2 => .array .boolean
  | 3 => .object "java/util/ArrayList"
  | 4 => .object "RouteDesk$Message"
  | _ => .object "RouteDesk$Routing"
theorem fn_RD : ∀ a, a < 6 → ∀ b, b < 6 → a ≠ b → (ft_RD a).2.1 ≠ (ft_RD b).2.1 := by decide +kernel
theorem fo_RD : ∀ k, k < 6 → parseFieldDescriptor (ft_RD k).2.2.1 = some (fy_RD k) := by decide +kernel
theorem fi_RD : ∀ w ∈ u_ws rn_RD ft_RD 6, w ∈ tb_G := fun w h => by
  obtain ⟨k, hk, rfl⟩ := List.mem_map.mp h
  have hk := List.mem_range.mp hk
  match k, hk with
  | 0, _ => exact tw_190
  | 1, _ => exact tw_192
  | 2, _ => exact tw_194
  | 3, _ => exact tw_196
  | 4, _ => exact tw_198
  | 5, _ => exact tw_200
  | k + 6, hk => exact absurd hk (by omega)
def rn_BI : String := "RouteDesk$Binding"
def ft_BI : u_T := fun k => match k with
  | 0 => ("RouteDesk$Binding", "from", "I", true)
  | 1 => ("RouteDesk$Binding", "to", "I", true)
  | 2 => ("RouteDesk$Binding", "toQueue", "Z", true)
  | _ => ("RouteDesk$Binding", "text", "Ljava/lang/String;", true)
def fy_BI : Nat → FieldType := fun k => match k with
  | 0 => .int
  | 1 => .int
  | 2 => .boolean
  | _ => .object "java/lang/String"
theorem fn_BI : ∀ a, a < 4 → ∀ b, b < 4 → a ≠ b → (ft_BI a).2.1 ≠ (ft_BI b).2.1 := by decide +kernel
theorem fo_BI : ∀ k, k < 4 → parseFieldDescriptor (ft_BI k).2.2.1 = some (fy_BI k) := by decide +kernel
theorem fi_BI : ∀ w ∈ u_ws rn_BI ft_BI 4, w ∈ tb_G := fun w h => by
  obtain ⟨k, hk, rfl⟩ := List.mem_map.mp h
  have hk := List.mem_range.mp hk
  match k, hk with
  | 0, _ => exact tw_879
  | 1, _ => exact tw_881
  | 2, _ => exact tw_883
  | 3, _ => exact tw_885
  | k + 4, hk => exact absurd hk (by omega)
def rn_EX : String := "RouteDesk$Exchange"
def ft_EX : u_T := fun k => match k with
  | 0 => ("RouteDesk$Exchange", "sort", "I", true)
  | _ => ("RouteDesk$Exchange", "other", "I", false)
def fy_EX : Nat → FieldType := fun k => match k with
  | 0 => .int
  | _ => .int
theorem fn_EX : ∀ a, a < 2 → ∀ b, b < 2 → a ≠ b → (ft_EX a).2.1 ≠ (ft_EX b).2.1 := by decide +kernel
theorem fo_EX : ∀ k, k < 2 → parseFieldDescriptor (ft_EX k).2.2.1 = some (fy_EX k) := by decide +kernel
theorem fi_EX : ∀ w ∈ u_ws rn_EX ft_EX 2, w ∈ tb_G := fun w h => by
  obtain ⟨k, hk, rfl⟩ := List.mem_map.mp h
  have hk := List.mem_range.mp hk
  match k, hk with
  | 0, _ => exact tw_794
  | 1, _ => exact tw_796
  | k + 2, hk => exact absurd hk (by omega)
def rn_HD : String := "RouteDesk$Header"
def ft_HD : u_T := fun k => match k with
  | 0 => ("RouteDesk$Header", "name", "Ljava/lang/String;", true)
  | _ => ("RouteDesk$Header", "value", "Ljava/lang/String;", false)
def fy_HD : Nat → FieldType := fun k => match k with
  | 0 => .object "java/lang/String"
  | _ => .object "java/lang/String"
theorem fn_HD : ∀ a, a < 2 → ∀ b, b < 2 → a ≠ b → (ft_HD a).2.1 ≠ (ft_HD b).2.1 := by decide +kernel
theorem fo_HD : ∀ k, k < 2 → parseFieldDescriptor (ft_HD k).2.2.1 = some (fy_HD k) := by decide +kernel
theorem fi_HD : ∀ w ∈ u_ws rn_HD ft_HD 2, w ∈ tb_G := fun w h => by
  obtain ⟨k, hk, rfl⟩ := List.mem_map.mp h
  have hk := List.mem_range.mp hk
  match k, hk with
  | 0, _ => exact tw_695
  | 1, _ => exact tw_697
  | k + 2, hk => exact absurd hk (by omega)
def rn_MG : String := "RouteDesk$Message"
def ft_MG : u_T := fun k => match k with
  | 0 => ("RouteDesk$Message", "key", "Ljava/lang/String;", false)
  | _ => ("RouteDesk$Message", "headers", "Ljava/util/ArrayList;", true)
def fy_MG : Nat → FieldType := fun k => match k with
  | 0 => .object "java/lang/String"
  | _ => .object "java/util/ArrayList"
theorem fn_MG : ∀ a, a < 2 → ∀ b, b < 2 → a ≠ b → (ft_MG a).2.1 ≠ (ft_MG b).2.1 := by decide +kernel
theorem fo_MG : ∀ k, k < 2 → parseFieldDescriptor (ft_MG k).2.2.1 = some (fy_MG k) := by decide +kernel
theorem fi_MG : ∀ w ∈ u_ws rn_MG ft_MG 2, w ∈ tb_G := fun w h => by
  obtain ⟨k, hk, rfl⟩ := List.mem_map.mp h
  have hk := List.mem_range.mp hk
  match k, hk with
  | 0, _ => exact tw_152
  | 1, _ => exact tw_154
  | k + 2, hk => exact absurd hk (by omega)
def rn_RT : String := "RouteDesk$Routing"
def ft_RT : u_T := fun k => match k with
  | 0 => ("RouteDesk$Routing", "isPassed", "[Z", true)
  | 1 => ("RouteDesk$Routing", "order", "[I", true)
  | 2 => ("RouteDesk$Routing", "passedCount", "I", false)
  | 3 => ("RouteDesk$Routing", "isFound", "[Z", true)
  | _ => ("RouteDesk$Routing", "foundCount", "I", false)
def fy_RT : Nat → FieldType := fun k => match k with
  | 0 => .array .boolean
  | 1 => .array .int
  | 2 => .int
  | 3 => .array .boolean
  | _ => .int
theorem fn_RT : ∀ a, a < 5 → ∀ b, b < 5 → a ≠ b → (ft_RT a).2.1 ≠ (ft_RT b).2.1 := by decide +kernel
theorem fo_RT : ∀ k, k < 5 → parseFieldDescriptor (ft_RT k).2.2.1 = some (fy_RT k) := by decide +kernel
theorem fi_RT : ∀ w ∈ u_ws rn_RT ft_RT 5, w ∈ tb_G := fun w h => by
  obtain ⟨k, hk, rfl⟩ := List.mem_map.mp h
  have hk := List.mem_range.mp hk
  match k, hk with
  | 0, _ => exact tw_172
  | 1, _ => exact tw_174
  | 2, _ => exact tw_176
  | 3, _ => exact tw_178
  | 4, _ => exact tw_180
  | k + 5, hk => exact absurd hk (by omega)
def rn_MO : String := "RouteDeskModel"
def ft_MO : u_T := fun k => match k with
  | 0 => ("RouteDeskModel", "thrown", "I", false)
  | 1 => ("RouteDeskModel", "tape", "[I", true)
  | 2 => ("RouteDeskModel", "taped", "I", false)
  | 3 => ("RouteDeskModel", "sort", "[I", true)
  | 4 => ("RouteDeskModel", "other", "[I", true)
  | 5 => ("RouteDeskModel", "queue", "[Z", true)
  | 6 => ("RouteDeskModel", "bindings", "I", false)
  | 7 => ("RouteDeskModel", "from", "[I", true)
  | 8 => ("RouteDeskModel", "to", "[I", true)
  | 9 => ("RouteDeskModel", "size", "[I", true)
  | 10 => ("RouteDeskModel", "text", "[I", true)
  | 11 => ("RouteDeskModel", "key", "[I", true)
  | 12 => ("RouteDeskModel", "keySize", "I", false)
  | 13 => ("RouteDeskModel", "headers", "I", false)
  | 14 => ("RouteDeskModel", "headerName", "[J", true)
  | 15 => ("RouteDeskModel", "headerValue", "[J", true)
  | 16 => ("RouteDeskModel", "found", "[Z", true)
  | 17 => ("RouteDeskModel", "passed", "[Z", true)
  | 18 => ("RouteDeskModel", "at", "I", false)
  | 19 => ("RouteDeskModel", "like", "[Z", true)
  | 20 => ("RouteDeskModel", "patternFrom", "[I", true)
  | _ => ("RouteDeskModel", "keyFrom", "[I", true)
def fy_MO : Nat → FieldType := fun k => match k with
  | 0 => .int
  | 1 => .array .int
  | 2 => .int
  | 3 => .array .int
  | 4 => .array .int
  | 5 => .array .boolean
  | 6 => .int
  | 7 => .array .int
  | 8 => .array .int
  | 9 => .array .int
  | 10 => .array .int
  | 11 => .array .int
  | 12 => .int
  | 13 => .int
  | 14 => .array .long
  | 15 => .array .long
  | 16 => .array .boolean
  | 17 => .array .boolean
  | 18 => .int
  | 19 => .array .boolean
  | 20 => .array .int
  | _ => .array .int
theorem fn_MO : ∀ a, a < 22 → ∀ b, b < 22 → a ≠ b → (ft_MO a).2.1 ≠ (ft_MO b).2.1 := by decide +kernel
theorem fo_MO : ∀ k, k < 22 → parseFieldDescriptor (ft_MO k).2.2.1 = some (fy_MO k) := by decide +kernel
theorem fi_MO : ∀ w ∈ u_ws rn_MO ft_MO 22, w ∈ tb_G := fun w h => by
  obtain ⟨k, hk, rfl⟩ := List.mem_map.mp h
  have hk := List.mem_range.mp hk
  match k, hk with
  | 0, _ => exact tw_1008
  | 1, _ => exact tw_1010
  | 2, _ => exact tw_1012
  | 3, _ => exact tw_1014
  | 4, _ => exact tw_1016
  | 5, _ => exact tw_1018
  | 6, _ => exact tw_1020
  | 7, _ => exact tw_1022
  | 8, _ => exact tw_1024
  | 9, _ => exact tw_1026
  | 10, _ => exact tw_1028
  | 11, _ => exact tw_1030
  | 12, _ => exact tw_1032
  | 13, _ => exact tw_1034
  | 14, _ => exact tw_1036
  | 15, _ => exact tw_1038
  | 16, _ => exact tw_1040
  | 17, _ => exact tw_1042
  | 18, _ => exact tw_1044
  | 19, _ => exact tw_1046
  | 20, _ => exact tw_1048
  | 21, _ => exact tw_1050
  | k + 22, hk => exact absurd hk (by omega)
def rn_SB : String := "java/lang/StringBuilder"
def ft_SB : u_T := fun k => match k with
  | 0 => ("java/lang/AbstractStringBuilder", "value", "[B", false)
  | 1 => ("java/lang/AbstractStringBuilder", "coder", "B", false)
  | 2 => ("java/lang/AbstractStringBuilder", "maybeLatin1", "Z", false)
  | _ => ("java/lang/AbstractStringBuilder", "count", "I", false)
def fy_SB : Nat → FieldType := fun k => match k with
  | 0 => .array .byte
  | 1 => .byte
  | 2 => .boolean
  | _ => .int
theorem fn_SB : ∀ a, a < 4 → ∀ b, b < 4 → a ≠ b → (ft_SB a).2.1 ≠ (ft_SB b).2.1 := by decide +kernel
theorem fo_SB : ∀ k, k < 4 → parseFieldDescriptor (ft_SB k).2.2.1 = some (fy_SB k) := by decide +kernel
theorem fi_SB : ∀ w ∈ u_ws rn_SB ft_SB 4, w ∈ tb_G := fun w h => by
  obtain ⟨k, hk, rfl⟩ := List.mem_map.mp h
  have hk := List.mem_range.mp hk
  match k, hk with
  | 0, _ => exact tw_99
  | 1, _ => exact tw_101
  | 2, _ => exact tw_103
  | 3, _ => exact tw_105
  | k + 4, hk => exact absurd hk (by omega)
def rn_ST : String := "java/lang/String"
def ft_ST : u_T := fun k => match k with
  | 0 => ("java/lang/String", "value", "[B", true)
  | _ => ("java/lang/String", "coder", "B", true)
def fy_ST : Nat → FieldType := fun k => match k with
  | 0 => .array .byte
  | _ => .byte
theorem fn_ST : ∀ a, a < 2 → ∀ b, b < 2 → a ≠ b → (ft_ST a).2.1 ≠ (ft_ST b).2.1 := by decide +kernel
theorem fo_ST : ∀ k, k < 2 → parseFieldDescriptor (ft_ST k).2.2.1 = some (fy_ST k) := by decide +kernel
theorem fi_ST : ∀ w ∈ u_ws rn_ST ft_ST 2, w ∈ tb_G := fun w h => by
  obtain ⟨k, hk, rfl⟩ := List.mem_map.mp h
  have hk := List.mem_range.mp hk
  match k, hk with
  | 0, _ => exact tw_552
  | 1, _ => exact tw_554
  | k + 2, hk => exact absurd hk (by omega)
def rn_AL : String := "java/util/ArrayList"
def ft_AL : u_T := fun k => match k with
  | 0 => ("java/util/ArrayList", "elementData", "[Ljava/lang/Object;", false)
  | 1 => ("java/util/ArrayList", "size", "I", false)
  | _ => ("java/util/AbstractList", "modCount", "I", false)
def fy_AL : Nat → FieldType := fun k => match k with
  | 0 => .array (.object "java/lang/Object")
  | 1 => .int
  | _ => .int
theorem fn_AL : ∀ a, a < 3 → ∀ b, b < 3 → a ≠ b → (ft_AL a).2.1 ≠ (ft_AL b).2.1 := by decide +kernel
theorem fo_AL : ∀ k, k < 3 → parseFieldDescriptor (ft_AL k).2.2.1 = some (fy_AL k) := by decide +kernel
theorem fi_AL : ∀ w ∈ u_ws rn_AL ft_AL 3, w ∈ tb_G := fun w h => by
  obtain ⟨k, hk, rfl⟩ := List.mem_map.mp h
  have hk := List.mem_range.mp hk
  match k, hk with
  | 0, _ => exact tw_130
  | 1, _ => exact tw_132
  | 2, _ => exact tw_134
  | k + 3, hk => exact absurd hk (by omega)
abbrev cl_W : List vw_C := [(rn_RD, ft_RD, 6), (rn_BI, ft_BI, 4), (rn_EX, ft_EX, 2), (rn_HD, ft_HD, 2), (rn_MG, ft_MG, 2), (rn_RT, ft_RT, 5), (rn_MO, ft_MO, 22), (rn_SB, ft_SB, 4), (rn_ST, ft_ST, 2), (rn_AL, ft_AL, 3)]
abbrev cd_RD_init : ByteArray := prog_1_method_1_code
def yy_RD_init : MethodName := ({ cls := "RouteDesk", name := "<init>", desc := "()V" } : MethodName)
def ws_RD_init : List Cond := (Jvm.Cond.code ({ cls := "RouteDesk", name := "<init>", desc := "()V" } : Jvm.MethodName) prog_1_method_1_code (1 : Nat) (Option.none : Option Jvm.ClassFile.FieldType)) :: tb_G
abbrev cd_MG_init : ByteArray := prog_6_method_1_code
def yy_MG_init : MethodName := ({ cls := "RouteDesk$Message", name := "<init>", desc := "()V" } : MethodName)
def ws_MG_init : List Cond := (Jvm.Cond.code ({ cls := "RouteDesk$Message", name := "<init>", desc := "()V" } : Jvm.MethodName) prog_6_method_1_code (1 : Nat) (Option.none : Option Jvm.ClassFile.FieldType)) :: tb_G
abbrev cd_RT_init : ByteArray := prog_8_method_1_code
def yy_RT_init : MethodName := ({ cls := "RouteDesk$Routing", name := "<init>", desc := "()V" } : MethodName)
def ws_RT_init : List Cond := (Jvm.Cond.code ({ cls := "RouteDesk$Routing", name := "<init>", desc := "()V" } : Jvm.MethodName) prog_8_method_1_code (1 : Nat) (Option.none : Option Jvm.ClassFile.FieldType)) :: tb_G
abbrev cd_RD_type : ByteArray := prog_1_method_2_code
def yy_RD_type : MethodName := ({ cls := "RouteDesk", name := "type", desc := "(JI)Z" } : MethodName)
def ws_RD_type : List Cond := (Jvm.Cond.code ({ cls := "RouteDesk", name := "type", desc := "(JI)Z" } : Jvm.MethodName) prog_1_method_2_code (6 : Nat) (Option.some Jvm.ClassFile.FieldType.boolean)) :: tb_G
abbrev cd_RD_byteOf : ByteArray := prog_1_method_16_code
def yy_RD_byteOf : MethodName := ({ cls := "RouteDesk", name := "byteOf", desc := "(JI)I" } : MethodName)
def ws_RD_byteOf : List Cond := (Jvm.Cond.code ({ cls := "RouteDesk", name := "byteOf", desc := "(JI)I" } : Jvm.MethodName) prog_1_method_16_code (3 : Nat) (Option.some Jvm.ClassFile.FieldType.int)) :: tb_G
abbrev cd_RD_alternate : ByteArray := prog_1_method_4_code
def yy_RD_alternate : MethodName := ({ cls := "RouteDesk", name := "alternate", desc := "(II)Z" } : MethodName)
def ws_RD_alternate : List Cond := (Jvm.Cond.code ({ cls := "RouteDesk", name := "alternate", desc := "(II)Z" } : Jvm.MethodName) prog_1_method_4_code (4 : Nat) (Option.some Jvm.ClassFile.FieldType.boolean)) :: tb_G
abbrev cd_RD_exchangeAt : ByteArray := prog_1_method_18_code
def yy_RD_exchangeAt : MethodName := ({ cls := "RouteDesk", name := "exchangeAt", desc := "(I)LRouteDesk$Exchange;" } : MethodName)
def ws_RD_exchangeAt : List Cond := (Jvm.Cond.code ({ cls := "RouteDesk", name := "exchangeAt", desc := "(I)LRouteDesk$Exchange;" } : Jvm.MethodName) prog_1_method_18_code (2 : Nat) (Option.some (Jvm.ClassFile.FieldType.object "RouteDesk$Exchange"))) :: tb_G
abbrev cd_RD_remove : ByteArray := prog_1_method_6_code
def yy_RD_remove : MethodName := ({ cls := "RouteDesk", name := "remove", desc := "(IZ)Z" } : MethodName)
def ws_RD_remove : List Cond := (Jvm.Cond.code ({ cls := "RouteDesk", name := "remove", desc := "(IZ)Z" } : Jvm.MethodName) prog_1_method_6_code (5 : Nat) (Option.some Jvm.ClassFile.FieldType.boolean)) :: tb_G
abbrev cd_RD_isThere : ByteArray := prog_1_method_19_code
def yy_RD_isThere : MethodName := ({ cls := "RouteDesk", name := "isThere", desc := "(IZ)Z" } : MethodName)
def ws_RD_isThere : List Cond := (Jvm.Cond.code ({ cls := "RouteDesk", name := "isThere", desc := "(IZ)Z" } : Jvm.MethodName) prog_1_method_19_code (3 : Nat) (Option.some Jvm.ClassFile.FieldType.boolean)) :: tb_G
abbrev cd_BI_leadsTo : ByteArray := prog_2_method_2_code
def yy_BI_leadsTo : MethodName := ({ cls := "RouteDesk$Binding", name := "leadsTo", desc := "(IZ)Z" } : MethodName)
def ws_BI_leadsTo : List Cond := (Jvm.Cond.code ({ cls := "RouteDesk$Binding", name := "leadsTo", desc := "(IZ)Z" } : Jvm.MethodName) prog_2_method_2_code (3 : Nat) (Option.some Jvm.ClassFile.FieldType.boolean)) :: tb_G
abbrev cd_RD_unbind : ByteArray := prog_1_method_8_code
def yy_RD_unbind : MethodName := ({ cls := "RouteDesk", name := "unbind", desc := "(IIZ)Z" } : MethodName)
def ws_RD_unbind : List Cond := (Jvm.Cond.code ({ cls := "RouteDesk", name := "unbind", desc := "(IIZ)Z" } : Jvm.MethodName) prog_1_method_8_code (5 : Nat) (Option.some Jvm.ClassFile.FieldType.boolean)) :: tb_G
abbrev cd_RD_takeTape : ByteArray := prog_1_method_17_code
def yy_RD_takeTape : MethodName := ({ cls := "RouteDesk", name := "takeTape", desc := "()Ljava/lang/String;" } : MethodName)
def ws_RD_takeTape : List Cond := (Jvm.Cond.code ({ cls := "RouteDesk", name := "takeTape", desc := "()Ljava/lang/String;" } : Jvm.MethodName) prog_1_method_17_code (2 : Nat) (Option.some (Jvm.ClassFile.FieldType.object "java/lang/String"))) :: tb_G
abbrev cd_RD_placeOf : ByteArray := prog_1_method_20_code
def yy_RD_placeOf : MethodName := ({ cls := "RouteDesk", name := "placeOf", desc := "(IIZLjava/lang/String;)I" } : MethodName)
def ws_RD_placeOf : List Cond := (Jvm.Cond.code ({ cls := "RouteDesk", name := "placeOf", desc := "(IIZLjava/lang/String;)I" } : Jvm.MethodName) prog_1_method_20_code (7 : Nat) (Option.some Jvm.ClassFile.FieldType.int)) :: tb_G
abbrev cd_RD_message : ByteArray := prog_1_method_9_code
def yy_RD_message : MethodName := ({ cls := "RouteDesk", name := "message", desc := "()V" } : MethodName)
def ws_RD_message : List Cond := (Jvm.Cond.code ({ cls := "RouteDesk", name := "message", desc := "()V" } : Jvm.MethodName) prog_1_method_9_code (1 : Nat) (Option.none : Option Jvm.ClassFile.FieldType)) :: tb_G
abbrev cd_MG_startAnew : ByteArray := prog_6_method_2_code
def yy_MG_startAnew : MethodName := ({ cls := "RouteDesk$Message", name := "startAnew", desc := "(Ljava/lang/String;)V" } : MethodName)
def ws_MG_startAnew : List Cond := (Jvm.Cond.code ({ cls := "RouteDesk$Message", name := "startAnew", desc := "(Ljava/lang/String;)V" } : Jvm.MethodName) prog_6_method_2_code (2 : Nat) (Option.none : Option Jvm.ClassFile.FieldType)) :: tb_G
abbrev cd_RD_header : ByteArray := prog_1_method_10_code
def yy_RD_header : MethodName := ({ cls := "RouteDesk", name := "header", desc := "()Z" } : MethodName)
def ws_RD_header : List Cond := (Jvm.Cond.code ({ cls := "RouteDesk", name := "header", desc := "()Z" } : Jvm.MethodName) prog_1_method_10_code (3 : Nat) (Option.some Jvm.ClassFile.FieldType.boolean)) :: tb_G
abbrev cd_TX_find : ByteArray := prog_9_method_2_code
def yy_TX_find : MethodName := ({ cls := "RouteDesk$Texts", name := "find", desc := "(Ljava/lang/String;CII)I" } : MethodName)
def ws_TX_find : List Cond := (Jvm.Cond.code ({ cls := "RouteDesk$Texts", name := "find", desc := "(Ljava/lang/String;CII)I" } : Jvm.MethodName) prog_9_method_2_code (5 : Nat) (Option.some Jvm.ClassFile.FieldType.int)) :: tb_G
abbrev cd_HT_isNameOrPair : ByteArray := prog_5_method_2_code
def yy_HT_isNameOrPair : MethodName := ({ cls := "RouteDesk$HeaderText", name := "isNameOrPair", desc := "(Ljava/lang/String;II)Z" } : MethodName)
def ws_HT_isNameOrPair : List Cond := (Jvm.Cond.code ({ cls := "RouteDesk$HeaderText", name := "isNameOrPair", desc := "(Ljava/lang/String;II)Z" } : Jvm.MethodName) prog_5_method_2_code (4 : Nat) (Option.some Jvm.ClassFile.FieldType.boolean)) :: tb_G
abbrev cd_HT_isName : ByteArray := prog_5_method_6_code
def yy_HT_isName : MethodName := ({ cls := "RouteDesk$HeaderText", name := "isName", desc := "(Ljava/lang/String;II)Z" } : MethodName)
def ws_HT_isName : List Cond := (Jvm.Cond.code ({ cls := "RouteDesk$HeaderText", name := "isName", desc := "(Ljava/lang/String;II)Z" } : Jvm.MethodName) prog_5_method_6_code (4 : Nat) (Option.some Jvm.ClassFile.FieldType.boolean)) :: tb_G
abbrev cd_HT_isSmallLetter : ByteArray := prog_5_method_8_code
def yy_HT_isSmallLetter : MethodName := ({ cls := "RouteDesk$HeaderText", name := "isSmallLetter", desc := "(C)Z" } : MethodName)
def ws_HT_isSmallLetter : List Cond := (Jvm.Cond.code ({ cls := "RouteDesk$HeaderText", name := "isSmallLetter", desc := "(C)Z" } : Jvm.MethodName) prog_5_method_8_code (1 : Nat) (Option.some Jvm.ClassFile.FieldType.boolean)) :: tb_G
abbrev cd_HT_isValue : ByteArray := prog_5_method_7_code
def yy_HT_isValue : MethodName := ({ cls := "RouteDesk$HeaderText", name := "isValue", desc := "(Ljava/lang/String;II)Z" } : MethodName)
def ws_HT_isValue : List Cond := (Jvm.Cond.code ({ cls := "RouteDesk$HeaderText", name := "isValue", desc := "(Ljava/lang/String;II)Z" } : Jvm.MethodName) prog_5_method_7_code (4 : Nat) (Option.some Jvm.ClassFile.FieldType.boolean)) :: tb_G
abbrev cd_HT_isDigit : ByteArray := prog_5_method_9_code
def yy_HT_isDigit : MethodName := ({ cls := "RouteDesk$HeaderText", name := "isDigit", desc := "(C)Z" } : MethodName)
def ws_HT_isDigit : List Cond := (Jvm.Cond.code ({ cls := "RouteDesk$HeaderText", name := "isDigit", desc := "(C)Z" } : Jvm.MethodName) prog_5_method_9_code (1 : Nat) (Option.some Jvm.ClassFile.FieldType.boolean)) :: tb_G
abbrev cd_MG_put : ByteArray := prog_6_method_3_code
def yy_MG_put : MethodName := ({ cls := "RouteDesk$Message", name := "put", desc := "(Ljava/lang/String;Ljava/lang/String;)Z" } : MethodName)
def ws_MG_put : List Cond := (Jvm.Cond.code ({ cls := "RouteDesk$Message", name := "put", desc := "(Ljava/lang/String;Ljava/lang/String;)Z" } : Jvm.MethodName) prog_6_method_3_code (4 : Nat) (Option.some Jvm.ClassFile.FieldType.boolean)) :: tb_G
abbrev cd_MG_headerOf : ByteArray := prog_6_method_4_code
def yy_MG_headerOf : MethodName := ({ cls := "RouteDesk$Message", name := "headerOf", desc := "(Ljava/lang/String;)LRouteDesk$Header;" } : MethodName)
def ws_MG_headerOf : List Cond := (Jvm.Cond.code ({ cls := "RouteDesk$Message", name := "headerOf", desc := "(Ljava/lang/String;)LRouteDesk$Header;" } : Jvm.MethodName) prog_6_method_4_code (3 : Nat) (Option.some (Jvm.ClassFile.FieldType.object "RouteDesk$Header"))) :: tb_G
abbrev cd_HD_init : ByteArray := prog_4_method_1_code
def yy_HD_init : MethodName := ({ cls := "RouteDesk$Header", name := "<init>", desc := "(Ljava/lang/String;Ljava/lang/String;)V" } : MethodName)
def ws_HD_init : List Cond := (Jvm.Cond.code ({ cls := "RouteDesk$Header", name := "<init>", desc := "(Ljava/lang/String;Ljava/lang/String;)V" } : Jvm.MethodName) prog_4_method_1_code (3 : Nat) (Option.none : Option Jvm.ClassFile.FieldType)) :: tb_G
abbrev cd_RD_passed : ByteArray := prog_1_method_13_code
def yy_RD_passed : MethodName := ({ cls := "RouteDesk", name := "passed", desc := "(I)Z" } : MethodName)
def ws_RD_passed : List Cond := (Jvm.Cond.code ({ cls := "RouteDesk", name := "passed", desc := "(I)Z" } : Jvm.MethodName) prog_1_method_13_code (2 : Nat) (Option.some Jvm.ClassFile.FieldType.boolean)) :: tb_G
abbrev cd_RD_of : ByteArray := prog_1_method_14_code
def yy_RD_of : MethodName := ({ cls := "RouteDesk", name := "of", desc := "(II)I" } : MethodName)
def ws_RD_of : List Cond := (Jvm.Cond.code ({ cls := "RouteDesk", name := "of", desc := "(II)I" } : Jvm.MethodName) prog_1_method_14_code (4 : Nat) (Option.some Jvm.ClassFile.FieldType.int)) :: tb_G
abbrev cd_RD_countTo : ByteArray := prog_1_method_26_code
def yy_RD_countTo : MethodName := ({ cls := "RouteDesk", name := "countTo", desc := "(IZ)I" } : MethodName)
def ws_RD_countTo : List Cond := (Jvm.Cond.code ({ cls := "RouteDesk", name := "countTo", desc := "(IZ)I" } : Jvm.MethodName) prog_1_method_26_code (5 : Nat) (Option.some Jvm.ClassFile.FieldType.int)) :: tb_G
abbrev cd_RD_countFrom : ByteArray := prog_1_method_25_code
def yy_RD_countFrom : MethodName := ({ cls := "RouteDesk", name := "countFrom", desc := "(I)I" } : MethodName)
def ws_RD_countFrom : List Cond := (Jvm.Cond.code ({ cls := "RouteDesk", name := "countFrom", desc := "(I)I" } : Jvm.MethodName) prog_1_method_25_code (4 : Nat) (Option.some Jvm.ClassFile.FieldType.int)) :: tb_G
abbrev cd_RD_total : ByteArray := prog_1_method_15_code
def yy_RD_total : MethodName := ({ cls := "RouteDesk", name := "total", desc := "(I)I" } : MethodName)
def ws_RD_total : List Cond := (Jvm.Cond.code ({ cls := "RouteDesk", name := "total", desc := "(I)I" } : Jvm.MethodName) prog_1_method_15_code (2 : Nat) (Option.some Jvm.ClassFile.FieldType.int)) :: tb_G
abbrev cd_RD_countExchanges : ByteArray := prog_1_method_27_code
def yy_RD_countExchanges : MethodName := ({ cls := "RouteDesk", name := "countExchanges", desc := "()I" } : MethodName)
def ws_RD_countExchanges : List Cond := (Jvm.Cond.code ({ cls := "RouteDesk", name := "countExchanges", desc := "()I" } : Jvm.MethodName) prog_1_method_27_code (3 : Nat) (Option.some Jvm.ClassFile.FieldType.int)) :: tb_G
abbrev cd_RD_countQueues : ByteArray := prog_1_method_28_code
def yy_RD_countQueues : MethodName := ({ cls := "RouteDesk", name := "countQueues", desc := "()I" } : MethodName)
def ws_RD_countQueues : List Cond := (Jvm.Cond.code ({ cls := "RouteDesk", name := "countQueues", desc := "()I" } : Jvm.MethodName) prog_1_method_28_code (3 : Nat) (Option.some Jvm.ClassFile.FieldType.int)) :: tb_G
abbrev cd_LW_exchange : ByteArray := method_3_code
def yy_LW_exchange : MethodName := ({ cls := "RouteDeskLaw", name := "exchange", desc := "(LRouteDesk;I[J)I" } : MethodName)
abbrev cd_RD_exchange : ByteArray := prog_1_method_3_code
def yy_RD_exchange : MethodName := ({ cls := "RouteDesk", name := "exchange", desc := "(I)I" } : MethodName)
def ws_RD_exchange : List Cond := (Jvm.Cond.code ({ cls := "RouteDesk", name := "exchange", desc := "(I)I" } : Jvm.MethodName) prog_1_method_3_code (3 : Nat) (Option.some Jvm.ClassFile.FieldType.int)) :: tb_G
abbrev cd_EX_init : ByteArray := prog_3_method_1_code
def yy_EX_init : MethodName := ({ cls := "RouteDesk$Exchange", name := "<init>", desc := "(I)V" } : MethodName)
def ws_EX_init : List Cond := (Jvm.Cond.code ({ cls := "RouteDesk$Exchange", name := "<init>", desc := "(I)V" } : Jvm.MethodName) prog_3_method_1_code (2 : Nat) (Option.none : Option Jvm.ClassFile.FieldType)) :: tb_G
abbrev cd_LW_queue : ByteArray := method_4_code
def yy_LW_queue : MethodName := ({ cls := "RouteDeskLaw", name := "queue", desc := "(LRouteDesk;[J)I" } : MethodName)
abbrev cd_RD_queue : ByteArray := prog_1_method_5_code
def yy_RD_queue : MethodName := ({ cls := "RouteDesk", name := "queue", desc := "()I" } : MethodName)
def ws_RD_queue : List Cond := (Jvm.Cond.code ({ cls := "RouteDesk", name := "queue", desc := "()I" } : Jvm.MethodName) prog_1_method_5_code (2 : Nat) (Option.some Jvm.ClassFile.FieldType.int)) :: tb_G
abbrev cd_LW_bind : ByteArray := method_5_code
def yy_LW_bind : MethodName := ({ cls := "RouteDeskLaw", name := "bind", desc := "(LRouteDesk;IIZ[J)I" } : MethodName)
abbrev cd_RD_bind : ByteArray := prog_1_method_7_code
def yy_RD_bind : MethodName := ({ cls := "RouteDesk", name := "bind", desc := "(IIZ)Z" } : MethodName)
def ws_RD_bind : List Cond := (Jvm.Cond.code ({ cls := "RouteDesk", name := "bind", desc := "(IIZ)Z" } : Jvm.MethodName) prog_1_method_7_code (6 : Nat) (Option.some Jvm.ClassFile.FieldType.boolean)) :: tb_G
abbrev cd_RD_isTextFor : ByteArray := prog_1_method_21_code
def yy_RD_isTextFor : MethodName := ({ cls := "RouteDesk", name := "isTextFor", desc := "(ILjava/lang/String;)Z" } : MethodName)
def ws_RD_isTextFor : List Cond := (Jvm.Cond.code ({ cls := "RouteDesk", name := "isTextFor", desc := "(ILjava/lang/String;)Z" } : Jvm.MethodName) prog_1_method_21_code (2 : Nat) (Option.some Jvm.ClassFile.FieldType.boolean)) :: tb_G
abbrev cd_PT_isPattern : ByteArray := prog_7_method_2_code
def yy_PT_isPattern : MethodName := ({ cls := "RouteDesk$Pattern", name := "isPattern", desc := "(Ljava/lang/String;)Z" } : MethodName)
def ws_PT_isPattern : List Cond := (Jvm.Cond.code ({ cls := "RouteDesk$Pattern", name := "isPattern", desc := "(Ljava/lang/String;)Z" } : Jvm.MethodName) prog_7_method_2_code (3 : Nat) (Option.some Jvm.ClassFile.FieldType.boolean)) :: tb_G
abbrev cd_TX_isPartEnd : ByteArray := prog_9_method_3_code
def yy_TX_isPartEnd : MethodName := ({ cls := "RouteDesk$Texts", name := "isPartEnd", desc := "(Ljava/lang/String;IC)Z" } : MethodName)
def ws_TX_isPartEnd : List Cond := (Jvm.Cond.code ({ cls := "RouteDesk$Texts", name := "isPartEnd", desc := "(Ljava/lang/String;IC)Z" } : Jvm.MethodName) prog_9_method_3_code (3 : Nat) (Option.some Jvm.ClassFile.FieldType.boolean)) :: tb_G
abbrev cd_PT_hasWildSign : ByteArray := prog_7_method_8_code
def yy_PT_hasWildSign : MethodName := ({ cls := "RouteDesk$Pattern", name := "hasWildSign", desc := "(Ljava/lang/String;II)Z" } : MethodName)
def ws_PT_hasWildSign : List Cond := (Jvm.Cond.code ({ cls := "RouteDesk$Pattern", name := "hasWildSign", desc := "(Ljava/lang/String;II)Z" } : Jvm.MethodName) prog_7_method_8_code (3 : Nat) (Option.some Jvm.ClassFile.FieldType.boolean)) :: tb_G
abbrev cd_HT_isRule : ByteArray := prog_5_method_3_code
def yy_HT_isRule : MethodName := ({ cls := "RouteDesk$HeaderText", name := "isRule", desc := "(Ljava/lang/String;)Z" } : MethodName)
def ws_HT_isRule : List Cond := (Jvm.Cond.code ({ cls := "RouteDesk$HeaderText", name := "isRule", desc := "(Ljava/lang/String;)Z" } : Jvm.MethodName) prog_5_method_3_code (4 : Nat) (Option.some Jvm.ClassFile.FieldType.boolean)) :: tb_G
abbrev cd_TX_beginsWith : ByteArray := prog_9_method_5_code
def yy_TX_beginsWith : MethodName := ({ cls := "RouteDesk$Texts", name := "beginsWith", desc := "(Ljava/lang/String;Ljava/lang/String;)Z" } : MethodName)
def ws_TX_beginsWith : List Cond := (Jvm.Cond.code ({ cls := "RouteDesk$Texts", name := "beginsWith", desc := "(Ljava/lang/String;Ljava/lang/String;)Z" } : Jvm.MethodName) prog_9_method_5_code (2 : Nat) (Option.some Jvm.ClassFile.FieldType.boolean)) :: tb_G
abbrev cd_TX_isSame : ByteArray := prog_9_method_4_code
def yy_TX_isSame : MethodName := ({ cls := "RouteDesk$Texts", name := "isSame", desc := "(Ljava/lang/String;IILjava/lang/String;II)Z" } : MethodName)
def ws_TX_isSame : List Cond := (Jvm.Cond.code ({ cls := "RouteDesk$Texts", name := "isSame", desc := "(Ljava/lang/String;IILjava/lang/String;II)Z" } : Jvm.MethodName) prog_9_method_4_code (7 : Nat) (Option.some Jvm.ClassFile.FieldType.boolean)) :: tb_G
abbrev cd_BI_init : ByteArray := prog_2_method_1_code
def yy_BI_init : MethodName := ({ cls := "RouteDesk$Binding", name := "<init>", desc := "(IIZLjava/lang/String;)V" } : MethodName)
def ws_BI_init : List Cond := (Jvm.Cond.code ({ cls := "RouteDesk$Binding", name := "<init>", desc := "(IIZLjava/lang/String;)V" } : Jvm.MethodName) prog_2_method_1_code (5 : Nat) (Option.none : Option Jvm.ClassFile.FieldType)) :: tb_G
abbrev cd_LW_route : ByteArray := method_6_code
def yy_LW_route : MethodName := ({ cls := "RouteDeskLaw", name := "route", desc := "(LRouteDesk;I[J)I" } : MethodName)
abbrev cd_RD_route : ByteArray := prog_1_method_11_code
def yy_RD_route : MethodName := ({ cls := "RouteDesk", name := "route", desc := "(I)I" } : MethodName)
def ws_RD_route : List Cond := (Jvm.Cond.code ({ cls := "RouteDesk", name := "route", desc := "(I)I" } : Jvm.MethodName) prog_1_method_11_code (3 : Nat) (Option.some Jvm.ClassFile.FieldType.int)) :: tb_G
abbrev cd_RT_startAt : ByteArray := prog_8_method_2_code
def yy_RT_startAt : MethodName := ({ cls := "RouteDesk$Routing", name := "startAt", desc := "(I)V" } : MethodName)
def ws_RT_startAt : List Cond := (Jvm.Cond.code ({ cls := "RouteDesk$Routing", name := "startAt", desc := "(I)V" } : Jvm.MethodName) prog_8_method_2_code (3 : Nat) (Option.none : Option Jvm.ClassFile.FieldType)) :: tb_G
abbrev cd_RT_markPassed : ByteArray := prog_8_method_3_code
def yy_RT_markPassed : MethodName := ({ cls := "RouteDesk$Routing", name := "markPassed", desc := "(I)V" } : MethodName)
def ws_RT_markPassed : List Cond := (Jvm.Cond.code ({ cls := "RouteDesk$Routing", name := "markPassed", desc := "(I)V" } : Jvm.MethodName) prog_8_method_3_code (2 : Nat) (Option.none : Option Jvm.ClassFile.FieldType)) :: tb_G
abbrev cd_RD_leadOn : ByteArray := prog_1_method_23_code
def yy_RD_leadOn : MethodName := ({ cls := "RouteDesk", name := "leadOn", desc := "(I)V" } : MethodName)
def ws_RD_leadOn : List Cond := (Jvm.Cond.code ({ cls := "RouteDesk", name := "leadOn", desc := "(I)V" } : Jvm.MethodName) prog_1_method_23_code (6 : Nat) (Option.none : Option Jvm.ClassFile.FieldType)) :: tb_G
abbrev cd_RD_isMet : ByteArray := prog_1_method_22_code
def yy_RD_isMet : MethodName := ({ cls := "RouteDesk", name := "isMet", desc := "(ILjava/lang/String;)Z" } : MethodName)
def ws_RD_isMet : List Cond := (Jvm.Cond.code ({ cls := "RouteDesk", name := "isMet", desc := "(ILjava/lang/String;)Z" } : Jvm.MethodName) prog_1_method_22_code (3 : Nat) (Option.some Jvm.ClassFile.FieldType.boolean)) :: tb_G
abbrev cd_PT_isLike : ByteArray := prog_7_method_3_code
def yy_PT_isLike : MethodName := ({ cls := "RouteDesk$Pattern", name := "isLike", desc := "(Ljava/lang/String;Ljava/lang/String;)Z" } : MethodName)
def ws_PT_isLike : List Cond := (Jvm.Cond.code ({ cls := "RouteDesk$Pattern", name := "isLike", desc := "(Ljava/lang/String;Ljava/lang/String;)Z" } : Jvm.MethodName) prog_7_method_3_code (6 : Nat) (Option.some Jvm.ClassFile.FieldType.boolean)) :: tb_G
abbrev cd_PT_isJust : ByteArray := prog_7_method_7_code
def yy_PT_isJust : MethodName := ({ cls := "RouteDesk$Pattern", name := "isJust", desc := "(Ljava/lang/String;IIC)Z" } : MethodName)
def ws_PT_isJust : List Cond := (Jvm.Cond.code ({ cls := "RouteDesk$Pattern", name := "isJust", desc := "(Ljava/lang/String;IIC)Z" } : Jvm.MethodName) prog_7_method_7_code (4 : Nat) (Option.some Jvm.ClassFile.FieldType.boolean)) :: tb_G
abbrev cd_PT_afterAnyWords : ByteArray := prog_7_method_4_code
def yy_PT_afterAnyWords : MethodName := ({ cls := "RouteDesk$Pattern", name := "afterAnyWords", desc := "(J)J" } : MethodName)
def ws_PT_afterAnyWords : List Cond := (Jvm.Cond.code ({ cls := "RouteDesk$Pattern", name := "afterAnyWords", desc := "(J)J" } : Jvm.MethodName) prog_7_method_4_code (2 : Nat) (Option.some Jvm.ClassFile.FieldType.long)) :: tb_G
abbrev cd_PT_afterOneWord : ByteArray := prog_7_method_5_code
def yy_PT_afterOneWord : MethodName := ({ cls := "RouteDesk$Pattern", name := "afterOneWord", desc := "(JLjava/lang/String;IILjava/lang/String;)J" } : MethodName)
def ws_PT_afterOneWord : List Cond := (Jvm.Cond.code ({ cls := "RouteDesk$Pattern", name := "afterOneWord", desc := "(JLjava/lang/String;IILjava/lang/String;)J" } : Jvm.MethodName) prog_7_method_5_code (13 : Nat) (Option.some Jvm.ClassFile.FieldType.long)) :: tb_G
abbrev cd_PT_countWords : ByteArray := prog_7_method_6_code
def yy_PT_countWords : MethodName := ({ cls := "RouteDesk$Pattern", name := "countWords", desc := "(Ljava/lang/String;)I" } : MethodName)
def ws_PT_countWords : List Cond := (Jvm.Cond.code ({ cls := "RouteDesk$Pattern", name := "countWords", desc := "(Ljava/lang/String;)I" } : Jvm.MethodName) prog_7_method_6_code (3 : Nat) (Option.some Jvm.ClassFile.FieldType.int)) :: tb_G
abbrev cd_HT_isRuleMet : ByteArray := prog_5_method_4_code
def yy_HT_isRuleMet : MethodName := ({ cls := "RouteDesk$HeaderText", name := "isRuleMet", desc := "(Ljava/lang/String;LRouteDesk$Message;)Z" } : MethodName)
def ws_HT_isRuleMet : List Cond := (Jvm.Cond.code ({ cls := "RouteDesk$HeaderText", name := "isRuleMet", desc := "(Ljava/lang/String;LRouteDesk$Message;)Z" } : Jvm.MethodName) prog_5_method_4_code (5 : Nat) (Option.some Jvm.ClassFile.FieldType.boolean)) :: tb_G
abbrev cd_HT_isNameMet : ByteArray := prog_5_method_5_code
def yy_HT_isNameMet : MethodName := ({ cls := "RouteDesk$HeaderText", name := "isNameMet", desc := "(Ljava/lang/String;IILRouteDesk$Message;)Z" } : MethodName)
def ws_HT_isNameMet : List Cond := (Jvm.Cond.code ({ cls := "RouteDesk$HeaderText", name := "isNameMet", desc := "(Ljava/lang/String;IILRouteDesk$Message;)Z" } : Jvm.MethodName) prog_5_method_5_code (7 : Nat) (Option.some Jvm.ClassFile.FieldType.boolean)) :: tb_G
abbrev cd_RD_follow : ByteArray := prog_1_method_24_code
def yy_RD_follow : MethodName := ({ cls := "RouteDesk", name := "follow", desc := "(LRouteDesk$Binding;)V" } : MethodName)
def ws_RD_follow : List Cond := (Jvm.Cond.code ({ cls := "RouteDesk", name := "follow", desc := "(LRouteDesk$Binding;)V" } : Jvm.MethodName) prog_1_method_24_code (2 : Nat) (Option.none : Option Jvm.ClassFile.FieldType)) :: tb_G
abbrev cd_RT_markFound : ByteArray := prog_8_method_4_code
def yy_RT_markFound : MethodName := ({ cls := "RouteDesk$Routing", name := "markFound", desc := "(I)V" } : MethodName)
def ws_RT_markFound : List Cond := (Jvm.Cond.code ({ cls := "RouteDesk$Routing", name := "markFound", desc := "(I)V" } : Jvm.MethodName) prog_8_method_4_code (2 : Nat) (Option.none : Option Jvm.ClassFile.FieldType)) :: tb_G
abbrev cd_LW_found : ByteArray := method_7_code
def yy_LW_found : MethodName := ({ cls := "RouteDeskLaw", name := "found", desc := "(LRouteDesk;I[J)I" } : MethodName)
abbrev cd_RD_found : ByteArray := prog_1_method_12_code
def yy_RD_found : MethodName := ({ cls := "RouteDesk", name := "found", desc := "(I)I" } : MethodName)
def ws_RD_found : List Cond := (Jvm.Cond.code ({ cls := "RouteDesk", name := "found", desc := "(I)I" } : Jvm.MethodName) prog_1_method_12_code (3 : Nat) (Option.some Jvm.ClassFile.FieldType.int)) :: tb_G
abbrev cd_RT_foundAt : ByteArray := prog_8_method_5_code
def yy_RT_foundAt : MethodName := ({ cls := "RouteDesk$Routing", name := "foundAt", desc := "(I)I" } : MethodName)
def ws_RT_foundAt : List Cond := (Jvm.Cond.code ({ cls := "RouteDesk$Routing", name := "foundAt", desc := "(I)I" } : Jvm.MethodName) prog_8_method_5_code (4 : Nat) (Option.some Jvm.ClassFile.FieldType.int)) :: tb_G
abbrev cd_MO_init : ByteArray := prog_11_method_1_code
def yy_MO_init : MethodName := ({ cls := "RouteDeskModel", name := "<init>", desc := "()V" } : MethodName)
def ws_MO_init : List Cond := (Jvm.Cond.code ({ cls := "RouteDeskModel", name := "<init>", desc := "()V" } : Jvm.MethodName) prog_11_method_1_code (2 : Nat) (Option.none : Option Jvm.ClassFile.FieldType)) :: tb_G
abbrev cd_MO_thrown : ByteArray := prog_11_method_2_code
def yy_MO_thrown : MethodName := ({ cls := "RouteDeskModel", name := "thrown", desc := "()I" } : MethodName)
def ws_MO_thrown : List Cond := (Jvm.Cond.code ({ cls := "RouteDeskModel", name := "thrown", desc := "()I" } : Jvm.MethodName) prog_11_method_2_code (1 : Nat) (Option.some Jvm.ClassFile.FieldType.int)) :: tb_G
abbrev cd_MO_type : ByteArray := prog_11_method_4_code
def yy_MO_type : MethodName := ({ cls := "RouteDeskModel", name := "type", desc := "(JI)Z" } : MethodName)
def ws_MO_type : List Cond := (Jvm.Cond.code ({ cls := "RouteDeskModel", name := "type", desc := "(JI)Z" } : Jvm.MethodName) prog_11_method_4_code (6 : Nat) (Option.some Jvm.ClassFile.FieldType.boolean)) :: tb_G
abbrev cd_MO_exchange : ByteArray := prog_11_method_7_code
def yy_MO_exchange : MethodName := ({ cls := "RouteDeskModel", name := "exchange", desc := "(I)I" } : MethodName)
def ws_MO_exchange : List Cond := (Jvm.Cond.code ({ cls := "RouteDeskModel", name := "exchange", desc := "(I)I" } : Jvm.MethodName) prog_11_method_7_code (3 : Nat) (Option.some Jvm.ClassFile.FieldType.int)) :: tb_G
abbrev cd_MO_raise : ByteArray := prog_11_method_3_code
def yy_MO_raise : MethodName := ({ cls := "RouteDeskModel", name := "raise", desc := "(I)I" } : MethodName)
def ws_MO_raise : List Cond := (Jvm.Cond.code ({ cls := "RouteDeskModel", name := "raise", desc := "(I)I" } : Jvm.MethodName) prog_11_method_3_code (2 : Nat) (Option.some Jvm.ClassFile.FieldType.int)) :: tb_G
abbrev cd_MO_alternate : ByteArray := prog_11_method_8_code
def yy_MO_alternate : MethodName := ({ cls := "RouteDeskModel", name := "alternate", desc := "(II)Z" } : MethodName)
def ws_MO_alternate : List Cond := (Jvm.Cond.code ({ cls := "RouteDeskModel", name := "alternate", desc := "(II)Z" } : Jvm.MethodName) prog_11_method_8_code (3 : Nat) (Option.some Jvm.ClassFile.FieldType.boolean)) :: tb_G
abbrev cd_MO_isExchange : ByteArray := prog_11_method_5_code
def yy_MO_isExchange : MethodName := ({ cls := "RouteDeskModel", name := "isExchange", desc := "(I)Z" } : MethodName)
def ws_MO_isExchange : List Cond := (Jvm.Cond.code ({ cls := "RouteDeskModel", name := "isExchange", desc := "(I)Z" } : Jvm.MethodName) prog_11_method_5_code (2 : Nat) (Option.some Jvm.ClassFile.FieldType.boolean)) :: tb_G
abbrev cd_MO_queue : ByteArray := prog_11_method_9_code
def yy_MO_queue : MethodName := ({ cls := "RouteDeskModel", name := "queue", desc := "()I" } : MethodName)
def ws_MO_queue : List Cond := (Jvm.Cond.code ({ cls := "RouteDeskModel", name := "queue", desc := "()I" } : Jvm.MethodName) prog_11_method_9_code (2 : Nat) (Option.some Jvm.ClassFile.FieldType.int)) :: tb_G
abbrev cd_MO_remove : ByteArray := prog_11_method_11_code
def yy_MO_remove : MethodName := ({ cls := "RouteDeskModel", name := "remove", desc := "(IZ)Z" } : MethodName)
def ws_MO_remove : List Cond := (Jvm.Cond.code ({ cls := "RouteDeskModel", name := "remove", desc := "(IZ)Z" } : Jvm.MethodName) prog_11_method_11_code (4 : Nat) (Option.some Jvm.ClassFile.FieldType.boolean)) :: tb_G
abbrev cd_MO_isQueue : ByteArray := prog_11_method_6_code
def yy_MO_isQueue : MethodName := ({ cls := "RouteDeskModel", name := "isQueue", desc := "(I)Z" } : MethodName)
def ws_MO_isQueue : List Cond := (Jvm.Cond.code ({ cls := "RouteDeskModel", name := "isQueue", desc := "(I)Z" } : Jvm.MethodName) prog_11_method_6_code (2 : Nat) (Option.some Jvm.ClassFile.FieldType.boolean)) :: tb_G
abbrev cd_MO_drop : ByteArray := prog_11_method_10_code
def yy_MO_drop : MethodName := ({ cls := "RouteDeskModel", name := "drop", desc := "(I)V" } : MethodName)
def ws_MO_drop : List Cond := (Jvm.Cond.code ({ cls := "RouteDeskModel", name := "drop", desc := "(I)V" } : Jvm.MethodName) prog_11_method_10_code (4 : Nat) (Option.none : Option Jvm.ClassFile.FieldType)) :: tb_G
abbrev cd_MO_bind : ByteArray := prog_11_method_21_code
def yy_MO_bind : MethodName := ({ cls := "RouteDeskModel", name := "bind", desc := "(IIZ)Z" } : MethodName)
def ws_MO_bind : List Cond := (Jvm.Cond.code ({ cls := "RouteDeskModel", name := "bind", desc := "(IIZ)Z" } : Jvm.MethodName) prog_11_method_21_code (8 : Nat) (Option.some Jvm.ClassFile.FieldType.boolean)) :: tb_G
abbrev cd_MO_isGoal : ByteArray := prog_11_method_20_code
def yy_MO_isGoal : MethodName := ({ cls := "RouteDeskModel", name := "isGoal", desc := "(IZ)Z" } : MethodName)
def ws_MO_isGoal : List Cond := (Jvm.Cond.code ({ cls := "RouteDeskModel", name := "isGoal", desc := "(IZ)Z" } : Jvm.MethodName) prog_11_method_20_code (3 : Nat) (Option.some Jvm.ClassFile.FieldType.boolean)) :: tb_G
abbrev cd_MO_isText : ByteArray := prog_11_method_18_code
def yy_MO_isText : MethodName := ({ cls := "RouteDeskModel", name := "isText", desc := "(I)Z" } : MethodName)
def ws_MO_isText : List Cond := (Jvm.Cond.code ({ cls := "RouteDeskModel", name := "isText", desc := "(I)Z" } : Jvm.MethodName) prog_11_method_18_code (2 : Nat) (Option.some Jvm.ClassFile.FieldType.boolean)) :: tb_G
abbrev cd_MO_isPattern : ByteArray := prog_11_method_17_code
def yy_MO_isPattern : MethodName := ({ cls := "RouteDeskModel", name := "isPattern", desc := "()Z" } : MethodName)
def ws_MO_isPattern : List Cond := (Jvm.Cond.code ({ cls := "RouteDeskModel", name := "isPattern", desc := "()Z" } : Jvm.MethodName) prog_11_method_17_code (2 : Nat) (Option.some Jvm.ClassFile.FieldType.boolean)) :: tb_G
abbrev cd_MO_isHeaders : ByteArray := prog_11_method_16_code
def yy_MO_isHeaders : MethodName := ({ cls := "RouteDeskModel", name := "isHeaders", desc := "()Z" } : MethodName)
def ws_MO_isHeaders : List Cond := (Jvm.Cond.code ({ cls := "RouteDeskModel", name := "isHeaders", desc := "()Z" } : Jvm.MethodName) prog_11_method_16_code (3 : Nat) (Option.some Jvm.ClassFile.FieldType.boolean)) :: tb_G
abbrev cd_MO_readName : ByteArray := prog_11_method_14_code
def yy_MO_readName : MethodName := ({ cls := "RouteDeskModel", name := "readName", desc := "(I)J" } : MethodName)
def ws_MO_readName : List Cond := (Jvm.Cond.code ({ cls := "RouteDeskModel", name := "readName", desc := "(I)J" } : Jvm.MethodName) prog_11_method_14_code (5 : Nat) (Option.some Jvm.ClassFile.FieldType.long)) :: tb_G
abbrev cd_MO_isSmall : ByteArray := prog_11_method_12_code
def yy_MO_isSmall : MethodName := ({ cls := "RouteDeskModel", name := "isSmall", desc := "(I)Z" } : MethodName)
def ws_MO_isSmall : List Cond := (Jvm.Cond.code ({ cls := "RouteDeskModel", name := "isSmall", desc := "(I)Z" } : Jvm.MethodName) prog_11_method_12_code (1 : Nat) (Option.some Jvm.ClassFile.FieldType.boolean)) :: tb_G
abbrev cd_MO_readValue : ByteArray := prog_11_method_15_code
def yy_MO_readValue : MethodName := ({ cls := "RouteDeskModel", name := "readValue", desc := "(I)J" } : MethodName)
def ws_MO_readValue : List Cond := (Jvm.Cond.code ({ cls := "RouteDeskModel", name := "readValue", desc := "(I)J" } : Jvm.MethodName) prog_11_method_15_code (5 : Nat) (Option.some Jvm.ClassFile.FieldType.long)) :: tb_G
abbrev cd_MO_isPart : ByteArray := prog_11_method_13_code
def yy_MO_isPart : MethodName := ({ cls := "RouteDeskModel", name := "isPart", desc := "(I)Z" } : MethodName)
def ws_MO_isPart : List Cond := (Jvm.Cond.code ({ cls := "RouteDeskModel", name := "isPart", desc := "(I)Z" } : Jvm.MethodName) prog_11_method_13_code (1 : Nat) (Option.some Jvm.ClassFile.FieldType.boolean)) :: tb_G
abbrev cd_MO_find : ByteArray := prog_11_method_19_code
def yy_MO_find : MethodName := ({ cls := "RouteDeskModel", name := "find", desc := "(II)I" } : MethodName)
def ws_MO_find : List Cond := (Jvm.Cond.code ({ cls := "RouteDeskModel", name := "find", desc := "(II)I" } : Jvm.MethodName) prog_11_method_19_code (6 : Nat) (Option.some Jvm.ClassFile.FieldType.int)) :: tb_G
abbrev cd_MO_unbind : ByteArray := prog_11_method_22_code
def yy_MO_unbind : MethodName := ({ cls := "RouteDeskModel", name := "unbind", desc := "(IIZ)Z" } : MethodName)
def ws_MO_unbind : List Cond := (Jvm.Cond.code ({ cls := "RouteDeskModel", name := "unbind", desc := "(IIZ)Z" } : Jvm.MethodName) prog_11_method_22_code (5 : Nat) (Option.some Jvm.ClassFile.FieldType.boolean)) :: tb_G
abbrev cd_MO_message : ByteArray := prog_11_method_23_code
def yy_MO_message : MethodName := ({ cls := "RouteDeskModel", name := "message", desc := "()V" } : MethodName)
def ws_MO_message : List Cond := (Jvm.Cond.code ({ cls := "RouteDeskModel", name := "message", desc := "()V" } : Jvm.MethodName) prog_11_method_23_code (2 : Nat) (Option.none : Option Jvm.ClassFile.FieldType)) :: tb_G
abbrev cd_MO_header : ByteArray := prog_11_method_25_code
def yy_MO_header : MethodName := ({ cls := "RouteDeskModel", name := "header", desc := "()Z" } : MethodName)
def ws_MO_header : List Cond := (Jvm.Cond.code ({ cls := "RouteDeskModel", name := "header", desc := "()Z" } : Jvm.MethodName) prog_11_method_25_code (7 : Nat) (Option.some Jvm.ClassFile.FieldType.boolean)) :: tb_G
abbrev cd_MO_headerOf : ByteArray := prog_11_method_24_code
def yy_MO_headerOf : MethodName := ({ cls := "RouteDeskModel", name := "headerOf", desc := "(J)I" } : MethodName)
def ws_MO_headerOf : List Cond := (Jvm.Cond.code ({ cls := "RouteDeskModel", name := "headerOf", desc := "(J)I" } : Jvm.MethodName) prog_11_method_24_code (4 : Nat) (Option.some Jvm.ClassFile.FieldType.int)) :: tb_G
abbrev cd_MO_route : ByteArray := prog_11_method_31_code
def yy_MO_route : MethodName := ({ cls := "RouteDeskModel", name := "route", desc := "(I)I" } : MethodName)
def ws_MO_route : List Cond := (Jvm.Cond.code ({ cls := "RouteDeskModel", name := "route", desc := "(I)I" } : Jvm.MethodName) prog_11_method_31_code (5 : Nat) (Option.some Jvm.ClassFile.FieldType.int)) :: tb_G
abbrev cd_MO_goOn : ByteArray := prog_11_method_32_code
def yy_MO_goOn : MethodName := ({ cls := "RouteDeskModel", name := "goOn", desc := "(I)Z" } : MethodName)
def ws_MO_goOn : List Cond := (Jvm.Cond.code ({ cls := "RouteDeskModel", name := "goOn", desc := "(I)Z" } : Jvm.MethodName) prog_11_method_32_code (5 : Nat) (Option.some Jvm.ClassFile.FieldType.boolean)) :: tb_G
abbrev cd_MO_leads : ByteArray := prog_11_method_30_code
def yy_MO_leads : MethodName := ({ cls := "RouteDeskModel", name := "leads", desc := "(I)Z" } : MethodName)
def ws_MO_leads : List Cond := (Jvm.Cond.code ({ cls := "RouteDeskModel", name := "leads", desc := "(I)Z" } : Jvm.MethodName) prog_11_method_30_code (2 : Nat) (Option.some Jvm.ClassFile.FieldType.boolean)) :: tb_G
abbrev cd_MO_isDirect : ByteArray := prog_11_method_28_code
def yy_MO_isDirect : MethodName := ({ cls := "RouteDeskModel", name := "isDirect", desc := "(I)Z" } : MethodName)
def ws_MO_isDirect : List Cond := (Jvm.Cond.code ({ cls := "RouteDeskModel", name := "isDirect", desc := "(I)Z" } : Jvm.MethodName) prog_11_method_28_code (4 : Nat) (Option.some Jvm.ClassFile.FieldType.boolean)) :: tb_G
abbrev cd_MO_isTopic : ByteArray := prog_11_method_26_code
def yy_MO_isTopic : MethodName := ({ cls := "RouteDeskModel", name := "isTopic", desc := "(I)Z" } : MethodName)
def ws_MO_isTopic : List Cond := (Jvm.Cond.code ({ cls := "RouteDeskModel", name := "isTopic", desc := "(I)Z" } : Jvm.MethodName) prog_11_method_26_code (9 : Nat) (Option.some Jvm.ClassFile.FieldType.boolean)) :: tb_G
abbrev cd_MO_isWord : ByteArray := prog_11_method_27_code
def yy_MO_isWord : MethodName := ({ cls := "RouteDeskModel", name := "isWord", desc := "(III)Z" } : MethodName)
def ws_MO_isWord : List Cond := (Jvm.Cond.code ({ cls := "RouteDeskModel", name := "isWord", desc := "(III)Z" } : Jvm.MethodName) prog_11_method_27_code (7 : Nat) (Option.some Jvm.ClassFile.FieldType.boolean)) :: tb_G
abbrev cd_MO_isMet : ByteArray := prog_11_method_29_code
def yy_MO_isMet : MethodName := ({ cls := "RouteDeskModel", name := "isMet", desc := "(I)Z" } : MethodName)
def ws_MO_isMet : List Cond := (Jvm.Cond.code ({ cls := "RouteDeskModel", name := "isMet", desc := "(I)Z" } : Jvm.MethodName) prog_11_method_29_code (12 : Nat) (Option.some Jvm.ClassFile.FieldType.boolean)) :: tb_G
abbrev cd_MO_found : ByteArray := prog_11_method_33_code
def yy_MO_found : MethodName := ({ cls := "RouteDeskModel", name := "found", desc := "(I)I" } : MethodName)
def ws_MO_found : List Cond := (Jvm.Cond.code ({ cls := "RouteDeskModel", name := "found", desc := "(I)I" } : Jvm.MethodName) prog_11_method_33_code (4 : Nat) (Option.some Jvm.ClassFile.FieldType.int)) :: tb_G
abbrev cd_MO_passed : ByteArray := prog_11_method_34_code
def yy_MO_passed : MethodName := ({ cls := "RouteDeskModel", name := "passed", desc := "(I)Z" } : MethodName)
def ws_MO_passed : List Cond := (Jvm.Cond.code ({ cls := "RouteDeskModel", name := "passed", desc := "(I)Z" } : Jvm.MethodName) prog_11_method_34_code (2 : Nat) (Option.some Jvm.ClassFile.FieldType.boolean)) :: tb_G
abbrev cd_MO_of : ByteArray := prog_11_method_35_code
def yy_MO_of : MethodName := ({ cls := "RouteDeskModel", name := "of", desc := "(II)I" } : MethodName)
def ws_MO_of : List Cond := (Jvm.Cond.code ({ cls := "RouteDeskModel", name := "of", desc := "(II)I" } : Jvm.MethodName) prog_11_method_35_code (5 : Nat) (Option.some Jvm.ClassFile.FieldType.int)) :: tb_G
abbrev cd_MO_total : ByteArray := prog_11_method_36_code
def yy_MO_total : MethodName := ({ cls := "RouteDeskModel", name := "total", desc := "(I)I" } : MethodName)
def ws_MO_total : List Cond := (Jvm.Cond.code ({ cls := "RouteDeskModel", name := "total", desc := "(I)I" } : Jvm.MethodName) prog_11_method_36_code (5 : Nat) (Option.some Jvm.ClassFile.FieldType.int)) :: tb_G
abbrev cd_SB_init : ByteArray := prog_24_method_1_code
def yy_SB_init : MethodName := ({ cls := "java/lang/StringBuilder", name := "<init>", desc := "()V" } : MethodName)
def ws_SB_init : List Cond := (Jvm.Cond.code ({ cls := "java/lang/StringBuilder", name := "<init>", desc := "()V" } : Jvm.MethodName) prog_24_method_1_code (1 : Nat) (Option.none : Option Jvm.ClassFile.FieldType)) :: tb_G
abbrev cd_AB_init : ByteArray := prog_13_method_2_code
def yy_AB_init : MethodName := ({ cls := "java/lang/AbstractStringBuilder", name := "<init>", desc := "(I)V" } : MethodName)
def ws_AB_init : List Cond := (Jvm.Cond.code ({ cls := "java/lang/AbstractStringBuilder", name := "<init>", desc := "(I)V" } : Jvm.MethodName) prog_13_method_2_code (2 : Nat) (Option.none : Option Jvm.ClassFile.FieldType)) :: tb_G
abbrev cd_SB_append : ByteArray := prog_24_method_14_code
def yy_SB_append : MethodName := ({ cls := "java/lang/StringBuilder", name := "append", desc := "(C)Ljava/lang/StringBuilder;" } : MethodName)
def ws_SB_append : List Cond := (Jvm.Cond.code ({ cls := "java/lang/StringBuilder", name := "append", desc := "(C)Ljava/lang/StringBuilder;" } : Jvm.MethodName) prog_24_method_14_code (2 : Nat) (Option.some (Jvm.ClassFile.FieldType.object "java/lang/StringBuilder"))) :: tb_G
abbrev cd_AB_append : ByteArray := prog_13_method_31_code
def yy_AB_append : MethodName := ({ cls := "java/lang/AbstractStringBuilder", name := "append", desc := "(C)Ljava/lang/AbstractStringBuilder;" } : MethodName)
def ws_AB_append : List Cond := (Jvm.Cond.code ({ cls := "java/lang/AbstractStringBuilder", name := "append", desc := "(C)Ljava/lang/AbstractStringBuilder;" } : Jvm.MethodName) prog_13_method_31_code (2 : Nat) (Option.some (Jvm.ClassFile.FieldType.object "java/lang/AbstractStringBuilder"))) :: tb_G
abbrev cd_AB_ensureCapacityInternal : ByteArray := prog_13_method_9_code
def yy_AB_ensureCapacityInternal : MethodName := ({ cls := "java/lang/AbstractStringBuilder", name := "ensureCapacityInternal", desc := "(I)V" } : MethodName)
def ws_AB_ensureCapacityInternal : List Cond := (Jvm.Cond.code ({ cls := "java/lang/AbstractStringBuilder", name := "ensureCapacityInternal", desc := "(I)V" } : Jvm.MethodName) prog_13_method_9_code (3 : Nat) (Option.none : Option Jvm.ClassFile.FieldType)) :: tb_G
abbrev cd_AB_newCapacity : ByteArray := prog_13_method_10_code
def yy_AB_newCapacity : MethodName := ({ cls := "java/lang/AbstractStringBuilder", name := "newCapacity", desc := "(I)I" } : MethodName)
def ws_AB_newCapacity : List Cond := (Jvm.Cond.code ({ cls := "java/lang/AbstractStringBuilder", name := "newCapacity", desc := "(I)I" } : Jvm.MethodName) prog_13_method_10_code (6 : Nat) (Option.some Jvm.ClassFile.FieldType.int)) :: tb_G
abbrev cd_AS_newLength : ByteArray := prog_39_method_27_code
def yy_AS_newLength : MethodName := ({ cls := "jdk/internal/util/ArraysSupport", name := "newLength", desc := "(III)I" } : MethodName)
def ws_AS_newLength : List Cond := (Jvm.Cond.code ({ cls := "jdk/internal/util/ArraysSupport", name := "newLength", desc := "(III)I" } : Jvm.MethodName) prog_39_method_27_code (4 : Nat) (Option.some Jvm.ClassFile.FieldType.int)) :: tb_G
abbrev cd_AB_isLatin1 : ByteArray := prog_13_method_68_code
def yy_AB_isLatin1 : MethodName := ({ cls := "java/lang/AbstractStringBuilder", name := "isLatin1", desc := "()Z" } : MethodName)
def ws_AB_isLatin1 : List Cond := (Jvm.Cond.code ({ cls := "java/lang/AbstractStringBuilder", name := "isLatin1", desc := "()Z" } : Jvm.MethodName) prog_13_method_68_code (1 : Nat) (Option.some Jvm.ClassFile.FieldType.boolean)) :: tb_G
abbrev cd_SL_canEncode : ByteArray := prog_25_method_3_code
def yy_SL_canEncode : MethodName := ({ cls := "java/lang/StringLatin1", name := "canEncode", desc := "(C)Z" } : MethodName)
def ws_SL_canEncode : List Cond := (Jvm.Cond.code ({ cls := "java/lang/StringLatin1", name := "canEncode", desc := "(C)Z" } : Jvm.MethodName) prog_25_method_3_code (1 : Nat) (Option.some Jvm.ClassFile.FieldType.boolean)) :: tb_G
abbrev cd_AR_copyOf0 : ByteArray := prog_32_method_121_code
def yy_AR_copyOf0 : MethodName := ({ cls := "java/util/Arrays", name := "copyOf", desc := "([BI)[B" } : MethodName)
def ws_AR_copyOf0 : List Cond := (Jvm.Cond.code ({ cls := "java/util/Arrays", name := "copyOf", desc := "([BI)[B" } : Jvm.MethodName) prog_32_method_121_code (3 : Nat) (Option.some (Jvm.ClassFile.FieldType.array Jvm.ClassFile.FieldType.byte))) :: tb_G
abbrev cd_AR_copyOf1 : ByteArray := prog_32_method_119_code
def yy_AR_copyOf1 : MethodName := ({ cls := "java/util/Arrays", name := "copyOf", desc := "([Ljava/lang/Object;I)[Ljava/lang/Object;" } : MethodName)
def ws_AR_copyOf1 : List Cond := (Jvm.Cond.code ({ cls := "java/util/Arrays", name := "copyOf", desc := "([Ljava/lang/Object;I)[Ljava/lang/Object;" } : Jvm.MethodName) prog_32_method_119_code (2 : Nat) (Option.some (Jvm.ClassFile.FieldType.array (Jvm.ClassFile.FieldType.object "java/lang/Object")))) :: tb_G
abbrev cd_AR_copyOf2 : ByteArray := prog_32_method_120_code
def yy_AR_copyOf2 : MethodName := ({ cls := "java/util/Arrays", name := "copyOf", desc := "([Ljava/lang/Object;ILjava/lang/Class;)[Ljava/lang/Object;" } : MethodName)
def ws_AR_copyOf2 : List Cond := (Jvm.Cond.code ({ cls := "java/util/Arrays", name := "copyOf", desc := "([Ljava/lang/Object;ILjava/lang/Class;)[Ljava/lang/Object;" } : Jvm.MethodName) prog_32_method_120_code (4 : Nat) (Option.some (Jvm.ClassFile.FieldType.array (Jvm.ClassFile.FieldType.object "java/lang/Object")))) :: tb_G
abbrev cd_SB_toString : ByteArray := prog_24_method_42_code
def yy_SB_toString : MethodName := ({ cls := "java/lang/StringBuilder", name := "toString", desc := "()Ljava/lang/String;" } : MethodName)
def ws_SB_toString : List Cond := (Jvm.Cond.code ({ cls := "java/lang/StringBuilder", name := "toString", desc := "()Ljava/lang/String;" } : Jvm.MethodName) prog_24_method_42_code (1 : Nat) (Option.some (Jvm.ClassFile.FieldType.object "java/lang/String"))) :: tb_G
abbrev cd_ST_init0 : ByteArray := prog_23_method_53_code
def yy_ST_init0 : MethodName := ({ cls := "java/lang/String", name := "<init>", desc := "(Ljava/lang/StringBuilder;)V" } : MethodName)
def ws_ST_init0 : List Cond := (Jvm.Cond.code ({ cls := "java/lang/String", name := "<init>", desc := "(Ljava/lang/StringBuilder;)V" } : Jvm.MethodName) prog_23_method_53_code (2 : Nat) (Option.none : Option Jvm.ClassFile.FieldType)) :: tb_G
abbrev cd_ST_init1 : ByteArray := prog_23_method_150_code
def yy_ST_init1 : MethodName := ({ cls := "java/lang/String", name := "<init>", desc := "(Ljava/lang/AbstractStringBuilder;Ljava/lang/Void;)V" } : MethodName)
def ws_ST_init1 : List Cond := (Jvm.Cond.code ({ cls := "java/lang/String", name := "<init>", desc := "(Ljava/lang/AbstractStringBuilder;Ljava/lang/Void;)V" } : Jvm.MethodName) prog_23_method_150_code (5 : Nat) (Option.none : Option Jvm.ClassFile.FieldType)) :: tb_G
abbrev cd_ST_init2 : ByteArray := prog_23_method_151_code
def yy_ST_init2 : MethodName := ({ cls := "java/lang/String", name := "<init>", desc := "([BB)V" } : MethodName)
def ws_ST_init2 : List Cond := (Jvm.Cond.code ({ cls := "java/lang/String", name := "<init>", desc := "([BB)V" } : Jvm.MethodName) prog_23_method_151_code (3 : Nat) (Option.none : Option Jvm.ClassFile.FieldType)) :: tb_G
abbrev cd_AB_getValue : ByteArray := prog_13_method_64_code
def yy_AB_getValue : MethodName := ({ cls := "java/lang/AbstractStringBuilder", name := "getValue", desc := "()[B" } : MethodName)
def ws_AB_getValue : List Cond := (Jvm.Cond.code ({ cls := "java/lang/AbstractStringBuilder", name := "getValue", desc := "()[B" } : Jvm.MethodName) prog_13_method_64_code (1 : Nat) (Option.some (Jvm.ClassFile.FieldType.array Jvm.ClassFile.FieldType.byte))) :: tb_G
abbrev cd_AR_copyOfRange : ByteArray := prog_32_method_132_code
def yy_AR_copyOfRange : MethodName := ({ cls := "java/util/Arrays", name := "copyOfRange", desc := "([BII)[B" } : MethodName)
def ws_AR_copyOfRange : List Cond := (Jvm.Cond.code ({ cls := "java/util/Arrays", name := "copyOfRange", desc := "([BII)[B" } : Jvm.MethodName) prog_32_method_132_code (3 : Nat) (Option.some (Jvm.ClassFile.FieldType.array Jvm.ClassFile.FieldType.byte))) :: tb_G
abbrev cd_AR_copyOfRangeByte : ByteArray := prog_32_method_133_code
def yy_AR_copyOfRangeByte : MethodName := ({ cls := "java/util/Arrays", name := "copyOfRangeByte", desc := "([BII)[B" } : MethodName)
def ws_AR_copyOfRangeByte : List Cond := (Jvm.Cond.code ({ cls := "java/util/Arrays", name := "copyOfRangeByte", desc := "([BII)[B" } : Jvm.MethodName) prog_32_method_133_code (5 : Nat) (Option.some (Jvm.ClassFile.FieldType.array Jvm.ClassFile.FieldType.byte))) :: tb_G
abbrev cd_AR_checkLength : ByteArray := prog_32_method_131_code
def yy_AR_checkLength : MethodName := ({ cls := "java/util/Arrays", name := "checkLength", desc := "(II)V" } : MethodName)
def ws_AR_checkLength : List Cond := (Jvm.Cond.code ({ cls := "java/util/Arrays", name := "checkLength", desc := "(II)V" } : Jvm.MethodName) prog_32_method_131_code (2 : Nat) (Option.none : Option Jvm.ClassFile.FieldType)) :: tb_G
abbrev cd_AB_setLength : ByteArray := prog_13_method_13_code
def yy_AB_setLength : MethodName := ({ cls := "java/lang/AbstractStringBuilder", name := "setLength", desc := "(I)V" } : MethodName)
def ws_AB_setLength : List Cond := (Jvm.Cond.code ({ cls := "java/lang/AbstractStringBuilder", name := "setLength", desc := "(I)V" } : Jvm.MethodName) prog_13_method_13_code (2 : Nat) (Option.none : Option Jvm.ClassFile.FieldType)) :: tb_G
abbrev cd_SB_setLength : ByteArray := prog_24_method_89_code
def yy_SB_setLength : MethodName := ({ cls := "java/lang/StringBuilder", name := "setLength", desc := "(I)V" } : MethodName)
def ws_SB_setLength : List Cond := (Jvm.Cond.code ({ cls := "java/lang/StringBuilder", name := "setLength", desc := "(I)V" } : Jvm.MethodName) prog_24_method_89_code (2 : Nat) (Option.none : Option Jvm.ClassFile.FieldType)) :: tb_G
abbrev cd_AB_length : ByteArray := prog_13_method_6_code
def yy_AB_length : MethodName := ({ cls := "java/lang/AbstractStringBuilder", name := "length", desc := "()I" } : MethodName)
def ws_AB_length : List Cond := (Jvm.Cond.code ({ cls := "java/lang/AbstractStringBuilder", name := "length", desc := "()I" } : Jvm.MethodName) prog_13_method_6_code (1 : Nat) (Option.some Jvm.ClassFile.FieldType.int)) :: tb_G
abbrev cd_SB_length : ByteArray := prog_24_method_93_code
def yy_SB_length : MethodName := ({ cls := "java/lang/StringBuilder", name := "length", desc := "()I" } : MethodName)
def ws_SB_length : List Cond := (Jvm.Cond.code ({ cls := "java/lang/StringBuilder", name := "length", desc := "()I" } : Jvm.MethodName) prog_24_method_93_code (1 : Nat) (Option.some Jvm.ClassFile.FieldType.int)) :: tb_G
abbrev cd_ST_length : ByteArray := prog_23_method_54_code
def yy_ST_length : MethodName := ({ cls := "java/lang/String", name := "length", desc := "()I" } : MethodName)
def ws_ST_length : List Cond := (Jvm.Cond.code ({ cls := "java/lang/String", name := "length", desc := "()I" } : Jvm.MethodName) prog_23_method_54_code (1 : Nat) (Option.some Jvm.ClassFile.FieldType.int)) :: tb_G
abbrev cd_ST_coder : ByteArray := prog_23_method_152_code
def yy_ST_coder : MethodName := ({ cls := "java/lang/String", name := "coder", desc := "()B" } : MethodName)
def ws_ST_coder : List Cond := (Jvm.Cond.code ({ cls := "java/lang/String", name := "coder", desc := "()B" } : Jvm.MethodName) prog_23_method_152_code (1 : Nat) (Option.some Jvm.ClassFile.FieldType.byte)) :: tb_G
abbrev cd_ST_isLatin1 : ByteArray := prog_23_method_154_code
def yy_ST_isLatin1 : MethodName := ({ cls := "java/lang/String", name := "isLatin1", desc := "()Z" } : MethodName)
def ws_ST_isLatin1 : List Cond := (Jvm.Cond.code ({ cls := "java/lang/String", name := "isLatin1", desc := "()Z" } : Jvm.MethodName) prog_23_method_154_code (1 : Nat) (Option.some Jvm.ClassFile.FieldType.boolean)) :: tb_G
abbrev cd_ST_charAt : ByteArray := prog_23_method_56_code
def yy_ST_charAt : MethodName := ({ cls := "java/lang/String", name := "charAt", desc := "(I)C" } : MethodName)
def ws_ST_charAt : List Cond := (Jvm.Cond.code ({ cls := "java/lang/String", name := "charAt", desc := "(I)C" } : Jvm.MethodName) prog_23_method_56_code (2 : Nat) (Option.some Jvm.ClassFile.FieldType.char)) :: tb_G
abbrev cd_SL_charAt : ByteArray := prog_25_method_2_code
def yy_SL_charAt : MethodName := ({ cls := "java/lang/StringLatin1", name := "charAt", desc := "([BI)C" } : MethodName)
def ws_SL_charAt : List Cond := (Jvm.Cond.code ({ cls := "java/lang/StringLatin1", name := "charAt", desc := "([BI)C" } : Jvm.MethodName) prog_25_method_2_code (2 : Nat) (Option.some Jvm.ClassFile.FieldType.char)) :: tb_G
abbrev cd_ST_equals : ByteArray := prog_23_method_66_code
def yy_ST_equals : MethodName := ({ cls := "java/lang/String", name := "equals", desc := "(Ljava/lang/Object;)Z" } : MethodName)
def ws_ST_equals : List Cond := (Jvm.Cond.code ({ cls := "java/lang/String", name := "equals", desc := "(Ljava/lang/Object;)Z" } : Jvm.MethodName) prog_23_method_66_code (3 : Nat) (Option.some Jvm.ClassFile.FieldType.boolean)) :: tb_G
abbrev cd_SL_equals : ByteArray := prog_25_method_13_code
def yy_SL_equals : MethodName := ({ cls := "java/lang/StringLatin1", name := "equals", desc := "([B[B)Z" } : MethodName)
def ws_SL_equals : List Cond := (Jvm.Cond.code ({ cls := "java/lang/StringLatin1", name := "equals", desc := "([B[B)Z" } : Jvm.MethodName) prog_25_method_13_code (3 : Nat) (Option.some Jvm.ClassFile.FieldType.boolean)) :: tb_G
abbrev cd_ST_isEmpty : ByteArray := prog_23_method_55_code
def yy_ST_isEmpty : MethodName := ({ cls := "java/lang/String", name := "isEmpty", desc := "()Z" } : MethodName)
def ws_ST_isEmpty : List Cond := (Jvm.Cond.code ({ cls := "java/lang/String", name := "isEmpty", desc := "()Z" } : Jvm.MethodName) prog_23_method_55_code (1 : Nat) (Option.some Jvm.ClassFile.FieldType.boolean)) :: tb_G
abbrev cd_ST_substring : ByteArray := prog_23_method_92_code
def yy_ST_substring : MethodName := ({ cls := "java/lang/String", name := "substring", desc := "(II)Ljava/lang/String;" } : MethodName)
def ws_ST_substring : List Cond := (Jvm.Cond.code ({ cls := "java/lang/String", name := "substring", desc := "(II)Ljava/lang/String;" } : Jvm.MethodName) prog_23_method_92_code (5 : Nat) (Option.some (Jvm.ClassFile.FieldType.object "java/lang/String"))) :: tb_G
abbrev cd_ST_checkBoundsBeginEnd : ByteArray := prog_23_method_158_code
def yy_ST_checkBoundsBeginEnd : MethodName := ({ cls := "java/lang/String", name := "checkBoundsBeginEnd", desc := "(III)V" } : MethodName)
def ws_ST_checkBoundsBeginEnd : List Cond := (Jvm.Cond.code ({ cls := "java/lang/String", name := "checkBoundsBeginEnd", desc := "(III)V" } : Jvm.MethodName) prog_23_method_158_code (3 : Nat) (Option.none : Option Jvm.ClassFile.FieldType)) :: tb_G
abbrev cd_SL_newString : ByteArray := prog_25_method_47_code
def yy_SL_newString : MethodName := ({ cls := "java/lang/StringLatin1", name := "newString", desc := "([BII)Ljava/lang/String;" } : MethodName)
def ws_SL_newString : List Cond := (Jvm.Cond.code ({ cls := "java/lang/StringLatin1", name := "newString", desc := "([BII)Ljava/lang/String;" } : Jvm.MethodName) prog_25_method_47_code (3 : Nat) (Option.some (Jvm.ClassFile.FieldType.object "java/lang/String"))) :: tb_G
abbrev cd_ST_checkIndex : ByteArray := prog_23_method_155_code
def yy_ST_checkIndex : MethodName := ({ cls := "java/lang/String", name := "checkIndex", desc := "(II)V" } : MethodName)
def ws_ST_checkIndex : List Cond := (Jvm.Cond.code ({ cls := "java/lang/String", name := "checkIndex", desc := "(II)V" } : Jvm.MethodName) prog_23_method_155_code (2 : Nat) (Option.none : Option Jvm.ClassFile.FieldType)) :: tb_G
abbrev cd_PC_checkIndex : ByteArray := prog_40_method_11_code
def yy_PC_checkIndex : MethodName := ({ cls := "jdk/internal/util/Preconditions", name := "checkIndex", desc := "(IILjava/util/function/BiFunction;)I" } : MethodName)
def ws_PC_checkIndex : List Cond := (Jvm.Cond.code ({ cls := "jdk/internal/util/Preconditions", name := "checkIndex", desc := "(IILjava/util/function/BiFunction;)I" } : Jvm.MethodName) prog_40_method_11_code (3 : Nat) (Option.some Jvm.ClassFile.FieldType.int)) :: tb_G
abbrev cd_PC_checkFromToIndex : ByteArray := prog_40_method_12_code
def yy_PC_checkFromToIndex : MethodName := ({ cls := "jdk/internal/util/Preconditions", name := "checkFromToIndex", desc := "(IIILjava/util/function/BiFunction;)I" } : MethodName)
def ws_PC_checkFromToIndex : List Cond := (Jvm.Cond.code ({ cls := "jdk/internal/util/Preconditions", name := "checkFromToIndex", desc := "(IIILjava/util/function/BiFunction;)I" } : Jvm.MethodName) prog_40_method_12_code (4 : Nat) (Option.some Jvm.ClassFile.FieldType.int)) :: tb_G
abbrev cd_OB_checkIndex : ByteArray := prog_36_method_17_code
def yy_OB_checkIndex : MethodName := ({ cls := "java/util/Objects", name := "checkIndex", desc := "(II)I" } : MethodName)
def ws_OB_checkIndex : List Cond := (Jvm.Cond.code ({ cls := "java/util/Objects", name := "checkIndex", desc := "(II)I" } : Jvm.MethodName) prog_36_method_17_code (2 : Nat) (Option.some Jvm.ClassFile.FieldType.int)) :: tb_G
abbrev cd_LO_lowestOneBit : ByteArray := prog_20_method_47_code
def yy_LO_lowestOneBit : MethodName := ({ cls := "java/lang/Long", name := "lowestOneBit", desc := "(J)J" } : MethodName)
def ws_LO_lowestOneBit : List Cond := (Jvm.Cond.code ({ cls := "java/lang/Long", name := "lowestOneBit", desc := "(J)J" } : Jvm.MethodName) prog_20_method_47_code (2 : Nat) (Option.some Jvm.ClassFile.FieldType.long)) :: tb_G
abbrev cd_AL_init : ByteArray := prog_31_method_2_code
def yy_AL_init : MethodName := ({ cls := "java/util/ArrayList", name := "<init>", desc := "()V" } : MethodName)
def ws_AL_init : List Cond := (Jvm.Cond.code ({ cls := "java/util/ArrayList", name := "<init>", desc := "()V" } : Jvm.MethodName) prog_31_method_2_code (1 : Nat) (Option.none : Option Jvm.ClassFile.FieldType)) :: tb_G
abbrev cd_AL_add0 : ByteArray := prog_31_method_25_code
def yy_AL_add0 : MethodName := ({ cls := "java/util/ArrayList", name := "add", desc := "(Ljava/lang/Object;)Z" } : MethodName)
def ws_AL_add0 : List Cond := (Jvm.Cond.code ({ cls := "java/util/ArrayList", name := "add", desc := "(Ljava/lang/Object;)Z" } : Jvm.MethodName) prog_31_method_25_code (2 : Nat) (Option.some Jvm.ClassFile.FieldType.boolean)) :: tb_G
abbrev cd_AL_add1 : ByteArray := prog_31_method_24_code
def yy_AL_add1 : MethodName := ({ cls := "java/util/ArrayList", name := "add", desc := "(Ljava/lang/Object;[Ljava/lang/Object;I)V" } : MethodName)
def ws_AL_add1 : List Cond := (Jvm.Cond.code ({ cls := "java/util/ArrayList", name := "add", desc := "(Ljava/lang/Object;[Ljava/lang/Object;I)V" } : Jvm.MethodName) prog_31_method_24_code (4 : Nat) (Option.none : Option Jvm.ClassFile.FieldType)) :: tb_G
abbrev cd_AL_grow0 : ByteArray := prog_31_method_7_code
def yy_AL_grow0 : MethodName := ({ cls := "java/util/ArrayList", name := "grow", desc := "()[Ljava/lang/Object;" } : MethodName)
def ws_AL_grow0 : List Cond := (Jvm.Cond.code ({ cls := "java/util/ArrayList", name := "grow", desc := "()[Ljava/lang/Object;" } : Jvm.MethodName) prog_31_method_7_code (1 : Nat) (Option.some (Jvm.ClassFile.FieldType.array (Jvm.ClassFile.FieldType.object "java/lang/Object")))) :: tb_G
abbrev cd_AL_grow1 : ByteArray := prog_31_method_6_code
def yy_AL_grow1 : MethodName := ({ cls := "java/util/ArrayList", name := "grow", desc := "(I)[Ljava/lang/Object;" } : MethodName)
def ws_AL_grow1 : List Cond := (Jvm.Cond.code ({ cls := "java/util/ArrayList", name := "grow", desc := "(I)[Ljava/lang/Object;" } : Jvm.MethodName) prog_31_method_6_code (4 : Nat) (Option.some (Jvm.ClassFile.FieldType.array (Jvm.ClassFile.FieldType.object "java/lang/Object")))) :: tb_G
abbrev cd_AL_get : ByteArray := prog_31_method_20_code
def yy_AL_get : MethodName := ({ cls := "java/util/ArrayList", name := "get", desc := "(I)Ljava/lang/Object;" } : MethodName)
def ws_AL_get : List Cond := (Jvm.Cond.code ({ cls := "java/util/ArrayList", name := "get", desc := "(I)Ljava/lang/Object;" } : Jvm.MethodName) prog_31_method_20_code (2 : Nat) (Option.some (Jvm.ClassFile.FieldType.object "java/lang/Object"))) :: tb_G
abbrev cd_AL_elementData : ByteArray := prog_31_method_18_code
def yy_AL_elementData : MethodName := ({ cls := "java/util/ArrayList", name := "elementData", desc := "(I)Ljava/lang/Object;" } : MethodName)
def ws_AL_elementData : List Cond := (Jvm.Cond.code ({ cls := "java/util/ArrayList", name := "elementData", desc := "(I)Ljava/lang/Object;" } : Jvm.MethodName) prog_31_method_18_code (2 : Nat) (Option.some (Jvm.ClassFile.FieldType.object "java/lang/Object"))) :: tb_G
abbrev cd_AL_remove : ByteArray := prog_31_method_29_code
def yy_AL_remove : MethodName := ({ cls := "java/util/ArrayList", name := "remove", desc := "(I)Ljava/lang/Object;" } : MethodName)
def ws_AL_remove : List Cond := (Jvm.Cond.code ({ cls := "java/util/ArrayList", name := "remove", desc := "(I)Ljava/lang/Object;" } : Jvm.MethodName) prog_31_method_29_code (4 : Nat) (Option.some (Jvm.ClassFile.FieldType.object "java/lang/Object"))) :: tb_G
abbrev cd_AL_fastRemove : ByteArray := prog_31_method_39_code
def yy_AL_fastRemove : MethodName := ({ cls := "java/util/ArrayList", name := "fastRemove", desc := "([Ljava/lang/Object;I)V" } : MethodName)
def ws_AL_fastRemove : List Cond := (Jvm.Cond.code ({ cls := "java/util/ArrayList", name := "fastRemove", desc := "([Ljava/lang/Object;I)V" } : Jvm.MethodName) prog_31_method_39_code (4 : Nat) (Option.none : Option Jvm.ClassFile.FieldType)) :: tb_G
abbrev cd_AL_size : ByteArray := prog_31_method_8_code
def yy_AL_size : MethodName := ({ cls := "java/util/ArrayList", name := "size", desc := "()I" } : MethodName)
def ws_AL_size : List Cond := (Jvm.Cond.code ({ cls := "java/util/ArrayList", name := "size", desc := "()I" } : Jvm.MethodName) prog_31_method_8_code (1 : Nat) (Option.some Jvm.ClassFile.FieldType.int)) :: tb_G
abbrev cd_AL_clear : ByteArray := prog_31_method_40_code
def yy_AL_clear : MethodName := ({ cls := "java/util/ArrayList", name := "clear", desc := "()V" } : MethodName)
def ws_AL_clear : List Cond := (Jvm.Cond.code ({ cls := "java/util/ArrayList", name := "clear", desc := "()V" } : Jvm.MethodName) prog_31_method_40_code (4 : Nat) (Option.none : Option Jvm.ClassFile.FieldType)) :: tb_G
abbrev cd_AA_init : ByteArray := prog_30_method_1_code
def yy_AA_init : MethodName := ({ cls := "java/util/AbstractList", name := "<init>", desc := "()V" } : MethodName)
def ws_AA_init : List Cond := (Jvm.Cond.code ({ cls := "java/util/AbstractList", name := "<init>", desc := "()V" } : Jvm.MethodName) prog_30_method_1_code (1 : Nat) (Option.none : Option Jvm.ClassFile.FieldType)) :: tb_G
abbrev cd_AC_init : ByteArray := prog_29_method_1_code
def yy_AC_init : MethodName := ({ cls := "java/util/AbstractCollection", name := "<init>", desc := "()V" } : MethodName)
def ws_AC_init : List Cond := (Jvm.Cond.code ({ cls := "java/util/AbstractCollection", name := "<init>", desc := "()V" } : Jvm.MethodName) prog_29_method_1_code (1 : Nat) (Option.none : Option Jvm.ClassFile.FieldType)) :: tb_G
abbrev cd_MA_max : ByteArray := prog_21_method_65_code
def yy_MA_max : MethodName := ({ cls := "java/lang/Math", name := "max", desc := "(II)I" } : MethodName)
def ws_MA_max : List Cond := (Jvm.Cond.code ({ cls := "java/lang/Math", name := "max", desc := "(II)I" } : Jvm.MethodName) prog_21_method_65_code (2 : Nat) (Option.some Jvm.ClassFile.FieldType.int)) :: tb_G
abbrev cd_MA_min : ByteArray := prog_21_method_69_code
def yy_MA_min : MethodName := ({ cls := "java/lang/Math", name := "min", desc := "(II)I" } : MethodName)
def ws_MA_min : List Cond := (Jvm.Cond.code ({ cls := "java/lang/Math", name := "min", desc := "(II)I" } : Jvm.MethodName) prog_21_method_69_code (2 : Nat) (Option.some Jvm.ClassFile.FieldType.int)) :: tb_G
