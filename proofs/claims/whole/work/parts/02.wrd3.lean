/-! printed (gen/names.py): words among the good ones -/
theorem tw_511 : (Jvm.Cond.methodLink "java/util/Arrays" (61 : Nat) ({ cls := "java/lang/StringBuilder", name := "toString", desc := "()Ljava/lang/String;" } : Jvm.MethodName)) ∈ tb_G := tb_2 236 rfl rfl
theorem tw_512 : (Jvm.Cond.methodLink "java/util/Arrays" (65 : Nat) ({ cls := "java/lang/IllegalArgumentException", name := "<init>", desc := "(Ljava/lang/String;)V" } : Jvm.MethodName)) ∈ tb_G := tb_2 237 rfl rfl
theorem tw_513 : (Jvm.Cond.instanceMethod ({ cls := "java/lang/IllegalArgumentException", name := "<init>", desc := "(Ljava/lang/String;)V" } : Jvm.MethodName)) ∈ tb_G := tb_2 238 rfl rfl
theorem tw_514 : (Jvm.Cond.code ({ cls := "java/lang/IllegalArgumentException", name := "<init>", desc := "(Ljava/lang/String;)V" } : Jvm.MethodName) prog_16_method_2_code (2 : Nat) (Option.none : Option Jvm.ClassFile.FieldType)) ∈ tb_G := tb_2 239 rfl rfl
theorem tw_515 : (Jvm.Cond.methodLink "java/lang/IllegalArgumentException" (7 : Nat) ({ cls := "java/lang/RuntimeException", name := "<init>", desc := "(Ljava/lang/String;)V" } : Jvm.MethodName)) ∈ tb_G := tb_3 0 rfl rfl
theorem tw_516 : (Jvm.Cond.instanceMethod ({ cls := "java/lang/RuntimeException", name := "<init>", desc := "(Ljava/lang/String;)V" } : Jvm.MethodName)) ∈ tb_G := tb_3 1 rfl rfl
theorem tw_517 : (Jvm.Cond.code ({ cls := "java/lang/RuntimeException", name := "<init>", desc := "(Ljava/lang/String;)V" } : Jvm.MethodName) prog_22_method_2_code (2 : Nat) (Option.none : Option Jvm.ClassFile.FieldType)) ∈ tb_G := tb_3 2 rfl rfl
theorem tw_518 : (Jvm.Cond.methodLink "java/lang/RuntimeException" (7 : Nat) ({ cls := "java/lang/Exception", name := "<init>", desc := "(Ljava/lang/String;)V" } : Jvm.MethodName)) ∈ tb_G := tb_3 3 rfl rfl
theorem tw_519 : (Jvm.Cond.instanceMethod ({ cls := "java/lang/Exception", name := "<init>", desc := "(Ljava/lang/String;)V" } : Jvm.MethodName)) ∈ tb_G := tb_3 4 rfl rfl
theorem tw_520 : (Jvm.Cond.code ({ cls := "java/lang/Exception", name := "<init>", desc := "(Ljava/lang/String;)V" } : Jvm.MethodName) prog_15_method_2_code (2 : Nat) (Option.none : Option Jvm.ClassFile.FieldType)) ∈ tb_G := tb_3 5 rfl rfl
theorem tw_521 : (Jvm.Cond.methodLink "java/lang/Exception" (7 : Nat) ({ cls := "java/lang/Throwable", name := "<init>", desc := "(Ljava/lang/String;)V" } : Jvm.MethodName)) ∈ tb_G := tb_3 6 rfl rfl
theorem tw_522 : (Jvm.Cond.instanceMethod ({ cls := "java/lang/Throwable", name := "<init>", desc := "(Ljava/lang/String;)V" } : Jvm.MethodName)) ∈ tb_G := tb_3 7 rfl rfl
theorem tw_523 : (Jvm.Cond.code ({ cls := "java/lang/Throwable", name := "<init>", desc := "(Ljava/lang/String;)V" } : Jvm.MethodName) prog_28_method_2_code (2 : Nat) (Option.none : Option Jvm.ClassFile.FieldType)) ∈ tb_G := tb_3 8 rfl rfl
theorem tw_524 : (Jvm.Cond.fieldLink "java/lang/Throwable" (198 : Nat) "java/lang/Throwable" "backtrace" "Ljava/lang/Object;") ∈ tb_G := tb_3 9 rfl rfl
theorem tw_525 : (Jvm.Cond.fieldLink "java/lang/Throwable" (31 : Nat) "java/lang/Throwable" "detailMessage" "Ljava/lang/String;") ∈ tb_G := tb_3 10 rfl rfl
theorem tw_526 : (Jvm.Cond.fieldLink "java/lang/Throwable" (7 : Nat) "java/lang/Throwable" "cause" "Ljava/lang/Throwable;") ∈ tb_G := tb_3 11 rfl rfl
theorem tw_527 : (Jvm.Cond.fieldLink "java/lang/Throwable" (17 : Nat) "java/lang/Throwable" "stackTrace" "[Ljava/lang/StackTraceElement;") ∈ tb_G := tb_3 12 rfl rfl
theorem tw_528 : (Jvm.Cond.fieldLink "java/lang/Throwable" (24 : Nat) "java/lang/Throwable" "suppressedExceptions" "Ljava/util/List;") ∈ tb_G := tb_3 13 rfl rfl
theorem tw_533 : (Jvm.Cond.lays "java/lang/IllegalArgumentException" "java/lang/Throwable" "depth" "I") ∈ tb_G := tb_3 18 rfl rfl
theorem tw_536 : (Jvm.Cond.superclass "java/lang/IllegalArgumentException" "java/lang/RuntimeException") ∈ tb_G := tb_3 21 rfl rfl
theorem tw_537 : (Jvm.Cond.methodLink "java/lang/String" (1051 : Nat) ({ cls := "java/lang/StringUTF16", name := "compress", desc := "([BII)[B" } : Jvm.MethodName)) ∈ tb_G := tb_3 22 rfl rfl
theorem tw_538 : (Jvm.Cond.static ({ cls := "java/lang/StringUTF16", name := "compress", desc := "([BII)[B" } : Jvm.MethodName)) ∈ tb_G := tb_3 23 rfl rfl
theorem tw_539 : (Jvm.Cond.code ({ cls := "java/lang/StringUTF16", name := "compress", desc := "([BII)[B" } : Jvm.MethodName) prog_26_method_17_code (6 : Nat) (Option.some (Jvm.ClassFile.FieldType.array Jvm.ClassFile.FieldType.byte))) ∈ tb_G := tb_3 24 rfl rfl
theorem tw_540 : (Jvm.Cond.methodLink "java/lang/StringUTF16" (123 : Nat) ({ cls := "java/lang/StringUTF16", name := "compress", desc := "([BI[BII)I" } : Jvm.MethodName)) ∈ tb_G := tb_3 25 rfl rfl
theorem tw_541 : (Jvm.Cond.static ({ cls := "java/lang/StringUTF16", name := "compress", desc := "([BI[BII)I" } : Jvm.MethodName)) ∈ tb_G := tb_3 26 rfl rfl
theorem tw_542 : (Jvm.Cond.code ({ cls := "java/lang/StringUTF16", name := "compress", desc := "([BI[BII)I" } : Jvm.MethodName) prog_26_method_22_code (7 : Nat) (Option.some Jvm.ClassFile.FieldType.int)) ∈ tb_G := tb_3 27 rfl rfl
theorem tw_543 : (Jvm.Cond.methodLink "java/lang/StringUTF16" (71 : Nat) ({ cls := "java/lang/StringUTF16", name := "getChar", desc := "([BI)C" } : Jvm.MethodName)) ∈ tb_G := tb_3 28 rfl rfl
theorem tw_544 : (Jvm.Cond.static ({ cls := "java/lang/StringUTF16", name := "getChar", desc := "([BI)C" } : Jvm.MethodName)) ∈ tb_G := tb_3 29 rfl rfl
theorem tw_545 : (Jvm.Cond.code ({ cls := "java/lang/StringUTF16", name := "getChar", desc := "([BI)C" } : Jvm.MethodName) prog_26_method_5_code (2 : Nat) (Option.some Jvm.ClassFile.FieldType.char)) ∈ tb_G := tb_3 30 rfl rfl
theorem tw_546 : (Jvm.Cond.methodLink "java/lang/StringUTF16" (126 : Nat) ({ cls := "java/util/Arrays", name := "copyOfRange", desc := "([BII)[B" } : Jvm.MethodName)) ∈ tb_G := tb_3 31 rfl rfl
theorem tw_547 : (Jvm.Cond.methodLink "java/lang/String" (47 : Nat) ({ cls := "java/lang/StringUTF16", name := "coderFromArrayLen", desc := "([BI)B" } : Jvm.MethodName)) ∈ tb_G := tb_3 32 rfl rfl
theorem tw_548 : (Jvm.Cond.static ({ cls := "java/lang/StringUTF16", name := "coderFromArrayLen", desc := "([BI)B" } : Jvm.MethodName)) ∈ tb_G := tb_3 33 rfl rfl
theorem tw_549 : (Jvm.Cond.code ({ cls := "java/lang/StringUTF16", name := "coderFromArrayLen", desc := "([BI)B" } : Jvm.MethodName) prog_26_method_15_code (2 : Nat) (Option.some Jvm.ClassFile.FieldType.byte)) ∈ tb_G := tb_3 34 rfl rfl
theorem tw_550 : (Jvm.Cond.fieldLink "java/lang/String" (9 : Nat) "java/lang/String" "value" "[B") ∈ tb_G := tb_3 35 rfl rfl
theorem tw_551 : (Jvm.Cond.fieldLink "java/lang/String" (15 : Nat) "java/lang/String" "coder" "B") ∈ tb_G := tb_3 36 rfl rfl
theorem tw_552 : (Jvm.Cond.laysFinal "java/lang/String" "java/lang/String" "value" "[B") ∈ tb_G := tb_3 37 rfl rfl
theorem tw_554 : (Jvm.Cond.laysFinal "java/lang/String" "java/lang/String" "coder" "B") ∈ tb_G := tb_3 39 rfl rfl
theorem tw_556 : (Jvm.Cond.lays "java/lang/String" "java/lang/String" "hash" "I") ∈ tb_G := tb_3 41 rfl rfl
theorem tw_558 : (Jvm.Cond.lays "java/lang/String" "java/lang/String" "hashIsZero" "Z") ∈ tb_G := tb_3 43 rfl rfl
theorem tw_560 : (Jvm.Cond.superclass "java/lang/String" "java/lang/Object") ∈ tb_G := tb_3 45 rfl rfl
theorem tw_561 : (Jvm.Cond.methodLink "RouteDesk" (213 : Nat) ({ cls := "java/lang/StringBuilder", name := "setLength", desc := "(I)V" } : Jvm.MethodName)) ∈ tb_G := tb_3 46 rfl rfl
theorem tw_562 : (Jvm.Cond.instanceMethod ({ cls := "java/lang/StringBuilder", name := "setLength", desc := "(I)V" } : Jvm.MethodName)) ∈ tb_G := tb_3 47 rfl rfl
theorem tw_563 : (Jvm.Cond.selects "java/lang/StringBuilder" ({ cls := "java/lang/StringBuilder", name := "setLength", desc := "(I)V" } : Jvm.MethodName) ({ cls := "java/lang/StringBuilder", name := "setLength", desc := "(I)V" } : Jvm.MethodName)) ∈ tb_G := tb_3 48 rfl rfl
theorem tw_564 : (Jvm.Cond.code ({ cls := "java/lang/StringBuilder", name := "setLength", desc := "(I)V" } : Jvm.MethodName) prog_24_method_89_code (2 : Nat) (Option.none : Option Jvm.ClassFile.FieldType)) ∈ tb_G := tb_3 49 rfl rfl
theorem tw_565 : (Jvm.Cond.methodLink "java/lang/StringBuilder" (333 : Nat) ({ cls := "java/lang/AbstractStringBuilder", name := "setLength", desc := "(I)V" } : Jvm.MethodName)) ∈ tb_G := tb_3 50 rfl rfl
theorem tw_566 : (Jvm.Cond.instanceMethod ({ cls := "java/lang/AbstractStringBuilder", name := "setLength", desc := "(I)V" } : Jvm.MethodName)) ∈ tb_G := tb_3 51 rfl rfl
theorem tw_567 : (Jvm.Cond.code ({ cls := "java/lang/AbstractStringBuilder", name := "setLength", desc := "(I)V" } : Jvm.MethodName) prog_13_method_13_code (2 : Nat) (Option.none : Option Jvm.ClassFile.FieldType)) ∈ tb_G := tb_3 52 rfl rfl
theorem tw_568 : (Jvm.Cond.methodLink "java/lang/AbstractStringBuilder" (133 : Nat) ({ cls := "java/lang/StringLatin1", name := "fillNull", desc := "([BII)V" } : Jvm.MethodName)) ∈ tb_G := tb_3 53 rfl rfl
theorem tw_569 : (Jvm.Cond.static ({ cls := "java/lang/StringLatin1", name := "fillNull", desc := "([BII)V" } : Jvm.MethodName)) ∈ tb_G := tb_3 54 rfl rfl
theorem tw_570 : (Jvm.Cond.code ({ cls := "java/lang/StringLatin1", name := "fillNull", desc := "([BII)V" } : Jvm.MethodName) prog_25_method_48_code (3 : Nat) (Option.none : Option Jvm.ClassFile.FieldType)) ∈ tb_G := tb_3 55 rfl rfl
theorem tw_571 : (Jvm.Cond.methodLink "java/lang/StringLatin1" (236 : Nat) ({ cls := "java/util/Arrays", name := "fill", desc := "([BIIB)V" } : Jvm.MethodName)) ∈ tb_G := tb_3 56 rfl rfl
theorem tw_572 : (Jvm.Cond.static ({ cls := "java/util/Arrays", name := "fill", desc := "([BIIB)V" } : Jvm.MethodName)) ∈ tb_G := tb_3 57 rfl rfl
theorem tw_573 : (Jvm.Cond.code ({ cls := "java/util/Arrays", name := "fill", desc := "([BIIB)V" } : Jvm.MethodName) prog_32_method_110_code (5 : Nat) (Option.none : Option Jvm.ClassFile.FieldType)) ∈ tb_G := tb_3 58 rfl rfl
theorem tw_574 : (Jvm.Cond.methodLink "java/util/Arrays" (13 : Nat) ({ cls := "java/util/Arrays", name := "rangeCheck", desc := "(III)V" } : Jvm.MethodName)) ∈ tb_G := tb_3 59 rfl rfl
theorem tw_575 : (Jvm.Cond.static ({ cls := "java/util/Arrays", name := "rangeCheck", desc := "(III)V" } : Jvm.MethodName)) ∈ tb_G := tb_3 60 rfl rfl
theorem tw_576 : (Jvm.Cond.code ({ cls := "java/util/Arrays", name := "rangeCheck", desc := "(III)V" } : Jvm.MethodName) prog_32_method_30_code (3 : Nat) (Option.none : Option Jvm.ClassFile.FieldType)) ∈ tb_G := tb_3 61 rfl rfl
theorem tw_580 : (Jvm.Cond.methodLink "java/lang/AbstractStringBuilder" (137 : Nat) ({ cls := "java/lang/StringUTF16", name := "fillNull", desc := "([BII)V" } : Jvm.MethodName)) ∈ tb_G := tb_3 65 rfl rfl
theorem tw_581 : (Jvm.Cond.static ({ cls := "java/lang/StringUTF16", name := "fillNull", desc := "([BII)V" } : Jvm.MethodName)) ∈ tb_G := tb_3 66 rfl rfl
theorem tw_582 : (Jvm.Cond.code ({ cls := "java/lang/StringUTF16", name := "fillNull", desc := "([BII)V" } : Jvm.MethodName) prog_26_method_70_code (3 : Nat) (Option.none : Option Jvm.ClassFile.FieldType)) ∈ tb_G := tb_3 67 rfl rfl
theorem tw_583 : (Jvm.Cond.methodLink "java/lang/StringUTF16" (380 : Nat) ({ cls := "java/util/Arrays", name := "fill", desc := "([BIIB)V" } : Jvm.MethodName)) ∈ tb_G := tb_3 68 rfl rfl
theorem tw_584 : (Jvm.Cond.methodLink "RouteDesk" (121 : Nat) ({ cls := "RouteDesk", name := "placeOf", desc := "(IIZLjava/lang/String;)I" } : Jvm.MethodName)) ∈ tb_G := tb_3 69 rfl rfl
theorem tw_586 : (Jvm.Cond.instanceMethod ({ cls := "RouteDesk", name := "placeOf", desc := "(IIZLjava/lang/String;)I" } : Jvm.MethodName)) ∈ tb_G := tb_3 71 rfl rfl
theorem tw_587 : (Jvm.Cond.code ({ cls := "RouteDesk", name := "placeOf", desc := "(IIZLjava/lang/String;)I" } : Jvm.MethodName) prog_1_method_20_code (7 : Nat) (Option.some Jvm.ClassFile.FieldType.int)) ∈ tb_G := tb_3 72 rfl rfl
theorem tw_588 : (Jvm.Cond.methodLink "RouteDesk" (219 : Nat) ({ cls := "java/lang/String", name := "equals", desc := "(Ljava/lang/Object;)Z" } : Jvm.MethodName)) ∈ tb_G := tb_3 73 rfl rfl
theorem tw_589 : (Jvm.Cond.instanceMethod ({ cls := "java/lang/String", name := "equals", desc := "(Ljava/lang/Object;)Z" } : Jvm.MethodName)) ∈ tb_G := tb_3 74 rfl rfl
theorem tw_590 : (Jvm.Cond.selects "java/lang/String" ({ cls := "java/lang/String", name := "equals", desc := "(Ljava/lang/Object;)Z" } : Jvm.MethodName) ({ cls := "java/lang/String", name := "equals", desc := "(Ljava/lang/Object;)Z" } : Jvm.MethodName)) ∈ tb_G := tb_3 75 rfl rfl
theorem tw_591 : (Jvm.Cond.code ({ cls := "java/lang/String", name := "equals", desc := "(Ljava/lang/Object;)Z" } : Jvm.MethodName) prog_23_method_66_code (3 : Nat) (Option.some Jvm.ClassFile.FieldType.boolean)) ∈ tb_G := tb_3 76 rfl rfl
theorem tw_592 : (Jvm.Cond.classLink "java/lang/String" (10 : Nat) "java/lang/String") ∈ tb_G := tb_3 77 rfl rfl
theorem tw_593 : (Jvm.Cond.methodLink "java/lang/String" (541 : Nat) ({ cls := "java/lang/StringLatin1", name := "equals", desc := "([B[B)Z" } : Jvm.MethodName)) ∈ tb_G := tb_3 78 rfl rfl
theorem tw_594 : (Jvm.Cond.static ({ cls := "java/lang/StringLatin1", name := "equals", desc := "([B[B)Z" } : Jvm.MethodName)) ∈ tb_G := tb_3 79 rfl rfl
theorem tw_595 : (Jvm.Cond.code ({ cls := "java/lang/StringLatin1", name := "equals", desc := "([B[B)Z" } : Jvm.MethodName) prog_25_method_13_code (3 : Nat) (Option.some Jvm.ClassFile.FieldType.boolean)) ∈ tb_G := tb_3 80 rfl rfl
theorem tw_596 : (Jvm.Cond.methodLink "RouteDeskLaw" (75 : Nat) ({ cls := "RouteDesk", name := "message", desc := "()V" } : Jvm.MethodName)) ∈ tb_G := tb_3 81 rfl rfl
theorem tw_597 : (Jvm.Cond.instanceMethod ({ cls := "RouteDesk", name := "message", desc := "()V" } : Jvm.MethodName)) ∈ tb_G := tb_3 82 rfl rfl
theorem tw_598 : (Jvm.Cond.selects "RouteDesk" ({ cls := "RouteDesk", name := "message", desc := "()V" } : Jvm.MethodName) ({ cls := "RouteDesk", name := "message", desc := "()V" } : Jvm.MethodName)) ∈ tb_G := tb_3 83 rfl rfl
theorem tw_599 : (Jvm.Cond.code ({ cls := "RouteDesk", name := "message", desc := "()V" } : Jvm.MethodName) prog_1_method_9_code (1 : Nat) (Option.none : Option Jvm.ClassFile.FieldType)) ∈ tb_G := tb_3 84 rfl rfl
theorem tw_600 : (Jvm.Cond.methodLink "RouteDesk" (134 : Nat) ({ cls := "RouteDesk$Message", name := "startAnew", desc := "(Ljava/lang/String;)V" } : Jvm.MethodName)) ∈ tb_G := tb_3 85 rfl rfl
theorem tw_601 : (Jvm.Cond.instanceMethod ({ cls := "RouteDesk$Message", name := "startAnew", desc := "(Ljava/lang/String;)V" } : Jvm.MethodName)) ∈ tb_G := tb_3 86 rfl rfl
theorem tw_602 : (Jvm.Cond.selects "RouteDesk$Message" ({ cls := "RouteDesk$Message", name := "startAnew", desc := "(Ljava/lang/String;)V" } : Jvm.MethodName) ({ cls := "RouteDesk$Message", name := "startAnew", desc := "(Ljava/lang/String;)V" } : Jvm.MethodName)) ∈ tb_G := tb_3 87 rfl rfl
theorem tw_603 : (Jvm.Cond.code ({ cls := "RouteDesk$Message", name := "startAnew", desc := "(Ljava/lang/String;)V" } : Jvm.MethodName) prog_6_method_2_code (2 : Nat) (Option.none : Option Jvm.ClassFile.FieldType)) ∈ tb_G := tb_3 88 rfl rfl
theorem tw_604 : (Jvm.Cond.methodLink "RouteDesk$Message" (22 : Nat) ({ cls := "java/util/ArrayList", name := "clear", desc := "()V" } : Jvm.MethodName)) ∈ tb_G := tb_3 89 rfl rfl
theorem tw_605 : (Jvm.Cond.instanceMethod ({ cls := "java/util/ArrayList", name := "clear", desc := "()V" } : Jvm.MethodName)) ∈ tb_G := tb_3 90 rfl rfl
theorem tw_606 : (Jvm.Cond.selects "java/util/ArrayList" ({ cls := "java/util/ArrayList", name := "clear", desc := "()V" } : Jvm.MethodName) ({ cls := "java/util/ArrayList", name := "clear", desc := "()V" } : Jvm.MethodName)) ∈ tb_G := tb_3 91 rfl rfl
theorem tw_607 : (Jvm.Cond.code ({ cls := "java/util/ArrayList", name := "clear", desc := "()V" } : Jvm.MethodName) prog_31_method_40_code (4 : Nat) (Option.none : Option Jvm.ClassFile.FieldType)) ∈ tb_G := tb_3 92 rfl rfl
theorem tw_608 : (Jvm.Cond.methodLink "RouteDeskLaw" (79 : Nat) ({ cls := "RouteDesk", name := "header", desc := "()Z" } : Jvm.MethodName)) ∈ tb_G := tb_3 93 rfl rfl
theorem tw_609 : (Jvm.Cond.instanceMethod ({ cls := "RouteDesk", name := "header", desc := "()Z" } : Jvm.MethodName)) ∈ tb_G := tb_3 94 rfl rfl
theorem tw_610 : (Jvm.Cond.selects "RouteDesk" ({ cls := "RouteDesk", name := "header", desc := "()Z" } : Jvm.MethodName) ({ cls := "RouteDesk", name := "header", desc := "()Z" } : Jvm.MethodName)) ∈ tb_G := tb_3 95 rfl rfl
theorem tw_611 : (Jvm.Cond.code ({ cls := "RouteDesk", name := "header", desc := "()Z" } : Jvm.MethodName) prog_1_method_10_code (3 : Nat) (Option.some Jvm.ClassFile.FieldType.boolean)) ∈ tb_G := tb_3 96 rfl rfl
theorem tw_612 : (Jvm.Cond.methodLink "RouteDesk" (139 : Nat) ({ cls := "java/lang/String", name := "length", desc := "()I" } : Jvm.MethodName)) ∈ tb_G := tb_3 97 rfl rfl
theorem tw_613 : (Jvm.Cond.methodLink "RouteDesk" (142 : Nat) ({ cls := "RouteDesk$Texts", name := "find", desc := "(Ljava/lang/String;CII)I" } : Jvm.MethodName)) ∈ tb_G := tb_3 98 rfl rfl
theorem tw_614 : (Jvm.Cond.static ({ cls := "RouteDesk$Texts", name := "find", desc := "(Ljava/lang/String;CII)I" } : Jvm.MethodName)) ∈ tb_G := tb_3 99 rfl rfl
theorem tw_615 : (Jvm.Cond.code ({ cls := "RouteDesk$Texts", name := "find", desc := "(Ljava/lang/String;CII)I" } : Jvm.MethodName) prog_9_method_2_code (5 : Nat) (Option.some Jvm.ClassFile.FieldType.int)) ∈ tb_G := tb_3 100 rfl rfl
theorem tw_616 : (Jvm.Cond.methodLink "RouteDesk$Texts" (7 : Nat) ({ cls := "java/lang/String", name := "charAt", desc := "(I)C" } : Jvm.MethodName)) ∈ tb_G := tb_3 101 rfl rfl
theorem tw_617 : (Jvm.Cond.instanceMethod ({ cls := "java/lang/String", name := "charAt", desc := "(I)C" } : Jvm.MethodName)) ∈ tb_G := tb_3 102 rfl rfl
theorem tw_618 : (Jvm.Cond.selects "java/lang/String" ({ cls := "java/lang/String", name := "charAt", desc := "(I)C" } : Jvm.MethodName) ({ cls := "java/lang/String", name := "charAt", desc := "(I)C" } : Jvm.MethodName)) ∈ tb_G := tb_3 103 rfl rfl
theorem tw_619 : (Jvm.Cond.code ({ cls := "java/lang/String", name := "charAt", desc := "(I)C" } : Jvm.MethodName) prog_23_method_56_code (2 : Nat) (Option.some Jvm.ClassFile.FieldType.char)) ∈ tb_G := tb_3 104 rfl rfl
theorem tw_620 : (Jvm.Cond.methodLink "java/lang/String" (492 : Nat) ({ cls := "java/lang/String", name := "isLatin1", desc := "()Z" } : Jvm.MethodName)) ∈ tb_G := tb_3 105 rfl rfl
theorem tw_621 : (Jvm.Cond.instanceMethod ({ cls := "java/lang/String", name := "isLatin1", desc := "()Z" } : Jvm.MethodName)) ∈ tb_G := tb_3 106 rfl rfl
theorem tw_622 : (Jvm.Cond.selects "java/lang/String" ({ cls := "java/lang/String", name := "isLatin1", desc := "()Z" } : Jvm.MethodName) ({ cls := "java/lang/String", name := "isLatin1", desc := "()Z" } : Jvm.MethodName)) ∈ tb_G := tb_3 107 rfl rfl
theorem tw_623 : (Jvm.Cond.code ({ cls := "java/lang/String", name := "isLatin1", desc := "()Z" } : Jvm.MethodName) prog_23_method_154_code (1 : Nat) (Option.some Jvm.ClassFile.FieldType.boolean)) ∈ tb_G := tb_3 108 rfl rfl
theorem tw_624 : (Jvm.Cond.methodLink "java/lang/String" (495 : Nat) ({ cls := "java/lang/StringLatin1", name := "charAt", desc := "([BI)C" } : Jvm.MethodName)) ∈ tb_G := tb_3 109 rfl rfl
theorem tw_625 : (Jvm.Cond.static ({ cls := "java/lang/StringLatin1", name := "charAt", desc := "([BI)C" } : Jvm.MethodName)) ∈ tb_G := tb_3 110 rfl rfl
theorem tw_626 : (Jvm.Cond.code ({ cls := "java/lang/StringLatin1", name := "charAt", desc := "([BI)C" } : Jvm.MethodName) prog_25_method_2_code (2 : Nat) (Option.some Jvm.ClassFile.FieldType.char)) ∈ tb_G := tb_3 111 rfl rfl
theorem tw_627 : (Jvm.Cond.methodLink "java/lang/StringLatin1" (9 : Nat) ({ cls := "java/lang/String", name := "checkIndex", desc := "(II)V" } : Jvm.MethodName)) ∈ tb_G := tb_3 112 rfl rfl
theorem tw_628 : (Jvm.Cond.methodLink "java/lang/String" (498 : Nat) ({ cls := "java/lang/StringUTF16", name := "charAt", desc := "([BI)C" } : Jvm.MethodName)) ∈ tb_G := tb_3 113 rfl rfl
theorem tw_629 : (Jvm.Cond.static ({ cls := "java/lang/StringUTF16", name := "charAt", desc := "([BI)C" } : Jvm.MethodName)) ∈ tb_G := tb_3 114 rfl rfl
theorem tw_630 : (Jvm.Cond.code ({ cls := "java/lang/StringUTF16", name := "charAt", desc := "([BI)C" } : Jvm.MethodName) prog_26_method_83_code (2 : Nat) (Option.some Jvm.ClassFile.FieldType.char)) ∈ tb_G := tb_3 115 rfl rfl
theorem tw_631 : (Jvm.Cond.methodLink "RouteDesk" (148 : Nat) ({ cls := "RouteDesk$HeaderText", name := "isNameOrPair", desc := "(Ljava/lang/String;II)Z" } : Jvm.MethodName)) ∈ tb_G := tb_3 116 rfl rfl
theorem tw_632 : (Jvm.Cond.static ({ cls := "RouteDesk$HeaderText", name := "isNameOrPair", desc := "(Ljava/lang/String;II)Z" } : Jvm.MethodName)) ∈ tb_G := tb_3 117 rfl rfl
theorem tw_633 : (Jvm.Cond.code ({ cls := "RouteDesk$HeaderText", name := "isNameOrPair", desc := "(Ljava/lang/String;II)Z" } : Jvm.MethodName) prog_5_method_2_code (4 : Nat) (Option.some Jvm.ClassFile.FieldType.boolean)) ∈ tb_G := tb_3 118 rfl rfl
theorem tw_634 : (Jvm.Cond.methodLink "RouteDesk$HeaderText" (9 : Nat) ({ cls := "RouteDesk$Texts", name := "find", desc := "(Ljava/lang/String;CII)I" } : Jvm.MethodName)) ∈ tb_G := tb_3 119 rfl rfl
theorem tw_635 : (Jvm.Cond.methodLink "RouteDesk$HeaderText" (15 : Nat) ({ cls := "RouteDesk$HeaderText", name := "isName", desc := "(Ljava/lang/String;II)Z" } : Jvm.MethodName)) ∈ tb_G := tb_3 120 rfl rfl
theorem tw_636 : (Jvm.Cond.static ({ cls := "RouteDesk$HeaderText", name := "isName", desc := "(Ljava/lang/String;II)Z" } : Jvm.MethodName)) ∈ tb_G := tb_3 121 rfl rfl
theorem tw_637 : (Jvm.Cond.code ({ cls := "RouteDesk$HeaderText", name := "isName", desc := "(Ljava/lang/String;II)Z" } : Jvm.MethodName) prog_5_method_6_code (4 : Nat) (Option.some Jvm.ClassFile.FieldType.boolean)) ∈ tb_G := tb_3 122 rfl rfl
theorem tw_638 : (Jvm.Cond.methodLink "RouteDesk$HeaderText" (75 : Nat) ({ cls := "java/lang/String", name := "charAt", desc := "(I)C" } : Jvm.MethodName)) ∈ tb_G := tb_3 123 rfl rfl
theorem tw_639 : (Jvm.Cond.methodLink "RouteDesk$HeaderText" (79 : Nat) ({ cls := "RouteDesk$HeaderText", name := "isSmallLetter", desc := "(C)Z" } : Jvm.MethodName)) ∈ tb_G := tb_3 124 rfl rfl
theorem tw_640 : (Jvm.Cond.static ({ cls := "RouteDesk$HeaderText", name := "isSmallLetter", desc := "(C)Z" } : Jvm.MethodName)) ∈ tb_G := tb_3 125 rfl rfl
theorem tw_641 : (Jvm.Cond.code ({ cls := "RouteDesk$HeaderText", name := "isSmallLetter", desc := "(C)Z" } : Jvm.MethodName) prog_5_method_8_code (1 : Nat) (Option.some Jvm.ClassFile.FieldType.boolean)) ∈ tb_G := tb_3 126 rfl rfl
theorem tw_642 : (Jvm.Cond.methodLink "RouteDesk$HeaderText" (19 : Nat) ({ cls := "RouteDesk$HeaderText", name := "isValue", desc := "(Ljava/lang/String;II)Z" } : Jvm.MethodName)) ∈ tb_G := tb_3 127 rfl rfl
theorem tw_643 : (Jvm.Cond.static ({ cls := "RouteDesk$HeaderText", name := "isValue", desc := "(Ljava/lang/String;II)Z" } : Jvm.MethodName)) ∈ tb_G := tb_3 128 rfl rfl
theorem tw_644 : (Jvm.Cond.code ({ cls := "RouteDesk$HeaderText", name := "isValue", desc := "(Ljava/lang/String;II)Z" } : Jvm.MethodName) prog_5_method_7_code (4 : Nat) (Option.some Jvm.ClassFile.FieldType.boolean)) ∈ tb_G := tb_3 129 rfl rfl
theorem tw_645 : (Jvm.Cond.methodLink "RouteDesk$HeaderText" (83 : Nat) ({ cls := "RouteDesk$HeaderText", name := "isDigit", desc := "(C)Z" } : Jvm.MethodName)) ∈ tb_G := tb_3 130 rfl rfl
theorem tw_646 : (Jvm.Cond.static ({ cls := "RouteDesk$HeaderText", name := "isDigit", desc := "(C)Z" } : Jvm.MethodName)) ∈ tb_G := tb_3 131 rfl rfl
theorem tw_647 : (Jvm.Cond.code ({ cls := "RouteDesk$HeaderText", name := "isDigit", desc := "(C)Z" } : Jvm.MethodName) prog_5_method_9_code (1 : Nat) (Option.some Jvm.ClassFile.FieldType.boolean)) ∈ tb_G := tb_3 132 rfl rfl
theorem tw_648 : (Jvm.Cond.methodLink "RouteDesk" (152 : Nat) ({ cls := "java/lang/String", name := "substring", desc := "(II)Ljava/lang/String;" } : Jvm.MethodName)) ∈ tb_G := tb_3 133 rfl rfl
theorem tw_649 : (Jvm.Cond.instanceMethod ({ cls := "java/lang/String", name := "substring", desc := "(II)Ljava/lang/String;" } : Jvm.MethodName)) ∈ tb_G := tb_3 134 rfl rfl
theorem tw_650 : (Jvm.Cond.selects "java/lang/String" ({ cls := "java/lang/String", name := "substring", desc := "(II)Ljava/lang/String;" } : Jvm.MethodName) ({ cls := "java/lang/String", name := "substring", desc := "(II)Ljava/lang/String;" } : Jvm.MethodName)) ∈ tb_G := tb_3 135 rfl rfl
theorem tw_651 : (Jvm.Cond.code ({ cls := "java/lang/String", name := "substring", desc := "(II)Ljava/lang/String;" } : Jvm.MethodName) prog_23_method_92_code (5 : Nat) (Option.some (Jvm.ClassFile.FieldType.object "java/lang/String"))) ∈ tb_G := tb_3 136 rfl rfl
theorem tw_652 : (Jvm.Cond.methodLink "java/lang/String" (505 : Nat) ({ cls := "java/lang/String", name := "length", desc := "()I" } : Jvm.MethodName)) ∈ tb_G := tb_3 137 rfl rfl
theorem tw_653 : (Jvm.Cond.methodLink "java/lang/String" (521 : Nat) ({ cls := "java/lang/String", name := "checkBoundsBeginEnd", desc := "(III)V" } : Jvm.MethodName)) ∈ tb_G := tb_3 138 rfl rfl
theorem tw_654 : (Jvm.Cond.methodLink "java/lang/String" (685 : Nat) ({ cls := "java/lang/StringLatin1", name := "newString", desc := "([BII)Ljava/lang/String;" } : Jvm.MethodName)) ∈ tb_G := tb_3 139 rfl rfl
theorem tw_655 : (Jvm.Cond.static ({ cls := "java/lang/StringLatin1", name := "newString", desc := "([BII)Ljava/lang/String;" } : Jvm.MethodName)) ∈ tb_G := tb_3 140 rfl rfl
theorem tw_656 : (Jvm.Cond.code ({ cls := "java/lang/StringLatin1", name := "newString", desc := "([BII)Ljava/lang/String;" } : Jvm.MethodName) prog_25_method_47_code (3 : Nat) (Option.some (Jvm.ClassFile.FieldType.object "java/lang/String"))) ∈ tb_G := tb_3 141 rfl rfl
theorem tw_658 : (Jvm.Cond.classLink "java/lang/StringLatin1" (1 : Nat) "java/lang/String") ∈ tb_G := tb_3 143 rfl rfl
theorem tw_659 : (Jvm.Cond.methodLink "java/lang/StringLatin1" (232 : Nat) ({ cls := "java/util/Arrays", name := "copyOfRange", desc := "([BII)[B" } : Jvm.MethodName)) ∈ tb_G := tb_3 144 rfl rfl
theorem tw_660 : (Jvm.Cond.methodLink "java/lang/StringLatin1" (112 : Nat) ({ cls := "java/lang/String", name := "<init>", desc := "([BB)V" } : Jvm.MethodName)) ∈ tb_G := tb_3 145 rfl rfl
theorem tw_661 : (Jvm.Cond.instanceMethod ({ cls := "java/lang/String", name := "<init>", desc := "([BB)V" } : Jvm.MethodName)) ∈ tb_G := tb_3 146 rfl rfl
theorem tw_662 : (Jvm.Cond.code ({ cls := "java/lang/String", name := "<init>", desc := "([BB)V" } : Jvm.MethodName) prog_23_method_151_code (3 : Nat) (Option.none : Option Jvm.ClassFile.FieldType)) ∈ tb_G := tb_3 147 rfl rfl
theorem tw_663 : (Jvm.Cond.methodLink "java/lang/String" (689 : Nat) ({ cls := "java/lang/StringUTF16", name := "newString", desc := "([BII)Ljava/lang/String;" } : Jvm.MethodName)) ∈ tb_G := tb_3 148 rfl rfl
theorem tw_664 : (Jvm.Cond.static ({ cls := "java/lang/StringUTF16", name := "newString", desc := "([BII)Ljava/lang/String;" } : Jvm.MethodName)) ∈ tb_G := tb_3 149 rfl rfl
theorem tw_665 : (Jvm.Cond.code ({ cls := "java/lang/StringUTF16", name := "newString", desc := "([BII)Ljava/lang/String;" } : Jvm.MethodName) prog_26_method_69_code (5 : Nat) (Option.some (Jvm.ClassFile.FieldType.object "java/lang/String"))) ∈ tb_G := tb_3 150 rfl rfl
theorem tw_667 : (Jvm.Cond.fieldLink "java/lang/StringUTF16" (251 : Nat) "java/lang/String" "COMPACT_STRINGS" "Z") ∈ tb_G := tb_3 152 rfl rfl
theorem tw_668 : (Jvm.Cond.methodLink "java/lang/StringUTF16" (257 : Nat) ({ cls := "java/lang/StringUTF16", name := "compress", desc := "([BII)[B" } : Jvm.MethodName)) ∈ tb_G := tb_3 153 rfl rfl
theorem tw_669 : (Jvm.Cond.methodLink "java/lang/StringUTF16" (259 : Nat) ({ cls := "java/lang/StringUTF16", name := "coderFromArrayLen", desc := "([BI)B" } : Jvm.MethodName)) ∈ tb_G := tb_3 154 rfl rfl
theorem tw_670 : (Jvm.Cond.classLink "java/lang/StringUTF16" (3 : Nat) "java/lang/String") ∈ tb_G := tb_3 155 rfl rfl
theorem tw_671 : (Jvm.Cond.methodLink "java/lang/StringUTF16" (263 : Nat) ({ cls := "java/lang/String", name := "<init>", desc := "([BB)V" } : Jvm.MethodName)) ∈ tb_G := tb_3 156 rfl rfl
theorem tw_672 : (Jvm.Cond.methodLink "RouteDesk" (156 : Nat) ({ cls := "RouteDesk$Message", name := "put", desc := "(Ljava/lang/String;Ljava/lang/String;)Z" } : Jvm.MethodName)) ∈ tb_G := tb_3 157 rfl rfl
theorem tw_673 : (Jvm.Cond.instanceMethod ({ cls := "RouteDesk$Message", name := "put", desc := "(Ljava/lang/String;Ljava/lang/String;)Z" } : Jvm.MethodName)) ∈ tb_G := tb_3 158 rfl rfl
theorem tw_674 : (Jvm.Cond.selects "RouteDesk$Message" ({ cls := "RouteDesk$Message", name := "put", desc := "(Ljava/lang/String;Ljava/lang/String;)Z" } : Jvm.MethodName) ({ cls := "RouteDesk$Message", name := "put", desc := "(Ljava/lang/String;Ljava/lang/String;)Z" } : Jvm.MethodName)) ∈ tb_G := tb_3 159 rfl rfl
theorem tw_675 : (Jvm.Cond.code ({ cls := "RouteDesk$Message", name := "put", desc := "(Ljava/lang/String;Ljava/lang/String;)Z" } : Jvm.MethodName) prog_6_method_3_code (4 : Nat) (Option.some Jvm.ClassFile.FieldType.boolean)) ∈ tb_G := tb_3 160 rfl rfl
theorem tw_676 : (Jvm.Cond.methodLink "RouteDesk$Message" (25 : Nat) ({ cls := "RouteDesk$Message", name := "headerOf", desc := "(Ljava/lang/String;)LRouteDesk$Header;" } : Jvm.MethodName)) ∈ tb_G := tb_3 161 rfl rfl
theorem tw_678 : (Jvm.Cond.instanceMethod ({ cls := "RouteDesk$Message", name := "headerOf", desc := "(Ljava/lang/String;)LRouteDesk$Header;" } : Jvm.MethodName)) ∈ tb_G := tb_3 163 rfl rfl
theorem tw_679 : (Jvm.Cond.code ({ cls := "RouteDesk$Message", name := "headerOf", desc := "(Ljava/lang/String;)LRouteDesk$Header;" } : Jvm.MethodName) prog_6_method_4_code (3 : Nat) (Option.some (Jvm.ClassFile.FieldType.object "RouteDesk$Header"))) ∈ tb_G := tb_3 164 rfl rfl
theorem tw_680 : (Jvm.Cond.methodLink "RouteDesk$Message" (34 : Nat) ({ cls := "java/util/ArrayList", name := "size", desc := "()I" } : Jvm.MethodName)) ∈ tb_G := tb_3 165 rfl rfl
theorem tw_681 : (Jvm.Cond.methodLink "RouteDesk$Message" (45 : Nat) ({ cls := "java/util/ArrayList", name := "get", desc := "(I)Ljava/lang/Object;" } : Jvm.MethodName)) ∈ tb_G := tb_3 166 rfl rfl
theorem tw_682 : (Jvm.Cond.classLink "RouteDesk$Message" (30 : Nat) "RouteDesk$Header") ∈ tb_G := tb_3 167 rfl rfl
theorem tw_683 : (Jvm.Cond.methodLink "RouteDesk$Message" (52 : Nat) ({ cls := "java/lang/String", name := "equals", desc := "(Ljava/lang/Object;)Z" } : Jvm.MethodName)) ∈ tb_G := tb_3 168 rfl rfl
theorem tw_684 : (Jvm.Cond.instantiable "RouteDesk$Header" (2 : Nat)) ∈ tb_G := tb_3 169 rfl rfl
theorem tw_685 : (Jvm.Cond.methodLink "RouteDesk$Message" (38 : Nat) ({ cls := "RouteDesk$Header", name := "<init>", desc := "(Ljava/lang/String;Ljava/lang/String;)V" } : Jvm.MethodName)) ∈ tb_G := tb_3 170 rfl rfl
theorem tw_686 : (Jvm.Cond.instanceMethod ({ cls := "RouteDesk$Header", name := "<init>", desc := "(Ljava/lang/String;Ljava/lang/String;)V" } : Jvm.MethodName)) ∈ tb_G := tb_3 171 rfl rfl
theorem tw_687 : (Jvm.Cond.code ({ cls := "RouteDesk$Header", name := "<init>", desc := "(Ljava/lang/String;Ljava/lang/String;)V" } : Jvm.MethodName) prog_4_method_1_code (3 : Nat) (Option.none : Option Jvm.ClassFile.FieldType)) ∈ tb_G := tb_3 172 rfl rfl
theorem tw_688 : (Jvm.Cond.methodLink "RouteDesk$Header" (1 : Nat) ({ cls := "java/lang/Object", name := "<init>", desc := "()V" } : Jvm.MethodName)) ∈ tb_G := tb_3 173 rfl rfl
theorem tw_689 : (Jvm.Cond.fieldLink "RouteDesk$Header" (7 : Nat) "RouteDesk$Header" "name" "Ljava/lang/String;") ∈ tb_G := tb_3 174 rfl rfl
theorem tw_692 : (Jvm.Cond.fieldLink "RouteDesk$Header" (13 : Nat) "RouteDesk$Header" "value" "Ljava/lang/String;") ∈ tb_G := tb_3 177 rfl rfl
theorem tw_695 : (Jvm.Cond.laysFinal "RouteDesk$Header" "RouteDesk$Header" "name" "Ljava/lang/String;") ∈ tb_G := tb_3 180 rfl rfl
theorem tw_697 : (Jvm.Cond.lays "RouteDesk$Header" "RouteDesk$Header" "value" "Ljava/lang/String;") ∈ tb_G := tb_3 182 rfl rfl
theorem tw_699 : (Jvm.Cond.superclass "RouteDesk$Header" "java/lang/Object") ∈ tb_G := tb_3 184 rfl rfl
theorem tw_700 : (Jvm.Cond.methodLink "RouteDesk$Message" (41 : Nat) ({ cls := "java/util/ArrayList", name := "add", desc := "(Ljava/lang/Object;)Z" } : Jvm.MethodName)) ∈ tb_G := tb_3 185 rfl rfl
theorem tw_701 : (Jvm.Cond.instanceMethod ({ cls := "java/util/ArrayList", name := "add", desc := "(Ljava/lang/Object;)Z" } : Jvm.MethodName)) ∈ tb_G := tb_3 186 rfl rfl
theorem tw_702 : (Jvm.Cond.selects "java/util/ArrayList" ({ cls := "java/util/ArrayList", name := "add", desc := "(Ljava/lang/Object;)Z" } : Jvm.MethodName) ({ cls := "java/util/ArrayList", name := "add", desc := "(Ljava/lang/Object;)Z" } : Jvm.MethodName)) ∈ tb_G := tb_3 187 rfl rfl
theorem tw_703 : (Jvm.Cond.code ({ cls := "java/util/ArrayList", name := "add", desc := "(Ljava/lang/Object;)Z" } : Jvm.MethodName) prog_31_method_25_code (2 : Nat) (Option.some Jvm.ClassFile.FieldType.boolean)) ∈ tb_G := tb_3 188 rfl rfl
theorem tw_704 : (Jvm.Cond.methodLink "java/util/ArrayList" (131 : Nat) ({ cls := "java/util/ArrayList", name := "add", desc := "(Ljava/lang/Object;[Ljava/lang/Object;I)V" } : Jvm.MethodName)) ∈ tb_G := tb_3 189 rfl rfl
theorem tw_706 : (Jvm.Cond.instanceMethod ({ cls := "java/util/ArrayList", name := "add", desc := "(Ljava/lang/Object;[Ljava/lang/Object;I)V" } : Jvm.MethodName)) ∈ tb_G := tb_3 191 rfl rfl
theorem tw_707 : (Jvm.Cond.code ({ cls := "java/util/ArrayList", name := "add", desc := "(Ljava/lang/Object;[Ljava/lang/Object;I)V" } : Jvm.MethodName) prog_31_method_24_code (4 : Nat) (Option.none : Option Jvm.ClassFile.FieldType)) ∈ tb_G := tb_3 192 rfl rfl
theorem tw_708 : (Jvm.Cond.methodLink "java/util/ArrayList" (129 : Nat) ({ cls := "java/util/ArrayList", name := "grow", desc := "()[Ljava/lang/Object;" } : Jvm.MethodName)) ∈ tb_G := tb_3 193 rfl rfl
theorem tw_710 : (Jvm.Cond.instanceMethod ({ cls := "java/util/ArrayList", name := "grow", desc := "()[Ljava/lang/Object;" } : Jvm.MethodName)) ∈ tb_G := tb_3 195 rfl rfl
theorem tw_711 : (Jvm.Cond.code ({ cls := "java/util/ArrayList", name := "grow", desc := "()[Ljava/lang/Object;" } : Jvm.MethodName) prog_31_method_7_code (1 : Nat) (Option.some (Jvm.ClassFile.FieldType.array (Jvm.ClassFile.FieldType.object "java/lang/Object")))) ∈ tb_G := tb_3 196 rfl rfl
theorem tw_712 : (Jvm.Cond.methodLink "java/util/ArrayList" (69 : Nat) ({ cls := "java/util/ArrayList", name := "grow", desc := "(I)[Ljava/lang/Object;" } : Jvm.MethodName)) ∈ tb_G := tb_3 197 rfl rfl
theorem tw_714 : (Jvm.Cond.instanceMethod ({ cls := "java/util/ArrayList", name := "grow", desc := "(I)[Ljava/lang/Object;" } : Jvm.MethodName)) ∈ tb_G := tb_3 199 rfl rfl
theorem tw_715 : (Jvm.Cond.code ({ cls := "java/util/ArrayList", name := "grow", desc := "(I)[Ljava/lang/Object;" } : Jvm.MethodName) prog_31_method_6_code (4 : Nat) (Option.some (Jvm.ClassFile.FieldType.array (Jvm.ClassFile.FieldType.object "java/lang/Object")))) ∈ tb_G := tb_3 200 rfl rfl
theorem tw_716 : (Jvm.Cond.methodLink "java/util/ArrayList" (73 : Nat) ({ cls := "jdk/internal/util/ArraysSupport", name := "newLength", desc := "(III)I" } : Jvm.MethodName)) ∈ tb_G := tb_3 201 rfl rfl
theorem tw_717 : (Jvm.Cond.methodLink "java/util/ArrayList" (66 : Nat) ({ cls := "java/util/Arrays", name := "copyOf", desc := "([Ljava/lang/Object;I)[Ljava/lang/Object;" } : Jvm.MethodName)) ∈ tb_G := tb_3 202 rfl rfl
theorem tw_718 : (Jvm.Cond.static ({ cls := "java/util/Arrays", name := "copyOf", desc := "([Ljava/lang/Object;I)[Ljava/lang/Object;" } : Jvm.MethodName)) ∈ tb_G := tb_3 203 rfl rfl
theorem tw_719 : (Jvm.Cond.code ({ cls := "java/util/Arrays", name := "copyOf", desc := "([Ljava/lang/Object;I)[Ljava/lang/Object;" } : Jvm.MethodName) prog_32_method_119_code (2 : Nat) (Option.some (Jvm.ClassFile.FieldType.array (Jvm.ClassFile.FieldType.object "java/lang/Object")))) ∈ tb_G := tb_3 204 rfl rfl
theorem tw_720 : (Jvm.Cond.methodLink "java/util/Arrays" (86 : Nat) ({ cls := "java/lang/Object", name := "getClass", desc := "()Ljava/lang/Class;" } : Jvm.MethodName)) ∈ tb_G := tb_3 205 rfl rfl
theorem tw_721 : (Jvm.Cond.instanceMethod ({ cls := "java/lang/Object", name := "getClass", desc := "()Ljava/lang/Class;" } : Jvm.MethodName)) ∈ tb_G := tb_3 206 rfl rfl
theorem tw_722 : (Jvm.Cond.sameMethod "java/lang/Object" "java/lang/Object" "getClass" "()Ljava/lang/Class;") ∈ tb_G := tb_3 207 rfl rfl
theorem tw_723 : (Jvm.Cond.selects "RouteDesk" ({ cls := "java/lang/Object", name := "getClass", desc := "()Ljava/lang/Class;" } : Jvm.MethodName) ({ cls := "java/lang/Object", name := "getClass", desc := "()Ljava/lang/Class;" } : Jvm.MethodName)) ∈ tb_G := tb_3 208 rfl rfl
theorem tw_724 : (Jvm.Cond.selects "RouteDesk$Binding" ({ cls := "java/lang/Object", name := "getClass", desc := "()Ljava/lang/Class;" } : Jvm.MethodName) ({ cls := "java/lang/Object", name := "getClass", desc := "()Ljava/lang/Class;" } : Jvm.MethodName)) ∈ tb_G := tb_3 209 rfl rfl
theorem tw_725 : (Jvm.Cond.selects "RouteDesk$Exchange" ({ cls := "java/lang/Object", name := "getClass", desc := "()Ljava/lang/Class;" } : Jvm.MethodName) ({ cls := "java/lang/Object", name := "getClass", desc := "()Ljava/lang/Class;" } : Jvm.MethodName)) ∈ tb_G := tb_3 210 rfl rfl
theorem tw_726 : (Jvm.Cond.selects "RouteDesk$Header" ({ cls := "java/lang/Object", name := "getClass", desc := "()Ljava/lang/Class;" } : Jvm.MethodName) ({ cls := "java/lang/Object", name := "getClass", desc := "()Ljava/lang/Class;" } : Jvm.MethodName)) ∈ tb_G := tb_3 211 rfl rfl
theorem tw_727 : (Jvm.Cond.selects "RouteDesk$Message" ({ cls := "java/lang/Object", name := "getClass", desc := "()Ljava/lang/Class;" } : Jvm.MethodName) ({ cls := "java/lang/Object", name := "getClass", desc := "()Ljava/lang/Class;" } : Jvm.MethodName)) ∈ tb_G := tb_3 212 rfl rfl
theorem tw_728 : (Jvm.Cond.selects "RouteDesk$Routing" ({ cls := "java/lang/Object", name := "getClass", desc := "()Ljava/lang/Class;" } : Jvm.MethodName) ({ cls := "java/lang/Object", name := "getClass", desc := "()Ljava/lang/Class;" } : Jvm.MethodName)) ∈ tb_G := tb_3 213 rfl rfl
theorem tw_729 : (Jvm.Cond.selects "RouteDeskModel" ({ cls := "java/lang/Object", name := "getClass", desc := "()Ljava/lang/Class;" } : Jvm.MethodName) ({ cls := "java/lang/Object", name := "getClass", desc := "()Ljava/lang/Class;" } : Jvm.MethodName)) ∈ tb_G := tb_3 214 rfl rfl
theorem tw_730 : (Jvm.Cond.selects "java/lang/IllegalArgumentException" ({ cls := "java/lang/Object", name := "getClass", desc := "()Ljava/lang/Class;" } : Jvm.MethodName) ({ cls := "java/lang/Object", name := "getClass", desc := "()Ljava/lang/Class;" } : Jvm.MethodName)) ∈ tb_G := tb_3 215 rfl rfl
theorem tw_731 : (Jvm.Cond.selects "java/lang/IllegalStateException" ({ cls := "java/lang/Object", name := "getClass", desc := "()Ljava/lang/Class;" } : Jvm.MethodName) ({ cls := "java/lang/Object", name := "getClass", desc := "()Ljava/lang/Class;" } : Jvm.MethodName)) ∈ tb_G := tb_3 216 rfl rfl
theorem tw_732 : (Jvm.Cond.selects "java/lang/String" ({ cls := "java/lang/Object", name := "getClass", desc := "()Ljava/lang/Class;" } : Jvm.MethodName) ({ cls := "java/lang/Object", name := "getClass", desc := "()Ljava/lang/Class;" } : Jvm.MethodName)) ∈ tb_G := tb_3 217 rfl rfl
theorem tw_733 : (Jvm.Cond.selects "java/lang/StringBuilder" ({ cls := "java/lang/Object", name := "getClass", desc := "()Ljava/lang/Class;" } : Jvm.MethodName) ({ cls := "java/lang/Object", name := "getClass", desc := "()Ljava/lang/Class;" } : Jvm.MethodName)) ∈ tb_G := tb_3 218 rfl rfl
theorem tw_734 : (Jvm.Cond.selects "java/util/ArrayList" ({ cls := "java/lang/Object", name := "getClass", desc := "()Ljava/lang/Class;" } : Jvm.MethodName) ({ cls := "java/lang/Object", name := "getClass", desc := "()Ljava/lang/Class;" } : Jvm.MethodName)) ∈ tb_G := tb_3 219 rfl rfl
theorem tw_735 : (Jvm.Cond.selects "java/util/NoSuchElementException" ({ cls := "java/lang/Object", name := "getClass", desc := "()Ljava/lang/Class;" } : Jvm.MethodName) ({ cls := "java/lang/Object", name := "getClass", desc := "()Ljava/lang/Class;" } : Jvm.MethodName)) ∈ tb_G := tb_3 220 rfl rfl
theorem tw_736 : (Jvm.Cond.native ({ cls := "java/lang/Object", name := "getClass", desc := "()Ljava/lang/Class;" } : Jvm.MethodName)) ∈ tb_G := tb_3 221 rfl rfl
theorem tw_737 : (Jvm.Cond.methodLink "java/util/Arrays" (300 : Nat) ({ cls := "java/util/Arrays", name := "copyOf", desc := "([Ljava/lang/Object;ILjava/lang/Class;)[Ljava/lang/Object;" } : Jvm.MethodName)) ∈ tb_G := tb_3 222 rfl rfl
theorem tw_738 : (Jvm.Cond.static ({ cls := "java/util/Arrays", name := "copyOf", desc := "([Ljava/lang/Object;ILjava/lang/Class;)[Ljava/lang/Object;" } : Jvm.MethodName)) ∈ tb_G := tb_3 223 rfl rfl
theorem tw_739 : (Jvm.Cond.code ({ cls := "java/util/Arrays", name := "copyOf", desc := "([Ljava/lang/Object;ILjava/lang/Class;)[Ljava/lang/Object;" } : Jvm.MethodName) prog_32_method_120_code (4 : Nat) (Option.some (Jvm.ClassFile.FieldType.array (Jvm.ClassFile.FieldType.object "java/lang/Object")))) ∈ tb_G := tb_3 224 rfl rfl
theorem tw_740 : (Jvm.Cond.classLink "java/util/Arrays" (110 : Nat) "[Ljava/lang/Object;") ∈ tb_G := tb_3 225 rfl rfl
theorem tw_742 : (Jvm.Cond.classLink "java/util/Arrays" (2 : Nat) "java/lang/Object") ∈ tb_G := tb_3 227 rfl rfl
theorem tw_743 : (Jvm.Cond.methodLink "java/util/ArrayList" (79 : Nat) ({ cls := "java/lang/Math", name := "max", desc := "(II)I" } : Jvm.MethodName)) ∈ tb_G := tb_3 228 rfl rfl
theorem tw_744 : (Jvm.Cond.classLink "java/util/ArrayList" (7 : Nat) "java/lang/Object") ∈ tb_G := tb_3 229 rfl rfl
theorem tw_745 : (Jvm.Cond.methodLink "RouteDeskLaw" (90 : Nat) ({ cls := "RouteDesk", name := "passed", desc := "(I)Z" } : Jvm.MethodName)) ∈ tb_G := tb_3 230 rfl rfl
theorem tw_746 : (Jvm.Cond.instanceMethod ({ cls := "RouteDesk", name := "passed", desc := "(I)Z" } : Jvm.MethodName)) ∈ tb_G := tb_3 231 rfl rfl
theorem tw_747 : (Jvm.Cond.selects "RouteDesk" ({ cls := "RouteDesk", name := "passed", desc := "(I)Z" } : Jvm.MethodName) ({ cls := "RouteDesk", name := "passed", desc := "(I)Z" } : Jvm.MethodName)) ∈ tb_G := tb_3 232 rfl rfl
theorem tw_748 : (Jvm.Cond.code ({ cls := "RouteDesk", name := "passed", desc := "(I)Z" } : Jvm.MethodName) prog_1_method_13_code (2 : Nat) (Option.some Jvm.ClassFile.FieldType.boolean)) ∈ tb_G := tb_3 233 rfl rfl
theorem tw_749 : (Jvm.Cond.methodLink "RouteDeskLaw" (95 : Nat) ({ cls := "RouteDesk", name := "of", desc := "(II)I" } : Jvm.MethodName)) ∈ tb_G := tb_3 234 rfl rfl
theorem tw_750 : (Jvm.Cond.instanceMethod ({ cls := "RouteDesk", name := "of", desc := "(II)I" } : Jvm.MethodName)) ∈ tb_G := tb_3 235 rfl rfl
theorem tw_751 : (Jvm.Cond.selects "RouteDesk" ({ cls := "RouteDesk", name := "of", desc := "(II)I" } : Jvm.MethodName) ({ cls := "RouteDesk", name := "of", desc := "(II)I" } : Jvm.MethodName)) ∈ tb_G := tb_3 236 rfl rfl
theorem tw_752 : (Jvm.Cond.code ({ cls := "RouteDesk", name := "of", desc := "(II)I" } : Jvm.MethodName) prog_1_method_14_code (4 : Nat) (Option.some Jvm.ClassFile.FieldType.int)) ∈ tb_G := tb_3 237 rfl rfl
theorem tw_753 : (Jvm.Cond.methodLink "RouteDesk" (190 : Nat) ({ cls := "RouteDesk", name := "countTo", desc := "(IZ)I" } : Jvm.MethodName)) ∈ tb_G := tb_3 238 rfl rfl
theorem tw_755 : (Jvm.Cond.instanceMethod ({ cls := "RouteDesk", name := "countTo", desc := "(IZ)I" } : Jvm.MethodName)) ∈ tb_G := tb_4 0 rfl rfl
theorem tw_756 : (Jvm.Cond.code ({ cls := "RouteDesk", name := "countTo", desc := "(IZ)I" } : Jvm.MethodName) prog_1_method_26_code (5 : Nat) (Option.some Jvm.ClassFile.FieldType.int)) ∈ tb_G := tb_4 1 rfl rfl
theorem tw_757 : (Jvm.Cond.methodLink "RouteDesk" (194 : Nat) ({ cls := "RouteDesk", name := "countFrom", desc := "(I)I" } : Jvm.MethodName)) ∈ tb_G := tb_4 2 rfl rfl
theorem tw_759 : (Jvm.Cond.instanceMethod ({ cls := "RouteDesk", name := "countFrom", desc := "(I)I" } : Jvm.MethodName)) ∈ tb_G := tb_4 4 rfl rfl
theorem tw_760 : (Jvm.Cond.code ({ cls := "RouteDesk", name := "countFrom", desc := "(I)I" } : Jvm.MethodName) prog_1_method_25_code (4 : Nat) (Option.some Jvm.ClassFile.FieldType.int)) ∈ tb_G := tb_4 5 rfl rfl
theorem tw_761 : (Jvm.Cond.methodLink "RouteDeskLaw" (100 : Nat) ({ cls := "RouteDesk", name := "total", desc := "(I)I" } : Jvm.MethodName)) ∈ tb_G := tb_4 6 rfl rfl
theorem tw_762 : (Jvm.Cond.instanceMethod ({ cls := "RouteDesk", name := "total", desc := "(I)I" } : Jvm.MethodName)) ∈ tb_G := tb_4 7 rfl rfl
theorem tw_763 : (Jvm.Cond.selects "RouteDesk" ({ cls := "RouteDesk", name := "total", desc := "(I)I" } : Jvm.MethodName) ({ cls := "RouteDesk", name := "total", desc := "(I)I" } : Jvm.MethodName)) ∈ tb_G := tb_4 8 rfl rfl
theorem tw_764 : (Jvm.Cond.code ({ cls := "RouteDesk", name := "total", desc := "(I)I" } : Jvm.MethodName) prog_1_method_15_code (2 : Nat) (Option.some Jvm.ClassFile.FieldType.int)) ∈ tb_G := tb_4 9 rfl rfl
theorem tw_765 : (Jvm.Cond.methodLink "RouteDesk" (197 : Nat) ({ cls := "RouteDesk", name := "countExchanges", desc := "()I" } : Jvm.MethodName)) ∈ tb_G := tb_4 10 rfl rfl
theorem tw_767 : (Jvm.Cond.instanceMethod ({ cls := "RouteDesk", name := "countExchanges", desc := "()I" } : Jvm.MethodName)) ∈ tb_G := tb_4 12 rfl rfl
theorem tw_768 : (Jvm.Cond.code ({ cls := "RouteDesk", name := "countExchanges", desc := "()I" } : Jvm.MethodName) prog_1_method_27_code (3 : Nat) (Option.some Jvm.ClassFile.FieldType.int)) ∈ tb_G := tb_4 13 rfl rfl
theorem tw_769 : (Jvm.Cond.methodLink "RouteDesk" (200 : Nat) ({ cls := "RouteDesk", name := "countQueues", desc := "()I" } : Jvm.MethodName)) ∈ tb_G := tb_4 14 rfl rfl
theorem tw_771 : (Jvm.Cond.instanceMethod ({ cls := "RouteDesk", name := "countQueues", desc := "()I" } : Jvm.MethodName)) ∈ tb_G := tb_4 16 rfl rfl
