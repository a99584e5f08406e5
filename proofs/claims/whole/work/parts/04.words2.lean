/-! the words by their places -/
set_option maxRecDepth 20000 in
theorem mw_424 : (Jvm.Cond.static ({ cls := "java/lang/String", name := "checkBoundsOffCount", desc := "(III)I" } : Jvm.MethodName)) ∈ big := big_of 424 rfl (by decide +kernel)
set_option maxRecDepth 20000 in
theorem mw_425 : (Jvm.Cond.code ({ cls := "java/lang/String", name := "checkBoundsOffCount", desc := "(III)I" } : Jvm.MethodName) prog_16_method_157_code (3 : Nat) (Option.some Jvm.ClassFile.FieldType.int)) ∈ big := big_of 425 rfl (by decide +kernel)
set_option maxRecDepth 20000 in
theorem mw_426 : (Jvm.Cond.methodLink "java/lang/String" (1065 : Nat) ({ cls := "jdk/internal/util/Preconditions", name := "checkFromIndexSize", desc := "(IIILjava/util/function/BiFunction;)I" } : Jvm.MethodName)) ∈ big := big_of 426 rfl (by decide +kernel)
set_option maxRecDepth 20000 in
theorem mw_427 : (Jvm.Cond.static ({ cls := "jdk/internal/util/Preconditions", name := "checkFromIndexSize", desc := "(IIILjava/util/function/BiFunction;)I" } : Jvm.MethodName)) ∈ big := big_of 427 rfl (by decide +kernel)
set_option maxRecDepth 20000 in
theorem mw_428 : (Jvm.Cond.code ({ cls := "jdk/internal/util/Preconditions", name := "checkFromIndexSize", desc := "(IIILjava/util/function/BiFunction;)I" } : Jvm.MethodName) prog_32_method_13_code (4 : Nat) (Option.some Jvm.ClassFile.FieldType.int)) ∈ big := big_of 428 rfl (by decide +kernel)
set_option maxRecDepth 20000 in
theorem mw_430 : (Jvm.Cond.instanceMethod ({ cls := "java/lang/String", name := "getBytes", desc := "([BIB)V" } : Jvm.MethodName)) ∈ big := big_of 430 rfl (by decide +kernel)
set_option maxRecDepth 20000 in
theorem mw_431 : (Jvm.Cond.selects "java/lang/String" ({ cls := "java/lang/String", name := "getBytes", desc := "([BIB)V" } : Jvm.MethodName) ({ cls := "java/lang/String", name := "getBytes", desc := "([BIB)V" } : Jvm.MethodName)) ∈ big := big_of 431 rfl (by decide +kernel)
set_option maxRecDepth 20000 in
theorem mw_432 : (Jvm.Cond.code ({ cls := "java/lang/String", name := "getBytes", desc := "([BIB)V" } : Jvm.MethodName) prog_16_method_147_code (4 : Nat) (Option.none : Option Jvm.ClassFile.FieldType)) ∈ big := big_of 432 rfl (by decide +kernel)
set_option maxRecDepth 20000 in
theorem mw_433 : (Jvm.Cond.methodLink "java/lang/String" (212 : Nat) ({ cls := "java/lang/System", name := "arraycopy", desc := "(Ljava/lang/Object;ILjava/lang/Object;II)V" } : Jvm.MethodName)) ∈ big := big_of 433 rfl (by decide +kernel)
set_option maxRecDepth 20000 in
theorem mt_460 : (Jvm.Cond.stringRef "java/util/ArrayList" (203 : Nat) ", Size: ") ∈ lw_tbl := tab_of 460 rfl
set_option maxRecDepth 20000 in
theorem mw_466 : (Jvm.Cond.instantiable "java/lang/String" (4 : Nat)) ∈ big := big_of 466 rfl (by decide +kernel)
set_option maxRecDepth 20000 in
theorem mw_473 : (Jvm.Cond.methodLink "java/lang/String" (1 : Nat) ({ cls := "java/lang/Object", name := "<init>", desc := "()V" } : Jvm.MethodName)) ∈ big := big_of 473 rfl (by decide +kernel)
set_option maxRecDepth 20000 in
theorem mw_488 : (Jvm.Cond.methodLink "java/lang/String" (54 : Nat) ({ cls := "java/util/Arrays", name := "copyOfRange", desc := "([BII)[B" } : Jvm.MethodName)) ∈ big := big_of 488 rfl (by decide +kernel)
set_option maxRecDepth 20000 in
theorem mw_489 : (Jvm.Cond.static ({ cls := "java/util/Arrays", name := "copyOfRange", desc := "([BII)[B" } : Jvm.MethodName)) ∈ big := big_of 489 rfl (by decide +kernel)
set_option maxRecDepth 20000 in
theorem mw_490 : (Jvm.Cond.code ({ cls := "java/util/Arrays", name := "copyOfRange", desc := "([BII)[B" } : Jvm.MethodName) prog_25_method_132_code (3 : Nat) (Option.some (Jvm.ClassFile.FieldType.array Jvm.ClassFile.FieldType.byte))) ∈ big := big_of 490 rfl (by decide +kernel)
set_option maxRecDepth 20000 in
theorem mw_491 : (Jvm.Cond.methodLink "java/util/Arrays" (339 : Nat) ({ cls := "java/util/Arrays", name := "copyOfRangeByte", desc := "([BII)[B" } : Jvm.MethodName)) ∈ big := big_of 491 rfl (by decide +kernel)
set_option maxRecDepth 20000 in
theorem mw_492 : (Jvm.Cond.static ({ cls := "java/util/Arrays", name := "copyOfRangeByte", desc := "([BII)[B" } : Jvm.MethodName)) ∈ big := big_of 492 rfl (by decide +kernel)
set_option maxRecDepth 20000 in
theorem mw_493 : (Jvm.Cond.code ({ cls := "java/util/Arrays", name := "copyOfRangeByte", desc := "([BII)[B" } : Jvm.MethodName) prog_25_method_133_code (5 : Nat) (Option.some (Jvm.ClassFile.FieldType.array Jvm.ClassFile.FieldType.byte))) ∈ big := big_of 493 rfl (by decide +kernel)
set_option maxRecDepth 20000 in
theorem mw_494 : (Jvm.Cond.methodLink "java/util/Arrays" (343 : Nat) ({ cls := "java/util/Arrays", name := "checkLength", desc := "(II)V" } : Jvm.MethodName)) ∈ big := big_of 494 rfl (by decide +kernel)
set_option maxRecDepth 20000 in
theorem mw_495 : (Jvm.Cond.static ({ cls := "java/util/Arrays", name := "checkLength", desc := "(II)V" } : Jvm.MethodName)) ∈ big := big_of 495 rfl (by decide +kernel)
set_option maxRecDepth 20000 in
theorem mw_496 : (Jvm.Cond.code ({ cls := "java/util/Arrays", name := "checkLength", desc := "(II)V" } : Jvm.MethodName) prog_25_method_131_code (2 : Nat) (Option.none : Option Jvm.ClassFile.FieldType)) ∈ big := big_of 496 rfl (by decide +kernel)
set_option maxRecDepth 20000 in
theorem mw_497 : (Jvm.Cond.classLink "java/util/Arrays" (43 : Nat) "java/lang/IllegalArgumentException") ∈ big := big_of 497 rfl (by decide +kernel)
set_option maxRecDepth 20000 in
theorem mt_501 : (Jvm.Cond.stringRef "java/util/Arrays" (337 : Nat) " > ") ∈ lw_tbl := tab_of 501 rfl
set_option maxRecDepth 20000 in
theorem mw_504 : (Jvm.Cond.methodLink "java/util/Arrays" (65 : Nat) ({ cls := "java/lang/IllegalArgumentException", name := "<init>", desc := "(Ljava/lang/String;)V" } : Jvm.MethodName)) ∈ big := big_of 504 rfl (by decide +kernel)
set_option maxRecDepth 20000 in
theorem mw_518 : (Jvm.Cond.fieldLink "java/lang/String" (9 : Nat) "java/lang/String" "value" "[B") ∈ big := big_of 518 rfl (by decide +kernel)
set_option maxRecDepth 20000 in
theorem mw_519 : (Jvm.Cond.fieldLink "java/lang/String" (15 : Nat) "java/lang/String" "coder" "B") ∈ big := big_of 519 rfl (by decide +kernel)
set_option maxRecDepth 20000 in
theorem mw_520 : (Jvm.Cond.laysFinal "java/lang/String" "java/lang/String" "value" "[B") ∈ big := big_of 520 rfl (by decide +kernel)
set_option maxRecDepth 20000 in
theorem mw_522 : (Jvm.Cond.laysFinal "java/lang/String" "java/lang/String" "coder" "B") ∈ big := big_of 522 rfl (by decide +kernel)
set_option maxRecDepth 20000 in
theorem mw_524 : (Jvm.Cond.lays "java/lang/String" "java/lang/String" "hash" "I") ∈ big := big_of 524 rfl (by decide +kernel)
set_option maxRecDepth 20000 in
theorem mw_526 : (Jvm.Cond.lays "java/lang/String" "java/lang/String" "hashIsZero" "Z") ∈ big := big_of 526 rfl (by decide +kernel)
set_option maxRecDepth 20000 in
theorem mw_529 : (Jvm.Cond.methodLink "java/util/ArrayList" (193 : Nat) ({ cls := "java/lang/IndexOutOfBoundsException", name := "<init>", desc := "(Ljava/lang/String;)V" } : Jvm.MethodName)) ∈ big := big_of 529 rfl (by decide +kernel)
set_option maxRecDepth 20000 in
theorem mw_530 : (Jvm.Cond.methodLink "java/util/ArrayList" (129 : Nat) ({ cls := "java/util/ArrayList", name := "grow", desc := "()[Ljava/lang/Object;" } : Jvm.MethodName)) ∈ big := big_of 530 rfl (by decide +kernel)
set_option maxRecDepth 20000 in
theorem mw_532 : (Jvm.Cond.instanceMethod ({ cls := "java/util/ArrayList", name := "grow", desc := "()[Ljava/lang/Object;" } : Jvm.MethodName)) ∈ big := big_of 532 rfl (by decide +kernel)
set_option maxRecDepth 20000 in
theorem mw_533 : (Jvm.Cond.code ({ cls := "java/util/ArrayList", name := "grow", desc := "()[Ljava/lang/Object;" } : Jvm.MethodName) prog_24_method_7_code (1 : Nat) (Option.some (Jvm.ClassFile.FieldType.array (Jvm.ClassFile.FieldType.object "java/lang/Object")))) ∈ big := big_of 533 rfl (by decide +kernel)
set_option maxRecDepth 20000 in
theorem mw_534 : (Jvm.Cond.methodLink "java/util/ArrayList" (69 : Nat) ({ cls := "java/util/ArrayList", name := "grow", desc := "(I)[Ljava/lang/Object;" } : Jvm.MethodName)) ∈ big := big_of 534 rfl (by decide +kernel)
set_option maxRecDepth 20000 in
theorem mw_536 : (Jvm.Cond.instanceMethod ({ cls := "java/util/ArrayList", name := "grow", desc := "(I)[Ljava/lang/Object;" } : Jvm.MethodName)) ∈ big := big_of 536 rfl (by decide +kernel)
set_option maxRecDepth 20000 in
theorem mw_537 : (Jvm.Cond.code ({ cls := "java/util/ArrayList", name := "grow", desc := "(I)[Ljava/lang/Object;" } : Jvm.MethodName) prog_24_method_6_code (4 : Nat) (Option.some (Jvm.ClassFile.FieldType.array (Jvm.ClassFile.FieldType.object "java/lang/Object")))) ∈ big := big_of 537 rfl (by decide +kernel)
set_option maxRecDepth 20000 in
theorem mw_538 : (Jvm.Cond.methodLink "java/util/ArrayList" (73 : Nat) ({ cls := "jdk/internal/util/ArraysSupport", name := "newLength", desc := "(III)I" } : Jvm.MethodName)) ∈ big := big_of 538 rfl (by decide +kernel)
set_option maxRecDepth 20000 in
theorem mw_539 : (Jvm.Cond.methodLink "java/util/ArrayList" (66 : Nat) ({ cls := "java/util/Arrays", name := "copyOf", desc := "([Ljava/lang/Object;I)[Ljava/lang/Object;" } : Jvm.MethodName)) ∈ big := big_of 539 rfl (by decide +kernel)
set_option maxRecDepth 20000 in
theorem mw_540 : (Jvm.Cond.static ({ cls := "java/util/Arrays", name := "copyOf", desc := "([Ljava/lang/Object;I)[Ljava/lang/Object;" } : Jvm.MethodName)) ∈ big := big_of 540 rfl (by decide +kernel)
set_option maxRecDepth 20000 in
theorem mw_541 : (Jvm.Cond.code ({ cls := "java/util/Arrays", name := "copyOf", desc := "([Ljava/lang/Object;I)[Ljava/lang/Object;" } : Jvm.MethodName) prog_25_method_119_code (2 : Nat) (Option.some (Jvm.ClassFile.FieldType.array (Jvm.ClassFile.FieldType.object "java/lang/Object")))) ∈ big := big_of 541 rfl (by decide +kernel)
set_option maxRecDepth 20000 in
theorem mw_542 : (Jvm.Cond.methodLink "java/util/Arrays" (86 : Nat) ({ cls := "java/lang/Object", name := "getClass", desc := "()Ljava/lang/Class;" } : Jvm.MethodName)) ∈ big := big_of 542 rfl (by decide +kernel)
set_option maxRecDepth 20000 in
theorem mw_543 : (Jvm.Cond.instanceMethod ({ cls := "java/lang/Object", name := "getClass", desc := "()Ljava/lang/Class;" } : Jvm.MethodName)) ∈ big := big_of 543 rfl (by decide +kernel)
set_option maxRecDepth 20000 in
theorem mw_544 : (Jvm.Cond.sameMethod "java/lang/Object" "java/lang/Object" "getClass" "()Ljava/lang/Class;") ∈ big := big_of 544 rfl (by decide +kernel)
set_option maxRecDepth 20000 in
theorem mw_545 : (Jvm.Cond.selects "BoxDrawer" ({ cls := "java/lang/Object", name := "getClass", desc := "()Ljava/lang/Class;" } : Jvm.MethodName) ({ cls := "java/lang/Object", name := "getClass", desc := "()Ljava/lang/Class;" } : Jvm.MethodName)) ∈ big := big_of 545 rfl (by decide +kernel)
set_option maxRecDepth 20000 in
theorem mw_546 : (Jvm.Cond.selects "BoxDrawer$Box" ({ cls := "java/lang/Object", name := "getClass", desc := "()Ljava/lang/Class;" } : Jvm.MethodName) ({ cls := "java/lang/Object", name := "getClass", desc := "()Ljava/lang/Class;" } : Jvm.MethodName)) ∈ big := big_of 546 rfl (by decide +kernel)
set_option maxRecDepth 20000 in
theorem mw_547 : (Jvm.Cond.selects "BoxDrawerModel" ({ cls := "java/lang/Object", name := "getClass", desc := "()Ljava/lang/Class;" } : Jvm.MethodName) ({ cls := "java/lang/Object", name := "getClass", desc := "()Ljava/lang/Class;" } : Jvm.MethodName)) ∈ big := big_of 547 rfl (by decide +kernel)
set_option maxRecDepth 20000 in
theorem mw_548 : (Jvm.Cond.selects "java/lang/IllegalArgumentException" ({ cls := "java/lang/Object", name := "getClass", desc := "()Ljava/lang/Class;" } : Jvm.MethodName) ({ cls := "java/lang/Object", name := "getClass", desc := "()Ljava/lang/Class;" } : Jvm.MethodName)) ∈ big := big_of 548 rfl (by decide +kernel)
set_option maxRecDepth 20000 in
theorem mw_549 : (Jvm.Cond.selects "java/lang/IllegalStateException" ({ cls := "java/lang/Object", name := "getClass", desc := "()Ljava/lang/Class;" } : Jvm.MethodName) ({ cls := "java/lang/Object", name := "getClass", desc := "()Ljava/lang/Class;" } : Jvm.MethodName)) ∈ big := big_of 549 rfl (by decide +kernel)
set_option maxRecDepth 20000 in
theorem mw_550 : (Jvm.Cond.selects "java/lang/IndexOutOfBoundsException" ({ cls := "java/lang/Object", name := "getClass", desc := "()Ljava/lang/Class;" } : Jvm.MethodName) ({ cls := "java/lang/Object", name := "getClass", desc := "()Ljava/lang/Class;" } : Jvm.MethodName)) ∈ big := big_of 550 rfl (by decide +kernel)
set_option maxRecDepth 20000 in
theorem mw_551 : (Jvm.Cond.selects "java/lang/String" ({ cls := "java/lang/Object", name := "getClass", desc := "()Ljava/lang/Class;" } : Jvm.MethodName) ({ cls := "java/lang/Object", name := "getClass", desc := "()Ljava/lang/Class;" } : Jvm.MethodName)) ∈ big := big_of 551 rfl (by decide +kernel)
set_option maxRecDepth 20000 in
theorem mw_553 : (Jvm.Cond.selects "java/util/ArrayList" ({ cls := "java/lang/Object", name := "getClass", desc := "()Ljava/lang/Class;" } : Jvm.MethodName) ({ cls := "java/lang/Object", name := "getClass", desc := "()Ljava/lang/Class;" } : Jvm.MethodName)) ∈ big := big_of 553 rfl (by decide +kernel)
set_option maxRecDepth 20000 in
theorem mw_554 : (Jvm.Cond.native ({ cls := "java/lang/Object", name := "getClass", desc := "()Ljava/lang/Class;" } : Jvm.MethodName)) ∈ big := big_of 554 rfl (by decide +kernel)
set_option maxRecDepth 20000 in
theorem mw_555 : (Jvm.Cond.methodLink "java/util/Arrays" (300 : Nat) ({ cls := "java/util/Arrays", name := "copyOf", desc := "([Ljava/lang/Object;ILjava/lang/Class;)[Ljava/lang/Object;" } : Jvm.MethodName)) ∈ big := big_of 555 rfl (by decide +kernel)
set_option maxRecDepth 20000 in
theorem mw_556 : (Jvm.Cond.static ({ cls := "java/util/Arrays", name := "copyOf", desc := "([Ljava/lang/Object;ILjava/lang/Class;)[Ljava/lang/Object;" } : Jvm.MethodName)) ∈ big := big_of 556 rfl (by decide +kernel)
set_option maxRecDepth 20000 in
theorem mw_557 : (Jvm.Cond.code ({ cls := "java/util/Arrays", name := "copyOf", desc := "([Ljava/lang/Object;ILjava/lang/Class;)[Ljava/lang/Object;" } : Jvm.MethodName) prog_25_method_120_code (4 : Nat) (Option.some (Jvm.ClassFile.FieldType.array (Jvm.ClassFile.FieldType.object "java/lang/Object")))) ∈ big := big_of 557 rfl (by decide +kernel)
set_option maxRecDepth 20000 in
theorem mw_558 : (Jvm.Cond.classLink "java/util/Arrays" (110 : Nat) "[Ljava/lang/Object;") ∈ big := big_of 558 rfl (by decide +kernel)
set_option maxRecDepth 20000 in
theorem mt_559 : (Jvm.Cond.arrayOver (Jvm.ClassFile.FieldType.object "java/lang/Object")) ∈ lw_tbl := tab_of 559 rfl
set_option maxRecDepth 20000 in
theorem mw_560 : (Jvm.Cond.classLink "java/util/Arrays" (2 : Nat) "java/lang/Object") ∈ big := big_of 560 rfl (by decide +kernel)
set_option maxRecDepth 20000 in
theorem mw_561 : (Jvm.Cond.methodLink "java/util/ArrayList" (79 : Nat) ({ cls := "java/lang/Math", name := "max", desc := "(II)I" } : Jvm.MethodName)) ∈ big := big_of 561 rfl (by decide +kernel)
set_option maxRecDepth 20000 in
theorem mw_562 : (Jvm.Cond.classLink "java/util/ArrayList" (7 : Nat) "java/lang/Object") ∈ big := big_of 562 rfl (by decide +kernel)
set_option maxRecDepth 20000 in
theorem mw_563 : (Jvm.Cond.methodLink "java/util/ArrayList" (112 : Nat) ({ cls := "java/lang/System", name := "arraycopy", desc := "(Ljava/lang/Object;ILjava/lang/Object;II)V" } : Jvm.MethodName)) ∈ big := big_of 563 rfl (by decide +kernel)
set_option maxRecDepth 20000 in
theorem mw_564 : (Jvm.Cond.methodLink "BoxDrawerLaw" (60 : Nat) ({ cls := "BoxDrawerLaw", name := "take", desc := "(LBoxDrawer;I[J)I" } : Jvm.MethodName)) ∈ big := big_of 564 rfl (by decide +kernel)
set_option maxRecDepth 20000 in
theorem mw_565 : (Jvm.Cond.static ({ cls := "BoxDrawerLaw", name := "take", desc := "(LBoxDrawer;I[J)I" } : Jvm.MethodName)) ∈ big := big_of 565 rfl (by decide +kernel)
set_option maxRecDepth 20000 in
theorem mw_566 : (Jvm.Cond.codeWith ({ cls := "BoxDrawerLaw", name := "take", desc := "(LBoxDrawer;I[J)I" } : Jvm.MethodName) method_4_code (4 : Nat) (Option.some Jvm.ClassFile.FieldType.int) [((0 : Nat), (16 : Nat), (19 : Nat), (13 : Nat))]) ∈ big := big_of 566 rfl (by decide +kernel)
set_option maxRecDepth 20000 in
theorem mw_567 : (Jvm.Cond.methodLink "BoxDrawerLaw" (17 : Nat) ({ cls := "BoxDrawer", name := "take", desc := "(I)Z" } : Jvm.MethodName)) ∈ big := big_of 567 rfl (by decide +kernel)
set_option maxRecDepth 20000 in
theorem mw_568 : (Jvm.Cond.instanceMethod ({ cls := "BoxDrawer", name := "take", desc := "(I)Z" } : Jvm.MethodName)) ∈ big := big_of 568 rfl (by decide +kernel)
set_option maxRecDepth 20000 in
theorem mw_569 : (Jvm.Cond.selects "BoxDrawer" ({ cls := "BoxDrawer", name := "take", desc := "(I)Z" } : Jvm.MethodName) ({ cls := "BoxDrawer", name := "take", desc := "(I)Z" } : Jvm.MethodName)) ∈ big := big_of 569 rfl (by decide +kernel)
set_option maxRecDepth 20000 in
theorem mw_570 : (Jvm.Cond.code ({ cls := "BoxDrawer", name := "take", desc := "(I)Z" } : Jvm.MethodName) prog_1_method_3_code (3 : Nat) (Option.some Jvm.ClassFile.FieldType.boolean)) ∈ big := big_of 570 rfl (by decide +kernel)
set_option maxRecDepth 20000 in
theorem mw_571 : (Jvm.Cond.methodLink "BoxDrawer" (57 : Nat) ({ cls := "java/util/ArrayList", name := "remove", desc := "(I)Ljava/lang/Object;" } : Jvm.MethodName)) ∈ big := big_of 571 rfl (by decide +kernel)
set_option maxRecDepth 20000 in
theorem mw_572 : (Jvm.Cond.instanceMethod ({ cls := "java/util/ArrayList", name := "remove", desc := "(I)Ljava/lang/Object;" } : Jvm.MethodName)) ∈ big := big_of 572 rfl (by decide +kernel)
set_option maxRecDepth 20000 in
theorem mw_573 : (Jvm.Cond.selects "java/util/ArrayList" ({ cls := "java/util/ArrayList", name := "remove", desc := "(I)Ljava/lang/Object;" } : Jvm.MethodName) ({ cls := "java/util/ArrayList", name := "remove", desc := "(I)Ljava/lang/Object;" } : Jvm.MethodName)) ∈ big := big_of 573 rfl (by decide +kernel)
set_option maxRecDepth 20000 in
theorem mw_574 : (Jvm.Cond.code ({ cls := "java/util/ArrayList", name := "remove", desc := "(I)Ljava/lang/Object;" } : Jvm.MethodName) prog_24_method_29_code (4 : Nat) (Option.some (Jvm.ClassFile.FieldType.object "java/lang/Object"))) ∈ big := big_of 574 rfl (by decide +kernel)
set_option maxRecDepth 20000 in
theorem mw_575 : (Jvm.Cond.methodLink "java/util/ArrayList" (144 : Nat) ({ cls := "java/util/ArrayList", name := "fastRemove", desc := "([Ljava/lang/Object;I)V" } : Jvm.MethodName)) ∈ big := big_of 575 rfl (by decide +kernel)
set_option maxRecDepth 20000 in
theorem mw_577 : (Jvm.Cond.instanceMethod ({ cls := "java/util/ArrayList", name := "fastRemove", desc := "([Ljava/lang/Object;I)V" } : Jvm.MethodName)) ∈ big := big_of 577 rfl (by decide +kernel)
set_option maxRecDepth 20000 in
theorem mw_578 : (Jvm.Cond.code ({ cls := "java/util/ArrayList", name := "fastRemove", desc := "([Ljava/lang/Object;I)V" } : Jvm.MethodName) prog_24_method_39_code (4 : Nat) (Option.none : Option Jvm.ClassFile.FieldType)) ∈ big := big_of 578 rfl (by decide +kernel)
set_option maxRecDepth 20000 in
theorem mw_579 : (Jvm.Cond.methodLink "BoxDrawerLaw" (68 : Nat) ({ cls := "BoxDrawerLaw", name := "find", desc := "(LBoxDrawer;IIIII[J)I" } : Jvm.MethodName)) ∈ big := big_of 579 rfl (by decide +kernel)
set_option maxRecDepth 20000 in
theorem mw_580 : (Jvm.Cond.static ({ cls := "BoxDrawerLaw", name := "find", desc := "(LBoxDrawer;IIIII[J)I" } : Jvm.MethodName)) ∈ big := big_of 580 rfl (by decide +kernel)
set_option maxRecDepth 20000 in
theorem mw_581 : (Jvm.Cond.codeWith ({ cls := "BoxDrawerLaw", name := "find", desc := "(LBoxDrawer;IIIII[J)I" } : Jvm.MethodName) method_5_code (8 : Nat) (Option.some Jvm.ClassFile.FieldType.int) [((0 : Nat), (16 : Nat), (19 : Nat), (15 : Nat))]) ∈ big := big_of 581 rfl (by decide +kernel)
set_option maxRecDepth 20000 in
theorem mw_582 : (Jvm.Cond.methodLink "BoxDrawerLaw" (21 : Nat) ({ cls := "BoxDrawer", name := "find", desc := "(IIIII)I" } : Jvm.MethodName)) ∈ big := big_of 582 rfl (by decide +kernel)
set_option maxRecDepth 20000 in
theorem mw_583 : (Jvm.Cond.instanceMethod ({ cls := "BoxDrawer", name := "find", desc := "(IIIII)I" } : Jvm.MethodName)) ∈ big := big_of 583 rfl (by decide +kernel)
set_option maxRecDepth 20000 in
theorem mw_584 : (Jvm.Cond.selects "BoxDrawer" ({ cls := "BoxDrawer", name := "find", desc := "(IIIII)I" } : Jvm.MethodName) ({ cls := "BoxDrawer", name := "find", desc := "(IIIII)I" } : Jvm.MethodName)) ∈ big := big_of 584 rfl (by decide +kernel)
set_option maxRecDepth 20000 in
theorem mw_585 : (Jvm.Cond.code ({ cls := "BoxDrawer", name := "find", desc := "(IIIII)I" } : Jvm.MethodName) prog_1_method_5_code (9 : Nat) (Option.some Jvm.ClassFile.FieldType.int)) ∈ big := big_of 585 rfl (by decide +kernel)
set_option maxRecDepth 20000 in
theorem mt_586 : (Jvm.Cond.stringRef "BoxDrawer" (70 : Nat) "what is none of 0, 1, 2") ∈ lw_tbl := tab_of 586 rfl
set_option maxRecDepth 20000 in
theorem mw_587 : (Jvm.Cond.methodLink "BoxDrawer" (78 : Nat) ({ cls := "BoxDrawer", name := "fits", desc := "(ILBoxDrawer$Box;LBoxDrawer$Box;)Z" } : Jvm.MethodName)) ∈ big := big_of 587 rfl (by decide +kernel)
set_option maxRecDepth 20000 in
theorem mw_588 : (Jvm.Cond.static ({ cls := "BoxDrawer", name := "fits", desc := "(ILBoxDrawer$Box;LBoxDrawer$Box;)Z" } : Jvm.MethodName)) ∈ big := big_of 588 rfl (by decide +kernel)
set_option maxRecDepth 20000 in
theorem mw_589 : (Jvm.Cond.code ({ cls := "BoxDrawer", name := "fits", desc := "(ILBoxDrawer$Box;LBoxDrawer$Box;)Z" } : Jvm.MethodName) prog_1_method_21_code (3 : Nat) (Option.some Jvm.ClassFile.FieldType.boolean)) ∈ big := big_of 589 rfl (by decide +kernel)
set_option maxRecDepth 20000 in
theorem mt_590 : (Jvm.Cond.methodLinkNest "BoxDrawer" (161 : Nat) ({ cls := "BoxDrawer$Box", name := "liesIn", desc := "(LBoxDrawer$Box;)Z" } : Jvm.MethodName) "BoxDrawer") ∈ lw_tbl := tab_of 590 rfl
set_option maxRecDepth 20000 in
theorem mw_592 : (Jvm.Cond.instanceMethod ({ cls := "BoxDrawer$Box", name := "liesIn", desc := "(LBoxDrawer$Box;)Z" } : Jvm.MethodName)) ∈ big := big_of 592 rfl (by decide +kernel)
set_option maxRecDepth 20000 in
theorem mw_593 : (Jvm.Cond.code ({ cls := "BoxDrawer$Box", name := "liesIn", desc := "(LBoxDrawer$Box;)Z" } : Jvm.MethodName) prog_2_method_3_code (2 : Nat) (Option.some Jvm.ClassFile.FieldType.boolean)) ∈ big := big_of 593 rfl (by decide +kernel)
set_option maxRecDepth 20000 in
theorem mw_594 : (Jvm.Cond.methodLink "BoxDrawerLaw" (71 : Nat) ({ cls := "BoxDrawerLaw", name := "nearest", desc := "(LBoxDrawer;III[J)I" } : Jvm.MethodName)) ∈ big := big_of 594 rfl (by decide +kernel)
set_option maxRecDepth 20000 in
theorem mw_595 : (Jvm.Cond.static ({ cls := "BoxDrawerLaw", name := "nearest", desc := "(LBoxDrawer;III[J)I" } : Jvm.MethodName)) ∈ big := big_of 595 rfl (by decide +kernel)
set_option maxRecDepth 20000 in
theorem mw_596 : (Jvm.Cond.codeWith ({ cls := "BoxDrawerLaw", name := "nearest", desc := "(LBoxDrawer;III[J)I" } : Jvm.MethodName) method_6_code (6 : Nat) (Option.some Jvm.ClassFile.FieldType.int) [((0 : Nat), (12 : Nat), (15 : Nat), (15 : Nat))]) ∈ big := big_of 596 rfl (by decide +kernel)
set_option maxRecDepth 20000 in
theorem mw_597 : (Jvm.Cond.methodLink "BoxDrawerLaw" (25 : Nat) ({ cls := "BoxDrawer", name := "nearest", desc := "(III)I" } : Jvm.MethodName)) ∈ big := big_of 597 rfl (by decide +kernel)
set_option maxRecDepth 20000 in
theorem mw_598 : (Jvm.Cond.instanceMethod ({ cls := "BoxDrawer", name := "nearest", desc := "(III)I" } : Jvm.MethodName)) ∈ big := big_of 598 rfl (by decide +kernel)
set_option maxRecDepth 20000 in
theorem mw_599 : (Jvm.Cond.selects "BoxDrawer" ({ cls := "BoxDrawer", name := "nearest", desc := "(III)I" } : Jvm.MethodName) ({ cls := "BoxDrawer", name := "nearest", desc := "(III)I" } : Jvm.MethodName)) ∈ big := big_of 599 rfl (by decide +kernel)
set_option maxRecDepth 20000 in
theorem mw_600 : (Jvm.Cond.code ({ cls := "BoxDrawer", name := "nearest", desc := "(III)I" } : Jvm.MethodName) prog_1_method_6_code (7 : Nat) (Option.some Jvm.ClassFile.FieldType.int)) ∈ big := big_of 600 rfl (by decide +kernel)
set_option maxRecDepth 20000 in
theorem mt_601 : (Jvm.Cond.stringRef "BoxDrawer" (88 : Nat) "n is none of 1 .. 4096") ∈ lw_tbl := tab_of 601 rfl
set_option maxRecDepth 20000 in
theorem mw_602 : (Jvm.Cond.methodLink "BoxDrawer" (103 : Nat) ({ cls := "BoxDrawer", name := "makeRoomForDistances", desc := "()V" } : Jvm.MethodName)) ∈ big := big_of 602 rfl (by decide +kernel)
set_option maxRecDepth 20000 in
theorem mw_604 : (Jvm.Cond.instanceMethod ({ cls := "BoxDrawer", name := "makeRoomForDistances", desc := "()V" } : Jvm.MethodName)) ∈ big := big_of 604 rfl (by decide +kernel)
set_option maxRecDepth 20000 in
theorem mw_605 : (Jvm.Cond.code ({ cls := "BoxDrawer", name := "makeRoomForDistances", desc := "()V" } : Jvm.MethodName) prog_1_method_24_code (1 : Nat) (Option.none : Option Jvm.ClassFile.FieldType)) ∈ big := big_of 605 rfl (by decide +kernel)
set_option maxRecDepth 20000 in
theorem mt_606 : (Jvm.Cond.methodLinkNest "BoxDrawer" (106 : Nat) ({ cls := "BoxDrawer$Box", name := "distanceFrom", desc := "(II)J" } : Jvm.MethodName) "BoxDrawer") ∈ lw_tbl := tab_of 606 rfl
set_option maxRecDepth 20000 in
theorem mw_608 : (Jvm.Cond.instanceMethod ({ cls := "BoxDrawer$Box", name := "distanceFrom", desc := "(II)J" } : Jvm.MethodName)) ∈ big := big_of 608 rfl (by decide +kernel)
set_option maxRecDepth 20000 in
theorem mw_609 : (Jvm.Cond.code ({ cls := "BoxDrawer$Box", name := "distanceFrom", desc := "(II)J" } : Jvm.MethodName) prog_2_method_4_code (7 : Nat) (Option.some Jvm.ClassFile.FieldType.long)) ∈ big := big_of 609 rfl (by decide +kernel)
set_option maxRecDepth 20000 in
theorem mw_610 : (Jvm.Cond.methodLink "BoxDrawer$Box" (27 : Nat) ({ cls := "BoxDrawer$Box", name := "wayTo", desc := "(III)J" } : Jvm.MethodName)) ∈ big := big_of 610 rfl (by decide +kernel)
set_option maxRecDepth 20000 in
theorem mw_611 : (Jvm.Cond.static ({ cls := "BoxDrawer$Box", name := "wayTo", desc := "(III)J" } : Jvm.MethodName)) ∈ big := big_of 611 rfl (by decide +kernel)
set_option maxRecDepth 20000 in
theorem mw_612 : (Jvm.Cond.code ({ cls := "BoxDrawer$Box", name := "wayTo", desc := "(III)J" } : Jvm.MethodName) prog_2_method_5_code (3 : Nat) (Option.some Jvm.ClassFile.FieldType.long)) ∈ big := big_of 612 rfl (by decide +kernel)
set_option maxRecDepth 20000 in
theorem mw_613 : (Jvm.Cond.methodLink "BoxDrawer" (110 : Nat) ({ cls := "BoxDrawer", name := "insertByDistance", desc := "(IJI)V" } : Jvm.MethodName)) ∈ big := big_of 613 rfl (by decide +kernel)
set_option maxRecDepth 20000 in
theorem mw_615 : (Jvm.Cond.instanceMethod ({ cls := "BoxDrawer", name := "insertByDistance", desc := "(IJI)V" } : Jvm.MethodName)) ∈ big := big_of 615 rfl (by decide +kernel)
set_option maxRecDepth 20000 in
theorem mw_616 : (Jvm.Cond.code ({ cls := "BoxDrawer", name := "insertByDistance", desc := "(IJI)V" } : Jvm.MethodName) prog_1_method_25_code (7 : Nat) (Option.none : Option Jvm.ClassFile.FieldType)) ∈ big := big_of 616 rfl (by decide +kernel)
set_option maxRecDepth 20000 in
theorem mw_617 : (Jvm.Cond.methodLink "BoxDrawer" (170 : Nat) ({ cls := "BoxDrawer", name := "indexBehind", desc := "(J)I" } : Jvm.MethodName)) ∈ big := big_of 617 rfl (by decide +kernel)
set_option maxRecDepth 20000 in
theorem mw_619 : (Jvm.Cond.instanceMethod ({ cls := "BoxDrawer", name := "indexBehind", desc := "(J)I" } : Jvm.MethodName)) ∈ big := big_of 619 rfl (by decide +kernel)
set_option maxRecDepth 20000 in
theorem mw_620 : (Jvm.Cond.code ({ cls := "BoxDrawer", name := "indexBehind", desc := "(J)I" } : Jvm.MethodName) prog_1_method_26_code (6 : Nat) (Option.some Jvm.ClassFile.FieldType.int)) ∈ big := big_of 620 rfl (by decide +kernel)
set_option maxRecDepth 20000 in
theorem mw_621 : (Jvm.Cond.methodLink "BoxDrawer" (174 : Nat) ({ cls := "java/lang/System", name := "arraycopy", desc := "(Ljava/lang/Object;ILjava/lang/Object;II)V" } : Jvm.MethodName)) ∈ big := big_of 621 rfl (by decide +kernel)
set_option maxRecDepth 20000 in
theorem mw_622 : (Jvm.Cond.methodLink "BoxDrawerLaw" (79 : Nat) ({ cls := "BoxDrawerLaw", name := "distance", desc := "(LBoxDrawer;III[J)I" } : Jvm.MethodName)) ∈ big := big_of 622 rfl (by decide +kernel)
set_option maxRecDepth 20000 in
theorem mw_623 : (Jvm.Cond.static ({ cls := "BoxDrawerLaw", name := "distance", desc := "(LBoxDrawer;III[J)I" } : Jvm.MethodName)) ∈ big := big_of 623 rfl (by decide +kernel)
set_option maxRecDepth 20000 in
theorem mw_624 : (Jvm.Cond.codeWith ({ cls := "BoxDrawerLaw", name := "distance", desc := "(LBoxDrawer;III[J)I" } : Jvm.MethodName) method_7_code (6 : Nat) (Option.some Jvm.ClassFile.FieldType.int) [((0 : Nat), (11 : Nat), (14 : Nat), (13 : Nat)), ((0 : Nat), (11 : Nat), (18 : Nat), (15 : Nat))]) ∈ big := big_of 624 rfl (by decide +kernel)
set_option maxRecDepth 20000 in
theorem mw_625 : (Jvm.Cond.methodLink "BoxDrawerLaw" (29 : Nat) ({ cls := "BoxDrawer", name := "distance", desc := "(III)J" } : Jvm.MethodName)) ∈ big := big_of 625 rfl (by decide +kernel)
set_option maxRecDepth 20000 in
theorem mw_626 : (Jvm.Cond.instanceMethod ({ cls := "BoxDrawer", name := "distance", desc := "(III)J" } : Jvm.MethodName)) ∈ big := big_of 626 rfl (by decide +kernel)
set_option maxRecDepth 20000 in
theorem mw_627 : (Jvm.Cond.selects "BoxDrawer" ({ cls := "BoxDrawer", name := "distance", desc := "(III)J" } : Jvm.MethodName) ({ cls := "BoxDrawer", name := "distance", desc := "(III)J" } : Jvm.MethodName)) ∈ big := big_of 627 rfl (by decide +kernel)
set_option maxRecDepth 20000 in
theorem mw_628 : (Jvm.Cond.code ({ cls := "BoxDrawer", name := "distance", desc := "(III)J" } : Jvm.MethodName) prog_1_method_8_code (5 : Nat) (Option.some Jvm.ClassFile.FieldType.long)) ∈ big := big_of 628 rfl (by decide +kernel)
set_option maxRecDepth 20000 in
theorem mw_629 : (Jvm.Cond.methodLink "BoxDrawer" (118 : Nat) ({ cls := "BoxDrawer", name := "requireBox", desc := "(I)LBoxDrawer$Box;" } : Jvm.MethodName)) ∈ big := big_of 629 rfl (by decide +kernel)
set_option maxRecDepth 20000 in
theorem mw_631 : (Jvm.Cond.instanceMethod ({ cls := "BoxDrawer", name := "requireBox", desc := "(I)LBoxDrawer$Box;" } : Jvm.MethodName)) ∈ big := big_of 631 rfl (by decide +kernel)
set_option maxRecDepth 20000 in
theorem mw_632 : (Jvm.Cond.code ({ cls := "BoxDrawer", name := "requireBox", desc := "(I)LBoxDrawer$Box;" } : Jvm.MethodName) prog_1_method_17_code (3 : Nat) (Option.some (Jvm.ClassFile.FieldType.object "BoxDrawer$Box"))) ∈ big := big_of 632 rfl (by decide +kernel)
set_option maxRecDepth 20000 in
theorem mt_633 : (Jvm.Cond.stringRef "BoxDrawer" (159 : Nat) "the box is not there") ∈ lw_tbl := tab_of 633 rfl
set_option maxRecDepth 20000 in
theorem mw_634 : (Jvm.Cond.methodLink "BoxDrawerLaw" (82 : Nat) ({ cls := "BoxDrawerLaw", name := "bounds", desc := "(LBoxDrawer;I[J)I" } : Jvm.MethodName)) ∈ big := big_of 634 rfl (by decide +kernel)
set_option maxRecDepth 20000 in
theorem mw_635 : (Jvm.Cond.static ({ cls := "BoxDrawerLaw", name := "bounds", desc := "(LBoxDrawer;I[J)I" } : Jvm.MethodName)) ∈ big := big_of 635 rfl (by decide +kernel)
set_option maxRecDepth 20000 in
theorem mw_636 : (Jvm.Cond.codeWith ({ cls := "BoxDrawerLaw", name := "bounds", desc := "(LBoxDrawer;I[J)I" } : Jvm.MethodName) method_8_code (4 : Nat) (Option.some Jvm.ClassFile.FieldType.int) [((0 : Nat), (9 : Nat), (12 : Nat), (13 : Nat)), ((0 : Nat), (9 : Nat), (15 : Nat), (37 : Nat))]) ∈ big := big_of 636 rfl (by decide +kernel)
set_option maxRecDepth 20000 in
theorem mw_637 : (Jvm.Cond.classLink "BoxDrawerLaw" (37 : Nat) "java/lang/IllegalStateException") ∈ big := big_of 637 rfl (by decide +kernel)
set_option maxRecDepth 20000 in
theorem mw_638 : (Jvm.Cond.methodLink "BoxDrawerLaw" (33 : Nat) ({ cls := "BoxDrawer", name := "bounds", desc := "(I)I" } : Jvm.MethodName)) ∈ big := big_of 638 rfl (by decide +kernel)
set_option maxRecDepth 20000 in
theorem mw_639 : (Jvm.Cond.instanceMethod ({ cls := "BoxDrawer", name := "bounds", desc := "(I)I" } : Jvm.MethodName)) ∈ big := big_of 639 rfl (by decide +kernel)
set_option maxRecDepth 20000 in
theorem mw_640 : (Jvm.Cond.selects "BoxDrawer" ({ cls := "BoxDrawer", name := "bounds", desc := "(I)I" } : Jvm.MethodName) ({ cls := "BoxDrawer", name := "bounds", desc := "(I)I" } : Jvm.MethodName)) ∈ big := big_of 640 rfl (by decide +kernel)
set_option maxRecDepth 20000 in
theorem mw_641 : (Jvm.Cond.code ({ cls := "BoxDrawer", name := "bounds", desc := "(I)I" } : Jvm.MethodName) prog_1_method_9_code (5 : Nat) (Option.some Jvm.ClassFile.FieldType.int)) ∈ big := big_of 641 rfl (by decide +kernel)
set_option maxRecDepth 20000 in
theorem mw_642 : (Jvm.Cond.methodLink "BoxDrawer" (122 : Nat) ({ cls := "BoxDrawer", name := "requireBound", desc := "(I)V" } : Jvm.MethodName)) ∈ big := big_of 642 rfl (by decide +kernel)
set_option maxRecDepth 20000 in
theorem mw_643 : (Jvm.Cond.static ({ cls := "BoxDrawer", name := "requireBound", desc := "(I)V" } : Jvm.MethodName)) ∈ big := big_of 643 rfl (by decide +kernel)
set_option maxRecDepth 20000 in
theorem mw_644 : (Jvm.Cond.code ({ cls := "BoxDrawer", name := "requireBound", desc := "(I)V" } : Jvm.MethodName) prog_1_method_16_code (1 : Nat) (Option.none : Option Jvm.ClassFile.FieldType)) ∈ big := big_of 644 rfl (by decide +kernel)
set_option maxRecDepth 20000 in
theorem mt_645 : (Jvm.Cond.stringRef "BoxDrawer" (157 : Nat) "what is none of 0 .. 3") ∈ lw_tbl := tab_of 645 rfl
set_option maxRecDepth 20000 in
theorem mw_646 : (Jvm.Cond.methodLink "BoxDrawer" (125 : Nat) ({ cls := "java/util/ArrayList", name := "isEmpty", desc := "()Z" } : Jvm.MethodName)) ∈ big := big_of 646 rfl (by decide +kernel)
set_option maxRecDepth 20000 in
theorem mw_647 : (Jvm.Cond.instanceMethod ({ cls := "java/util/ArrayList", name := "isEmpty", desc := "()Z" } : Jvm.MethodName)) ∈ big := big_of 647 rfl (by decide +kernel)
set_option maxRecDepth 20000 in
theorem mw_648 : (Jvm.Cond.selects "java/util/ArrayList" ({ cls := "java/util/ArrayList", name := "isEmpty", desc := "()Z" } : Jvm.MethodName) ({ cls := "java/util/ArrayList", name := "isEmpty", desc := "()Z" } : Jvm.MethodName)) ∈ big := big_of 648 rfl (by decide +kernel)
set_option maxRecDepth 20000 in
theorem mw_649 : (Jvm.Cond.code ({ cls := "java/util/ArrayList", name := "isEmpty", desc := "()Z" } : Jvm.MethodName) prog_24_method_9_code (1 : Nat) (Option.some Jvm.ClassFile.FieldType.boolean)) ∈ big := big_of 649 rfl (by decide +kernel)
set_option maxRecDepth 20000 in
theorem mw_650 : (Jvm.Cond.classLink "BoxDrawer" (129 : Nat) "java/lang/IllegalStateException") ∈ big := big_of 650 rfl (by decide +kernel)
set_option maxRecDepth 20000 in
theorem mw_651 : (Jvm.Cond.instantiable "java/lang/IllegalStateException" (6 : Nat)) ∈ big := big_of 651 rfl (by decide +kernel)
set_option maxRecDepth 20000 in
theorem mt_652 : (Jvm.Cond.castable "java/lang/IllegalStateException" "java/lang/IllegalStateException") ∈ lw_tbl := tab_of 652 rfl
set_option maxRecDepth 20000 in
theorem mw_653 : (Jvm.Cond.selects "java/lang/IllegalStateException" ({ cls := "java/lang/Throwable", name := "fillInStackTrace", desc := "(I)Ljava/lang/Throwable;" } : Jvm.MethodName) ({ cls := "java/lang/Throwable", name := "fillInStackTrace", desc := "(I)Ljava/lang/Throwable;" } : Jvm.MethodName)) ∈ big := big_of 653 rfl (by decide +kernel)
set_option maxRecDepth 20000 in
theorem mw_654 : (Jvm.Cond.lays "java/lang/IllegalStateException" "java/lang/Throwable" "cause" "Ljava/lang/Throwable;") ∈ big := big_of 654 rfl (by decide +kernel)
set_option maxRecDepth 20000 in
theorem mw_655 : (Jvm.Cond.lays "java/lang/IllegalStateException" "java/lang/Throwable" "stackTrace" "[Ljava/lang/StackTraceElement;") ∈ big := big_of 655 rfl (by decide +kernel)
set_option maxRecDepth 20000 in
theorem mw_656 : (Jvm.Cond.lays "java/lang/IllegalStateException" "java/lang/Throwable" "suppressedExceptions" "Ljava/util/List;") ∈ big := big_of 656 rfl (by decide +kernel)
set_option maxRecDepth 20000 in
theorem mw_657 : (Jvm.Cond.lays "java/lang/IllegalStateException" "java/lang/Throwable" "detailMessage" "Ljava/lang/String;") ∈ big := big_of 657 rfl (by decide +kernel)
set_option maxRecDepth 20000 in
theorem mw_658 : (Jvm.Cond.lays "java/lang/IllegalStateException" "java/lang/Throwable" "backtrace" "Ljava/lang/Object;") ∈ big := big_of 658 rfl (by decide +kernel)
set_option maxRecDepth 20000 in
theorem mt_659 : (Jvm.Cond.stringRef "BoxDrawer" (131 : Nat) "no boxes") ∈ lw_tbl := tab_of 659 rfl
set_option maxRecDepth 20000 in
theorem mw_660 : (Jvm.Cond.methodLink "BoxDrawer" (133 : Nat) ({ cls := "java/lang/IllegalStateException", name := "<init>", desc := "(Ljava/lang/String;)V" } : Jvm.MethodName)) ∈ big := big_of 660 rfl (by decide +kernel)
set_option maxRecDepth 20000 in
theorem mw_661 : (Jvm.Cond.instanceMethod ({ cls := "java/lang/IllegalStateException", name := "<init>", desc := "(Ljava/lang/String;)V" } : Jvm.MethodName)) ∈ big := big_of 661 rfl (by decide +kernel)
set_option maxRecDepth 20000 in
theorem mw_662 : (Jvm.Cond.code ({ cls := "java/lang/IllegalStateException", name := "<init>", desc := "(Ljava/lang/String;)V" } : Jvm.MethodName) prog_10_method_2_code (2 : Nat) (Option.none : Option Jvm.ClassFile.FieldType)) ∈ big := big_of 662 rfl (by decide +kernel)
set_option maxRecDepth 20000 in
theorem mw_663 : (Jvm.Cond.methodLink "java/lang/IllegalStateException" (7 : Nat) ({ cls := "java/lang/RuntimeException", name := "<init>", desc := "(Ljava/lang/String;)V" } : Jvm.MethodName)) ∈ big := big_of 663 rfl (by decide +kernel)
set_option maxRecDepth 20000 in
theorem mw_664 : (Jvm.Cond.lays "java/lang/IllegalStateException" "java/lang/Throwable" "depth" "I") ∈ big := big_of 664 rfl (by decide +kernel)
set_option maxRecDepth 20000 in
theorem mt_666 : (Jvm.Cond.methodLinkNest "BoxDrawer" (134 : Nat) ({ cls := "BoxDrawer$Box", name := "bound", desc := "(I)I" } : Jvm.MethodName) "BoxDrawer") ∈ lw_tbl := tab_of 666 rfl
set_option maxRecDepth 20000 in
theorem mw_668 : (Jvm.Cond.instanceMethod ({ cls := "BoxDrawer$Box", name := "bound", desc := "(I)I" } : Jvm.MethodName)) ∈ big := big_of 668 rfl (by decide +kernel)
set_option maxRecDepth 20000 in
theorem mw_669 : (Jvm.Cond.code ({ cls := "BoxDrawer$Box", name := "bound", desc := "(I)I" } : Jvm.MethodName) prog_2_method_6_code (2 : Nat) (Option.some Jvm.ClassFile.FieldType.int)) ∈ big := big_of 669 rfl (by decide +kernel)
set_option maxRecDepth 20000 in
theorem mw_670 : (Jvm.Cond.methodLink "BoxDrawer" (137 : Nat) ({ cls := "BoxDrawer", name := "isLeast", desc := "(I)Z" } : Jvm.MethodName)) ∈ big := big_of 670 rfl (by decide +kernel)
set_option maxRecDepth 20000 in
theorem mw_671 : (Jvm.Cond.static ({ cls := "BoxDrawer", name := "isLeast", desc := "(I)Z" } : Jvm.MethodName)) ∈ big := big_of 671 rfl (by decide +kernel)
set_option maxRecDepth 20000 in
theorem mw_672 : (Jvm.Cond.code ({ cls := "BoxDrawer", name := "isLeast", desc := "(I)Z" } : Jvm.MethodName) prog_1_method_20_code (1 : Nat) (Option.some Jvm.ClassFile.FieldType.boolean)) ∈ big := big_of 672 rfl (by decide +kernel)
set_option maxRecDepth 20000 in
theorem mw_673 : (Jvm.Cond.methodLink "BoxDrawerLaw" (85 : Nat) ({ cls := "BoxDrawerLaw", name := "result", desc := "(LBoxDrawer;I[J)I" } : Jvm.MethodName)) ∈ big := big_of 673 rfl (by decide +kernel)
set_option maxRecDepth 20000 in
theorem mw_674 : (Jvm.Cond.static ({ cls := "BoxDrawerLaw", name := "result", desc := "(LBoxDrawer;I[J)I" } : Jvm.MethodName)) ∈ big := big_of 674 rfl (by decide +kernel)
set_option maxRecDepth 20000 in
theorem mw_675 : (Jvm.Cond.codeWith ({ cls := "BoxDrawerLaw", name := "result", desc := "(LBoxDrawer;I[J)I" } : Jvm.MethodName) method_9_code (4 : Nat) (Option.some Jvm.ClassFile.FieldType.int) [((0 : Nat), (9 : Nat), (12 : Nat), (13 : Nat))]) ∈ big := big_of 675 rfl (by decide +kernel)
set_option maxRecDepth 20000 in
theorem mw_676 : (Jvm.Cond.methodLink "BoxDrawerLaw" (39 : Nat) ({ cls := "BoxDrawer", name := "result", desc := "(I)I" } : Jvm.MethodName)) ∈ big := big_of 676 rfl (by decide +kernel)
set_option maxRecDepth 20000 in
theorem mw_677 : (Jvm.Cond.instanceMethod ({ cls := "BoxDrawer", name := "result", desc := "(I)I" } : Jvm.MethodName)) ∈ big := big_of 677 rfl (by decide +kernel)
set_option maxRecDepth 20000 in
theorem mw_678 : (Jvm.Cond.selects "BoxDrawer" ({ cls := "BoxDrawer", name := "result", desc := "(I)I" } : Jvm.MethodName) ({ cls := "BoxDrawer", name := "result", desc := "(I)I" } : Jvm.MethodName)) ∈ big := big_of 678 rfl (by decide +kernel)
set_option maxRecDepth 20000 in
theorem mw_679 : (Jvm.Cond.code ({ cls := "BoxDrawer", name := "result", desc := "(I)I" } : Jvm.MethodName) prog_1_method_10_code (2 : Nat) (Option.some Jvm.ClassFile.FieldType.int)) ∈ big := big_of 679 rfl (by decide +kernel)
set_option maxRecDepth 20000 in
theorem mt_680 : (Jvm.Cond.stringRef "BoxDrawer" (146 : Nat) "no such place in the result") ∈ lw_tbl := tab_of 680 rfl
set_option maxRecDepth 20000 in
theorem mw_681 : (Jvm.Cond.methodLink "BoxDrawerLaw" (88 : Nat) ({ cls := "BoxDrawerLaw", name := "box", desc := "(LBoxDrawer;II[J)I" } : Jvm.MethodName)) ∈ big := big_of 681 rfl (by decide +kernel)
set_option maxRecDepth 20000 in
theorem mw_682 : (Jvm.Cond.static ({ cls := "BoxDrawerLaw", name := "box", desc := "(LBoxDrawer;II[J)I" } : Jvm.MethodName)) ∈ big := big_of 682 rfl (by decide +kernel)
set_option maxRecDepth 20000 in
theorem mw_683 : (Jvm.Cond.codeWith ({ cls := "BoxDrawerLaw", name := "box", desc := "(LBoxDrawer;II[J)I" } : Jvm.MethodName) method_10_code (5 : Nat) (Option.some Jvm.ClassFile.FieldType.int) [((0 : Nat), (10 : Nat), (13 : Nat), (13 : Nat))]) ∈ big := big_of 683 rfl (by decide +kernel)
set_option maxRecDepth 20000 in
theorem mw_684 : (Jvm.Cond.methodLink "BoxDrawerLaw" (42 : Nat) ({ cls := "BoxDrawer", name := "box", desc := "(II)I" } : Jvm.MethodName)) ∈ big := big_of 684 rfl (by decide +kernel)
set_option maxRecDepth 20000 in
theorem mw_685 : (Jvm.Cond.instanceMethod ({ cls := "BoxDrawer", name := "box", desc := "(II)I" } : Jvm.MethodName)) ∈ big := big_of 685 rfl (by decide +kernel)
set_option maxRecDepth 20000 in
theorem mw_686 : (Jvm.Cond.selects "BoxDrawer" ({ cls := "BoxDrawer", name := "box", desc := "(II)I" } : Jvm.MethodName) ({ cls := "BoxDrawer", name := "box", desc := "(II)I" } : Jvm.MethodName)) ∈ big := big_of 686 rfl (by decide +kernel)
set_option maxRecDepth 20000 in
theorem mw_687 : (Jvm.Cond.code ({ cls := "BoxDrawer", name := "box", desc := "(II)I" } : Jvm.MethodName) prog_1_method_11_code (4 : Nat) (Option.some Jvm.ClassFile.FieldType.int)) ∈ big := big_of 687 rfl (by decide +kernel)
set_option maxRecDepth 20000 in
theorem mw_688 : (Jvm.Cond.classLink "BoxDrawerLaw" (47 : Nat) "BoxDrawerModel") ∈ big := big_of 688 rfl (by decide +kernel)
set_option maxRecDepth 20000 in
theorem mw_689 : (Jvm.Cond.instantiable "BoxDrawerModel" (8 : Nat)) ∈ big := big_of 689 rfl (by decide +kernel)
set_option maxRecDepth 20000 in
theorem mw_690 : (Jvm.Cond.methodLink "BoxDrawerLaw" (49 : Nat) ({ cls := "BoxDrawerModel", name := "<init>", desc := "()V" } : Jvm.MethodName)) ∈ big := big_of 690 rfl (by decide +kernel)
set_option maxRecDepth 20000 in
theorem mw_691 : (Jvm.Cond.instanceMethod ({ cls := "BoxDrawerModel", name := "<init>", desc := "()V" } : Jvm.MethodName)) ∈ big := big_of 691 rfl (by decide +kernel)
set_option maxRecDepth 20000 in
theorem mw_692 : (Jvm.Cond.code ({ cls := "BoxDrawerModel", name := "<init>", desc := "()V" } : Jvm.MethodName) prog_4_method_1_code (1 : Nat) (Option.none : Option Jvm.ClassFile.FieldType)) ∈ big := big_of 692 rfl (by decide +kernel)
set_option maxRecDepth 20000 in
theorem mw_693 : (Jvm.Cond.methodLink "BoxDrawerModel" (1 : Nat) ({ cls := "java/lang/Object", name := "<init>", desc := "()V" } : Jvm.MethodName)) ∈ big := big_of 693 rfl (by decide +kernel)
set_option maxRecDepth 20000 in
theorem mw_694 : (Jvm.Cond.fieldLink "BoxDrawerModel" (29 : Nat) "BoxDrawerModel" "thrown" "I") ∈ big := big_of 694 rfl (by decide +kernel)
set_option maxRecDepth 20000 in
theorem mw_695 : (Jvm.Cond.fieldLink "BoxDrawerModel" (7 : Nat) "BoxDrawerModel" "there" "[Z") ∈ big := big_of 695 rfl (by decide +kernel)
set_option maxRecDepth 20000 in
theorem mw_696 : (Jvm.Cond.fieldLink "BoxDrawerModel" (13 : Nat) "BoxDrawerModel" "lowX" "[I") ∈ big := big_of 696 rfl (by decide +kernel)
set_option maxRecDepth 20000 in
theorem mw_697 : (Jvm.Cond.fieldLink "BoxDrawerModel" (17 : Nat) "BoxDrawerModel" "lowY" "[I") ∈ big := big_of 697 rfl (by decide +kernel)
set_option maxRecDepth 20000 in
theorem mw_698 : (Jvm.Cond.fieldLink "BoxDrawerModel" (20 : Nat) "BoxDrawerModel" "highX" "[I") ∈ big := big_of 698 rfl (by decide +kernel)
set_option maxRecDepth 20000 in
theorem mw_699 : (Jvm.Cond.fieldLink "BoxDrawerModel" (23 : Nat) "BoxDrawerModel" "highY" "[I") ∈ big := big_of 699 rfl (by decide +kernel)
set_option maxRecDepth 20000 in
theorem mw_700 : (Jvm.Cond.fieldLink "BoxDrawerModel" (55 : Nat) "BoxDrawerModel" "size" "I") ∈ big := big_of 700 rfl (by decide +kernel)
set_option maxRecDepth 20000 in
theorem mw_701 : (Jvm.Cond.fieldLink "BoxDrawerModel" (26 : Nat) "BoxDrawerModel" "result" "[I") ∈ big := big_of 701 rfl (by decide +kernel)
set_option maxRecDepth 20000 in
theorem mw_702 : (Jvm.Cond.lays "BoxDrawerModel" "BoxDrawerModel" "thrown" "I") ∈ big := big_of 702 rfl (by decide +kernel)
set_option maxRecDepth 20000 in
theorem mw_704 : (Jvm.Cond.laysFinal "BoxDrawerModel" "BoxDrawerModel" "there" "[Z") ∈ big := big_of 704 rfl (by decide +kernel)
set_option maxRecDepth 20000 in
theorem mw_706 : (Jvm.Cond.laysFinal "BoxDrawerModel" "BoxDrawerModel" "lowX" "[I") ∈ big := big_of 706 rfl (by decide +kernel)
set_option maxRecDepth 20000 in
theorem mw_708 : (Jvm.Cond.laysFinal "BoxDrawerModel" "BoxDrawerModel" "lowY" "[I") ∈ big := big_of 708 rfl (by decide +kernel)
set_option maxRecDepth 20000 in
theorem mw_710 : (Jvm.Cond.laysFinal "BoxDrawerModel" "BoxDrawerModel" "highX" "[I") ∈ big := big_of 710 rfl (by decide +kernel)
set_option maxRecDepth 20000 in
theorem mw_712 : (Jvm.Cond.laysFinal "BoxDrawerModel" "BoxDrawerModel" "highY" "[I") ∈ big := big_of 712 rfl (by decide +kernel)
set_option maxRecDepth 20000 in
theorem mw_714 : (Jvm.Cond.lays "BoxDrawerModel" "BoxDrawerModel" "size" "I") ∈ big := big_of 714 rfl (by decide +kernel)
set_option maxRecDepth 20000 in
theorem mw_716 : (Jvm.Cond.laysFinal "BoxDrawerModel" "BoxDrawerModel" "result" "[I") ∈ big := big_of 716 rfl (by decide +kernel)
set_option maxRecDepth 20000 in
theorem mw_719 : (Jvm.Cond.arrayClass Jvm.ClassFile.FieldType.boolean) ∈ big := big_of 719 rfl (by decide +kernel)
set_option maxRecDepth 20000 in
theorem mw_720 : (Jvm.Cond.methodLink "BoxDrawerLaw" (56 : Nat) ({ cls := "BoxDrawerModel", name := "thrown", desc := "()I" } : Jvm.MethodName)) ∈ big := big_of 720 rfl (by decide +kernel)
set_option maxRecDepth 20000 in
theorem mw_721 : (Jvm.Cond.instanceMethod ({ cls := "BoxDrawerModel", name := "thrown", desc := "()I" } : Jvm.MethodName)) ∈ big := big_of 721 rfl (by decide +kernel)
set_option maxRecDepth 20000 in
theorem mw_722 : (Jvm.Cond.selects "BoxDrawerModel" ({ cls := "BoxDrawerModel", name := "thrown", desc := "()I" } : Jvm.MethodName) ({ cls := "BoxDrawerModel", name := "thrown", desc := "()I" } : Jvm.MethodName)) ∈ big := big_of 722 rfl (by decide +kernel)
set_option maxRecDepth 20000 in
theorem mw_723 : (Jvm.Cond.code ({ cls := "BoxDrawerModel", name := "thrown", desc := "()I" } : Jvm.MethodName) prog_4_method_2_code (1 : Nat) (Option.some Jvm.ClassFile.FieldType.int)) ∈ big := big_of 723 rfl (by decide +kernel)
set_option maxRecDepth 20000 in
theorem mw_724 : (Jvm.Cond.methodLink "BoxDrawerLaw" (55 : Nat) ({ cls := "BoxDrawerModel", name := "put", desc := "(IIIII)Z" } : Jvm.MethodName)) ∈ big := big_of 724 rfl (by decide +kernel)
set_option maxRecDepth 20000 in
theorem mw_725 : (Jvm.Cond.instanceMethod ({ cls := "BoxDrawerModel", name := "put", desc := "(IIIII)Z" } : Jvm.MethodName)) ∈ big := big_of 725 rfl (by decide +kernel)
set_option maxRecDepth 20000 in
theorem mw_726 : (Jvm.Cond.selects "BoxDrawerModel" ({ cls := "BoxDrawerModel", name := "put", desc := "(IIIII)Z" } : Jvm.MethodName) ({ cls := "BoxDrawerModel", name := "put", desc := "(IIIII)Z" } : Jvm.MethodName)) ∈ big := big_of 726 rfl (by decide +kernel)
set_option maxRecDepth 20000 in
theorem mw_727 : (Jvm.Cond.code ({ cls := "BoxDrawerModel", name := "put", desc := "(IIIII)Z" } : Jvm.MethodName) prog_4_method_9_code (7 : Nat) (Option.some Jvm.ClassFile.FieldType.boolean)) ∈ big := big_of 727 rfl (by decide +kernel)
set_option maxRecDepth 20000 in
theorem mw_728 : (Jvm.Cond.methodLink "BoxDrawerModel" (35 : Nat) ({ cls := "BoxDrawerModel", name := "within", desc := "(III)Z" } : Jvm.MethodName)) ∈ big := big_of 728 rfl (by decide +kernel)
set_option maxRecDepth 20000 in
theorem mw_729 : (Jvm.Cond.static ({ cls := "BoxDrawerModel", name := "within", desc := "(III)Z" } : Jvm.MethodName)) ∈ big := big_of 729 rfl (by decide +kernel)
set_option maxRecDepth 20000 in
theorem mw_730 : (Jvm.Cond.code ({ cls := "BoxDrawerModel", name := "within", desc := "(III)Z" } : Jvm.MethodName) prog_4_method_4_code (3 : Nat) (Option.some Jvm.ClassFile.FieldType.boolean)) ∈ big := big_of 730 rfl (by decide +kernel)
set_option maxRecDepth 20000 in
theorem mw_731 : (Jvm.Cond.methodLink "BoxDrawerModel" (43 : Nat) ({ cls := "BoxDrawerModel", name := "fail", desc := "(I)I" } : Jvm.MethodName)) ∈ big := big_of 731 rfl (by decide +kernel)
set_option maxRecDepth 20000 in
theorem mw_733 : (Jvm.Cond.instanceMethod ({ cls := "BoxDrawerModel", name := "fail", desc := "(I)I" } : Jvm.MethodName)) ∈ big := big_of 733 rfl (by decide +kernel)
set_option maxRecDepth 20000 in
theorem mw_734 : (Jvm.Cond.code ({ cls := "BoxDrawerModel", name := "fail", desc := "(I)I" } : Jvm.MethodName) prog_4_method_3_code (2 : Nat) (Option.some Jvm.ClassFile.FieldType.int)) ∈ big := big_of 734 rfl (by decide +kernel)
set_option maxRecDepth 20000 in
theorem mw_735 : (Jvm.Cond.methodLink "BoxDrawerModel" (47 : Nat) ({ cls := "BoxDrawerModel", name := "areBounds", desc := "(IIII)Z" } : Jvm.MethodName)) ∈ big := big_of 735 rfl (by decide +kernel)
set_option maxRecDepth 20000 in
theorem mw_736 : (Jvm.Cond.static ({ cls := "BoxDrawerModel", name := "areBounds", desc := "(IIII)Z" } : Jvm.MethodName)) ∈ big := big_of 736 rfl (by decide +kernel)
set_option maxRecDepth 20000 in
theorem mw_737 : (Jvm.Cond.code ({ cls := "BoxDrawerModel", name := "areBounds", desc := "(IIII)Z" } : Jvm.MethodName) prog_4_method_6_code (4 : Nat) (Option.some Jvm.ClassFile.FieldType.boolean)) ∈ big := big_of 737 rfl (by decide +kernel)
set_option maxRecDepth 20000 in
theorem mw_738 : (Jvm.Cond.methodLink "BoxDrawerModel" (39 : Nat) ({ cls := "BoxDrawerModel", name := "isFar", desc := "(I)Z" } : Jvm.MethodName)) ∈ big := big_of 738 rfl (by decide +kernel)
set_option maxRecDepth 20000 in
theorem mw_739 : (Jvm.Cond.static ({ cls := "BoxDrawerModel", name := "isFar", desc := "(I)Z" } : Jvm.MethodName)) ∈ big := big_of 739 rfl (by decide +kernel)
set_option maxRecDepth 20000 in
theorem mw_740 : (Jvm.Cond.code ({ cls := "BoxDrawerModel", name := "isFar", desc := "(I)Z" } : Jvm.MethodName) prog_4_method_5_code (1 : Nat) (Option.some Jvm.ClassFile.FieldType.boolean)) ∈ big := big_of 740 rfl (by decide +kernel)
set_option maxRecDepth 20000 in
theorem mw_741 : (Jvm.Cond.constant "BoxDrawerModel" (33 : Nat) (-1000000000 : Int32)) ∈ big := big_of 741 rfl (by decide +kernel)
set_option maxRecDepth 20000 in
theorem mw_742 : (Jvm.Cond.constant "BoxDrawerModel" (34 : Nat) (1000000000 : Int32)) ∈ big := big_of 742 rfl (by decide +kernel)
set_option maxRecDepth 20000 in
theorem mw_743 : (Jvm.Cond.methodLink "BoxDrawerLaw" (63 : Nat) ({ cls := "BoxDrawerModel", name := "take", desc := "(I)Z" } : Jvm.MethodName)) ∈ big := big_of 743 rfl (by decide +kernel)
set_option maxRecDepth 20000 in
theorem mw_744 : (Jvm.Cond.instanceMethod ({ cls := "BoxDrawerModel", name := "take", desc := "(I)Z" } : Jvm.MethodName)) ∈ big := big_of 744 rfl (by decide +kernel)
set_option maxRecDepth 20000 in
theorem mw_745 : (Jvm.Cond.selects "BoxDrawerModel" ({ cls := "BoxDrawerModel", name := "take", desc := "(I)Z" } : Jvm.MethodName) ({ cls := "BoxDrawerModel", name := "take", desc := "(I)Z" } : Jvm.MethodName)) ∈ big := big_of 745 rfl (by decide +kernel)
set_option maxRecDepth 20000 in
theorem mw_746 : (Jvm.Cond.code ({ cls := "BoxDrawerModel", name := "take", desc := "(I)Z" } : Jvm.MethodName) prog_4_method_10_code (3 : Nat) (Option.some Jvm.ClassFile.FieldType.boolean)) ∈ big := big_of 746 rfl (by decide +kernel)
set_option maxRecDepth 20000 in
theorem mw_747 : (Jvm.Cond.methodLink "BoxDrawerLaw" (67 : Nat) ({ cls := "BoxDrawerModel", name := "clear", desc := "()I" } : Jvm.MethodName)) ∈ big := big_of 747 rfl (by decide +kernel)
set_option maxRecDepth 20000 in
theorem mw_748 : (Jvm.Cond.instanceMethod ({ cls := "BoxDrawerModel", name := "clear", desc := "()I" } : Jvm.MethodName)) ∈ big := big_of 748 rfl (by decide +kernel)
set_option maxRecDepth 20000 in
theorem mw_749 : (Jvm.Cond.selects "BoxDrawerModel" ({ cls := "BoxDrawerModel", name := "clear", desc := "()I" } : Jvm.MethodName) ({ cls := "BoxDrawerModel", name := "clear", desc := "()I" } : Jvm.MethodName)) ∈ big := big_of 749 rfl (by decide +kernel)
set_option maxRecDepth 20000 in
theorem mw_750 : (Jvm.Cond.code ({ cls := "BoxDrawerModel", name := "clear", desc := "()I" } : Jvm.MethodName) prog_4_method_11_code (3 : Nat) (Option.some Jvm.ClassFile.FieldType.int)) ∈ big := big_of 750 rfl (by decide +kernel)
set_option maxRecDepth 20000 in
theorem mw_751 : (Jvm.Cond.methodLink "BoxDrawerModel" (51 : Nat) ({ cls := "BoxDrawerModel", name := "many", desc := "()I" } : Jvm.MethodName)) ∈ big := big_of 751 rfl (by decide +kernel)
set_option maxRecDepth 20000 in
theorem mw_753 : (Jvm.Cond.instanceMethod ({ cls := "BoxDrawerModel", name := "many", desc := "()I" } : Jvm.MethodName)) ∈ big := big_of 753 rfl (by decide +kernel)
set_option maxRecDepth 20000 in
theorem mw_754 : (Jvm.Cond.code ({ cls := "BoxDrawerModel", name := "many", desc := "()I" } : Jvm.MethodName) prog_4_method_8_code (3 : Nat) (Option.some Jvm.ClassFile.FieldType.int)) ∈ big := big_of 754 rfl (by decide +kernel)
set_option maxRecDepth 20000 in
theorem mw_755 : (Jvm.Cond.methodLink "BoxDrawerLaw" (70 : Nat) ({ cls := "BoxDrawerModel", name := "find", desc := "(IIIII)I" } : Jvm.MethodName)) ∈ big := big_of 755 rfl (by decide +kernel)
set_option maxRecDepth 20000 in
theorem mw_756 : (Jvm.Cond.instanceMethod ({ cls := "BoxDrawerModel", name := "find", desc := "(IIIII)I" } : Jvm.MethodName)) ∈ big := big_of 756 rfl (by decide +kernel)
set_option maxRecDepth 20000 in
theorem mw_757 : (Jvm.Cond.selects "BoxDrawerModel" ({ cls := "BoxDrawerModel", name := "find", desc := "(IIIII)I" } : Jvm.MethodName) ({ cls := "BoxDrawerModel", name := "find", desc := "(IIIII)I" } : Jvm.MethodName)) ∈ big := big_of 757 rfl (by decide +kernel)
set_option maxRecDepth 20000 in
theorem mw_758 : (Jvm.Cond.code ({ cls := "BoxDrawerModel", name := "find", desc := "(IIIII)I" } : Jvm.MethodName) prog_4_method_15_code (8 : Nat) (Option.some Jvm.ClassFile.FieldType.int)) ∈ big := big_of 758 rfl (by decide +kernel)
set_option maxRecDepth 20000 in
theorem mw_759 : (Jvm.Cond.methodLink "BoxDrawerModel" (58 : Nat) ({ cls := "BoxDrawerModel", name := "meets", desc := "(IIIII)Z" } : Jvm.MethodName)) ∈ big := big_of 759 rfl (by decide +kernel)
set_option maxRecDepth 20000 in
theorem mw_761 : (Jvm.Cond.instanceMethod ({ cls := "BoxDrawerModel", name := "meets", desc := "(IIIII)Z" } : Jvm.MethodName)) ∈ big := big_of 761 rfl (by decide +kernel)
set_option maxRecDepth 20000 in
theorem mw_762 : (Jvm.Cond.code ({ cls := "BoxDrawerModel", name := "meets", desc := "(IIIII)Z" } : Jvm.MethodName) prog_4_method_12_code (6 : Nat) (Option.some Jvm.ClassFile.FieldType.boolean)) ∈ big := big_of 762 rfl (by decide +kernel)
set_option maxRecDepth 20000 in
theorem mw_763 : (Jvm.Cond.methodLink "BoxDrawerModel" (62 : Nat) ({ cls := "BoxDrawerModel", name := "lies", desc := "(IIIII)Z" } : Jvm.MethodName)) ∈ big := big_of 763 rfl (by decide +kernel)
set_option maxRecDepth 20000 in
theorem mw_765 : (Jvm.Cond.instanceMethod ({ cls := "BoxDrawerModel", name := "lies", desc := "(IIIII)Z" } : Jvm.MethodName)) ∈ big := big_of 765 rfl (by decide +kernel)
set_option maxRecDepth 20000 in
theorem mw_766 : (Jvm.Cond.code ({ cls := "BoxDrawerModel", name := "lies", desc := "(IIIII)Z" } : Jvm.MethodName) prog_4_method_13_code (6 : Nat) (Option.some Jvm.ClassFile.FieldType.boolean)) ∈ big := big_of 766 rfl (by decide +kernel)
set_option maxRecDepth 20000 in
theorem mw_767 : (Jvm.Cond.methodLink "BoxDrawerModel" (65 : Nat) ({ cls := "BoxDrawerModel", name := "has", desc := "(IIIII)Z" } : Jvm.MethodName)) ∈ big := big_of 767 rfl (by decide +kernel)
set_option maxRecDepth 20000 in
theorem mw_769 : (Jvm.Cond.instanceMethod ({ cls := "BoxDrawerModel", name := "has", desc := "(IIIII)Z" } : Jvm.MethodName)) ∈ big := big_of 769 rfl (by decide +kernel)
set_option maxRecDepth 20000 in
theorem mw_770 : (Jvm.Cond.code ({ cls := "BoxDrawerModel", name := "has", desc := "(IIIII)Z" } : Jvm.MethodName) prog_4_method_14_code (6 : Nat) (Option.some Jvm.ClassFile.FieldType.boolean)) ∈ big := big_of 770 rfl (by decide +kernel)
set_option maxRecDepth 20000 in
theorem mw_771 : (Jvm.Cond.methodLink "BoxDrawerLaw" (74 : Nat) ({ cls := "BoxDrawerModel", name := "nearest", desc := "(III)I" } : Jvm.MethodName)) ∈ big := big_of 771 rfl (by decide +kernel)
set_option maxRecDepth 20000 in
theorem mw_772 : (Jvm.Cond.instanceMethod ({ cls := "BoxDrawerModel", name := "nearest", desc := "(III)I" } : Jvm.MethodName)) ∈ big := big_of 772 rfl (by decide +kernel)
set_option maxRecDepth 20000 in
theorem mw_773 : (Jvm.Cond.selects "BoxDrawerModel" ({ cls := "BoxDrawerModel", name := "nearest", desc := "(III)I" } : Jvm.MethodName) ({ cls := "BoxDrawerModel", name := "nearest", desc := "(III)I" } : Jvm.MethodName)) ∈ big := big_of 773 rfl (by decide +kernel)
set_option maxRecDepth 20000 in
theorem mw_774 : (Jvm.Cond.code ({ cls := "BoxDrawerModel", name := "nearest", desc := "(III)I" } : Jvm.MethodName) prog_4_method_18_code (15 : Nat) (Option.some Jvm.ClassFile.FieldType.int)) ∈ big := big_of 774 rfl (by decide +kernel)
set_option maxRecDepth 20000 in
theorem mw_775 : (Jvm.Cond.constantLong "BoxDrawerModel" (72 : Nat) (-1 : Int64)) ∈ big := big_of 775 rfl (by decide +kernel)
set_option maxRecDepth 20000 in
theorem mw_776 : (Jvm.Cond.methodLink "BoxDrawerModel" (74 : Nat) ({ cls := "BoxDrawerModel", name := "away", desc := "(III)J" } : Jvm.MethodName)) ∈ big := big_of 776 rfl (by decide +kernel)
set_option maxRecDepth 20000 in
theorem mw_778 : (Jvm.Cond.instanceMethod ({ cls := "BoxDrawerModel", name := "away", desc := "(III)J" } : Jvm.MethodName)) ∈ big := big_of 778 rfl (by decide +kernel)
set_option maxRecDepth 20000 in
theorem mw_779 : (Jvm.Cond.code ({ cls := "BoxDrawerModel", name := "away", desc := "(III)J" } : Jvm.MethodName) prog_4_method_17_code (8 : Nat) (Option.some Jvm.ClassFile.FieldType.long)) ∈ big := big_of 779 rfl (by decide +kernel)
set_option maxRecDepth 20000 in
theorem mw_780 : (Jvm.Cond.methodLink "BoxDrawerModel" (68 : Nat) ({ cls := "BoxDrawerModel", name := "gap", desc := "(JJJ)J" } : Jvm.MethodName)) ∈ big := big_of 780 rfl (by decide +kernel)
set_option maxRecDepth 20000 in
theorem mw_781 : (Jvm.Cond.static ({ cls := "BoxDrawerModel", name := "gap", desc := "(JJJ)J" } : Jvm.MethodName)) ∈ big := big_of 781 rfl (by decide +kernel)
set_option maxRecDepth 20000 in
theorem mw_782 : (Jvm.Cond.code ({ cls := "BoxDrawerModel", name := "gap", desc := "(JJJ)J" } : Jvm.MethodName) prog_4_method_16_code (6 : Nat) (Option.some Jvm.ClassFile.FieldType.long)) ∈ big := big_of 782 rfl (by decide +kernel)
set_option maxRecDepth 20000 in
theorem mw_783 : (Jvm.Cond.methodLink "BoxDrawerLaw" (78 : Nat) ({ cls := "BoxDrawerModel", name := "pairs", desc := "()I" } : Jvm.MethodName)) ∈ big := big_of 783 rfl (by decide +kernel)
set_option maxRecDepth 20000 in
theorem mw_784 : (Jvm.Cond.instanceMethod ({ cls := "BoxDrawerModel", name := "pairs", desc := "()I" } : Jvm.MethodName)) ∈ big := big_of 784 rfl (by decide +kernel)
set_option maxRecDepth 20000 in
theorem mw_785 : (Jvm.Cond.selects "BoxDrawerModel" ({ cls := "BoxDrawerModel", name := "pairs", desc := "()I" } : Jvm.MethodName) ({ cls := "BoxDrawerModel", name := "pairs", desc := "()I" } : Jvm.MethodName)) ∈ big := big_of 785 rfl (by decide +kernel)
set_option maxRecDepth 20000 in
theorem mw_786 : (Jvm.Cond.code ({ cls := "BoxDrawerModel", name := "pairs", desc := "()I" } : Jvm.MethodName) prog_4_method_19_code (4 : Nat) (Option.some Jvm.ClassFile.FieldType.int)) ∈ big := big_of 786 rfl (by decide +kernel)
set_option maxRecDepth 20000 in
theorem mw_787 : (Jvm.Cond.methodLink "BoxDrawerLaw" (81 : Nat) ({ cls := "BoxDrawerModel", name := "distance", desc := "(III)J" } : Jvm.MethodName)) ∈ big := big_of 787 rfl (by decide +kernel)
set_option maxRecDepth 20000 in
theorem mw_788 : (Jvm.Cond.instanceMethod ({ cls := "BoxDrawerModel", name := "distance", desc := "(III)J" } : Jvm.MethodName)) ∈ big := big_of 788 rfl (by decide +kernel)
set_option maxRecDepth 20000 in
theorem mw_789 : (Jvm.Cond.selects "BoxDrawerModel" ({ cls := "BoxDrawerModel", name := "distance", desc := "(III)J" } : Jvm.MethodName) ({ cls := "BoxDrawerModel", name := "distance", desc := "(III)J" } : Jvm.MethodName)) ∈ big := big_of 789 rfl (by decide +kernel)
set_option maxRecDepth 20000 in
theorem mw_790 : (Jvm.Cond.code ({ cls := "BoxDrawerModel", name := "distance", desc := "(III)J" } : Jvm.MethodName) prog_4_method_20_code (4 : Nat) (Option.some Jvm.ClassFile.FieldType.long)) ∈ big := big_of 790 rfl (by decide +kernel)
set_option maxRecDepth 20000 in
theorem mw_791 : (Jvm.Cond.methodLink "BoxDrawerModel" (78 : Nat) ({ cls := "BoxDrawerModel", name := "isThere", desc := "(I)Z" } : Jvm.MethodName)) ∈ big := big_of 791 rfl (by decide +kernel)
set_option maxRecDepth 20000 in
theorem mw_793 : (Jvm.Cond.instanceMethod ({ cls := "BoxDrawerModel", name := "isThere", desc := "(I)Z" } : Jvm.MethodName)) ∈ big := big_of 793 rfl (by decide +kernel)
set_option maxRecDepth 20000 in
theorem mw_794 : (Jvm.Cond.code ({ cls := "BoxDrawerModel", name := "isThere", desc := "(I)Z" } : Jvm.MethodName) prog_4_method_7_code (2 : Nat) (Option.some Jvm.ClassFile.FieldType.boolean)) ∈ big := big_of 794 rfl (by decide +kernel)
set_option maxRecDepth 20000 in
theorem mw_795 : (Jvm.Cond.methodLink "BoxDrawerLaw" (84 : Nat) ({ cls := "BoxDrawerModel", name := "bounds", desc := "(I)I" } : Jvm.MethodName)) ∈ big := big_of 795 rfl (by decide +kernel)
set_option maxRecDepth 20000 in
theorem mw_796 : (Jvm.Cond.instanceMethod ({ cls := "BoxDrawerModel", name := "bounds", desc := "(I)I" } : Jvm.MethodName)) ∈ big := big_of 796 rfl (by decide +kernel)
set_option maxRecDepth 20000 in
theorem mw_797 : (Jvm.Cond.selects "BoxDrawerModel" ({ cls := "BoxDrawerModel", name := "bounds", desc := "(I)I" } : Jvm.MethodName) ({ cls := "BoxDrawerModel", name := "bounds", desc := "(I)I" } : Jvm.MethodName)) ∈ big := big_of 797 rfl (by decide +kernel)
set_option maxRecDepth 20000 in
theorem mw_798 : (Jvm.Cond.code ({ cls := "BoxDrawerModel", name := "bounds", desc := "(I)I" } : Jvm.MethodName) prog_4_method_22_code (4 : Nat) (Option.some Jvm.ClassFile.FieldType.int)) ∈ big := big_of 798 rfl (by decide +kernel)
set_option maxRecDepth 20000 in
theorem mw_799 : (Jvm.Cond.methodLink "BoxDrawerModel" (81 : Nat) ({ cls := "BoxDrawerModel", name := "bound", desc := "(II)I" } : Jvm.MethodName)) ∈ big := big_of 799 rfl (by decide +kernel)
set_option maxRecDepth 20000 in
theorem mw_801 : (Jvm.Cond.instanceMethod ({ cls := "BoxDrawerModel", name := "bound", desc := "(II)I" } : Jvm.MethodName)) ∈ big := big_of 801 rfl (by decide +kernel)
set_option maxRecDepth 20000 in
theorem mw_802 : (Jvm.Cond.code ({ cls := "BoxDrawerModel", name := "bound", desc := "(II)I" } : Jvm.MethodName) prog_4_method_21_code (3 : Nat) (Option.some Jvm.ClassFile.FieldType.int)) ∈ big := big_of 802 rfl (by decide +kernel)
set_option maxRecDepth 20000 in
theorem mw_803 : (Jvm.Cond.methodLink "BoxDrawerLaw" (87 : Nat) ({ cls := "BoxDrawerModel", name := "result", desc := "(I)I" } : Jvm.MethodName)) ∈ big := big_of 803 rfl (by decide +kernel)
set_option maxRecDepth 20000 in
theorem mw_804 : (Jvm.Cond.instanceMethod ({ cls := "BoxDrawerModel", name := "result", desc := "(I)I" } : Jvm.MethodName)) ∈ big := big_of 804 rfl (by decide +kernel)
set_option maxRecDepth 20000 in
theorem mw_805 : (Jvm.Cond.selects "BoxDrawerModel" ({ cls := "BoxDrawerModel", name := "result", desc := "(I)I" } : Jvm.MethodName) ({ cls := "BoxDrawerModel", name := "result", desc := "(I)I" } : Jvm.MethodName)) ∈ big := big_of 805 rfl (by decide +kernel)
set_option maxRecDepth 20000 in
theorem mw_806 : (Jvm.Cond.code ({ cls := "BoxDrawerModel", name := "result", desc := "(I)I" } : Jvm.MethodName) prog_4_method_23_code (2 : Nat) (Option.some Jvm.ClassFile.FieldType.int)) ∈ big := big_of 806 rfl (by decide +kernel)
set_option maxRecDepth 20000 in
theorem mw_807 : (Jvm.Cond.methodLink "BoxDrawerLaw" (91 : Nat) ({ cls := "BoxDrawerModel", name := "box", desc := "(II)I" } : Jvm.MethodName)) ∈ big := big_of 807 rfl (by decide +kernel)
set_option maxRecDepth 20000 in
theorem mw_808 : (Jvm.Cond.instanceMethod ({ cls := "BoxDrawerModel", name := "box", desc := "(II)I" } : Jvm.MethodName)) ∈ big := big_of 808 rfl (by decide +kernel)
set_option maxRecDepth 20000 in
theorem mw_809 : (Jvm.Cond.selects "BoxDrawerModel" ({ cls := "BoxDrawerModel", name := "box", desc := "(II)I" } : Jvm.MethodName) ({ cls := "BoxDrawerModel", name := "box", desc := "(II)I" } : Jvm.MethodName)) ∈ big := big_of 809 rfl (by decide +kernel)
set_option maxRecDepth 20000 in
theorem mw_810 : (Jvm.Cond.code ({ cls := "BoxDrawerModel", name := "box", desc := "(II)I" } : Jvm.MethodName) prog_4_method_24_code (3 : Nat) (Option.some Jvm.ClassFile.FieldType.int)) ∈ big := big_of 810 rfl (by decide +kernel)
set_option maxRecDepth 20000 in
theorem mw_811 : (Jvm.Cond.methodLink "BoxDrawerLaw" (95 : Nat) ({ cls := "BoxDrawerModel", name := "count", desc := "(I)I" } : Jvm.MethodName)) ∈ big := big_of 811 rfl (by decide +kernel)
set_option maxRecDepth 20000 in
theorem mw_812 : (Jvm.Cond.instanceMethod ({ cls := "BoxDrawerModel", name := "count", desc := "(I)I" } : Jvm.MethodName)) ∈ big := big_of 812 rfl (by decide +kernel)
set_option maxRecDepth 20000 in
theorem mw_813 : (Jvm.Cond.selects "BoxDrawerModel" ({ cls := "BoxDrawerModel", name := "count", desc := "(I)I" } : Jvm.MethodName) ({ cls := "BoxDrawerModel", name := "count", desc := "(I)I" } : Jvm.MethodName)) ∈ big := big_of 813 rfl (by decide +kernel)
set_option maxRecDepth 20000 in
theorem mw_814 : (Jvm.Cond.code ({ cls := "BoxDrawerModel", name := "count", desc := "(I)I" } : Jvm.MethodName) prog_4_method_25_code (2 : Nat) (Option.some Jvm.ClassFile.FieldType.int)) ∈ big := big_of 814 rfl (by decide +kernel)
set_option maxRecDepth 20000 in
theorem mw_815 : (Jvm.Cond.sameMethod "java/lang/Throwable" "java/lang/Throwable" "fillInStackTrace" "(I)Ljava/lang/Throwable;") ∈ big := big_of 815 rfl (by decide +kernel)
set_option maxRecDepth 20000 in
theorem mt_824 : (Jvm.Cond.castable "BoxDrawer$Box" "BoxDrawer$Box") ∈ lw_tbl := tab_of 824 rfl
set_option maxRecDepth 20000 in
theorem mw_825 : (Jvm.Cond.sameMethod "[Ljava/lang/Object;" "java/lang/Object" "getClass" "()Ljava/lang/Class;") ∈ big := big_of 825 rfl (by decide +kernel)
set_option maxRecDepth 20000 in
theorem mw_826 : (Jvm.Cond.selects "[Ljava/lang/Object;" ({ cls := "java/lang/Object", name := "getClass", desc := "()Ljava/lang/Class;" } : Jvm.MethodName) ({ cls := "java/lang/Object", name := "getClass", desc := "()Ljava/lang/Class;" } : Jvm.MethodName)) ∈ big := big_of 826 rfl (by decide +kernel)
set_option maxRecDepth 20000 in
theorem mt_827 : (Jvm.Cond.declares ({ cls := "java/lang/Object", name := "getClass", desc := "()Ljava/lang/Class;" } : Jvm.MethodName)) ∈ lw_tbl := tab_of 827 rfl
set_option maxRecDepth 20000 in
theorem mt_828 : (Jvm.Cond.castable "BoxDrawer" "java/lang/Object") ∈ lw_tbl := tab_of 828 rfl
set_option maxRecDepth 20000 in
theorem mt_829 : (Jvm.Cond.castable "BoxDrawerModel" "java/lang/Object") ∈ lw_tbl := tab_of 829 rfl
set_option maxRecDepth 20000 in
theorem mt_830 : (Jvm.Cond.castable "BoxDrawer$Box" "java/lang/Object") ∈ lw_tbl := tab_of 830 rfl
set_option maxRecDepth 20000 in
theorem mt_831 : (Jvm.Cond.castable "java/lang/String" "java/lang/Object") ∈ lw_tbl := tab_of 831 rfl
