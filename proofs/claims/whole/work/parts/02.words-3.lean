set_option maxRecDepth 100000 in
theorem xw_475 : (Jvm.Cond.methodLink "HyperHost$Translator" (128 : Nat) ({ cls := "HyperHost$Translator", name := "nextPlace", desc := "(IJ)J" } : Jvm.MethodName)) ∈ lw_g := xg_in 547 (by decide +kernel) (by decide +kernel)
set_option maxRecDepth 100000 in
theorem xw_476 : (Jvm.Cond.static ({ cls := "HyperHost$Translator", name := "nextPlace", desc := "(IJ)J" } : Jvm.MethodName)) ∈ lw_g := xg_in 548 (by decide +kernel) (by decide +kernel)
set_option maxRecDepth 100000 in
theorem xw_477 : (Jvm.Cond.code ({ cls := "HyperHost$Translator", name := "nextPlace", desc := "(IJ)J" } : Jvm.MethodName) prog_10_method_9_code (3 : Nat) (Option.some Jvm.ClassFile.FieldType.long)) ∈ lw_g := xg_in 549 (by decide +kernel) (by decide +kernel)
set_option maxRecDepth 100000 in
theorem xw_478 : (Jvm.Cond.constantLong "HyperHost$Translator" (150 : Nat) (1023 : Int64)) ∈ lw_g := xg_in 550 (by decide +kernel) (by decide +kernel)
set_option maxRecDepth 100000 in
theorem xw_479 : (Jvm.Cond.methodLink "HyperHost$Translator" (104 : Nat) ({ cls := "HyperHost$Translator", name := "guestVerdict", desc := "(JJI)J" } : Jvm.MethodName)) ∈ lw_g := xg_in 551 (by decide +kernel) (by decide +kernel)
set_option maxRecDepth 100000 in
theorem xw_481 : (Jvm.Cond.instanceMethod ({ cls := "HyperHost$Translator", name := "guestVerdict", desc := "(JJI)J" } : Jvm.MethodName)) ∈ lw_g := xg_in 553 (by decide +kernel) (by decide +kernel)
set_option maxRecDepth 100000 in
theorem xw_482 : (Jvm.Cond.code ({ cls := "HyperHost$Translator", name := "guestVerdict", desc := "(JJI)J" } : Jvm.MethodName) prog_10_method_5_code (6 : Nat) (Option.some Jvm.ClassFile.FieldType.long)) ∈ lw_g := xg_in 554 (by decide +kernel) (by decide +kernel)
set_option maxRecDepth 100000 in
theorem xw_483 : (Jvm.Cond.constantLong "HyperHost$Translator" (137 : Nat) (-2 : Int64)) ∈ lw_g := xg_in 555 (by decide +kernel) (by decide +kernel)
set_option maxRecDepth 100000 in
theorem xw_484 : (Jvm.Cond.methodLink "HyperHost$Translator" (89 : Nat) ({ cls := "HyperHost$Translator", name := "secondStage", desc := "(JLHyperHost$Access;)J" } : Jvm.MethodName)) ∈ lw_g := xg_in 556 (by decide +kernel) (by decide +kernel)
set_option maxRecDepth 100000 in
theorem xw_486 : (Jvm.Cond.instanceMethod ({ cls := "HyperHost$Translator", name := "secondStage", desc := "(JLHyperHost$Access;)J" } : Jvm.MethodName)) ∈ lw_g := xg_in 558 (by decide +kernel) (by decide +kernel)
set_option maxRecDepth 100000 in
theorem xw_487 : (Jvm.Cond.code ({ cls := "HyperHost$Translator", name := "secondStage", desc := "(JLHyperHost$Access;)J" } : Jvm.MethodName) prog_10_method_4_code (7 : Nat) (Option.some Jvm.ClassFile.FieldType.long)) ∈ lw_g := xg_in 559 (by decide +kernel) (by decide +kernel)
set_option maxRecDepth 100000 in
theorem xw_488 : (Jvm.Cond.methodLink "HyperHost$Translator" (93 : Nat) ({ cls := "HyperHost$Access", name := "causeOf", desc := "(J)I" } : Jvm.MethodName)) ∈ lw_g := xg_in 560 (by decide +kernel) (by decide +kernel)
set_option maxRecDepth 100000 in
theorem xw_489 : (Jvm.Cond.instanceMethod ({ cls := "HyperHost$Access", name := "causeOf", desc := "(J)I" } : Jvm.MethodName)) ∈ lw_g := xg_in 561 (by decide +kernel) (by decide +kernel)
set_option maxRecDepth 100000 in
theorem xw_490 : (Jvm.Cond.selects "HyperHost$Access" ({ cls := "HyperHost$Access", name := "causeOf", desc := "(J)I" } : Jvm.MethodName) ({ cls := "HyperHost$Access", name := "causeOf", desc := "(J)I" } : Jvm.MethodName)) ∈ lw_g := xg_in 562 (by decide +kernel) (by decide +kernel)
set_option maxRecDepth 100000 in
theorem xw_491 : (Jvm.Cond.code ({ cls := "HyperHost$Access", name := "causeOf", desc := "(J)I" } : Jvm.MethodName) prog_2_method_4_code (3 : Nat) (Option.some Jvm.ClassFile.FieldType.int)) ∈ lw_g := xg_in 563 (by decide +kernel) (by decide +kernel)
set_option maxRecDepth 100000 in
theorem xw_492 : (Jvm.Cond.constantLong "HyperHost$Access" (56 : Nat) (-1 : Int64)) ∈ lw_g := xg_in 564 (by decide +kernel) (by decide +kernel)
set_option maxRecDepth 100000 in
theorem xw_493 : (Jvm.Cond.constantLong "HyperHost$Access" (58 : Nat) (-2 : Int64)) ∈ lw_g := xg_in 565 (by decide +kernel) (by decide +kernel)
set_option maxRecDepth 100000 in
theorem xw_494 : (Jvm.Cond.methodLink "HyperHost$Core" (97 : Nat) ({ cls := "HyperHost$Memory", name := "readWord", desc := "(I)I" } : Jvm.MethodName)) ∈ lw_g := xg_in 566 (by decide +kernel) (by decide +kernel)
set_option maxRecDepth 100000 in
theorem xw_495 : (Jvm.Cond.methodLink "HyperHost" (76 : Nat) ({ cls := "HyperHost$Core", name := "perform", desc := "()V" } : Jvm.MethodName)) ∈ lw_g := xg_in 567 (by decide +kernel) (by decide +kernel)
set_option maxRecDepth 100000 in
theorem xw_496 : (Jvm.Cond.instanceMethod ({ cls := "HyperHost$Core", name := "perform", desc := "()V" } : Jvm.MethodName)) ∈ lw_g := xg_in 568 (by decide +kernel) (by decide +kernel)
set_option maxRecDepth 100000 in
theorem xw_497 : (Jvm.Cond.selects "HyperHost$Core" ({ cls := "HyperHost$Core", name := "perform", desc := "()V" } : Jvm.MethodName) ({ cls := "HyperHost$Core", name := "perform", desc := "()V" } : Jvm.MethodName)) ∈ lw_g := xg_in 569 (by decide +kernel) (by decide +kernel)
set_option maxRecDepth 100000 in
theorem xw_498 : (Jvm.Cond.code ({ cls := "HyperHost$Core", name := "perform", desc := "()V" } : Jvm.MethodName) prog_6_method_8_code (2 : Nat) (Option.none : Option Jvm.ClassFile.FieldType)) ∈ lw_g := xg_in 570 (by decide +kernel) (by decide +kernel)
set_option maxRecDepth 100000 in
theorem xw_499 : (Jvm.Cond.methodLink "HyperHost$Core" (162 : Nat) ({ cls := "HyperHost$Fields", name := "f", desc := "(I)I" } : Jvm.MethodName)) ∈ lw_g := xg_in 571 (by decide +kernel) (by decide +kernel)
set_option maxRecDepth 100000 in
theorem xw_500 : (Jvm.Cond.static ({ cls := "HyperHost$Fields", name := "f", desc := "(I)I" } : Jvm.MethodName)) ∈ lw_g := xg_in 572 (by decide +kernel) (by decide +kernel)
set_option maxRecDepth 100000 in
theorem xw_501 : (Jvm.Cond.code ({ cls := "HyperHost$Fields", name := "f", desc := "(I)I" } : Jvm.MethodName) prog_7_method_4_code (1 : Nat) (Option.some Jvm.ClassFile.FieldType.int)) ∈ lw_g := xg_in 573 (by decide +kernel) (by decide +kernel)
set_option maxRecDepth 100000 in
theorem xw_502 : (Jvm.Cond.methodLink "HyperHost$Core" (167 : Nat) ({ cls := "HyperHost$Fields", name := "op", desc := "(I)I" } : Jvm.MethodName)) ∈ lw_g := xg_in 574 (by decide +kernel) (by decide +kernel)
set_option maxRecDepth 100000 in
theorem xw_503 : (Jvm.Cond.static ({ cls := "HyperHost$Fields", name := "op", desc := "(I)I" } : Jvm.MethodName)) ∈ lw_g := xg_in 575 (by decide +kernel) (by decide +kernel)
set_option maxRecDepth 100000 in
theorem xw_504 : (Jvm.Cond.code ({ cls := "HyperHost$Fields", name := "op", desc := "(I)I" } : Jvm.MethodName) prog_7_method_2_code (1 : Nat) (Option.some Jvm.ClassFile.FieldType.int)) ∈ lw_g := xg_in 576 (by decide +kernel) (by decide +kernel)
set_option maxRecDepth 100000 in
theorem xw_505 : (Jvm.Cond.methodLink "HyperHost$Core" (170 : Nat) ({ cls := "HyperHost$Core", name := "loadOp", desc := "()V" } : Jvm.MethodName)) ∈ lw_g := xg_in 577 (by decide +kernel) (by decide +kernel)
set_option maxRecDepth 100000 in
theorem xw_507 : (Jvm.Cond.instanceMethod ({ cls := "HyperHost$Core", name := "loadOp", desc := "()V" } : Jvm.MethodName)) ∈ lw_g := xg_in 579 (by decide +kernel) (by decide +kernel)
set_option maxRecDepth 100000 in
theorem xw_508 : (Jvm.Cond.code ({ cls := "HyperHost$Core", name := "loadOp", desc := "()V" } : Jvm.MethodName) prog_6_method_16_code (2 : Nat) (Option.none : Option Jvm.ClassFile.FieldType)) ∈ lw_g := xg_in 580 (by decide +kernel) (by decide +kernel)
set_option maxRecDepth 100000 in
theorem xw_509 : (Jvm.Cond.methodLink "HyperHost$Core" (215 : Nat) ({ cls := "HyperHost$Core", name := "refuse", desc := "(I)V" } : Jvm.MethodName)) ∈ lw_g := xg_in 581 (by decide +kernel) (by decide +kernel)
set_option maxRecDepth 100000 in
theorem xw_511 : (Jvm.Cond.instanceMethod ({ cls := "HyperHost$Core", name := "refuse", desc := "(I)V" } : Jvm.MethodName)) ∈ lw_g := xg_in 583 (by decide +kernel) (by decide +kernel)
set_option maxRecDepth 100000 in
theorem xw_512 : (Jvm.Cond.code ({ cls := "HyperHost$Core", name := "refuse", desc := "(I)V" } : Jvm.MethodName) prog_6_method_9_code (2 : Nat) (Option.none : Option Jvm.ClassFile.FieldType)) ∈ lw_g := xg_in 584 (by decide +kernel) (by decide +kernel)
set_option maxRecDepth 100000 in
theorem xw_513 : (Jvm.Cond.methodLink "HyperHost$Core" (218 : Nat) ({ cls := "HyperHost$Fields", name := "a", desc := "(I)I" } : Jvm.MethodName)) ∈ lw_g := xg_in 585 (by decide +kernel) (by decide +kernel)
set_option maxRecDepth 100000 in
theorem xw_514 : (Jvm.Cond.static ({ cls := "HyperHost$Fields", name := "a", desc := "(I)I" } : Jvm.MethodName)) ∈ lw_g := xg_in 586 (by decide +kernel) (by decide +kernel)
set_option maxRecDepth 100000 in
theorem xw_515 : (Jvm.Cond.code ({ cls := "HyperHost$Fields", name := "a", desc := "(I)I" } : Jvm.MethodName) prog_7_method_5_code (1 : Nat) (Option.some Jvm.ClassFile.FieldType.int)) ∈ lw_g := xg_in 587 (by decide +kernel) (by decide +kernel)
set_option maxRecDepth 100000 in
theorem xw_516 : (Jvm.Cond.methodLink "HyperHost$Core" (221 : Nat) ({ cls := "HyperHost$Fields", name := "immediate", desc := "(I)I" } : Jvm.MethodName)) ∈ lw_g := xg_in 588 (by decide +kernel) (by decide +kernel)
set_option maxRecDepth 100000 in
theorem xw_517 : (Jvm.Cond.static ({ cls := "HyperHost$Fields", name := "immediate", desc := "(I)I" } : Jvm.MethodName)) ∈ lw_g := xg_in 589 (by decide +kernel) (by decide +kernel)
set_option maxRecDepth 100000 in
theorem xw_518 : (Jvm.Cond.code ({ cls := "HyperHost$Fields", name := "immediate", desc := "(I)I" } : Jvm.MethodName) prog_7_method_8_code (1 : Nat) (Option.some Jvm.ClassFile.FieldType.int)) ∈ lw_g := xg_in 590 (by decide +kernel) (by decide +kernel)
set_option maxRecDepth 100000 in
theorem xw_519 : (Jvm.Cond.fieldLink "HyperHost$Core" (252 : Nat) "HyperHost$Access" "LOAD" "LHyperHost$Access;") ∈ lw_g := xg_in 591 (by decide +kernel) (by decide +kernel)
set_option maxRecDepth 100000 in
theorem xw_520 : (Jvm.Cond.methodLink "HyperHost$Core" (255 : Nat) ({ cls := "HyperHost$Core", name := "load", desc := "(IIZLHyperHost$Access;I)V" } : Jvm.MethodName)) ∈ lw_g := xg_in 592 (by decide +kernel) (by decide +kernel)
set_option maxRecDepth 100000 in
theorem xw_522 : (Jvm.Cond.instanceMethod ({ cls := "HyperHost$Core", name := "load", desc := "(IIZLHyperHost$Access;I)V" } : Jvm.MethodName)) ∈ lw_g := xg_in 594 (by decide +kernel) (by decide +kernel)
set_option maxRecDepth 100000 in
theorem xw_523 : (Jvm.Cond.code ({ cls := "HyperHost$Core", name := "load", desc := "(IIZLHyperHost$Access;I)V" } : Jvm.MethodName) prog_6_method_18_code (8 : Nat) (Option.none : Option Jvm.ClassFile.FieldType)) ∈ lw_g := xg_in 595 (by decide +kernel) (by decide +kernel)
set_option maxRecDepth 100000 in
theorem xw_524 : (Jvm.Cond.methodLink "HyperHost$Core" (266 : Nat) ({ cls := "HyperHost$Memory", name := "read", desc := "(II)I" } : Jvm.MethodName)) ∈ lw_g := xg_in 596 (by decide +kernel) (by decide +kernel)
set_option maxRecDepth 100000 in
theorem xw_525 : (Jvm.Cond.instanceMethod ({ cls := "HyperHost$Memory", name := "read", desc := "(II)I" } : Jvm.MethodName)) ∈ lw_g := xg_in 597 (by decide +kernel) (by decide +kernel)
set_option maxRecDepth 100000 in
theorem xw_526 : (Jvm.Cond.selects "HyperHost$Memory" ({ cls := "HyperHost$Memory", name := "read", desc := "(II)I" } : Jvm.MethodName) ({ cls := "HyperHost$Memory", name := "read", desc := "(II)I" } : Jvm.MethodName)) ∈ lw_g := xg_in 598 (by decide +kernel) (by decide +kernel)
set_option maxRecDepth 100000 in
theorem xw_527 : (Jvm.Cond.code ({ cls := "HyperHost$Memory", name := "read", desc := "(II)I" } : Jvm.MethodName) prog_9_method_5_code (4 : Nat) (Option.some Jvm.ClassFile.FieldType.int)) ∈ lw_g := xg_in 599 (by decide +kernel) (by decide +kernel)
set_option maxRecDepth 100000 in
theorem xw_528 : (Jvm.Cond.methodLink "HyperHost$Memory" (32 : Nat) ({ cls := "HyperHost$Memory", name := "readWord", desc := "(I)I" } : Jvm.MethodName)) ∈ lw_g := xg_in 600 (by decide +kernel) (by decide +kernel)
set_option maxRecDepth 100000 in
theorem xw_529 : (Jvm.Cond.methodLink "HyperHost$Core" (179 : Nat) ({ cls := "HyperHost$Fields", name := "d", desc := "(I)I" } : Jvm.MethodName)) ∈ lw_g := xg_in 601 (by decide +kernel) (by decide +kernel)
set_option maxRecDepth 100000 in
theorem xw_530 : (Jvm.Cond.static ({ cls := "HyperHost$Fields", name := "d", desc := "(I)I" } : Jvm.MethodName)) ∈ lw_g := xg_in 602 (by decide +kernel) (by decide +kernel)
set_option maxRecDepth 100000 in
theorem xw_531 : (Jvm.Cond.code ({ cls := "HyperHost$Fields", name := "d", desc := "(I)I" } : Jvm.MethodName) prog_7_method_3_code (1 : Nat) (Option.some Jvm.ClassFile.FieldType.int)) ∈ lw_g := xg_in 603 (by decide +kernel) (by decide +kernel)
set_option maxRecDepth 100000 in
theorem xw_532 : (Jvm.Cond.constant "HyperHost$Core" (270 : Nat) (65535 : Int32)) ∈ lw_g := xg_in 604 (by decide +kernel) (by decide +kernel)
set_option maxRecDepth 100000 in
theorem xw_533 : (Jvm.Cond.methodLink "HyperHost$Core" (185 : Nat) ({ cls := "HyperHost$Core", name := "put", desc := "(II)V" } : Jvm.MethodName)) ∈ lw_g := xg_in 605 (by decide +kernel) (by decide +kernel)
set_option maxRecDepth 100000 in
theorem xw_534 : (Jvm.Cond.methodLink "HyperHost$Core" (173 : Nat) ({ cls := "HyperHost$Core", name := "fenceOp", desc := "()V" } : Jvm.MethodName)) ∈ lw_g := xg_in 606 (by decide +kernel) (by decide +kernel)
set_option maxRecDepth 100000 in
theorem xw_536 : (Jvm.Cond.instanceMethod ({ cls := "HyperHost$Core", name := "fenceOp", desc := "()V" } : Jvm.MethodName)) ∈ lw_g := xg_in 608 (by decide +kernel) (by decide +kernel)
set_option maxRecDepth 100000 in
theorem xw_537 : (Jvm.Cond.code ({ cls := "HyperHost$Core", name := "fenceOp", desc := "()V" } : Jvm.MethodName) prog_6_method_13_code (1 : Nat) (Option.none : Option Jvm.ClassFile.FieldType)) ∈ lw_g := xg_in 609 (by decide +kernel) (by decide +kernel)
set_option maxRecDepth 100000 in
theorem xw_538 : (Jvm.Cond.methodLink "HyperHost$Core" (176 : Nat) ({ cls := "HyperHost$Core", name := "immediateOp", desc := "()V" } : Jvm.MethodName)) ∈ lw_g := xg_in 610 (by decide +kernel) (by decide +kernel)
set_option maxRecDepth 100000 in
theorem xw_540 : (Jvm.Cond.instanceMethod ({ cls := "HyperHost$Core", name := "immediateOp", desc := "()V" } : Jvm.MethodName)) ∈ lw_g := xg_in 612 (by decide +kernel) (by decide +kernel)
set_option maxRecDepth 100000 in
theorem xw_541 : (Jvm.Cond.code ({ cls := "HyperHost$Core", name := "immediateOp", desc := "()V" } : Jvm.MethodName) prog_6_method_14_code (4 : Nat) (Option.none : Option Jvm.ClassFile.FieldType)) ∈ lw_g := xg_in 613 (by decide +kernel) (by decide +kernel)
set_option maxRecDepth 100000 in
theorem xw_542 : (Jvm.Cond.methodLink "HyperHost$Core" (239 : Nat) ({ cls := "HyperHost$Fields", name := "g", desc := "(I)I" } : Jvm.MethodName)) ∈ lw_g := xg_in 614 (by decide +kernel) (by decide +kernel)
set_option maxRecDepth 100000 in
theorem xw_543 : (Jvm.Cond.static ({ cls := "HyperHost$Fields", name := "g", desc := "(I)I" } : Jvm.MethodName)) ∈ lw_g := xg_in 615 (by decide +kernel) (by decide +kernel)
set_option maxRecDepth 100000 in
theorem xw_544 : (Jvm.Cond.code ({ cls := "HyperHost$Fields", name := "g", desc := "(I)I" } : Jvm.MethodName) prog_7_method_7_code (1 : Nat) (Option.some Jvm.ClassFile.FieldType.int)) ∈ lw_g := xg_in 616 (by decide +kernel) (by decide +kernel)
set_option maxRecDepth 100000 in
theorem xw_545 : (Jvm.Cond.methodLink "HyperHost$Core" (229 : Nat) ({ cls := "HyperHost$Fields", name := "b", desc := "(I)I" } : Jvm.MethodName)) ∈ lw_g := xg_in 617 (by decide +kernel) (by decide +kernel)
set_option maxRecDepth 100000 in
theorem xw_546 : (Jvm.Cond.static ({ cls := "HyperHost$Fields", name := "b", desc := "(I)I" } : Jvm.MethodName)) ∈ lw_g := xg_in 618 (by decide +kernel) (by decide +kernel)
set_option maxRecDepth 100000 in
theorem xw_547 : (Jvm.Cond.code ({ cls := "HyperHost$Fields", name := "b", desc := "(I)I" } : Jvm.MethodName) prog_7_method_6_code (1 : Nat) (Option.some Jvm.ClassFile.FieldType.int)) ∈ lw_g := xg_in 619 (by decide +kernel) (by decide +kernel)
set_option maxRecDepth 100000 in
theorem xw_548 : (Jvm.Cond.methodLink "HyperHost$Core" (242 : Nat) ({ cls := "HyperHost$Arithmetic", name := "combine", desc := "(III)I" } : Jvm.MethodName)) ∈ lw_g := xg_in 620 (by decide +kernel) (by decide +kernel)
set_option maxRecDepth 100000 in
theorem xw_549 : (Jvm.Cond.static ({ cls := "HyperHost$Arithmetic", name := "combine", desc := "(III)I" } : Jvm.MethodName)) ∈ lw_g := xg_in 621 (by decide +kernel) (by decide +kernel)
set_option maxRecDepth 100000 in
theorem xw_550 : (Jvm.Cond.code ({ cls := "HyperHost$Arithmetic", name := "combine", desc := "(III)I" } : Jvm.MethodName) prog_3_method_3_code (3 : Nat) (Option.some Jvm.ClassFile.FieldType.int)) ∈ lw_g := xg_in 622 (by decide +kernel) (by decide +kernel)
set_option maxRecDepth 100000 in
theorem xw_551 : (Jvm.Cond.methodLink "HyperHost$Arithmetic" (11 : Nat) ({ cls := "HyperHost$Arithmetic", name := "lessNoSign", desc := "(II)Z" } : Jvm.MethodName)) ∈ lw_g := xg_in 623 (by decide +kernel) (by decide +kernel)
set_option maxRecDepth 100000 in
theorem xw_552 : (Jvm.Cond.static ({ cls := "HyperHost$Arithmetic", name := "lessNoSign", desc := "(II)Z" } : Jvm.MethodName)) ∈ lw_g := xg_in 624 (by decide +kernel) (by decide +kernel)
set_option maxRecDepth 100000 in
theorem xw_553 : (Jvm.Cond.code ({ cls := "HyperHost$Arithmetic", name := "lessNoSign", desc := "(II)Z" } : Jvm.MethodName) prog_3_method_2_code (2 : Nat) (Option.some Jvm.ClassFile.FieldType.boolean)) ∈ lw_g := xg_in 625 (by decide +kernel) (by decide +kernel)
set_option maxRecDepth 100000 in
theorem xw_554 : (Jvm.Cond.constantLong "HyperHost$Arithmetic" (9 : Nat) (4294967295 : Int64)) ∈ lw_g := xg_in 626 (by decide +kernel) (by decide +kernel)
set_option maxRecDepth 100000 in
theorem xw_555 : (Jvm.Cond.methodLink "HyperHost$Core" (182 : Nat) ({ cls := "HyperHost$Fields", name := "upper", desc := "(I)I" } : Jvm.MethodName)) ∈ lw_g := xg_in 627 (by decide +kernel) (by decide +kernel)
set_option maxRecDepth 100000 in
theorem xw_556 : (Jvm.Cond.static ({ cls := "HyperHost$Fields", name := "upper", desc := "(I)I" } : Jvm.MethodName)) ∈ lw_g := xg_in 628 (by decide +kernel) (by decide +kernel)
set_option maxRecDepth 100000 in
theorem xw_557 : (Jvm.Cond.code ({ cls := "HyperHost$Fields", name := "upper", desc := "(I)I" } : Jvm.MethodName) prog_7_method_12_code (1 : Nat) (Option.some Jvm.ClassFile.FieldType.int)) ∈ lw_g := xg_in 629 (by decide +kernel) (by decide +kernel)
set_option maxRecDepth 100000 in
theorem xw_558 : (Jvm.Cond.methodLink "HyperHost$Core" (188 : Nat) ({ cls := "HyperHost$Core", name := "storeOp", desc := "()V" } : Jvm.MethodName)) ∈ lw_g := xg_in 630 (by decide +kernel) (by decide +kernel)
set_option maxRecDepth 100000 in
theorem xw_560 : (Jvm.Cond.instanceMethod ({ cls := "HyperHost$Core", name := "storeOp", desc := "()V" } : Jvm.MethodName)) ∈ lw_g := xg_in 632 (by decide +kernel) (by decide +kernel)
set_option maxRecDepth 100000 in
theorem xw_561 : (Jvm.Cond.code ({ cls := "HyperHost$Core", name := "storeOp", desc := "()V" } : Jvm.MethodName) prog_6_method_17_code (2 : Nat) (Option.none : Option Jvm.ClassFile.FieldType)) ∈ lw_g := xg_in 633 (by decide +kernel) (by decide +kernel)
set_option maxRecDepth 100000 in
theorem xw_562 : (Jvm.Cond.methodLink "HyperHost$Core" (259 : Nat) ({ cls := "HyperHost$Fields", name := "storeOffset", desc := "(I)I" } : Jvm.MethodName)) ∈ lw_g := xg_in 634 (by decide +kernel) (by decide +kernel)
set_option maxRecDepth 100000 in
theorem xw_563 : (Jvm.Cond.static ({ cls := "HyperHost$Fields", name := "storeOffset", desc := "(I)I" } : Jvm.MethodName)) ∈ lw_g := xg_in 635 (by decide +kernel) (by decide +kernel)
set_option maxRecDepth 100000 in
theorem xw_564 : (Jvm.Cond.code ({ cls := "HyperHost$Fields", name := "storeOffset", desc := "(I)I" } : Jvm.MethodName) prog_7_method_9_code (1 : Nat) (Option.some Jvm.ClassFile.FieldType.int)) ∈ lw_g := xg_in 636 (by decide +kernel) (by decide +kernel)
set_option maxRecDepth 100000 in
theorem xw_565 : (Jvm.Cond.methodLink "HyperHost$Fields" (7 : Nat) ({ cls := "HyperHost$Fields", name := "d", desc := "(I)I" } : Jvm.MethodName)) ∈ lw_g := xg_in 637 (by decide +kernel) (by decide +kernel)
set_option maxRecDepth 100000 in
theorem xw_566 : (Jvm.Cond.methodLink "HyperHost$Core" (262 : Nat) ({ cls := "HyperHost$Core", name := "store", desc := "(III)V" } : Jvm.MethodName)) ∈ lw_g := xg_in 638 (by decide +kernel) (by decide +kernel)
set_option maxRecDepth 100000 in
theorem xw_568 : (Jvm.Cond.instanceMethod ({ cls := "HyperHost$Core", name := "store", desc := "(III)V" } : Jvm.MethodName)) ∈ lw_g := xg_in 640 (by decide +kernel) (by decide +kernel)
set_option maxRecDepth 100000 in
theorem xw_569 : (Jvm.Cond.code ({ cls := "HyperHost$Core", name := "store", desc := "(III)V" } : Jvm.MethodName) prog_6_method_19_code (5 : Nat) (Option.none : Option Jvm.ClassFile.FieldType)) ∈ lw_g := xg_in 641 (by decide +kernel) (by decide +kernel)
set_option maxRecDepth 100000 in
theorem xw_570 : (Jvm.Cond.fieldLink "HyperHost$Core" (271 : Nat) "HyperHost$Access" "STORE" "LHyperHost$Access;") ∈ lw_g := xg_in 642 (by decide +kernel) (by decide +kernel)
set_option maxRecDepth 100000 in
theorem xw_572 : (Jvm.Cond.methodLink "HyperHost$Core" (274 : Nat) ({ cls := "HyperHost$Memory", name := "write", desc := "(III)V" } : Jvm.MethodName)) ∈ lw_g := xg_in 644 (by decide +kernel) (by decide +kernel)
set_option maxRecDepth 100000 in
theorem xw_573 : (Jvm.Cond.instanceMethod ({ cls := "HyperHost$Memory", name := "write", desc := "(III)V" } : Jvm.MethodName)) ∈ lw_g := xg_in 645 (by decide +kernel) (by decide +kernel)
set_option maxRecDepth 100000 in
theorem xw_574 : (Jvm.Cond.selects "HyperHost$Memory" ({ cls := "HyperHost$Memory", name := "write", desc := "(III)V" } : Jvm.MethodName) ({ cls := "HyperHost$Memory", name := "write", desc := "(III)V" } : Jvm.MethodName)) ∈ lw_g := xg_in 646 (by decide +kernel) (by decide +kernel)
set_option maxRecDepth 100000 in
theorem xw_575 : (Jvm.Cond.code ({ cls := "HyperHost$Memory", name := "write", desc := "(III)V" } : Jvm.MethodName) prog_9_method_6_code (6 : Nat) (Option.none : Option Jvm.ClassFile.FieldType)) ∈ lw_g := xg_in 647 (by decide +kernel) (by decide +kernel)
set_option maxRecDepth 100000 in
theorem xw_576 : (Jvm.Cond.methodLink "HyperHost$Memory" (36 : Nat) ({ cls := "HyperHost$Memory", name := "writeWord", desc := "(II)V" } : Jvm.MethodName)) ∈ lw_g := xg_in 648 (by decide +kernel) (by decide +kernel)
set_option maxRecDepth 100000 in
theorem xw_577 : (Jvm.Cond.constant "HyperHost$Memory" (40 : Nat) (65535 : Int32)) ∈ lw_g := xg_in 649 (by decide +kernel) (by decide +kernel)
set_option maxRecDepth 100000 in
theorem xw_578 : (Jvm.Cond.methodLink "HyperHost$Core" (191 : Nat) ({ cls := "HyperHost$Core", name := "registerOp", desc := "()V" } : Jvm.MethodName)) ∈ lw_g := xg_in 650 (by decide +kernel) (by decide +kernel)
set_option maxRecDepth 100000 in
theorem xw_580 : (Jvm.Cond.instanceMethod ({ cls := "HyperHost$Core", name := "registerOp", desc := "()V" } : Jvm.MethodName)) ∈ lw_g := xg_in 652 (by decide +kernel) (by decide +kernel)
set_option maxRecDepth 100000 in
theorem xw_581 : (Jvm.Cond.code ({ cls := "HyperHost$Core", name := "registerOp", desc := "()V" } : Jvm.MethodName) prog_6_method_15_code (6 : Nat) (Option.none : Option Jvm.ClassFile.FieldType)) ∈ lw_g := xg_in 653 (by decide +kernel) (by decide +kernel)
set_option maxRecDepth 100000 in
theorem xw_582 : (Jvm.Cond.methodLink "HyperHost$Core" (246 : Nat) ({ cls := "HyperHost$Arithmetic", name := "multiply", desc := "(III)I" } : Jvm.MethodName)) ∈ lw_g := xg_in 654 (by decide +kernel) (by decide +kernel)
set_option maxRecDepth 100000 in
theorem xw_583 : (Jvm.Cond.static ({ cls := "HyperHost$Arithmetic", name := "multiply", desc := "(III)I" } : Jvm.MethodName)) ∈ lw_g := xg_in 655 (by decide +kernel) (by decide +kernel)
set_option maxRecDepth 100000 in
theorem xw_584 : (Jvm.Cond.code ({ cls := "HyperHost$Arithmetic", name := "multiply", desc := "(III)I" } : Jvm.MethodName) prog_3_method_4_code (3 : Nat) (Option.some Jvm.ClassFile.FieldType.int)) ∈ lw_g := xg_in 656 (by decide +kernel) (by decide +kernel)
set_option maxRecDepth 100000 in
theorem xw_585 : (Jvm.Cond.methodLink "HyperHost$Core" (249 : Nat) ({ cls := "HyperHost$Arithmetic", name := "divide", desc := "(III)I" } : Jvm.MethodName)) ∈ lw_g := xg_in 657 (by decide +kernel) (by decide +kernel)
set_option maxRecDepth 100000 in
theorem xw_586 : (Jvm.Cond.static ({ cls := "HyperHost$Arithmetic", name := "divide", desc := "(III)I" } : Jvm.MethodName)) ∈ lw_g := xg_in 658 (by decide +kernel) (by decide +kernel)
set_option maxRecDepth 100000 in
theorem xw_587 : (Jvm.Cond.code ({ cls := "HyperHost$Arithmetic", name := "divide", desc := "(III)I" } : Jvm.MethodName) prog_3_method_5_code (9 : Nat) (Option.some Jvm.ClassFile.FieldType.int)) ∈ lw_g := xg_in 659 (by decide +kernel) (by decide +kernel)
set_option maxRecDepth 100000 in
theorem xw_588 : (Jvm.Cond.methodLink "HyperHost$Core" (194 : Nat) ({ cls := "HyperHost$Core", name := "branchOp", desc := "()V" } : Jvm.MethodName)) ∈ lw_g := xg_in 660 (by decide +kernel) (by decide +kernel)
set_option maxRecDepth 100000 in
theorem xw_590 : (Jvm.Cond.instanceMethod ({ cls := "HyperHost$Core", name := "branchOp", desc := "()V" } : Jvm.MethodName)) ∈ lw_g := xg_in 662 (by decide +kernel) (by decide +kernel)
set_option maxRecDepth 100000 in
theorem xw_591 : (Jvm.Cond.code ({ cls := "HyperHost$Core", name := "branchOp", desc := "()V" } : Jvm.MethodName) prog_6_method_12_code (2 : Nat) (Option.none : Option Jvm.ClassFile.FieldType)) ∈ lw_g := xg_in 663 (by decide +kernel) (by decide +kernel)
set_option maxRecDepth 100000 in
theorem xw_592 : (Jvm.Cond.methodLink "HyperHost$Core" (224 : Nat) ({ cls := "HyperHost$Arithmetic", name := "isComparison", desc := "(I)Z" } : Jvm.MethodName)) ∈ lw_g := xg_in 664 (by decide +kernel) (by decide +kernel)
set_option maxRecDepth 100000 in
theorem xw_593 : (Jvm.Cond.static ({ cls := "HyperHost$Arithmetic", name := "isComparison", desc := "(I)Z" } : Jvm.MethodName)) ∈ lw_g := xg_in 665 (by decide +kernel) (by decide +kernel)
set_option maxRecDepth 100000 in
theorem xw_594 : (Jvm.Cond.code ({ cls := "HyperHost$Arithmetic", name := "isComparison", desc := "(I)Z" } : Jvm.MethodName) prog_3_method_6_code (1 : Nat) (Option.some Jvm.ClassFile.FieldType.boolean)) ∈ lw_g := xg_in 666 (by decide +kernel) (by decide +kernel)
set_option maxRecDepth 100000 in
theorem xw_595 : (Jvm.Cond.methodLink "HyperHost$Core" (232 : Nat) ({ cls := "HyperHost$Arithmetic", name := "holds", desc := "(III)Z" } : Jvm.MethodName)) ∈ lw_g := xg_in 667 (by decide +kernel) (by decide +kernel)
set_option maxRecDepth 100000 in
theorem xw_596 : (Jvm.Cond.static ({ cls := "HyperHost$Arithmetic", name := "holds", desc := "(III)Z" } : Jvm.MethodName)) ∈ lw_g := xg_in 668 (by decide +kernel) (by decide +kernel)
set_option maxRecDepth 100000 in
theorem xw_597 : (Jvm.Cond.code ({ cls := "HyperHost$Arithmetic", name := "holds", desc := "(III)Z" } : Jvm.MethodName) prog_3_method_7_code (4 : Nat) (Option.some Jvm.ClassFile.FieldType.boolean)) ∈ lw_g := xg_in 669 (by decide +kernel) (by decide +kernel)
set_option maxRecDepth 100000 in
theorem xw_598 : (Jvm.Cond.methodLink "HyperHost$Core" (236 : Nat) ({ cls := "HyperHost$Fields", name := "branchOffset", desc := "(I)I" } : Jvm.MethodName)) ∈ lw_g := xg_in 670 (by decide +kernel) (by decide +kernel)
set_option maxRecDepth 100000 in
theorem xw_599 : (Jvm.Cond.static ({ cls := "HyperHost$Fields", name := "branchOffset", desc := "(I)I" } : Jvm.MethodName)) ∈ lw_g := xg_in 671 (by decide +kernel) (by decide +kernel)
set_option maxRecDepth 100000 in
theorem xw_600 : (Jvm.Cond.code ({ cls := "HyperHost$Fields", name := "branchOffset", desc := "(I)I" } : Jvm.MethodName) prog_7_method_10_code (1 : Nat) (Option.some Jvm.ClassFile.FieldType.int)) ∈ lw_g := xg_in 672 (by decide +kernel) (by decide +kernel)
set_option maxRecDepth 100000 in
theorem xw_601 : (Jvm.Cond.methodLink "HyperHost$Core" (203 : Nat) ({ cls := "HyperHost$Core", name := "jump", desc := "(II)V" } : Jvm.MethodName)) ∈ lw_g := xg_in 673 (by decide +kernel) (by decide +kernel)
set_option maxRecDepth 100000 in
theorem xw_603 : (Jvm.Cond.instanceMethod ({ cls := "HyperHost$Core", name := "jump", desc := "(II)V" } : Jvm.MethodName)) ∈ lw_g := xg_in 675 (by decide +kernel) (by decide +kernel)
set_option maxRecDepth 100000 in
theorem xw_604 : (Jvm.Cond.code ({ cls := "HyperHost$Core", name := "jump", desc := "(II)V" } : Jvm.MethodName) prog_6_method_10_code (3 : Nat) (Option.none : Option Jvm.ClassFile.FieldType)) ∈ lw_g := xg_in 676 (by decide +kernel) (by decide +kernel)
set_option maxRecDepth 100000 in
theorem xw_605 : (Jvm.Cond.methodLink "HyperHost$Core" (197 : Nat) ({ cls := "HyperHost$Core", name := "jumpToRegisterOp", desc := "()V" } : Jvm.MethodName)) ∈ lw_g := xg_in 677 (by decide +kernel) (by decide +kernel)
set_option maxRecDepth 100000 in
theorem xw_607 : (Jvm.Cond.instanceMethod ({ cls := "HyperHost$Core", name := "jumpToRegisterOp", desc := "()V" } : Jvm.MethodName)) ∈ lw_g := xg_in 679 (by decide +kernel) (by decide +kernel)
set_option maxRecDepth 100000 in
theorem xw_608 : (Jvm.Cond.code ({ cls := "HyperHost$Core", name := "jumpToRegisterOp", desc := "()V" } : Jvm.MethodName) prog_6_method_11_code (1 : Nat) (Option.none : Option Jvm.ClassFile.FieldType)) ∈ lw_g := xg_in 680 (by decide +kernel) (by decide +kernel)
set_option maxRecDepth 100000 in
theorem xw_609 : (Jvm.Cond.methodLink "HyperHost$Core" (200 : Nat) ({ cls := "HyperHost$Fields", name := "jumpOffset", desc := "(I)I" } : Jvm.MethodName)) ∈ lw_g := xg_in 681 (by decide +kernel) (by decide +kernel)
set_option maxRecDepth 100000 in
theorem xw_610 : (Jvm.Cond.static ({ cls := "HyperHost$Fields", name := "jumpOffset", desc := "(I)I" } : Jvm.MethodName)) ∈ lw_g := xg_in 682 (by decide +kernel) (by decide +kernel)
set_option maxRecDepth 100000 in
theorem xw_611 : (Jvm.Cond.code ({ cls := "HyperHost$Fields", name := "jumpOffset", desc := "(I)I" } : Jvm.MethodName) prog_7_method_11_code (1 : Nat) (Option.some Jvm.ClassFile.FieldType.int)) ∈ lw_g := xg_in 683 (by decide +kernel) (by decide +kernel)
set_option maxRecDepth 100000 in
theorem xw_612 : (Jvm.Cond.constant "HyperHost$Fields" (13 : Nat) (1044480 : Int32)) ∈ lw_g := xg_in 684 (by decide +kernel) (by decide +kernel)
set_option maxRecDepth 100000 in
theorem xw_613 : (Jvm.Cond.methodLink "HyperHost$Core" (206 : Nat) ({ cls := "HyperHost$Core", name := "systemOp", desc := "()V" } : Jvm.MethodName)) ∈ lw_g := xg_in 685 (by decide +kernel) (by decide +kernel)
set_option maxRecDepth 100000 in
theorem xw_615 : (Jvm.Cond.instanceMethod ({ cls := "HyperHost$Core", name := "systemOp", desc := "()V" } : Jvm.MethodName)) ∈ lw_g := xg_in 687 (by decide +kernel) (by decide +kernel)
set_option maxRecDepth 100000 in
theorem xw_616 : (Jvm.Cond.code ({ cls := "HyperHost$Core", name := "systemOp", desc := "()V" } : Jvm.MethodName) prog_6_method_22_code (2 : Nat) (Option.none : Option Jvm.ClassFile.FieldType)) ∈ lw_g := xg_in 688 (by decide +kernel) (by decide +kernel)
set_option maxRecDepth 100000 in
theorem xw_617 : (Jvm.Cond.constant "HyperHost$Core" (292 : Nat) (1048576 : Int32)) ∈ lw_g := xg_in 689 (by decide +kernel) (by decide +kernel)
set_option maxRecDepth 100000 in
theorem xw_618 : (Jvm.Cond.methodLink "HyperHost$Core" (293 : Nat) ({ cls := "HyperHost$Core", name := "isSet", desc := "(I)Z" } : Jvm.MethodName)) ∈ lw_g := xg_in 690 (by decide +kernel) (by decide +kernel)
set_option maxRecDepth 100000 in
theorem xw_620 : (Jvm.Cond.instanceMethod ({ cls := "HyperHost$Core", name := "isSet", desc := "(I)Z" } : Jvm.MethodName)) ∈ lw_g := xg_in 692 (by decide +kernel) (by decide +kernel)
set_option maxRecDepth 100000 in
theorem xw_621 : (Jvm.Cond.code ({ cls := "HyperHost$Core", name := "isSet", desc := "(I)Z" } : Jvm.MethodName) prog_6_method_23_code (2 : Nat) (Option.some Jvm.ClassFile.FieldType.boolean)) ∈ lw_g := xg_in 693 (by decide +kernel) (by decide +kernel)
set_option maxRecDepth 100000 in
theorem xw_622 : (Jvm.Cond.methodLink "HyperHost$Core" (296 : Nat) ({ cls := "HyperHost$Core", name := "mayDo", desc := "(Z)Z" } : Jvm.MethodName)) ∈ lw_g := xg_in 694 (by decide +kernel) (by decide +kernel)
set_option maxRecDepth 100000 in
theorem xw_624 : (Jvm.Cond.instanceMethod ({ cls := "HyperHost$Core", name := "mayDo", desc := "(Z)Z" } : Jvm.MethodName)) ∈ lw_g := xg_in 696 (by decide +kernel) (by decide +kernel)
set_option maxRecDepth 100000 in
theorem xw_625 : (Jvm.Cond.code ({ cls := "HyperHost$Core", name := "mayDo", desc := "(Z)Z" } : Jvm.MethodName) prog_6_method_24_code (2 : Nat) (Option.some Jvm.ClassFile.FieldType.boolean)) ∈ lw_g := xg_in 697 (by decide +kernel) (by decide +kernel)
set_option maxRecDepth 100000 in
theorem xw_626 : (Jvm.Cond.methodLink "HyperHost$Core" (300 : Nat) ({ cls := "HyperHost$Core", name := "environmentCall", desc := "()V" } : Jvm.MethodName)) ∈ lw_g := xg_in 698 (by decide +kernel) (by decide +kernel)
set_option maxRecDepth 100000 in
theorem xw_628 : (Jvm.Cond.instanceMethod ({ cls := "HyperHost$Core", name := "environmentCall", desc := "()V" } : Jvm.MethodName)) ∈ lw_g := xg_in 700 (by decide +kernel) (by decide +kernel)
set_option maxRecDepth 100000 in
theorem xw_629 : (Jvm.Cond.code ({ cls := "HyperHost$Core", name := "environmentCall", desc := "()V" } : Jvm.MethodName) prog_6_method_25_code (2 : Nat) (Option.none : Option Jvm.ClassFile.FieldType)) ∈ lw_g := xg_in 701 (by decide +kernel) (by decide +kernel)
set_option maxRecDepth 100000 in
theorem xw_630 : (Jvm.Cond.methodLink "HyperHost$Core" (310 : Nat) ({ cls := "HyperHost$Core", name := "setAlarm", desc := "(II)V" } : Jvm.MethodName)) ∈ lw_g := xg_in 702 (by decide +kernel) (by decide +kernel)
set_option maxRecDepth 100000 in
theorem xw_632 : (Jvm.Cond.instanceMethod ({ cls := "HyperHost$Core", name := "setAlarm", desc := "(II)V" } : Jvm.MethodName)) ∈ lw_g := xg_in 704 (by decide +kernel) (by decide +kernel)
set_option maxRecDepth 100000 in
theorem xw_633 : (Jvm.Cond.code ({ cls := "HyperHost$Core", name := "setAlarm", desc := "(II)V" } : Jvm.MethodName) prog_6_method_26_code (5 : Nat) (Option.none : Option Jvm.ClassFile.FieldType)) ∈ lw_g := xg_in 705 (by decide +kernel) (by decide +kernel)
set_option maxRecDepth 100000 in
theorem xw_634 : (Jvm.Cond.constantLong "HyperHost$Core" (316 : Nat) (4294967295 : Int64)) ∈ lw_g := xg_in 706 (by decide +kernel) (by decide +kernel)
set_option maxRecDepth 100000 in
theorem xw_635 : (Jvm.Cond.constantLong "HyperHost$Core" (318 : Nat) (9223372036854775807 : Int64)) ∈ lw_g := xg_in 707 (by decide +kernel) (by decide +kernel)
set_option maxRecDepth 100000 in
theorem xw_636 : (Jvm.Cond.methodLink "HyperHost$Core" (313 : Nat) ({ cls := "HyperHost$Core", name := "print", desc := "(I)V" } : Jvm.MethodName)) ∈ lw_g := xg_in 708 (by decide +kernel) (by decide +kernel)
set_option maxRecDepth 100000 in
theorem xw_638 : (Jvm.Cond.instanceMethod ({ cls := "HyperHost$Core", name := "print", desc := "(I)V" } : Jvm.MethodName)) ∈ lw_g := xg_in 710 (by decide +kernel) (by decide +kernel)
set_option maxRecDepth 100000 in
theorem xw_639 : (Jvm.Cond.code ({ cls := "HyperHost$Core", name := "print", desc := "(I)V" } : Jvm.MethodName) prog_6_method_27_code (2 : Nat) (Option.none : Option Jvm.ClassFile.FieldType)) ∈ lw_g := xg_in 711 (by decide +kernel) (by decide +kernel)
set_option maxRecDepth 100000 in
theorem xw_640 : (Jvm.Cond.methodLink "HyperHost$Core" (303 : Nat) ({ cls := "HyperHost$Core", name := "returnFromTrap", desc := "()V" } : Jvm.MethodName)) ∈ lw_g := xg_in 712 (by decide +kernel) (by decide +kernel)
set_option maxRecDepth 100000 in
theorem xw_642 : (Jvm.Cond.instanceMethod ({ cls := "HyperHost$Core", name := "returnFromTrap", desc := "()V" } : Jvm.MethodName)) ∈ lw_g := xg_in 714 (by decide +kernel) (by decide +kernel)
set_option maxRecDepth 100000 in
theorem xw_643 : (Jvm.Cond.code ({ cls := "HyperHost$Core", name := "returnFromTrap", desc := "()V" } : Jvm.MethodName) prog_6_method_28_code (4 : Nat) (Option.none : Option Jvm.ClassFile.FieldType)) ∈ lw_g := xg_in 715 (by decide +kernel) (by decide +kernel)
set_option maxRecDepth 100000 in
theorem xw_644 : (Jvm.Cond.constant "HyperHost$Core" (323 : Nat) (4194304 : Int32)) ∈ lw_g := xg_in 716 (by decide +kernel) (by decide +kernel)
set_option maxRecDepth 100000 in
theorem xw_645 : (Jvm.Cond.methodLink "HyperHost$Core" (324 : Nat) ({ cls := "HyperHost$Bank", name := "leave", desc := "()Z" } : Jvm.MethodName)) ∈ lw_g := xg_in 717 (by decide +kernel) (by decide +kernel)
set_option maxRecDepth 100000 in
theorem xw_646 : (Jvm.Cond.instanceMethod ({ cls := "HyperHost$Bank", name := "leave", desc := "()Z" } : Jvm.MethodName)) ∈ lw_g := xg_in 718 (by decide +kernel) (by decide +kernel)
set_option maxRecDepth 100000 in
theorem xw_647 : (Jvm.Cond.selects "HyperHost$Bank" ({ cls := "HyperHost$Bank", name := "leave", desc := "()Z" } : Jvm.MethodName) ({ cls := "HyperHost$Bank", name := "leave", desc := "()Z" } : Jvm.MethodName)) ∈ lw_g := xg_in 719 (by decide +kernel) (by decide +kernel)
set_option maxRecDepth 100000 in
theorem xw_648 : (Jvm.Cond.code ({ cls := "HyperHost$Bank", name := "leave", desc := "()Z" } : Jvm.MethodName) prog_4_method_6_code (3 : Nat) (Option.some Jvm.ClassFile.FieldType.boolean)) ∈ lw_g := xg_in 720 (by decide +kernel) (by decide +kernel)
set_option maxRecDepth 100000 in
theorem xw_649 : (Jvm.Cond.constant "HyperHost$Core" (306 : Nat) (2097152 : Int32)) ∈ lw_g := xg_in 721 (by decide +kernel) (by decide +kernel)
set_option maxRecDepth 100000 in
theorem xw_650 : (Jvm.Cond.methodLink "HyperHost$Core" (209 : Nat) ({ cls := "HyperHost$Core", name := "guestOp", desc := "()V" } : Jvm.MethodName)) ∈ lw_g := xg_in 722 (by decide +kernel) (by decide +kernel)
set_option maxRecDepth 100000 in
theorem xw_652 : (Jvm.Cond.instanceMethod ({ cls := "HyperHost$Core", name := "guestOp", desc := "()V" } : Jvm.MethodName)) ∈ lw_g := xg_in 724 (by decide +kernel) (by decide +kernel)
set_option maxRecDepth 100000 in
theorem xw_653 : (Jvm.Cond.code ({ cls := "HyperHost$Core", name := "guestOp", desc := "()V" } : Jvm.MethodName) prog_6_method_29_code (6 : Nat) (Option.none : Option Jvm.ClassFile.FieldType)) ∈ lw_g := xg_in 725 (by decide +kernel) (by decide +kernel)
set_option maxRecDepth 100000 in
theorem xw_654 : (Jvm.Cond.methodLink "HyperHost$Core" (330 : Nat) ({ cls := "HyperHost$Core", name := "isGuestForm", desc := "(III)Z" } : Jvm.MethodName)) ∈ lw_g := xg_in 726 (by decide +kernel) (by decide +kernel)
set_option maxRecDepth 100000 in
theorem xw_655 : (Jvm.Cond.static ({ cls := "HyperHost$Core", name := "isGuestForm", desc := "(III)Z" } : Jvm.MethodName)) ∈ lw_g := xg_in 727 (by decide +kernel) (by decide +kernel)
set_option maxRecDepth 100000 in
theorem xw_656 : (Jvm.Cond.code ({ cls := "HyperHost$Core", name := "isGuestForm", desc := "(III)Z" } : Jvm.MethodName) prog_6_method_30_code (3 : Nat) (Option.some Jvm.ClassFile.FieldType.boolean)) ∈ lw_g := xg_in 728 (by decide +kernel) (by decide +kernel)
set_option maxRecDepth 100000 in
theorem xw_658 : (Jvm.Cond.fieldLink "HyperHost$Core" (339 : Nat) "HyperHost$Access" "LOAD_FOR_EXECUTION" "LHyperHost$Access;") ∈ lw_g := xg_in 730 (by decide +kernel) (by decide +kernel)
set_option maxRecDepth 100000 in
theorem xw_660 : (Jvm.Cond.methodLink "HyperHost$Core" (212 : Nat) ({ cls := "HyperHost$Core", name := "controlOp", desc := "(I)V" } : Jvm.MethodName)) ∈ lw_g := xg_in 732 (by decide +kernel) (by decide +kernel)
set_option maxRecDepth 100000 in
theorem xw_662 : (Jvm.Cond.instanceMethod ({ cls := "HyperHost$Core", name := "controlOp", desc := "(I)V" } : Jvm.MethodName)) ∈ lw_g := xg_in 734 (by decide +kernel) (by decide +kernel)
set_option maxRecDepth 100000 in
theorem xw_663 : (Jvm.Cond.code ({ cls := "HyperHost$Core", name := "controlOp", desc := "(I)V" } : Jvm.MethodName) prog_6_method_20_code (9 : Nat) (Option.none : Option Jvm.ClassFile.FieldType)) ∈ lw_g := xg_in 735 (by decide +kernel) (by decide +kernel)
set_option maxRecDepth 100000 in
theorem xw_664 : (Jvm.Cond.methodLink "HyperHost$Core" (277 : Nat) ({ cls := "HyperHost$Controls", name := "refusal", desc := "(IZI)I" } : Jvm.MethodName)) ∈ lw_g := xg_in 736 (by decide +kernel) (by decide +kernel)
set_option maxRecDepth 100000 in
theorem xw_665 : (Jvm.Cond.methodLink "HyperHost$Core" (281 : Nat) ({ cls := "HyperHost$Controls", name := "meant", desc := "(II)I" } : Jvm.MethodName)) ∈ lw_g := xg_in 737 (by decide +kernel) (by decide +kernel)
set_option maxRecDepth 100000 in
theorem xw_666 : (Jvm.Cond.static ({ cls := "HyperHost$Controls", name := "meant", desc := "(II)I" } : Jvm.MethodName)) ∈ lw_g := xg_in 738 (by decide +kernel) (by decide +kernel)
set_option maxRecDepth 100000 in
theorem xw_667 : (Jvm.Cond.code ({ cls := "HyperHost$Controls", name := "meant", desc := "(II)I" } : Jvm.MethodName) prog_5_method_6_code (2 : Nat) (Option.some Jvm.ClassFile.FieldType.int)) ∈ lw_g := xg_in 739 (by decide +kernel) (by decide +kernel)
set_option maxRecDepth 100000 in
theorem xw_668 : (Jvm.Cond.methodLink "HyperHost$Core" (284 : Nat) ({ cls := "HyperHost$Controls", name := "tell", desc := "(I)I" } : Jvm.MethodName)) ∈ lw_g := xg_in 740 (by decide +kernel) (by decide +kernel)
set_option maxRecDepth 100000 in
theorem xw_669 : (Jvm.Cond.methodLink "HyperHost$Core" (287 : Nat) ({ cls := "HyperHost$Core", name := "changed", desc := "(III)I" } : Jvm.MethodName)) ∈ lw_g := xg_in 741 (by decide +kernel) (by decide +kernel)
set_option maxRecDepth 100000 in
theorem xw_670 : (Jvm.Cond.static ({ cls := "HyperHost$Core", name := "changed", desc := "(III)I" } : Jvm.MethodName)) ∈ lw_g := xg_in 742 (by decide +kernel) (by decide +kernel)
set_option maxRecDepth 100000 in
theorem xw_671 : (Jvm.Cond.code ({ cls := "HyperHost$Core", name := "changed", desc := "(III)I" } : Jvm.MethodName) prog_6_method_21_code (3 : Nat) (Option.some Jvm.ClassFile.FieldType.int)) ∈ lw_g := xg_in 743 (by decide +kernel) (by decide +kernel)
set_option maxRecDepth 100000 in
theorem xw_672 : (Jvm.Cond.methodLink "HyperHost$Core" (290 : Nat) ({ cls := "HyperHost$Controls", name := "write", desc := "(II)V" } : Jvm.MethodName)) ∈ lw_g := xg_in 744 (by decide +kernel) (by decide +kernel)
set_option maxRecDepth 100000 in
theorem xw_673 : (Jvm.Cond.methodLink "HyperHost" (79 : Nat) ({ cls := "HyperHost$Core", name := "endStep", desc := "()V" } : Jvm.MethodName)) ∈ lw_g := xg_in 745 (by decide +kernel) (by decide +kernel)
set_option maxRecDepth 100000 in
theorem xw_674 : (Jvm.Cond.instanceMethod ({ cls := "HyperHost$Core", name := "endStep", desc := "()V" } : Jvm.MethodName)) ∈ lw_g := xg_in 746 (by decide +kernel) (by decide +kernel)
set_option maxRecDepth 100000 in
theorem xw_675 : (Jvm.Cond.selects "HyperHost$Core" ({ cls := "HyperHost$Core", name := "endStep", desc := "()V" } : Jvm.MethodName) ({ cls := "HyperHost$Core", name := "endStep", desc := "()V" } : Jvm.MethodName)) ∈ lw_g := xg_in 747 (by decide +kernel) (by decide +kernel)
set_option maxRecDepth 100000 in
theorem xw_676 : (Jvm.Cond.code ({ cls := "HyperHost$Core", name := "endStep", desc := "()V" } : Jvm.MethodName) prog_6_method_6_code (1 : Nat) (Option.none : Option Jvm.ClassFile.FieldType)) ∈ lw_g := xg_in 748 (by decide +kernel) (by decide +kernel)
set_option maxRecDepth 100000 in
theorem xw_677 : (Jvm.Cond.methodLink "HyperHost$Core" (124 : Nat) ({ cls := "HyperHost$Core", name := "takeTrap", desc := "()V" } : Jvm.MethodName)) ∈ lw_g := xg_in 749 (by decide +kernel) (by decide +kernel)
set_option maxRecDepth 100000 in
theorem xw_679 : (Jvm.Cond.instanceMethod ({ cls := "HyperHost$Core", name := "takeTrap", desc := "()V" } : Jvm.MethodName)) ∈ lw_g := xg_in 751 (by decide +kernel) (by decide +kernel)
set_option maxRecDepth 100000 in
theorem xw_680 : (Jvm.Cond.code ({ cls := "HyperHost$Core", name := "takeTrap", desc := "()V" } : Jvm.MethodName) prog_6_method_7_code (2 : Nat) (Option.none : Option Jvm.ClassFile.FieldType)) ∈ lw_g := xg_in 752 (by decide +kernel) (by decide +kernel)
set_option maxRecDepth 100000 in
theorem xw_682 : (Jvm.Cond.methodLink "HyperHost$Core" (138 : Nat) ({ cls := "HyperHost$Trap", name := "goesToVs", desc := "(II)Z" } : Jvm.MethodName)) ∈ lw_g := xg_in 754 (by decide +kernel) (by decide +kernel)
set_option maxRecDepth 100000 in
theorem xw_683 : (Jvm.Cond.instanceMethod ({ cls := "HyperHost$Trap", name := "goesToVs", desc := "(II)Z" } : Jvm.MethodName)) ∈ lw_g := xg_in 755 (by decide +kernel) (by decide +kernel)
set_option maxRecDepth 100000 in
theorem xw_684 : (Jvm.Cond.selects "HyperHost$Trap" ({ cls := "HyperHost$Trap", name := "goesToVs", desc := "(II)Z" } : Jvm.MethodName) ({ cls := "HyperHost$Trap", name := "goesToVs", desc := "(II)Z" } : Jvm.MethodName)) ∈ lw_g := xg_in 756 (by decide +kernel) (by decide +kernel)
set_option maxRecDepth 100000 in
theorem xw_685 : (Jvm.Cond.code ({ cls := "HyperHost$Trap", name := "goesToVs", desc := "(II)Z" } : Jvm.MethodName) prog_11_method_5_code (3 : Nat) (Option.some Jvm.ClassFile.FieldType.boolean)) ∈ lw_g := xg_in 757 (by decide +kernel) (by decide +kernel)
set_option maxRecDepth 100000 in
theorem xw_687 : (Jvm.Cond.methodLink "HyperHost$Core" (149 : Nat) ({ cls := "HyperHost$Bank", name := "enter", desc := "(IIIZ)I" } : Jvm.MethodName)) ∈ lw_g := xg_in 759 (by decide +kernel) (by decide +kernel)
set_option maxRecDepth 100000 in
theorem xw_688 : (Jvm.Cond.instanceMethod ({ cls := "HyperHost$Bank", name := "enter", desc := "(IIIZ)I" } : Jvm.MethodName)) ∈ lw_g := xg_in 760 (by decide +kernel) (by decide +kernel)
set_option maxRecDepth 100000 in
theorem xw_689 : (Jvm.Cond.selects "HyperHost$Bank" ({ cls := "HyperHost$Bank", name := "enter", desc := "(IIIZ)I" } : Jvm.MethodName) ({ cls := "HyperHost$Bank", name := "enter", desc := "(IIIZ)I" } : Jvm.MethodName)) ∈ lw_g := xg_in 761 (by decide +kernel) (by decide +kernel)
set_option maxRecDepth 100000 in
theorem xw_690 : (Jvm.Cond.code ({ cls := "HyperHost$Bank", name := "enter", desc := "(IIIZ)I" } : Jvm.MethodName) prog_4_method_5_code (8 : Nat) (Option.some Jvm.ClassFile.FieldType.int)) ∈ lw_g := xg_in 762 (by decide +kernel) (by decide +kernel)
set_option maxRecDepth 100000 in
theorem xw_691 : (Jvm.Cond.constant "HyperHost$Bank" (41 : Nat) (2147483647 : Int32)) ∈ lw_g := xg_in 763 (by decide +kernel) (by decide +kernel)
set_option maxRecDepth 100000 in
theorem xw_692 : (Jvm.Cond.methodLink "HyperHost$Core" (155 : Nat) ({ cls := "HyperHost$Controls", name := "noteTrap", desc := "(LHyperHost$Trap;I)V" } : Jvm.MethodName)) ∈ lw_g := xg_in 764 (by decide +kernel) (by decide +kernel)
set_option maxRecDepth 100000 in
theorem xw_693 : (Jvm.Cond.instanceMethod ({ cls := "HyperHost$Controls", name := "noteTrap", desc := "(LHyperHost$Trap;I)V" } : Jvm.MethodName)) ∈ lw_g := xg_in 765 (by decide +kernel) (by decide +kernel)
set_option maxRecDepth 100000 in
theorem xw_694 : (Jvm.Cond.selects "HyperHost$Controls" ({ cls := "HyperHost$Controls", name := "noteTrap", desc := "(LHyperHost$Trap;I)V" } : Jvm.MethodName) ({ cls := "HyperHost$Controls", name := "noteTrap", desc := "(LHyperHost$Trap;I)V" } : Jvm.MethodName)) ∈ lw_g := xg_in 766 (by decide +kernel) (by decide +kernel)
set_option maxRecDepth 100000 in
theorem xw_695 : (Jvm.Cond.code ({ cls := "HyperHost$Controls", name := "noteTrap", desc := "(LHyperHost$Trap;I)V" } : Jvm.MethodName) prog_5_method_14_code (3 : Nat) (Option.none : Option Jvm.ClassFile.FieldType)) ∈ lw_g := xg_in 767 (by decide +kernel) (by decide +kernel)
set_option maxRecDepth 100000 in
theorem xw_698 : (Jvm.Cond.methodLink "HyperHost$Controls" (110 : Nat) ({ cls := "HyperHost$Trap", name := "tellsAddress", desc := "()Z" } : Jvm.MethodName)) ∈ lw_g := xg_in 770 (by decide +kernel) (by decide +kernel)
set_option maxRecDepth 100000 in
theorem xw_699 : (Jvm.Cond.instanceMethod ({ cls := "HyperHost$Trap", name := "tellsAddress", desc := "()Z" } : Jvm.MethodName)) ∈ lw_g := xg_in 771 (by decide +kernel) (by decide +kernel)
set_option maxRecDepth 100000 in
theorem xw_700 : (Jvm.Cond.selects "HyperHost$Trap" ({ cls := "HyperHost$Trap", name := "tellsAddress", desc := "()Z" } : Jvm.MethodName) ({ cls := "HyperHost$Trap", name := "tellsAddress", desc := "()Z" } : Jvm.MethodName)) ∈ lw_g := xg_in 772 (by decide +kernel) (by decide +kernel)
set_option maxRecDepth 100000 in
theorem xw_701 : (Jvm.Cond.code ({ cls := "HyperHost$Trap", name := "tellsAddress", desc := "()Z" } : Jvm.MethodName) prog_11_method_4_code (1 : Nat) (Option.some Jvm.ClassFile.FieldType.boolean)) ∈ lw_g := xg_in 773 (by decide +kernel) (by decide +kernel)
set_option maxRecDepth 100000 in
theorem xw_702 : (Jvm.Cond.constant "HyperHost$Trap" (31 : Nat) (11579643 : Int32)) ∈ lw_g := xg_in 774 (by decide +kernel) (by decide +kernel)
set_option maxRecDepth 100000 in
theorem xw_703 : (Jvm.Cond.methodLink "HyperHostLaw" (61 : Nat) ({ cls := "HyperHost", name := "count", desc := "(I)I" } : Jvm.MethodName)) ∈ lw_g := xg_in 775 (by decide +kernel) (by decide +kernel)
set_option maxRecDepth 100000 in
theorem xw_704 : (Jvm.Cond.instanceMethod ({ cls := "HyperHost", name := "count", desc := "(I)I" } : Jvm.MethodName)) ∈ lw_g := xg_in 776 (by decide +kernel) (by decide +kernel)
