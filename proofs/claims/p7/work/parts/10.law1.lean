/-! written by program (wip/gen) -/
theorem d_law_512 : decode code 512 = .ok (.iload 4, 2) := by decide +kernel
theorem d_law_514 : decode code 514 = .ok (.iconst 4, 1) := by decide +kernel
theorem d_law_515 : decode code 515 = .ok (.iadd, 1) := by decide +kernel
theorem d_law_516 : decode code 516 = .ok (.iaload, 1) := by decide +kernel
theorem d_law_517 : decode code 517 = .ok (.aload_n 0, 1) := by decide +kernel
theorem d_law_518 : decode code 518 = .ok (.iload 4, 2) := by decide +kernel
theorem d_law_520 : decode code 520 = .ok (.iconst 5, 1) := by decide +kernel
theorem d_law_521 : decode code 521 = .ok (.iadd, 1) := by decide +kernel
theorem d_law_522 : decode code 522 = .ok (.iaload, 1) := by decide +kernel
theorem d_law_523 : decode code 523 = .ok (.aload_n 3, 1) := by decide +kernel
theorem d_law_524 : decode code 524 = .ok (.invokestatic 107, 3) := by decide +kernel
theorem d_law_527 : decode code 527 = .ok (.istore 5, 2) := by decide +kernel
theorem d_law_529 : decode code 529 = .ok (.aload_n 2, 1) := by decide +kernel
theorem d_law_530 : decode code 530 = .ok (.aload_n 0, 1) := by decide +kernel
theorem d_law_531 : decode code 531 = .ok (.iload 4, 2) := by decide +kernel
theorem d_law_533 : decode code 533 = .ok (.iconst 1, 1) := by decide +kernel
theorem d_law_534 : decode code 534 = .ok (.iadd, 1) := by decide +kernel
theorem d_law_535 : decode code 535 = .ok (.iaload, 1) := by decide +kernel
theorem d_law_536 : decode code 536 = .ok (.aload_n 0, 1) := by decide +kernel
theorem d_law_537 : decode code 537 = .ok (.iload 4, 2) := by decide +kernel
theorem d_law_539 : decode code 539 = .ok (.iconst 2, 1) := by decide +kernel
theorem d_law_540 : decode code 540 = .ok (.iadd, 1) := by decide +kernel
theorem d_law_541 : decode code 541 = .ok (.iaload, 1) := by decide +kernel
theorem d_law_542 : decode code 542 = .ok (.aload_n 0, 1) := by decide +kernel
theorem d_law_543 : decode code 543 = .ok (.iload 4, 2) := by decide +kernel
theorem d_law_545 : decode code 545 = .ok (.iconst 3, 1) := by decide +kernel
theorem d_law_546 : decode code 546 = .ok (.iadd, 1) := by decide +kernel
theorem d_law_547 : decode code 547 = .ok (.iaload, 1) := by decide +kernel
theorem d_law_548 : decode code 548 = .ok (.aload_n 0, 1) := by decide +kernel
theorem d_law_549 : decode code 549 = .ok (.iload 4, 2) := by decide +kernel
theorem d_law_551 : decode code 551 = .ok (.iconst 4, 1) := by decide +kernel
theorem d_law_552 : decode code 552 = .ok (.iadd, 1) := by decide +kernel
theorem d_law_553 : decode code 553 = .ok (.iaload, 1) := by decide +kernel
theorem d_law_554 : decode code 554 = .ok (.aload_n 0, 1) := by decide +kernel
theorem d_law_555 : decode code 555 = .ok (.iload 4, 2) := by decide +kernel
theorem d_law_557 : decode code 557 = .ok (.iconst 5, 1) := by decide +kernel
theorem d_law_558 : decode code 558 = .ok (.iadd, 1) := by decide +kernel
theorem d_law_559 : decode code 559 = .ok (.iaload, 1) := by decide +kernel
theorem d_law_560 : decode code 560 = .ok (.invokevirtual 110, 3) := by decide +kernel
theorem d_law_563 : decode code 563 = .ok (.istore 6, 2) := by decide +kernel
theorem d_law_565 : decode code 565 = .ok (.goto 44, 3) := by decide +kernel
theorem d_law_568 : decode code 568 = .ok (.aload_n 1, 1) := by decide +kernel
theorem d_law_569 : decode code 569 = .ok (.invokevirtual 111, 3) := by decide +kernel
theorem d_law_572 : decode code 572 = .ok (.pop, 1) := by decide +kernel
theorem d_law_573 : decode code 573 = .ok (.aload_n 2, 1) := by decide +kernel
theorem d_law_574 : decode code 574 = .ok (.invokevirtual 114, 3) := by decide +kernel
theorem d_law_577 : decode code 577 = .ok (.pop, 1) := by decide +kernel
theorem d_law_578 : decode code 578 = .ok (.goto 31, 3) := by decide +kernel
theorem d_law_581 : decode code 581 = .ok (.aload_n 1, 1) := by decide +kernel
theorem d_law_582 : decode code 582 = .ok (.aload_n 0, 1) := by decide +kernel
theorem d_law_583 : decode code 583 = .ok (.iload 4, 2) := by decide +kernel
theorem d_law_585 : decode code 585 = .ok (.iconst 1, 1) := by decide +kernel
theorem d_law_586 : decode code 586 = .ok (.iadd, 1) := by decide +kernel
theorem d_law_587 : decode code 587 = .ok (.iaload, 1) := by decide +kernel
theorem d_law_588 : decode code 588 = .ok (.aload_n 3, 1) := by decide +kernel
theorem d_law_589 : decode code 589 = .ok (.invokestatic 115, 3) := by decide +kernel
theorem d_law_592 : decode code 592 = .ok (.istore 5, 2) := by decide +kernel
theorem d_law_594 : decode code 594 = .ok (.aload_n 2, 1) := by decide +kernel
theorem d_law_595 : decode code 595 = .ok (.aload_n 0, 1) := by decide +kernel
theorem d_law_596 : decode code 596 = .ok (.iload 4, 2) := by decide +kernel
theorem d_law_598 : decode code 598 = .ok (.iconst 1, 1) := by decide +kernel
theorem d_law_599 : decode code 599 = .ok (.iadd, 1) := by decide +kernel
theorem d_law_600 : decode code 600 = .ok (.iaload, 1) := by decide +kernel
theorem d_law_601 : decode code 601 = .ok (.invokevirtual 117, 3) := by decide +kernel
theorem d_law_604 : decode code 604 = .ok (.istore 6, 2) := by decide +kernel
theorem d_law_606 : decode code 606 = .ok (.goto 3, 3) := by decide +kernel
theorem d_law_609 : decode code 609 = .ok (.iinc 4 6, 3) := by decide +kernel
theorem d_law_612 : decode code 612 = .ok (.goto (-569), 3) := by decide +kernel
theorem d_law_615 : decode code 615 = .ok (.iconst 1, 1) := by decide +kernel
theorem d_law_616 : decode code 616 = .ok (.ireturn, 1) := by decide +kernel
theorem q_codew_XL_begin : (Jvm.Cond.codeWith ({ cls := "StreamEndLaw", name := "begin", desc := "(LStreamEnd;IZ)I" } : Jvm.MethodName) method_3_code (4 : Nat) (Option.some Jvm.ClassFile.FieldType.int) [((0 : Nat), (6 : Nat), (9 : Nat), (13 : Nat))]) ∈ se_all := se_in 395 (by decide +kernel) (by decide +kernel)
theorem qXL_m65 : (Jvm.Cond.methodLink "StreamEndLaw" (65 : Nat) ({ cls := "StreamEndLaw", name := "begin", desc := "(LStreamEnd;IZ)I" } : Jvm.MethodName)) ∈ se_all := se_in 393 (by decide +kernel) (by decide +kernel)
theorem q_ini_StreamEndLaw : (Jvm.Cond.initialized "StreamEndLaw") ∈ se_all := se_in 0 (by decide +kernel) (by decide +kernel)
theorem q_static_XL_begin : (Jvm.Cond.static ({ cls := "StreamEndLaw", name := "begin", desc := "(LStreamEnd;IZ)I" } : Jvm.MethodName)) ∈ se_all := se_in 394 (by decide +kernel) (by decide +kernel)
theorem q_code_X6_begin : (Jvm.Cond.code ({ cls := "StreamEndModel", name := "begin", desc := "(IZ)V" } : Jvm.MethodName) prog_8_method_6_code (3 : Nat) (Option.none : Option Jvm.ClassFile.FieldType)) ∈ se_all := se_in 979 (by decide +kernel) (by decide +kernel)
theorem qXL_m68 : (Jvm.Cond.methodLink "StreamEndLaw" (68 : Nat) ({ cls := "StreamEndModel", name := "begin", desc := "(IZ)V" } : Jvm.MethodName)) ∈ se_all := se_in 976 (by decide +kernel) (by decide +kernel)
theorem q_instanceMethod_X6_begin : (Jvm.Cond.instanceMethod ({ cls := "StreamEndModel", name := "begin", desc := "(IZ)V" } : Jvm.MethodName)) ∈ se_all := se_in 977 (by decide +kernel) (by decide +kernel)
theorem q_sel_X6_begin : (Jvm.Cond.selects "StreamEndModel" ({ cls := "StreamEndModel", name := "begin", desc := "(IZ)V" } : Jvm.MethodName) ({ cls := "StreamEndModel", name := "begin", desc := "(IZ)V" } : Jvm.MethodName)) ∈ se_all := se_in 978 (by decide +kernel) (by decide +kernel)
theorem qXL_k69 : (Jvm.Cond.constantLong "StreamEndLaw" (69 : Nat) (4294967295 : Int64)) ∈ se_all := se_in 1154 (by decide +kernel) (by decide +kernel)
theorem q_codew_XL_write : (Jvm.Cond.codeWith ({ cls := "StreamEndLaw", name := "write", desc := "(LStreamEnd;JI[J)I" } : Jvm.MethodName) method_4_code (6 : Nat) (Option.some Jvm.ClassFile.FieldType.int) [((0 : Nat), (11 : Nat), (14 : Nat), (19 : Nat)), ((0 : Nat), (11 : Nat), (18 : Nat), (13 : Nat))]) ∈ se_all := se_in 506 (by decide +kernel) (by decide +kernel)
theorem qXL_m71 : (Jvm.Cond.methodLink "StreamEndLaw" (71 : Nat) ({ cls := "StreamEndLaw", name := "write", desc := "(LStreamEnd;JI[J)I" } : Jvm.MethodName)) ∈ se_all := se_in 504 (by decide +kernel) (by decide +kernel)
theorem q_static_XL_write : (Jvm.Cond.static ({ cls := "StreamEndLaw", name := "write", desc := "(LStreamEnd;JI[J)I" } : Jvm.MethodName)) ∈ se_all := se_in 505 (by decide +kernel) (by decide +kernel)
theorem q_code_X6_write : (Jvm.Cond.code ({ cls := "StreamEndModel", name := "write", desc := "(JI)I" } : Jvm.MethodName) prog_8_method_7_code (7 : Nat) (Option.some Jvm.ClassFile.FieldType.int)) ∈ se_all := se_in 991 (by decide +kernel) (by decide +kernel)
theorem qXL_m74 : (Jvm.Cond.methodLink "StreamEndLaw" (74 : Nat) ({ cls := "StreamEndModel", name := "write", desc := "(JI)I" } : Jvm.MethodName)) ∈ se_all := se_in 988 (by decide +kernel) (by decide +kernel)
theorem q_instanceMethod_X6_write : (Jvm.Cond.instanceMethod ({ cls := "StreamEndModel", name := "write", desc := "(JI)I" } : Jvm.MethodName)) ∈ se_all := se_in 989 (by decide +kernel) (by decide +kernel)
theorem q_sel_X6_write : (Jvm.Cond.selects "StreamEndModel" ({ cls := "StreamEndModel", name := "write", desc := "(JI)I" } : Jvm.MethodName) ({ cls := "StreamEndModel", name := "write", desc := "(JI)I" } : Jvm.MethodName)) ∈ se_all := se_in 990 (by decide +kernel) (by decide +kernel)
theorem q_codew_XL_read : (Jvm.Cond.codeWith ({ cls := "StreamEndLaw", name := "read", desc := "(LStreamEnd;[J)I" } : Jvm.MethodName) method_5_code (3 : Nat) (Option.some Jvm.ClassFile.FieldType.int) [((0 : Nat), (8 : Nat), (11 : Nat), (13 : Nat))]) ∈ se_all := se_in 558 (by decide +kernel) (by decide +kernel)
theorem qXL_m75 : (Jvm.Cond.methodLink "StreamEndLaw" (75 : Nat) ({ cls := "StreamEndLaw", name := "read", desc := "(LStreamEnd;[J)I" } : Jvm.MethodName)) ∈ se_all := se_in 556 (by decide +kernel) (by decide +kernel)
theorem q_static_XL_read : (Jvm.Cond.static ({ cls := "StreamEndLaw", name := "read", desc := "(LStreamEnd;[J)I" } : Jvm.MethodName)) ∈ se_all := se_in 557 (by decide +kernel) (by decide +kernel)
theorem q_code_X6_read : (Jvm.Cond.code ({ cls := "StreamEndModel", name := "read", desc := "()I" } : Jvm.MethodName) prog_8_method_10_code (4 : Nat) (Option.some Jvm.ClassFile.FieldType.int)) ∈ se_all := se_in 1012 (by decide +kernel) (by decide +kernel)
theorem qXL_m78 : (Jvm.Cond.methodLink "StreamEndLaw" (78 : Nat) ({ cls := "StreamEndModel", name := "read", desc := "()I" } : Jvm.MethodName)) ∈ se_all := se_in 1009 (by decide +kernel) (by decide +kernel)
theorem q_instanceMethod_X6_read : (Jvm.Cond.instanceMethod ({ cls := "StreamEndModel", name := "read", desc := "()I" } : Jvm.MethodName)) ∈ se_all := se_in 1010 (by decide +kernel) (by decide +kernel)
theorem q_sel_X6_read : (Jvm.Cond.selects "StreamEndModel" ({ cls := "StreamEndModel", name := "read", desc := "()I" } : Jvm.MethodName) ({ cls := "StreamEndModel", name := "read", desc := "()I" } : Jvm.MethodName)) ∈ se_all := se_in 1011 (by decide +kernel) (by decide +kernel)
theorem q_codew_XL_close : (Jvm.Cond.codeWith ({ cls := "StreamEndLaw", name := "close", desc := "(LStreamEnd;)I" } : Jvm.MethodName) method_6_code (2 : Nat) (Option.some Jvm.ClassFile.FieldType.int) [((0 : Nat), (4 : Nat), (7 : Nat), (13 : Nat))]) ∈ se_all := se_in 578 (by decide +kernel) (by decide +kernel)
theorem qXL_m79 : (Jvm.Cond.methodLink "StreamEndLaw" (79 : Nat) ({ cls := "StreamEndLaw", name := "close", desc := "(LStreamEnd;)I" } : Jvm.MethodName)) ∈ se_all := se_in 576 (by decide +kernel) (by decide +kernel)
theorem q_static_XL_close : (Jvm.Cond.static ({ cls := "StreamEndLaw", name := "close", desc := "(LStreamEnd;)I" } : Jvm.MethodName)) ∈ se_all := se_in 577 (by decide +kernel) (by decide +kernel)
theorem q_code_X6_close : (Jvm.Cond.code ({ cls := "StreamEndModel", name := "close", desc := "()V" } : Jvm.MethodName) prog_8_method_11_code (1 : Nat) (Option.none : Option Jvm.ClassFile.FieldType)) ∈ se_all := se_in 1024 (by decide +kernel) (by decide +kernel)
theorem qXL_m82 : (Jvm.Cond.methodLink "StreamEndLaw" (82 : Nat) ({ cls := "StreamEndModel", name := "close", desc := "()V" } : Jvm.MethodName)) ∈ se_all := se_in 1021 (by decide +kernel) (by decide +kernel)
theorem q_instanceMethod_X6_close : (Jvm.Cond.instanceMethod ({ cls := "StreamEndModel", name := "close", desc := "()V" } : Jvm.MethodName)) ∈ se_all := se_in 1022 (by decide +kernel) (by decide +kernel)
theorem q_sel_X6_close : (Jvm.Cond.selects "StreamEndModel" ({ cls := "StreamEndModel", name := "close", desc := "()V" } : Jvm.MethodName) ({ cls := "StreamEndModel", name := "close", desc := "()V" } : Jvm.MethodName)) ∈ se_all := se_in 1023 (by decide +kernel) (by decide +kernel)
theorem q_codew_XL_abort : (Jvm.Cond.codeWith ({ cls := "StreamEndLaw", name := "abort", desc := "(LStreamEnd;)I" } : Jvm.MethodName) method_7_code (2 : Nat) (Option.some Jvm.ClassFile.FieldType.int) [((0 : Nat), (4 : Nat), (7 : Nat), (13 : Nat))]) ∈ se_all := se_in 595 (by decide +kernel) (by decide +kernel)
theorem qXL_m83 : (Jvm.Cond.methodLink "StreamEndLaw" (83 : Nat) ({ cls := "StreamEndLaw", name := "abort", desc := "(LStreamEnd;)I" } : Jvm.MethodName)) ∈ se_all := se_in 593 (by decide +kernel) (by decide +kernel)
theorem q_static_XL_abort : (Jvm.Cond.static ({ cls := "StreamEndLaw", name := "abort", desc := "(LStreamEnd;)I" } : Jvm.MethodName)) ∈ se_all := se_in 594 (by decide +kernel) (by decide +kernel)
theorem q_code_X6_abort : (Jvm.Cond.code ({ cls := "StreamEndModel", name := "abort", desc := "()V" } : Jvm.MethodName) prog_8_method_12_code (1 : Nat) (Option.none : Option Jvm.ClassFile.FieldType)) ∈ se_all := se_in 1032 (by decide +kernel) (by decide +kernel)
theorem qXL_m85 : (Jvm.Cond.methodLink "StreamEndLaw" (85 : Nat) ({ cls := "StreamEndModel", name := "abort", desc := "()V" } : Jvm.MethodName)) ∈ se_all := se_in 1029 (by decide +kernel) (by decide +kernel)
theorem q_instanceMethod_X6_abort : (Jvm.Cond.instanceMethod ({ cls := "StreamEndModel", name := "abort", desc := "()V" } : Jvm.MethodName)) ∈ se_all := se_in 1030 (by decide +kernel) (by decide +kernel)
theorem q_sel_X6_abort : (Jvm.Cond.selects "StreamEndModel" ({ cls := "StreamEndModel", name := "abort", desc := "()V" } : Jvm.MethodName) ({ cls := "StreamEndModel", name := "abort", desc := "()V" } : Jvm.MethodName)) ∈ se_all := se_in 1031 (by decide +kernel) (by decide +kernel)
theorem q_codew_XL_run : (Jvm.Cond.codeWith ({ cls := "StreamEndLaw", name := "run", desc := "(LStreamEnd;I[J)I" } : Jvm.MethodName) method_8_code (4 : Nat) (Option.some Jvm.ClassFile.FieldType.int) [((0 : Nat), (9 : Nat), (12 : Nat), (19 : Nat)), ((0 : Nat), (9 : Nat), (15 : Nat), (13 : Nat))]) ∈ se_all := se_in 607 (by decide +kernel) (by decide +kernel)
theorem qXL_m86 : (Jvm.Cond.methodLink "StreamEndLaw" (86 : Nat) ({ cls := "StreamEndLaw", name := "run", desc := "(LStreamEnd;I[J)I" } : Jvm.MethodName)) ∈ se_all := se_in 605 (by decide +kernel) (by decide +kernel)
theorem q_static_XL_run : (Jvm.Cond.static ({ cls := "StreamEndLaw", name := "run", desc := "(LStreamEnd;I[J)I" } : Jvm.MethodName)) ∈ se_all := se_in 606 (by decide +kernel) (by decide +kernel)
theorem q_code_X6_run : (Jvm.Cond.code ({ cls := "StreamEndModel", name := "run", desc := "(I)I" } : Jvm.MethodName) prog_8_method_18_code (3 : Nat) (Option.some Jvm.ClassFile.FieldType.int)) ∈ se_all := se_in 1036 (by decide +kernel) (by decide +kernel)
theorem qXL_m89 : (Jvm.Cond.methodLink "StreamEndLaw" (89 : Nat) ({ cls := "StreamEndModel", name := "run", desc := "(I)I" } : Jvm.MethodName)) ∈ se_all := se_in 1033 (by decide +kernel) (by decide +kernel)
theorem q_instanceMethod_X6_run : (Jvm.Cond.instanceMethod ({ cls := "StreamEndModel", name := "run", desc := "(I)I" } : Jvm.MethodName)) ∈ se_all := se_in 1034 (by decide +kernel) (by decide +kernel)
theorem q_sel_X6_run : (Jvm.Cond.selects "StreamEndModel" ({ cls := "StreamEndModel", name := "run", desc := "(I)I" } : Jvm.MethodName) ({ cls := "StreamEndModel", name := "run", desc := "(I)I" } : Jvm.MethodName)) ∈ se_all := se_in 1035 (by decide +kernel) (by decide +kernel)
theorem q_code_X6_thrown : (Jvm.Cond.code ({ cls := "StreamEndModel", name := "thrown", desc := "()I" } : Jvm.MethodName) prog_8_method_2_code (1 : Nat) (Option.some Jvm.ClassFile.FieldType.int)) ∈ se_all := se_in 975 (by decide +kernel) (by decide +kernel)
theorem qXL_m90 : (Jvm.Cond.methodLink "StreamEndLaw" (90 : Nat) ({ cls := "StreamEndModel", name := "thrown", desc := "()I" } : Jvm.MethodName)) ∈ se_all := se_in 972 (by decide +kernel) (by decide +kernel)
theorem q_instanceMethod_X6_thrown : (Jvm.Cond.instanceMethod ({ cls := "StreamEndModel", name := "thrown", desc := "()I" } : Jvm.MethodName)) ∈ se_all := se_in 973 (by decide +kernel) (by decide +kernel)
theorem q_sel_X6_thrown : (Jvm.Cond.selects "StreamEndModel" ({ cls := "StreamEndModel", name := "thrown", desc := "()I" } : Jvm.MethodName) ({ cls := "StreamEndModel", name := "thrown", desc := "()I" } : Jvm.MethodName)) ∈ se_all := se_in 974 (by decide +kernel) (by decide +kernel)
theorem q_code_X5_next : (Jvm.Cond.code ({ cls := "StreamEnd", name := "next", desc := "()Z" } : Jvm.MethodName) prog_1_method_8_code (1 : Nat) (Option.some Jvm.ClassFile.FieldType.boolean)) ∈ se_all := se_in 291 (by decide +kernel) (by decide +kernel)
theorem qXL_m93 : (Jvm.Cond.methodLink "StreamEndLaw" (93 : Nat) ({ cls := "StreamEnd", name := "next", desc := "()Z" } : Jvm.MethodName)) ∈ se_all := se_in 288 (by decide +kernel) (by decide +kernel)
theorem q_instanceMethod_X5_next : (Jvm.Cond.instanceMethod ({ cls := "StreamEnd", name := "next", desc := "()Z" } : Jvm.MethodName)) ∈ se_all := se_in 289 (by decide +kernel) (by decide +kernel)
theorem q_sel_X5_next : (Jvm.Cond.selects "StreamEnd" ({ cls := "StreamEnd", name := "next", desc := "()Z" } : Jvm.MethodName) ({ cls := "StreamEnd", name := "next", desc := "()Z" } : Jvm.MethodName)) ∈ se_all := se_in 290 (by decide +kernel) (by decide +kernel)
theorem q_code_X6_next : (Jvm.Cond.code ({ cls := "StreamEndModel", name := "next", desc := "()Z" } : Jvm.MethodName) prog_8_method_42_code (1 : Nat) (Option.some Jvm.ClassFile.FieldType.boolean)) ∈ se_all := se_in 1109 (by decide +kernel) (by decide +kernel)
theorem qXL_m97 : (Jvm.Cond.methodLink "StreamEndLaw" (97 : Nat) ({ cls := "StreamEndModel", name := "next", desc := "()Z" } : Jvm.MethodName)) ∈ se_all := se_in 1106 (by decide +kernel) (by decide +kernel)
theorem q_instanceMethod_X6_next : (Jvm.Cond.instanceMethod ({ cls := "StreamEndModel", name := "next", desc := "()Z" } : Jvm.MethodName)) ∈ se_all := se_in 1107 (by decide +kernel) (by decide +kernel)
theorem q_sel_X6_next : (Jvm.Cond.selects "StreamEndModel" ({ cls := "StreamEndModel", name := "next", desc := "()Z" } : Jvm.MethodName) ({ cls := "StreamEndModel", name := "next", desc := "()Z" } : Jvm.MethodName)) ∈ se_all := se_in 1108 (by decide +kernel) (by decide +kernel)
theorem q_codew_XL_segment : (Jvm.Cond.codeWith ({ cls := "StreamEndLaw", name := "segment", desc := "(LStreamEnd;I[J)I" } : Jvm.MethodName) method_9_code (4 : Nat) (Option.some Jvm.ClassFile.FieldType.int) [((0 : Nat), (9 : Nat), (12 : Nat), (19 : Nat)), ((0 : Nat), (9 : Nat), (15 : Nat), (13 : Nat))]) ∈ se_all := se_in 635 (by decide +kernel) (by decide +kernel)
theorem qXL_m98 : (Jvm.Cond.methodLink "StreamEndLaw" (98 : Nat) ({ cls := "StreamEndLaw", name := "segment", desc := "(LStreamEnd;I[J)I" } : Jvm.MethodName)) ∈ se_all := se_in 633 (by decide +kernel) (by decide +kernel)
theorem q_static_XL_segment : (Jvm.Cond.static ({ cls := "StreamEndLaw", name := "segment", desc := "(LStreamEnd;I[J)I" } : Jvm.MethodName)) ∈ se_all := se_in 634 (by decide +kernel) (by decide +kernel)
theorem q_code_X6_segment : (Jvm.Cond.code ({ cls := "StreamEndModel", name := "segment", desc := "(I)I" } : Jvm.MethodName) prog_8_method_43_code (2 : Nat) (Option.some Jvm.ClassFile.FieldType.int)) ∈ se_all := se_in 1141 (by decide +kernel) (by decide +kernel)
theorem qXL_m100 : (Jvm.Cond.methodLink "StreamEndLaw" (100 : Nat) ({ cls := "StreamEndModel", name := "segment", desc := "(I)I" } : Jvm.MethodName)) ∈ se_all := se_in 1138 (by decide +kernel) (by decide +kernel)
theorem q_instanceMethod_X6_segment : (Jvm.Cond.instanceMethod ({ cls := "StreamEndModel", name := "segment", desc := "(I)I" } : Jvm.MethodName)) ∈ se_all := se_in 1139 (by decide +kernel) (by decide +kernel)
theorem q_sel_X6_segment : (Jvm.Cond.selects "StreamEndModel" ({ cls := "StreamEndModel", name := "segment", desc := "(I)I" } : Jvm.MethodName) ({ cls := "StreamEndModel", name := "segment", desc := "(I)I" } : Jvm.MethodName)) ∈ se_all := se_in 1140 (by decide +kernel) (by decide +kernel)
theorem q_codew_XL_byteAt : (Jvm.Cond.codeWith ({ cls := "StreamEndLaw", name := "byteAt", desc := "(LStreamEnd;I[J)I" } : Jvm.MethodName) method_10_code (4 : Nat) (Option.some Jvm.ClassFile.FieldType.int) [((0 : Nat), (9 : Nat), (12 : Nat), (13 : Nat)), ((0 : Nat), (9 : Nat), (15 : Nat), (41 : Nat))]) ∈ se_all := se_in 644 (by decide +kernel) (by decide +kernel)
theorem qXL_m101 : (Jvm.Cond.methodLink "StreamEndLaw" (101 : Nat) ({ cls := "StreamEndLaw", name := "byteAt", desc := "(LStreamEnd;I[J)I" } : Jvm.MethodName)) ∈ se_all := se_in 642 (by decide +kernel) (by decide +kernel)
theorem q_static_XL_byteAt : (Jvm.Cond.static ({ cls := "StreamEndLaw", name := "byteAt", desc := "(LStreamEnd;I[J)I" } : Jvm.MethodName)) ∈ se_all := se_in 643 (by decide +kernel) (by decide +kernel)
theorem q_code_X6_byteAt : (Jvm.Cond.code ({ cls := "StreamEndModel", name := "byteAt", desc := "(I)I" } : Jvm.MethodName) prog_8_method_44_code (2 : Nat) (Option.some Jvm.ClassFile.FieldType.int)) ∈ se_all := se_in 1145 (by decide +kernel) (by decide +kernel)
theorem qXL_m103 : (Jvm.Cond.methodLink "StreamEndLaw" (103 : Nat) ({ cls := "StreamEndModel", name := "byteAt", desc := "(I)I" } : Jvm.MethodName)) ∈ se_all := se_in 1142 (by decide +kernel) (by decide +kernel)
theorem q_instanceMethod_X6_byteAt : (Jvm.Cond.instanceMethod ({ cls := "StreamEndModel", name := "byteAt", desc := "(I)I" } : Jvm.MethodName)) ∈ se_all := se_in 1143 (by decide +kernel) (by decide +kernel)
theorem q_sel_X6_byteAt : (Jvm.Cond.selects "StreamEndModel" ({ cls := "StreamEndModel", name := "byteAt", desc := "(I)I" } : Jvm.MethodName) ({ cls := "StreamEndModel", name := "byteAt", desc := "(I)I" } : Jvm.MethodName)) ∈ se_all := se_in 1144 (by decide +kernel) (by decide +kernel)
theorem q_codew_XL_feed : (Jvm.Cond.codeWith ({ cls := "StreamEndLaw", name := "feed", desc := "(LStreamEnd;JI[J)I" } : Jvm.MethodName) method_11_code (6 : Nat) (Option.some Jvm.ClassFile.FieldType.int) [((0 : Nat), (11 : Nat), (14 : Nat), (19 : Nat)), ((0 : Nat), (11 : Nat), (18 : Nat), (13 : Nat))]) ∈ se_all := se_in 668 (by decide +kernel) (by decide +kernel)
theorem qXL_m104 : (Jvm.Cond.methodLink "StreamEndLaw" (104 : Nat) ({ cls := "StreamEndLaw", name := "feed", desc := "(LStreamEnd;JI[J)I" } : Jvm.MethodName)) ∈ se_all := se_in 666 (by decide +kernel) (by decide +kernel)
theorem q_static_XL_feed : (Jvm.Cond.static ({ cls := "StreamEndLaw", name := "feed", desc := "(LStreamEnd;JI[J)I" } : Jvm.MethodName)) ∈ se_all := se_in 667 (by decide +kernel) (by decide +kernel)
theorem q_code_X6_feed : (Jvm.Cond.code ({ cls := "StreamEndModel", name := "feed", desc := "(JI)I" } : Jvm.MethodName) prog_8_method_20_code (5 : Nat) (Option.some Jvm.ClassFile.FieldType.int)) ∈ se_all := se_in 1045 (by decide +kernel) (by decide +kernel)
theorem qXL_m106 : (Jvm.Cond.methodLink "StreamEndLaw" (106 : Nat) ({ cls := "StreamEndModel", name := "feed", desc := "(JI)I" } : Jvm.MethodName)) ∈ se_all := se_in 1042 (by decide +kernel) (by decide +kernel)
theorem q_instanceMethod_X6_feed : (Jvm.Cond.instanceMethod ({ cls := "StreamEndModel", name := "feed", desc := "(JI)I" } : Jvm.MethodName)) ∈ se_all := se_in 1043 (by decide +kernel) (by decide +kernel)
theorem q_sel_X6_feed : (Jvm.Cond.selects "StreamEndModel" ({ cls := "StreamEndModel", name := "feed", desc := "(JI)I" } : Jvm.MethodName) ({ cls := "StreamEndModel", name := "feed", desc := "(JI)I" } : Jvm.MethodName)) ∈ se_all := se_in 1044 (by decide +kernel) (by decide +kernel)
theorem q_codew_XL_arrive : (Jvm.Cond.codeWith ({ cls := "StreamEndLaw", name := "arrive", desc := "(LStreamEnd;IIIII[J)I" } : Jvm.MethodName) method_12_code (8 : Nat) (Option.some Jvm.ClassFile.FieldType.int) [((0 : Nat), (16 : Nat), (19 : Nat), (19 : Nat))]) ∈ se_all := se_in 678 (by decide +kernel) (by decide +kernel)
theorem qXL_m107 : (Jvm.Cond.methodLink "StreamEndLaw" (107 : Nat) ({ cls := "StreamEndLaw", name := "arrive", desc := "(LStreamEnd;IIIII[J)I" } : Jvm.MethodName)) ∈ se_all := se_in 676 (by decide +kernel) (by decide +kernel)
theorem q_static_XL_arrive : (Jvm.Cond.static ({ cls := "StreamEndLaw", name := "arrive", desc := "(LStreamEnd;IIIII[J)I" } : Jvm.MethodName)) ∈ se_all := se_in 677 (by decide +kernel) (by decide +kernel)
theorem q_code_X6_arrive : (Jvm.Cond.code ({ cls := "StreamEndModel", name := "arrive", desc := "(IIIII)I" } : Jvm.MethodName) prog_8_method_34_code (7 : Nat) (Option.some Jvm.ClassFile.FieldType.int)) ∈ se_all := se_in 1049 (by decide +kernel) (by decide +kernel)
theorem qXL_m110 : (Jvm.Cond.methodLink "StreamEndLaw" (110 : Nat) ({ cls := "StreamEndModel", name := "arrive", desc := "(IIIII)I" } : Jvm.MethodName)) ∈ se_all := se_in 1046 (by decide +kernel) (by decide +kernel)
theorem q_instanceMethod_X6_arrive : (Jvm.Cond.instanceMethod ({ cls := "StreamEndModel", name := "arrive", desc := "(IIIII)I" } : Jvm.MethodName)) ∈ se_all := se_in 1047 (by decide +kernel) (by decide +kernel)
theorem q_sel_X6_arrive : (Jvm.Cond.selects "StreamEndModel" ({ cls := "StreamEndModel", name := "arrive", desc := "(IIIII)I" } : Jvm.MethodName) ({ cls := "StreamEndModel", name := "arrive", desc := "(IIIII)I" } : Jvm.MethodName)) ∈ se_all := se_in 1048 (by decide +kernel) (by decide +kernel)
theorem q_code_X5_state : (Jvm.Cond.code ({ cls := "StreamEnd", name := "state", desc := "()I" } : Jvm.MethodName) prog_1_method_13_code (1 : Nat) (Option.some Jvm.ClassFile.FieldType.int)) ∈ se_all := se_in 389 (by decide +kernel) (by decide +kernel)
theorem qXL_m111 : (Jvm.Cond.methodLink "StreamEndLaw" (111 : Nat) ({ cls := "StreamEnd", name := "state", desc := "()I" } : Jvm.MethodName)) ∈ se_all := se_in 386 (by decide +kernel) (by decide +kernel)
theorem q_instanceMethod_X5_state : (Jvm.Cond.instanceMethod ({ cls := "StreamEnd", name := "state", desc := "()I" } : Jvm.MethodName)) ∈ se_all := se_in 387 (by decide +kernel) (by decide +kernel)
theorem q_sel_X5_state : (Jvm.Cond.selects "StreamEnd" ({ cls := "StreamEnd", name := "state", desc := "()I" } : Jvm.MethodName) ({ cls := "StreamEnd", name := "state", desc := "()I" } : Jvm.MethodName)) ∈ se_all := se_in 388 (by decide +kernel) (by decide +kernel)
theorem q_code_X6_state : (Jvm.Cond.code ({ cls := "StreamEndModel", name := "state", desc := "()I" } : Jvm.MethodName) prog_8_method_45_code (1 : Nat) (Option.some Jvm.ClassFile.FieldType.int)) ∈ se_all := se_in 1149 (by decide +kernel) (by decide +kernel)
theorem qXL_m114 : (Jvm.Cond.methodLink "StreamEndLaw" (114 : Nat) ({ cls := "StreamEndModel", name := "state", desc := "()I" } : Jvm.MethodName)) ∈ se_all := se_in 1146 (by decide +kernel) (by decide +kernel)
theorem q_instanceMethod_X6_state : (Jvm.Cond.instanceMethod ({ cls := "StreamEndModel", name := "state", desc := "()I" } : Jvm.MethodName)) ∈ se_all := se_in 1147 (by decide +kernel) (by decide +kernel)
theorem q_sel_X6_state : (Jvm.Cond.selects "StreamEndModel" ({ cls := "StreamEndModel", name := "state", desc := "()I" } : Jvm.MethodName) ({ cls := "StreamEndModel", name := "state", desc := "()I" } : Jvm.MethodName)) ∈ se_all := se_in 1148 (by decide +kernel) (by decide +kernel)
theorem q_codew_XL_figure : (Jvm.Cond.codeWith ({ cls := "StreamEndLaw", name := "figure", desc := "(LStreamEnd;I[J)I" } : Jvm.MethodName) method_13_code (4 : Nat) (Option.some Jvm.ClassFile.FieldType.int) [((0 : Nat), (9 : Nat), (12 : Nat), (19 : Nat))]) ∈ se_all := se_in 808 (by decide +kernel) (by decide +kernel)
theorem qXL_m115 : (Jvm.Cond.methodLink "StreamEndLaw" (115 : Nat) ({ cls := "StreamEndLaw", name := "figure", desc := "(LStreamEnd;I[J)I" } : Jvm.MethodName)) ∈ se_all := se_in 806 (by decide +kernel) (by decide +kernel)
theorem q_static_XL_figure : (Jvm.Cond.static ({ cls := "StreamEndLaw", name := "figure", desc := "(LStreamEnd;I[J)I" } : Jvm.MethodName)) ∈ se_all := se_in 807 (by decide +kernel) (by decide +kernel)
theorem q_code_X6_figure : (Jvm.Cond.code ({ cls := "StreamEndModel", name := "figure", desc := "(I)I" } : Jvm.MethodName) prog_8_method_46_code (2 : Nat) (Option.some Jvm.ClassFile.FieldType.int)) ∈ se_all := se_in 1153 (by decide +kernel) (by decide +kernel)
theorem qXL_m117 : (Jvm.Cond.methodLink "StreamEndLaw" (117 : Nat) ({ cls := "StreamEndModel", name := "figure", desc := "(I)I" } : Jvm.MethodName)) ∈ se_all := se_in 1150 (by decide +kernel) (by decide +kernel)
theorem q_instanceMethod_X6_figure : (Jvm.Cond.instanceMethod ({ cls := "StreamEndModel", name := "figure", desc := "(I)I" } : Jvm.MethodName)) ∈ se_all := se_in 1151 (by decide +kernel) (by decide +kernel)
theorem q_sel_X6_figure : (Jvm.Cond.selects "StreamEndModel" ({ cls := "StreamEndModel", name := "figure", desc := "(I)I" } : Jvm.MethodName) ({ cls := "StreamEndModel", name := "figure", desc := "(I)I" } : Jvm.MethodName)) ∈ se_all := se_in 1152 (by decide +kernel) (by decide +kernel)
theorem q_inst_X5 : (Jvm.Cond.instantiable "StreamEnd" (12 : Nat)) ∈ se_all := se_in 17 (by decide +kernel) (by decide +kernel)
theorem q_inst_X6 : (Jvm.Cond.instantiable "StreamEndModel" (50 : Nat)) ∈ se_all := se_in 815 (by decide +kernel) (by decide +kernel)
theorem qXL_c8 : (Jvm.Cond.classLink "StreamEndLaw" (8 : Nat) "StreamEnd") ∈ se_all := se_in 16 (by decide +kernel) (by decide +kernel)
theorem q_code_XL_cell : (Jvm.Cond.code ({ cls := "StreamEndLaw", name := "cell", desc := "([II)I" } : Jvm.MethodName) method_2_code (2 : Nat) (Option.some Jvm.ClassFile.FieldType.int)) ∈ se_all := se_in 392 (by decide +kernel) (by decide +kernel)
theorem qXL_m53 : (Jvm.Cond.methodLink "StreamEndLaw" (53 : Nat) ({ cls := "StreamEndLaw", name := "cell", desc := "([II)I" } : Jvm.MethodName)) ∈ se_all := se_in 390 (by decide +kernel) (by decide +kernel)
theorem q_static_XL_cell : (Jvm.Cond.static ({ cls := "StreamEndLaw", name := "cell", desc := "([II)I" } : Jvm.MethodName)) ∈ se_all := se_in 391 (by decide +kernel) (by decide +kernel)
theorem q_code_X5_init : (Jvm.Cond.code ({ cls := "StreamEnd", name := "<init>", desc := "(II)V" } : Jvm.MethodName) prog_1_method_1_code (3 : Nat) (Option.none : Option Jvm.ClassFile.FieldType)) ∈ se_all := se_in 20 (by decide +kernel) (by decide +kernel)
theorem qXL_m59 : (Jvm.Cond.methodLink "StreamEndLaw" (59 : Nat) ({ cls := "StreamEnd", name := "<init>", desc := "(II)V" } : Jvm.MethodName)) ∈ se_all := se_in 18 (by decide +kernel) (by decide +kernel)
theorem q_instanceMethod_X5_init : (Jvm.Cond.instanceMethod ({ cls := "StreamEnd", name := "<init>", desc := "(II)V" } : Jvm.MethodName)) ∈ se_all := se_in 19 (by decide +kernel) (by decide +kernel)
theorem qXL_c62 : (Jvm.Cond.classLink "StreamEndLaw" (62 : Nat) "StreamEndModel") ∈ se_all := se_in 814 (by decide +kernel) (by decide +kernel)
theorem q_code_X6_init : (Jvm.Cond.code ({ cls := "StreamEndModel", name := "<init>", desc := "(II)V" } : Jvm.MethodName) prog_8_method_1_code (3 : Nat) (Option.none : Option Jvm.ClassFile.FieldType)) ∈ se_all := se_in 818 (by decide +kernel) (by decide +kernel)
theorem qXL_m64 : (Jvm.Cond.methodLink "StreamEndLaw" (64 : Nat) ({ cls := "StreamEndModel", name := "<init>", desc := "(II)V" } : Jvm.MethodName)) ∈ se_all := se_in 816 (by decide +kernel) (by decide +kernel)
theorem q_instanceMethod_X6_init : (Jvm.Cond.instanceMethod ({ cls := "StreamEndModel", name := "<init>", desc := "(II)V" } : Jvm.MethodName)) ∈ se_all := se_in 817 (by decide +kernel) (by decide +kernel)
theorem q_arr_long : (Jvm.Cond.arrayClass Jvm.ClassFile.FieldType.long) ∈ se_all := se_in 1155 (by decide +kernel) (by decide +kernel)
