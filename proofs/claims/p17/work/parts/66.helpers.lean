/-! THE HELPERS, each over the contract of what it calls -/
theorem g_378 : (Cond.classLink "WireMessagesLaw" (13 : Nat) "java/lang/IllegalStateException") ∈ GT := gt_mem 378 (by decide +kernel) rfl
theorem g_379 : (Cond.methodLink "WireMessagesLaw" (7 : Nat) ({ cls := "WireMessages", name := "feed", desc := "(IIIII)I" } : MethodName)) ∈ GT := gt_mem 379 (by decide +kernel) rfl
theorem g_380 : (Cond.instanceMethod ({ cls := "WireMessages", name := "feed", desc := "(IIIII)I" } : MethodName)) ∈ GT := gt_mem 380 (by decide +kernel) rfl
theorem g_381 : (Cond.selects "WireMessages" ({ cls := "WireMessages", name := "feed", desc := "(IIIII)I" } : MethodName) ({ cls := "WireMessages", name := "feed", desc := "(IIIII)I" } : MethodName)) ∈ GT := gt_mem 381 (by decide +kernel) rfl
theorem g_382 : (Cond.code ({ cls := "WireMessages", name := "feed", desc := "(IIIII)I" } : MethodName) prog_1_method_2_code (6 : Nat) (Option.some FieldType.int)) ∈ GT := gt_mem 382 (by decide +kernel) rfl
theorem g_461 : (Cond.classLink "WireMessagesLaw" (19 : Nat) "java/lang/IllegalArgumentException") ∈ GT := gt_mem 461 (by decide +kernel) rfl
theorem g_462 : (Cond.methodLink "WireMessagesLaw" (15 : Nat) ({ cls := "WireMessages", name := "end", desc := "(I)I" } : MethodName)) ∈ GT := gt_mem 462 (by decide +kernel) rfl
theorem g_463 : (Cond.instanceMethod ({ cls := "WireMessages", name := "end", desc := "(I)I" } : MethodName)) ∈ GT := gt_mem 463 (by decide +kernel) rfl
theorem g_464 : (Cond.selects "WireMessages" ({ cls := "WireMessages", name := "end", desc := "(I)I" } : MethodName) ({ cls := "WireMessages", name := "end", desc := "(I)I" } : MethodName)) ∈ GT := gt_mem 464 (by decide +kernel) rfl
theorem g_465 : (Cond.code ({ cls := "WireMessages", name := "end", desc := "(I)I" } : MethodName) prog_1_method_3_code (2 : Nat) (Option.some FieldType.int)) ∈ GT := gt_mem 465 (by decide +kernel) rfl
theorem g_484 : (Cond.methodLink "WireMessagesLaw" (21 : Nat) ({ cls := "WireMessages", name := "question", desc := "(II)I" } : MethodName)) ∈ GT := gt_mem 484 (by decide +kernel) rfl
theorem g_485 : (Cond.instanceMethod ({ cls := "WireMessages", name := "question", desc := "(II)I" } : MethodName)) ∈ GT := gt_mem 485 (by decide +kernel) rfl
theorem g_486 : (Cond.selects "WireMessages" ({ cls := "WireMessages", name := "question", desc := "(II)I" } : MethodName) ({ cls := "WireMessages", name := "question", desc := "(II)I" } : MethodName)) ∈ GT := gt_mem 486 (by decide +kernel) rfl
theorem g_487 : (Cond.code ({ cls := "WireMessages", name := "question", desc := "(II)I" } : MethodName) prog_1_method_7_code (4 : Nat) (Option.some FieldType.int)) ∈ GT := gt_mem 487 (by decide +kernel) rfl
theorem g_500 : (Cond.classLink "WireMessagesLaw" (29 : Nat) "java/util/NoSuchElementException") ∈ GT := gt_mem 500 (by decide +kernel) rfl
theorem g_501 : (Cond.methodLink "WireMessagesLaw" (25 : Nat) ({ cls := "WireMessages", name := "record", desc := "(IIII)I" } : MethodName)) ∈ GT := gt_mem 501 (by decide +kernel) rfl
theorem g_502 : (Cond.instanceMethod ({ cls := "WireMessages", name := "record", desc := "(IIII)I" } : MethodName)) ∈ GT := gt_mem 502 (by decide +kernel) rfl
theorem g_503 : (Cond.selects "WireMessages" ({ cls := "WireMessages", name := "record", desc := "(IIII)I" } : MethodName) ({ cls := "WireMessages", name := "record", desc := "(IIII)I" } : MethodName)) ∈ GT := gt_mem 503 (by decide +kernel) rfl
theorem g_504 : (Cond.code ({ cls := "WireMessages", name := "record", desc := "(IIII)I" } : MethodName) prog_1_method_8_code (6 : Nat) (Option.some FieldType.int)) ∈ GT := gt_mem 504 (by decide +kernel) rfl
theorem g_527 : (Cond.classLink "WireMessagesLaw" (34 : Nat) "java/lang/UnsupportedOperationException") ∈ GT := gt_mem 527 (by decide +kernel) rfl
theorem g_528 : (Cond.methodLink "WireMessagesLaw" (31 : Nat) ({ cls := "WireMessages", name := "write", desc := "(I)I" } : MethodName)) ∈ GT := gt_mem 528 (by decide +kernel) rfl
theorem g_529 : (Cond.instanceMethod ({ cls := "WireMessages", name := "write", desc := "(I)I" } : MethodName)) ∈ GT := gt_mem 529 (by decide +kernel) rfl
theorem g_530 : (Cond.selects "WireMessages" ({ cls := "WireMessages", name := "write", desc := "(I)I" } : MethodName) ({ cls := "WireMessages", name := "write", desc := "(I)I" } : MethodName)) ∈ GT := gt_mem 530 (by decide +kernel) rfl
theorem g_531 : (Cond.code ({ cls := "WireMessages", name := "write", desc := "(I)I" } : MethodName) prog_1_method_9_code (2 : Nat) (Option.some FieldType.int)) ∈ GT := gt_mem 531 (by decide +kernel) rfl
theorem g_623 : (Cond.classLink "WireMessagesLaw" (39 : Nat) "java/lang/IndexOutOfBoundsException") ∈ GT := gt_mem 623 (by decide +kernel) rfl
theorem g_624 : (Cond.methodLink "WireMessagesLaw" (36 : Nat) ({ cls := "WireMessages", name := "back", desc := "(II)I" } : MethodName)) ∈ GT := gt_mem 624 (by decide +kernel) rfl
theorem g_625 : (Cond.instanceMethod ({ cls := "WireMessages", name := "back", desc := "(II)I" } : MethodName)) ∈ GT := gt_mem 625 (by decide +kernel) rfl
theorem g_626 : (Cond.selects "WireMessages" ({ cls := "WireMessages", name := "back", desc := "(II)I" } : MethodName) ({ cls := "WireMessages", name := "back", desc := "(II)I" } : MethodName)) ∈ GT := gt_mem 626 (by decide +kernel) rfl
theorem g_627 : (Cond.code ({ cls := "WireMessages", name := "back", desc := "(II)I" } : MethodName) prog_1_method_10_code (4 : Nat) (Option.some FieldType.int)) ∈ GT := gt_mem 627 (by decide +kernel) rfl
theorem g_649 : (Cond.methodLink "WireMessagesLaw" (41 : Nat) ({ cls := "WireMessages", name := "written", desc := "(I)I" } : MethodName)) ∈ GT := gt_mem 649 (by decide +kernel) rfl
theorem g_650 : (Cond.instanceMethod ({ cls := "WireMessages", name := "written", desc := "(I)I" } : MethodName)) ∈ GT := gt_mem 650 (by decide +kernel) rfl
theorem g_651 : (Cond.selects "WireMessages" ({ cls := "WireMessages", name := "written", desc := "(I)I" } : MethodName) ({ cls := "WireMessages", name := "written", desc := "(I)I" } : MethodName)) ∈ GT := gt_mem 651 (by decide +kernel) rfl
theorem g_652 : (Cond.code ({ cls := "WireMessages", name := "written", desc := "(I)I" } : MethodName) prog_1_method_11_code (2 : Nat) (Option.some FieldType.int)) ∈ GT := gt_mem 652 (by decide +kernel) rfl
theorem g_656 : (Cond.methodLink "WireMessagesLaw" (44 : Nat) ({ cls := "WireMessages", name := "header", desc := "(I)I" } : MethodName)) ∈ GT := gt_mem 656 (by decide +kernel) rfl
theorem g_657 : (Cond.instanceMethod ({ cls := "WireMessages", name := "header", desc := "(I)I" } : MethodName)) ∈ GT := gt_mem 657 (by decide +kernel) rfl
theorem g_658 : (Cond.selects "WireMessages" ({ cls := "WireMessages", name := "header", desc := "(I)I" } : MethodName) ({ cls := "WireMessages", name := "header", desc := "(I)I" } : MethodName)) ∈ GT := gt_mem 658 (by decide +kernel) rfl
theorem g_659 : (Cond.code ({ cls := "WireMessages", name := "header", desc := "(I)I" } : MethodName) prog_1_method_12_code (2 : Nat) (Option.some FieldType.int)) ∈ GT := gt_mem 659 (by decide +kernel) rfl
theorem g_663 : (Cond.methodLink "WireMessagesLaw" (47 : Nat) ({ cls := "WireMessages", name := "told", desc := "(III)I" } : MethodName)) ∈ GT := gt_mem 663 (by decide +kernel) rfl
theorem g_664 : (Cond.instanceMethod ({ cls := "WireMessages", name := "told", desc := "(III)I" } : MethodName)) ∈ GT := gt_mem 664 (by decide +kernel) rfl
theorem g_665 : (Cond.selects "WireMessages" ({ cls := "WireMessages", name := "told", desc := "(III)I" } : MethodName) ({ cls := "WireMessages", name := "told", desc := "(III)I" } : MethodName)) ∈ GT := gt_mem 665 (by decide +kernel) rfl
theorem g_666 : (Cond.code ({ cls := "WireMessages", name := "told", desc := "(III)I" } : MethodName) prog_1_method_13_code (5 : Nat) (Option.some FieldType.int)) ∈ GT := gt_mem 666 (by decide +kernel) rfl
theorem g_678 : (Cond.methodLink "WireMessagesLaw" (51 : Nat) ({ cls := "WireMessages", name := "byteOf", desc := "(III)I" } : MethodName)) ∈ GT := gt_mem 678 (by decide +kernel) rfl
theorem g_679 : (Cond.instanceMethod ({ cls := "WireMessages", name := "byteOf", desc := "(III)I" } : MethodName)) ∈ GT := gt_mem 679 (by decide +kernel) rfl
theorem g_680 : (Cond.selects "WireMessages" ({ cls := "WireMessages", name := "byteOf", desc := "(III)I" } : MethodName) ({ cls := "WireMessages", name := "byteOf", desc := "(III)I" } : MethodName)) ∈ GT := gt_mem 680 (by decide +kernel) rfl
theorem g_681 : (Cond.code ({ cls := "WireMessages", name := "byteOf", desc := "(III)I" } : MethodName) prog_1_method_14_code (5 : Nat) (Option.some FieldType.int)) ∈ GT := gt_mem 681 (by decide +kernel) rfl
theorem g_685 : (Cond.methodLink "WireMessagesLaw" (54 : Nat) ({ cls := "WireMessages", name := "same", desc := "(IIII)Z" } : MethodName)) ∈ GT := gt_mem 685 (by decide +kernel) rfl
theorem g_686 : (Cond.instanceMethod ({ cls := "WireMessages", name := "same", desc := "(IIII)Z" } : MethodName)) ∈ GT := gt_mem 686 (by decide +kernel) rfl
theorem g_687 : (Cond.selects "WireMessages" ({ cls := "WireMessages", name := "same", desc := "(IIII)Z" } : MethodName) ({ cls := "WireMessages", name := "same", desc := "(IIII)Z" } : MethodName)) ∈ GT := gt_mem 687 (by decide +kernel) rfl
theorem g_688 : (Cond.code ({ cls := "WireMessages", name := "same", desc := "(IIII)Z" } : MethodName) prog_1_method_15_code (7 : Nat) (Option.some FieldType.boolean)) ∈ GT := gt_mem 688 (by decide +kernel) rfl
theorem g_708 : (Cond.methodLink "WireMessagesLaw" (58 : Nat) ({ cls := "WireMessages", name := "order", desc := "(IIII)I" } : MethodName)) ∈ GT := gt_mem 708 (by decide +kernel) rfl
theorem g_709 : (Cond.instanceMethod ({ cls := "WireMessages", name := "order", desc := "(IIII)I" } : MethodName)) ∈ GT := gt_mem 709 (by decide +kernel) rfl
theorem g_710 : (Cond.selects "WireMessages" ({ cls := "WireMessages", name := "order", desc := "(IIII)I" } : MethodName) ({ cls := "WireMessages", name := "order", desc := "(IIII)I" } : MethodName)) ∈ GT := gt_mem 710 (by decide +kernel) rfl
theorem g_711 : (Cond.code ({ cls := "WireMessages", name := "order", desc := "(IIII)I" } : MethodName) prog_1_method_16_code (7 : Nat) (Option.some FieldType.int)) ∈ GT := gt_mem 711 (by decide +kernel) rfl
theorem d_La_back_0 : decode b_La_back 0 = .ok (.aload_n 3, 1) := by decide +kernel
theorem d_La_back_1 : decode b_La_back 1 = .ok (.iconst 0, 1) := by decide +kernel
theorem d_La_back_2 : decode b_La_back 2 = .ok (.aload_n 0, 1) := by decide +kernel
theorem d_La_back_3 : decode b_La_back 3 = .ok (.iload_n 1, 1) := by decide +kernel
theorem d_La_back_4 : decode b_La_back 4 = .ok (.iload_n 2, 1) := by decide +kernel
theorem d_La_back_5 : decode b_La_back 5 = .ok (.invokevirtual 36, 3) := by decide +kernel
theorem d_La_back_8 : decode b_La_back 8 = .ok (.i2l, 1) := by decide +kernel
theorem d_La_back_9 : decode b_La_back 9 = .ok (.lastore, 1) := by decide +kernel
theorem d_La_back_10 : decode b_La_back 10 = .ok (.goto 7, 3) := by decide +kernel
theorem d_La_back_13 : decode b_La_back 13 = .ok (.astore 4, 2) := by decide +kernel
theorem d_La_back_15 : decode b_La_back 15 = .ok (.iconst 1, 1) := by decide +kernel
theorem d_La_back_16 : decode b_La_back 16 = .ok (.ireturn, 1) := by decide +kernel
theorem d_La_back_17 : decode b_La_back 17 = .ok (.iconst 0, 1) := by decide +kernel
theorem d_La_back_18 : decode b_La_back 18 = .ok (.ireturn, 1) := by decide +kernel
theorem d_La_byteOf_0 : decode b_La_byteOf 0 = .ok (.aload 4, 2) := by decide +kernel
theorem d_La_byteOf_2 : decode b_La_byteOf 2 = .ok (.iconst 0, 1) := by decide +kernel
theorem d_La_byteOf_3 : decode b_La_byteOf 3 = .ok (.aload_n 0, 1) := by decide +kernel
theorem d_La_byteOf_4 : decode b_La_byteOf 4 = .ok (.iload_n 1, 1) := by decide +kernel
theorem d_La_byteOf_5 : decode b_La_byteOf 5 = .ok (.iload_n 2, 1) := by decide +kernel
theorem d_La_byteOf_6 : decode b_La_byteOf 6 = .ok (.iload_n 3, 1) := by decide +kernel
theorem d_La_byteOf_7 : decode b_La_byteOf 7 = .ok (.invokevirtual 51, 3) := by decide +kernel
theorem d_La_byteOf_10 : decode b_La_byteOf 10 = .ok (.i2l, 1) := by decide +kernel
theorem d_La_byteOf_11 : decode b_La_byteOf 11 = .ok (.lastore, 1) := by decide +kernel
theorem d_La_byteOf_12 : decode b_La_byteOf 12 = .ok (.goto 11, 3) := by decide +kernel
theorem d_La_byteOf_15 : decode b_La_byteOf 15 = .ok (.astore 5, 2) := by decide +kernel
theorem d_La_byteOf_17 : decode b_La_byteOf 17 = .ok (.iconst 1, 1) := by decide +kernel
theorem d_La_byteOf_18 : decode b_La_byteOf 18 = .ok (.ireturn, 1) := by decide +kernel
theorem d_La_byteOf_19 : decode b_La_byteOf 19 = .ok (.astore 5, 2) := by decide +kernel
theorem d_La_byteOf_21 : decode b_La_byteOf 21 = .ok (.iconst 2, 1) := by decide +kernel
theorem d_La_byteOf_22 : decode b_La_byteOf 22 = .ok (.ireturn, 1) := by decide +kernel
theorem d_La_byteOf_23 : decode b_La_byteOf 23 = .ok (.iconst 0, 1) := by decide +kernel
theorem d_La_byteOf_24 : decode b_La_byteOf 24 = .ok (.ireturn, 1) := by decide +kernel
theorem d_La_end_0 : decode b_La_end 0 = .ok (.aload_n 2, 1) := by decide +kernel
theorem d_La_end_1 : decode b_La_end 1 = .ok (.iconst 0, 1) := by decide +kernel
theorem d_La_end_2 : decode b_La_end 2 = .ok (.aload_n 0, 1) := by decide +kernel
theorem d_La_end_3 : decode b_La_end 3 = .ok (.iload_n 1, 1) := by decide +kernel
theorem d_La_end_4 : decode b_La_end 4 = .ok (.invokevirtual 15, 3) := by decide +kernel
theorem d_La_end_7 : decode b_La_end 7 = .ok (.i2l, 1) := by decide +kernel
theorem d_La_end_8 : decode b_La_end 8 = .ok (.lastore, 1) := by decide +kernel
theorem d_La_end_9 : decode b_La_end 9 = .ok (.goto 6, 3) := by decide +kernel
theorem d_La_end_12 : decode b_La_end 12 = .ok (.astore_n 3, 1) := by decide +kernel
theorem d_La_end_13 : decode b_La_end 13 = .ok (.iconst 1, 1) := by decide +kernel
theorem d_La_end_14 : decode b_La_end 14 = .ok (.ireturn, 1) := by decide +kernel
theorem d_La_end_15 : decode b_La_end 15 = .ok (.iconst 0, 1) := by decide +kernel
theorem d_La_end_16 : decode b_La_end 16 = .ok (.ireturn, 1) := by decide +kernel
theorem d_La_feed_0 : decode b_La_feed 0 = .ok (.aload 6, 2) := by decide +kernel
theorem d_La_feed_2 : decode b_La_feed 2 = .ok (.iconst 0, 1) := by decide +kernel
theorem d_La_feed_3 : decode b_La_feed 3 = .ok (.aload_n 0, 1) := by decide +kernel
theorem d_La_feed_4 : decode b_La_feed 4 = .ok (.iload_n 1, 1) := by decide +kernel
theorem d_La_feed_5 : decode b_La_feed 5 = .ok (.iload_n 2, 1) := by decide +kernel
theorem d_La_feed_6 : decode b_La_feed 6 = .ok (.iload_n 3, 1) := by decide +kernel
theorem d_La_feed_7 : decode b_La_feed 7 = .ok (.iload 4, 2) := by decide +kernel
theorem d_La_feed_9 : decode b_La_feed 9 = .ok (.iload 5, 2) := by decide +kernel
theorem d_La_feed_11 : decode b_La_feed 11 = .ok (.invokevirtual 7, 3) := by decide +kernel
theorem d_La_feed_14 : decode b_La_feed 14 = .ok (.i2l, 1) := by decide +kernel
theorem d_La_feed_15 : decode b_La_feed 15 = .ok (.lastore, 1) := by decide +kernel
theorem d_La_feed_16 : decode b_La_feed 16 = .ok (.goto 7, 3) := by decide +kernel
theorem d_La_feed_19 : decode b_La_feed 19 = .ok (.astore 7, 2) := by decide +kernel
theorem d_La_feed_21 : decode b_La_feed 21 = .ok (.iconst 1, 1) := by decide +kernel
theorem d_La_feed_22 : decode b_La_feed 22 = .ok (.ireturn, 1) := by decide +kernel
theorem d_La_feed_23 : decode b_La_feed 23 = .ok (.iconst 0, 1) := by decide +kernel
theorem d_La_feed_24 : decode b_La_feed 24 = .ok (.ireturn, 1) := by decide +kernel
theorem d_La_header_0 : decode b_La_header 0 = .ok (.aload_n 2, 1) := by decide +kernel
theorem d_La_header_1 : decode b_La_header 1 = .ok (.iconst 0, 1) := by decide +kernel
theorem d_La_header_2 : decode b_La_header 2 = .ok (.aload_n 0, 1) := by decide +kernel
theorem d_La_header_3 : decode b_La_header 3 = .ok (.iload_n 1, 1) := by decide +kernel
theorem d_La_header_4 : decode b_La_header 4 = .ok (.invokevirtual 44, 3) := by decide +kernel
theorem d_La_header_7 : decode b_La_header 7 = .ok (.i2l, 1) := by decide +kernel
theorem d_La_header_8 : decode b_La_header 8 = .ok (.lastore, 1) := by decide +kernel
theorem d_La_header_9 : decode b_La_header 9 = .ok (.goto 6, 3) := by decide +kernel
theorem d_La_header_12 : decode b_La_header 12 = .ok (.astore_n 3, 1) := by decide +kernel
theorem d_La_header_13 : decode b_La_header 13 = .ok (.iconst 1, 1) := by decide +kernel
theorem d_La_header_14 : decode b_La_header 14 = .ok (.ireturn, 1) := by decide +kernel
theorem d_La_header_15 : decode b_La_header 15 = .ok (.iconst 0, 1) := by decide +kernel
theorem d_La_header_16 : decode b_La_header 16 = .ok (.ireturn, 1) := by decide +kernel
theorem d_La_order_0 : decode b_La_order 0 = .ok (.aload 5, 2) := by decide +kernel
theorem d_La_order_2 : decode b_La_order 2 = .ok (.iconst 0, 1) := by decide +kernel
theorem d_La_order_3 : decode b_La_order 3 = .ok (.aload_n 0, 1) := by decide +kernel
theorem d_La_order_4 : decode b_La_order 4 = .ok (.iload_n 1, 1) := by decide +kernel
theorem d_La_order_5 : decode b_La_order 5 = .ok (.iload_n 2, 1) := by decide +kernel
theorem d_La_order_6 : decode b_La_order 6 = .ok (.iload_n 3, 1) := by decide +kernel
theorem d_La_order_7 : decode b_La_order 7 = .ok (.iload 4, 2) := by decide +kernel
theorem d_La_order_9 : decode b_La_order 9 = .ok (.invokevirtual 58, 3) := by decide +kernel
theorem d_La_order_12 : decode b_La_order 12 = .ok (.i2l, 1) := by decide +kernel
theorem d_La_order_13 : decode b_La_order 13 = .ok (.lastore, 1) := by decide +kernel
theorem d_La_order_14 : decode b_La_order 14 = .ok (.goto 7, 3) := by decide +kernel
theorem d_La_order_17 : decode b_La_order 17 = .ok (.astore 6, 2) := by decide +kernel
theorem d_La_order_19 : decode b_La_order 19 = .ok (.iconst 1, 1) := by decide +kernel
theorem d_La_order_20 : decode b_La_order 20 = .ok (.ireturn, 1) := by decide +kernel
theorem d_La_order_21 : decode b_La_order 21 = .ok (.iconst 0, 1) := by decide +kernel
theorem d_La_order_22 : decode b_La_order 22 = .ok (.ireturn, 1) := by decide +kernel
theorem d_La_question_0 : decode b_La_question 0 = .ok (.aload_n 3, 1) := by decide +kernel
theorem d_La_question_1 : decode b_La_question 1 = .ok (.iconst 0, 1) := by decide +kernel
theorem d_La_question_2 : decode b_La_question 2 = .ok (.aload_n 0, 1) := by decide +kernel
theorem d_La_question_3 : decode b_La_question 3 = .ok (.iload_n 1, 1) := by decide +kernel
theorem d_La_question_4 : decode b_La_question 4 = .ok (.iload_n 2, 1) := by decide +kernel
theorem d_La_question_5 : decode b_La_question 5 = .ok (.invokevirtual 21, 3) := by decide +kernel
theorem d_La_question_8 : decode b_La_question 8 = .ok (.i2l, 1) := by decide +kernel
theorem d_La_question_9 : decode b_La_question 9 = .ok (.lastore, 1) := by decide +kernel
theorem d_La_question_10 : decode b_La_question 10 = .ok (.goto 11, 3) := by decide +kernel
theorem d_La_question_13 : decode b_La_question 13 = .ok (.astore 4, 2) := by decide +kernel
theorem d_La_question_15 : decode b_La_question 15 = .ok (.iconst 1, 1) := by decide +kernel
theorem d_La_question_16 : decode b_La_question 16 = .ok (.ireturn, 1) := by decide +kernel
theorem d_La_question_17 : decode b_La_question 17 = .ok (.astore 4, 2) := by decide +kernel
theorem d_La_question_19 : decode b_La_question 19 = .ok (.iconst 2, 1) := by decide +kernel
theorem d_La_question_20 : decode b_La_question 20 = .ok (.ireturn, 1) := by decide +kernel
theorem d_La_question_21 : decode b_La_question 21 = .ok (.iconst 0, 1) := by decide +kernel
theorem d_La_question_22 : decode b_La_question 22 = .ok (.ireturn, 1) := by decide +kernel
theorem d_La_record_0 : decode b_La_record 0 = .ok (.aload 5, 2) := by decide +kernel
theorem d_La_record_2 : decode b_La_record 2 = .ok (.iconst 0, 1) := by decide +kernel
theorem d_La_record_3 : decode b_La_record 3 = .ok (.aload_n 0, 1) := by decide +kernel
theorem d_La_record_4 : decode b_La_record 4 = .ok (.iload_n 1, 1) := by decide +kernel
theorem d_La_record_5 : decode b_La_record 5 = .ok (.iload_n 2, 1) := by decide +kernel
theorem d_La_record_6 : decode b_La_record 6 = .ok (.iload_n 3, 1) := by decide +kernel
theorem d_La_record_7 : decode b_La_record 7 = .ok (.iload 4, 2) := by decide +kernel
theorem d_La_record_9 : decode b_La_record 9 = .ok (.invokevirtual 25, 3) := by decide +kernel
theorem d_La_record_12 : decode b_La_record 12 = .ok (.i2l, 1) := by decide +kernel
theorem d_La_record_13 : decode b_La_record 13 = .ok (.lastore, 1) := by decide +kernel
theorem d_La_record_14 : decode b_La_record 14 = .ok (.goto 15, 3) := by decide +kernel
theorem d_La_record_17 : decode b_La_record 17 = .ok (.astore 6, 2) := by decide +kernel
theorem d_La_record_19 : decode b_La_record 19 = .ok (.iconst 1, 1) := by decide +kernel
theorem d_La_record_20 : decode b_La_record 20 = .ok (.ireturn, 1) := by decide +kernel
theorem d_La_record_21 : decode b_La_record 21 = .ok (.astore 6, 2) := by decide +kernel
theorem d_La_record_23 : decode b_La_record 23 = .ok (.iconst 2, 1) := by decide +kernel
theorem d_La_record_24 : decode b_La_record 24 = .ok (.ireturn, 1) := by decide +kernel
theorem d_La_record_25 : decode b_La_record 25 = .ok (.astore 6, 2) := by decide +kernel
theorem d_La_record_27 : decode b_La_record 27 = .ok (.iconst 3, 1) := by decide +kernel
theorem d_La_record_28 : decode b_La_record 28 = .ok (.ireturn, 1) := by decide +kernel
theorem d_La_record_29 : decode b_La_record 29 = .ok (.iconst 0, 1) := by decide +kernel
theorem d_La_record_30 : decode b_La_record 30 = .ok (.ireturn, 1) := by decide +kernel
theorem d_La_same_0 : decode b_La_same 0 = .ok (.aload 5, 2) := by decide +kernel
theorem d_La_same_2 : decode b_La_same 2 = .ok (.iconst 0, 1) := by decide +kernel
theorem d_La_same_3 : decode b_La_same 3 = .ok (.aload_n 0, 1) := by decide +kernel
theorem d_La_same_4 : decode b_La_same 4 = .ok (.iload_n 1, 1) := by decide +kernel
theorem d_La_same_5 : decode b_La_same 5 = .ok (.iload_n 2, 1) := by decide +kernel
theorem d_La_same_6 : decode b_La_same 6 = .ok (.iload_n 3, 1) := by decide +kernel
theorem d_La_same_7 : decode b_La_same 7 = .ok (.iload 4, 2) := by decide +kernel
theorem d_La_same_9 : decode b_La_same 9 = .ok (.invokevirtual 54, 3) := by decide +kernel
theorem d_La_same_12 : decode b_La_same 12 = .ok (.ifCond .eq 7, 3) := by decide +kernel
theorem d_La_same_15 : decode b_La_same 15 = .ok (.lconst 1, 1) := by decide +kernel
theorem d_La_same_16 : decode b_La_same 16 = .ok (.goto 4, 3) := by decide +kernel
theorem d_La_same_19 : decode b_La_same 19 = .ok (.lconst 0, 1) := by decide +kernel
theorem d_La_same_20 : decode b_La_same 20 = .ok (.lastore, 1) := by decide +kernel
theorem d_La_same_21 : decode b_La_same 21 = .ok (.goto 7, 3) := by decide +kernel
theorem d_La_same_24 : decode b_La_same 24 = .ok (.astore 6, 2) := by decide +kernel
theorem d_La_same_26 : decode b_La_same 26 = .ok (.iconst 1, 1) := by decide +kernel
theorem d_La_same_27 : decode b_La_same 27 = .ok (.ireturn, 1) := by decide +kernel
theorem d_La_same_28 : decode b_La_same 28 = .ok (.iconst 0, 1) := by decide +kernel
theorem d_La_same_29 : decode b_La_same 29 = .ok (.ireturn, 1) := by decide +kernel
theorem d_La_told_0 : decode b_La_told 0 = .ok (.aload 4, 2) := by decide +kernel
theorem d_La_told_2 : decode b_La_told 2 = .ok (.iconst 0, 1) := by decide +kernel
theorem d_La_told_3 : decode b_La_told 3 = .ok (.aload_n 0, 1) := by decide +kernel
theorem d_La_told_4 : decode b_La_told 4 = .ok (.iload_n 1, 1) := by decide +kernel
theorem d_La_told_5 : decode b_La_told 5 = .ok (.iload_n 2, 1) := by decide +kernel
theorem d_La_told_6 : decode b_La_told 6 = .ok (.iload_n 3, 1) := by decide +kernel
theorem d_La_told_7 : decode b_La_told 7 = .ok (.invokevirtual 47, 3) := by decide +kernel
theorem d_La_told_10 : decode b_La_told 10 = .ok (.i2l, 1) := by decide +kernel
theorem d_La_told_11 : decode b_La_told 11 = .ok (.lastore, 1) := by decide +kernel
theorem d_La_told_12 : decode b_La_told 12 = .ok (.goto 11, 3) := by decide +kernel
theorem d_La_told_15 : decode b_La_told 15 = .ok (.astore 5, 2) := by decide +kernel
theorem d_La_told_17 : decode b_La_told 17 = .ok (.iconst 1, 1) := by decide +kernel
theorem d_La_told_18 : decode b_La_told 18 = .ok (.ireturn, 1) := by decide +kernel
theorem d_La_told_19 : decode b_La_told 19 = .ok (.astore 5, 2) := by decide +kernel
theorem d_La_told_21 : decode b_La_told 21 = .ok (.iconst 2, 1) := by decide +kernel
theorem d_La_told_22 : decode b_La_told 22 = .ok (.ireturn, 1) := by decide +kernel
theorem d_La_told_23 : decode b_La_told 23 = .ok (.iconst 0, 1) := by decide +kernel
theorem d_La_told_24 : decode b_La_told 24 = .ok (.ireturn, 1) := by decide +kernel
theorem d_La_write_0 : decode b_La_write 0 = .ok (.aload_n 2, 1) := by decide +kernel
theorem d_La_write_1 : decode b_La_write 1 = .ok (.iconst 0, 1) := by decide +kernel
theorem d_La_write_2 : decode b_La_write 2 = .ok (.aload_n 0, 1) := by decide +kernel
theorem d_La_write_3 : decode b_La_write 3 = .ok (.iload_n 1, 1) := by decide +kernel
theorem d_La_write_4 : decode b_La_write 4 = .ok (.invokevirtual 31, 3) := by decide +kernel
theorem d_La_write_7 : decode b_La_write 7 = .ok (.i2l, 1) := by decide +kernel
theorem d_La_write_8 : decode b_La_write 8 = .ok (.lastore, 1) := by decide +kernel
theorem d_La_write_9 : decode b_La_write 9 = .ok (.goto 9, 3) := by decide +kernel
theorem d_La_write_12 : decode b_La_write 12 = .ok (.astore_n 3, 1) := by decide +kernel
theorem d_La_write_13 : decode b_La_write 13 = .ok (.iconst 1, 1) := by decide +kernel
theorem d_La_write_14 : decode b_La_write 14 = .ok (.ireturn, 1) := by decide +kernel
theorem d_La_write_15 : decode b_La_write 15 = .ok (.astore_n 3, 1) := by decide +kernel
theorem d_La_write_16 : decode b_La_write 16 = .ok (.iconst 2, 1) := by decide +kernel
theorem d_La_write_17 : decode b_La_write 17 = .ok (.ireturn, 1) := by decide +kernel
theorem d_La_write_18 : decode b_La_write 18 = .ok (.iconst 0, 1) := by decide +kernel
theorem d_La_write_19 : decode b_La_write 19 = .ok (.ireturn, 1) := by decide +kernel
theorem d_La_written_0 : decode b_La_written 0 = .ok (.aload_n 2, 1) := by decide +kernel
theorem d_La_written_1 : decode b_La_written 1 = .ok (.iconst 0, 1) := by decide +kernel
theorem d_La_written_2 : decode b_La_written 2 = .ok (.aload_n 0, 1) := by decide +kernel
theorem d_La_written_3 : decode b_La_written 3 = .ok (.iload_n 1, 1) := by decide +kernel
theorem d_La_written_4 : decode b_La_written 4 = .ok (.invokevirtual 41, 3) := by decide +kernel
theorem d_La_written_7 : decode b_La_written 7 = .ok (.i2l, 1) := by decide +kernel
theorem d_La_written_8 : decode b_La_written 8 = .ok (.lastore, 1) := by decide +kernel
theorem d_La_written_9 : decode b_La_written 9 = .ok (.goto 6, 3) := by decide +kernel
theorem d_La_written_12 : decode b_La_written 12 = .ok (.astore_n 3, 1) := by decide +kernel
theorem d_La_written_13 : decode b_La_written 13 = .ok (.iconst 1, 1) := by decide +kernel
theorem d_La_written_14 : decode b_La_written 14 = .ok (.ireturn, 1) := by decide +kernel
theorem d_La_written_15 : decode b_La_written 15 = .ok (.iconst 0, 1) := by decide +kernel
theorem d_La_written_16 : decode b_La_written 16 = .ok (.ireturn, 1) := by decide +kernel
set_option maxHeartbeats 4000000 in
set_option maxRecDepth 100000 in
theorem m_La_feed (l : Launch) (D9 : va_G) (cB cI cJ cG : ClassId) (a : Nat → Nat) (O : Nat → Int64) (I : Nat → Int32) (F : Nat → Nat → Int32) (u1 u2 u3 u4 u5 : Int32) {Q : Option Value → (Nat → Int32) → (Nat → Nat → Int32) → Prop} {X : String → (Nat → Int32) → (Nat → Nat → Int32) → Prop} (hM : MZW l D9 cB cI cJ cG a O y_Wm_feed b_Wm_feed 6 (some .int) 6 [.ref (a 0), .int u1, .int u2, .int u3, .int u4, .int u5] I F Q X) (hQ : ∀ v I' F', Q v I' F' → ∃ r : Int32, v = some (.int r)) (hX : ∀ E I' F', X E I' F' → E = "java/lang/IllegalStateException") : MKW l D9 cB cI cJ cG a O y_La_feed b_La_feed 8 [(0, 16, 19, 13)] [.ref (a 0), .int u1, .int u2, .int u3, .int u4, .int u5, .ref (a 48)] I F (fun k I' F' O' => (∃ r : Int32, Q (some (.int r)) I' F' ∧ k = 0 ∧ O' 0 = r.toInt64) ∨ (∃ E, X E I' F' ∧ ((E = "java/lang/IllegalStateException" ∧ k = 1)))) := by
  refine mk_of (by decide) (Nat.le_of_ble_eq_true rfl) ?_
  intro p e s m below meth c ls C0 htab h9 hZ hP hD hA hS hl
  obtain ⟨hx, hb, hml, hr, hlocks, hown, hts, hK⟩ := id C0
  have hl : lv_has ls 8 [(0, .ref (a 0)), (1, .int u1), (2, .int u2), (3, .int u3), (4, .int u4), (5, .int u5), (6, .ref (a 48))] := hl
  refine lv_aload hx hb d_La_feed_0 (lv_at hl 6 rfl) ?_
  refine lv_iconst (v := 0) hx hb d_La_feed_2 (by decide) ?_
  refine lv_aload_n hx hb d_La_feed_3 rfl (lv_at hl 0 rfl) ?_
  refine lv_iload_n hx hb d_La_feed_4 rfl (lv_at hl 1 rfl) ?_
  refine lv_iload_n hx hb d_La_feed_5 rfl (lv_at hl 2 rfl) ?_
  refine lv_iload_n hx hb d_La_feed_6 rfl (lv_at hl 3 rfl) ?_
  refine lv_iload hx hb d_La_feed_7 (lv_at hl 4 rfl) ?_
  refine lv_iload hx hb d_La_feed_9 (lv_at hl 5 rfl) ?_
  refine mz_cV (ci := 6) (k := 0) C0 hM g_382 g_1 g_379 g_380 g_381 ⟨by decide +kernel, by decide +kernel, show Option.map (fun d => d.parameters.length) (parseMethodDescriptor y_Wm_feed.desc) = some 5 by decide +kernel⟩ ⟨by decide, by decide⟩ rfl rfl (rz_Z hZ hS hD) hP hD hS hA rfl ww_0 hl.1 (Nat.le_of_ble_eq_true rfl) rfl d_La_feed_11 ⟨by decide, by decide⟩ ?_ ?_
  · intro q9 E ce w9 H locs hpx hce hcv hcl hP hD hS
    obtain ⟨I', F', rfl, hX9⟩ := hpx
    rcases hX E I' F' hX9 with rfl
    refine tx_catch (h := 19) (fun e9 ha9 => mh_hit C0 htab (by decide) (by decide) (by decide) g_378 hce hcv hcl e9 ha9) ?_
    refine lv_astore (lv' := [(7, _), (0, _), (1, _), (2, _), (3, _), (4, _), (5, _), (6, _)]) hx hb d_La_feed_19 hl (by decide) rfl (fun ls hl => ?_)
    refine lv_iconst (v := 1) hx hb d_La_feed_21 (by decide) ?_
    exact tx_ret (mw_zret hx hb hr hlocks hS hP hD (by decide) (by decide) d_La_feed_22 rfl (⟨_, I', F', O, rfl, rfl, Or.inr ⟨_, hX9, ⟨rfl, rfl⟩⟩⟩))
  · intro v9 w9 H locs hq hP hD hS
    obtain ⟨I', F', rfl, hq9⟩ := hq
    obtain ⟨r9, rfl⟩ := hQ _ _ _ hq9
    refine lv_i2l hx hb d_La_feed_14 rfl ?_
    refine va_last (D := D9) hx hb hK hP hD hS 48 2 ww_48 rfl (by unfold vp_in; decide +kernel) d_La_feed_15 (fun H locs hP hD hS => ?_)
    refine lv_goto (tgt := 23) hx hb d_La_feed_16 (by decide) ?_
    refine lv_iconst (v := 0) hx hb d_La_feed_23 (by decide) ?_
    exact tx_ret (mw_zret hx hb hr hlocks hS hP hD (by decide) (by decide) d_La_feed_24 rfl (⟨_, I', F', _, rfl, wso, Or.inl ⟨r9, hq9, rfl, rfl⟩⟩))
set_option maxHeartbeats 4000000 in
set_option maxRecDepth 100000 in
theorem m_La_end (l : Launch) (D9 : va_G) (cB cI cJ cG : ClassId) (a : Nat → Nat) (O : Nat → Int64) (I : Nat → Int32) (F : Nat → Nat → Int32) (u1 : Int32) {Q : Option Value → (Nat → Int32) → (Nat → Nat → Int32) → Prop} {X : String → (Nat → Int32) → (Nat → Nat → Int32) → Prop} (hM : MZW l D9 cB cI cJ cG a O y_Wm_end b_Wm_end 2 (some .int) 6 [.ref (a 0), .int u1] I F Q X) (hQ : ∀ v I' F', Q v I' F' → ∃ r : Int32, v = some (.int r)) (hX : ∀ E I' F', X E I' F' → E = "java/lang/IllegalArgumentException") : MKW l D9 cB cI cJ cG a O y_La_end b_La_end 4 [(0, 9, 12, 19)] [.ref (a 0), .int u1, .ref (a 48)] I F (fun k I' F' O' => (∃ r : Int32, Q (some (.int r)) I' F' ∧ k = 0 ∧ O' 0 = r.toInt64) ∨ (∃ E, X E I' F' ∧ ((E = "java/lang/IllegalArgumentException" ∧ k = 1)))) := by
  refine mk_of (by decide) (Nat.le_of_ble_eq_true rfl) ?_
  intro p e s m below meth c ls C0 htab h9 hZ hP hD hA hS hl
  obtain ⟨hx, hb, hml, hr, hlocks, hown, hts, hK⟩ := id C0
  have hl : lv_has ls 4 [(0, .ref (a 0)), (1, .int u1), (2, .ref (a 48))] := hl
  refine lv_aload_n hx hb d_La_end_0 rfl (lv_at hl 2 rfl) ?_
  refine lv_iconst (v := 0) hx hb d_La_end_1 (by decide) ?_
  refine lv_aload_n hx hb d_La_end_2 rfl (lv_at hl 0 rfl) ?_
  refine lv_iload_n hx hb d_La_end_3 rfl (lv_at hl 1 rfl) ?_
  refine mz_cV (ci := 6) (k := 0) C0 hM g_465 g_1 g_462 g_463 g_464 ⟨by decide +kernel, by decide +kernel, show Option.map (fun d => d.parameters.length) (parseMethodDescriptor y_Wm_end.desc) = some 1 by decide +kernel⟩ ⟨by decide, by decide⟩ rfl rfl (rz_Z hZ hS hD) hP hD hS hA rfl ww_0 hl.1 (Nat.le_of_ble_eq_true rfl) rfl d_La_end_4 ⟨by decide, by decide⟩ ?_ ?_
  · intro q9 E ce w9 H locs hpx hce hcv hcl hP hD hS
    obtain ⟨I', F', rfl, hX9⟩ := hpx
    rcases hX E I' F' hX9 with rfl
    refine tx_catch (h := 12) (fun e9 ha9 => mh_hit C0 htab (by decide) (by decide) (by decide) g_461 hce hcv hcl e9 ha9) ?_
    refine lv_astore_n (lv' := [(3, _), (0, _), (1, _), (2, _)]) hx hb d_La_end_12 rfl hl (by decide) rfl (fun ls hl => ?_)
    refine lv_iconst (v := 1) hx hb d_La_end_13 (by decide) ?_
    exact tx_ret (mw_zret hx hb hr hlocks hS hP hD (by decide) (by decide) d_La_end_14 rfl (⟨_, I', F', O, rfl, rfl, Or.inr ⟨_, hX9, ⟨rfl, rfl⟩⟩⟩))
  · intro v9 w9 H locs hq hP hD hS
    obtain ⟨I', F', rfl, hq9⟩ := hq
    obtain ⟨r9, rfl⟩ := hQ _ _ _ hq9
    refine lv_i2l hx hb d_La_end_7 rfl ?_
    refine va_last (D := D9) hx hb hK hP hD hS 48 2 ww_48 rfl (by unfold vp_in; decide +kernel) d_La_end_8 (fun H locs hP hD hS => ?_)
    refine lv_goto (tgt := 15) hx hb d_La_end_9 (by decide) ?_
    refine lv_iconst (v := 0) hx hb d_La_end_15 (by decide) ?_
    exact tx_ret (mw_zret hx hb hr hlocks hS hP hD (by decide) (by decide) d_La_end_16 rfl (⟨_, I', F', _, rfl, wso, Or.inl ⟨r9, hq9, rfl, rfl⟩⟩))
set_option maxHeartbeats 4000000 in
set_option maxRecDepth 100000 in
theorem m_La_question (l : Launch) (D9 : va_G) (cB cI cJ cG : ClassId) (a : Nat → Nat) (O : Nat → Int64) (I : Nat → Int32) (F : Nat → Nat → Int32) (u1 u2 : Int32) {Q : Option Value → (Nat → Int32) → (Nat → Nat → Int32) → Prop} {X : String → (Nat → Int32) → (Nat → Nat → Int32) → Prop} (hM : MZW l D9 cB cI cJ cG a O y_Wm_question b_Wm_question 4 (some .int) 7 [.ref (a 0), .int u1, .int u2] I F Q X) (hQ : ∀ v I' F', Q v I' F' → ∃ r : Int32, v = some (.int r)) (hX : ∀ E I' F', X E I' F' → E = "java/lang/IllegalArgumentException" ∨ E = "java/lang/IllegalStateException") : MKW l D9 cB cI cJ cG a O y_La_question b_La_question 5 [(0, 10, 13, 19), (0, 10, 17, 13)] [.ref (a 0), .int u1, .int u2, .ref (a 48)] I F (fun k I' F' O' => (∃ r : Int32, Q (some (.int r)) I' F' ∧ k = 0 ∧ O' 0 = r.toInt64) ∨ (∃ E, X E I' F' ∧ ((E = "java/lang/IllegalArgumentException" ∧ k = 1) ∨ (E = "java/lang/IllegalStateException" ∧ k = 2)))) := by
  refine mk_of (by decide) (Nat.le_of_ble_eq_true rfl) ?_
  intro p e s m below meth c ls C0 htab h9 hZ hP hD hA hS hl
  obtain ⟨hx, hb, hml, hr, hlocks, hown, hts, hK⟩ := id C0
  have hl : lv_has ls 5 [(0, .ref (a 0)), (1, .int u1), (2, .int u2), (3, .ref (a 48))] := hl
  refine lv_aload_n hx hb d_La_question_0 rfl (lv_at hl 3 rfl) ?_
  refine lv_iconst (v := 0) hx hb d_La_question_1 (by decide) ?_
  refine lv_aload_n hx hb d_La_question_2 rfl (lv_at hl 0 rfl) ?_
  refine lv_iload_n hx hb d_La_question_3 rfl (lv_at hl 1 rfl) ?_
  refine lv_iload_n hx hb d_La_question_4 rfl (lv_at hl 2 rfl) ?_
  refine mz_cV (ci := 6) (k := 0) C0 hM g_487 g_1 g_484 g_485 g_486 ⟨by decide +kernel, by decide +kernel, show Option.map (fun d => d.parameters.length) (parseMethodDescriptor y_Wm_question.desc) = some 2 by decide +kernel⟩ ⟨by decide, by decide⟩ rfl rfl (rz_Z hZ hS hD) hP hD hS hA rfl ww_0 hl.1 (Nat.le_of_ble_eq_true rfl) rfl d_La_question_5 ⟨by decide, by decide⟩ ?_ ?_
  · intro q9 E ce w9 H locs hpx hce hcv hcl hP hD hS
    obtain ⟨I', F', rfl, hX9⟩ := hpx
    rcases hX E I' F' hX9 with rfl | rfl
    · refine tx_catch (h := 13) (fun e9 ha9 => mh_hit C0 htab (by decide) (by decide) (by decide) g_461 hce hcv hcl e9 ha9) ?_
      refine lv_astore (lv' := [(4, _), (0, _), (1, _), (2, _), (3, _)]) hx hb d_La_question_13 hl (by decide) rfl (fun ls hl => ?_)
      refine lv_iconst (v := 1) hx hb d_La_question_15 (by decide) ?_
      exact tx_ret (mw_zret hx hb hr hlocks hS hP hD (by decide) (by decide) d_La_question_16 rfl (⟨_, I', F', O, rfl, rfl, Or.inr ⟨_, hX9, Or.inl ⟨rfl, rfl⟩⟩⟩))
    · refine tx_catch (h := 17) (fun e9 ha9 => mk_miss C0 h9 htab (by decide) (by decide) (by decide) g_461 (by decide) hce hcv hcl e9 ha9 (fun L9 t9 => mh_hit C0 t9 (by decide) (by decide) (by decide) g_378 hce hcv hcl e9 ha9)) ?_
      refine lv_astore (lv' := [(4, _), (0, _), (1, _), (2, _), (3, _)]) hx hb d_La_question_17 hl (by decide) rfl (fun ls hl => ?_)
      refine lv_iconst (v := 2) hx hb d_La_question_19 (by decide) ?_
      exact tx_ret (mw_zret hx hb hr hlocks hS hP hD (by decide) (by decide) d_La_question_20 rfl (⟨_, I', F', O, rfl, rfl, Or.inr ⟨_, hX9, Or.inr ⟨rfl, rfl⟩⟩⟩))
  · intro v9 w9 H locs hq hP hD hS
    obtain ⟨I', F', rfl, hq9⟩ := hq
    obtain ⟨r9, rfl⟩ := hQ _ _ _ hq9
    refine lv_i2l hx hb d_La_question_8 rfl ?_
    refine va_last (D := D9) hx hb hK hP hD hS 48 2 ww_48 rfl (by unfold vp_in; decide +kernel) d_La_question_9 (fun H locs hP hD hS => ?_)
    refine lv_goto (tgt := 21) hx hb d_La_question_10 (by decide) ?_
    refine lv_iconst (v := 0) hx hb d_La_question_21 (by decide) ?_
    exact tx_ret (mw_zret hx hb hr hlocks hS hP hD (by decide) (by decide) d_La_question_22 rfl (⟨_, I', F', _, rfl, wso, Or.inl ⟨r9, hq9, rfl, rfl⟩⟩))
set_option maxHeartbeats 4000000 in
set_option maxRecDepth 100000 in
theorem m_La_record (l : Launch) (D9 : va_G) (cB cI cJ cG : ClassId) (a : Nat → Nat) (O : Nat → Int64) (I : Nat → Int32) (F : Nat → Nat → Int32) (u1 u2 u3 u4 : Int32) {Q : Option Value → (Nat → Int32) → (Nat → Nat → Int32) → Prop} {X : String → (Nat → Int32) → (Nat → Nat → Int32) → Prop} (hM : MZW l D9 cB cI cJ cG a O y_Wm_record b_Wm_record 6 (some .int) 7 [.ref (a 0), .int u1, .int u2, .int u3, .int u4] I F Q X) (hQ : ∀ v I' F', Q v I' F' → ∃ r : Int32, v = some (.int r)) (hX : ∀ E I' F', X E I' F' → E = "java/util/NoSuchElementException" ∨ E = "java/lang/IllegalArgumentException" ∨ E = "java/lang/IllegalStateException") : MKW l D9 cB cI cJ cG a O y_La_record b_La_record 7 [(0, 14, 17, 29), (0, 14, 21, 19), (0, 14, 25, 13)] [.ref (a 0), .int u1, .int u2, .int u3, .int u4, .ref (a 48)] I F (fun k I' F' O' => (∃ r : Int32, Q (some (.int r)) I' F' ∧ k = 0 ∧ O' 0 = r.toInt64) ∨ (∃ E, X E I' F' ∧ ((E = "java/util/NoSuchElementException" ∧ k = 1) ∨ (E = "java/lang/IllegalArgumentException" ∧ k = 2) ∨ (E = "java/lang/IllegalStateException" ∧ k = 3)))) := by
  refine mk_of (by decide) (Nat.le_of_ble_eq_true rfl) ?_
  intro p e s m below meth c ls C0 htab h9 hZ hP hD hA hS hl
  obtain ⟨hx, hb, hml, hr, hlocks, hown, hts, hK⟩ := id C0
  have hl : lv_has ls 7 [(0, .ref (a 0)), (1, .int u1), (2, .int u2), (3, .int u3), (4, .int u4), (5, .ref (a 48))] := hl
  refine lv_aload hx hb d_La_record_0 (lv_at hl 5 rfl) ?_
  refine lv_iconst (v := 0) hx hb d_La_record_2 (by decide) ?_
  refine lv_aload_n hx hb d_La_record_3 rfl (lv_at hl 0 rfl) ?_
  refine lv_iload_n hx hb d_La_record_4 rfl (lv_at hl 1 rfl) ?_
  refine lv_iload_n hx hb d_La_record_5 rfl (lv_at hl 2 rfl) ?_
  refine lv_iload_n hx hb d_La_record_6 rfl (lv_at hl 3 rfl) ?_
  refine lv_iload hx hb d_La_record_7 (lv_at hl 4 rfl) ?_
  refine mz_cV (ci := 6) (k := 0) C0 hM g_504 g_1 g_501 g_502 g_503 ⟨by decide +kernel, by decide +kernel, show Option.map (fun d => d.parameters.length) (parseMethodDescriptor y_Wm_record.desc) = some 4 by decide +kernel⟩ ⟨by decide, by decide⟩ rfl rfl (rz_Z hZ hS hD) hP hD hS hA rfl ww_0 hl.1 (Nat.le_of_ble_eq_true rfl) rfl d_La_record_9 ⟨by decide, by decide⟩ ?_ ?_
  · intro q9 E ce w9 H locs hpx hce hcv hcl hP hD hS
    obtain ⟨I', F', rfl, hX9⟩ := hpx
    rcases hX E I' F' hX9 with rfl | rfl | rfl
    · refine tx_catch (h := 17) (fun e9 ha9 => mh_hit C0 htab (by decide) (by decide) (by decide) g_500 hce hcv hcl e9 ha9) ?_
      refine lv_astore (lv' := [(6, _), (0, _), (1, _), (2, _), (3, _), (4, _), (5, _)]) hx hb d_La_record_17 hl (by decide) rfl (fun ls hl => ?_)
      refine lv_iconst (v := 1) hx hb d_La_record_19 (by decide) ?_
      exact tx_ret (mw_zret hx hb hr hlocks hS hP hD (by decide) (by decide) d_La_record_20 rfl (⟨_, I', F', O, rfl, rfl, Or.inr ⟨_, hX9, Or.inl ⟨rfl, rfl⟩⟩⟩))
    · refine tx_catch (h := 21) (fun e9 ha9 => mk_miss C0 h9 htab (by decide) (by decide) (by decide) g_500 (by decide) hce hcv hcl e9 ha9 (fun L9 t9 => mh_hit C0 t9 (by decide) (by decide) (by decide) g_461 hce hcv hcl e9 ha9)) ?_
      refine lv_astore (lv' := [(6, _), (0, _), (1, _), (2, _), (3, _), (4, _), (5, _)]) hx hb d_La_record_21 hl (by decide) rfl (fun ls hl => ?_)
      refine lv_iconst (v := 2) hx hb d_La_record_23 (by decide) ?_
      exact tx_ret (mw_zret hx hb hr hlocks hS hP hD (by decide) (by decide) d_La_record_24 rfl (⟨_, I', F', O, rfl, rfl, Or.inr ⟨_, hX9, Or.inr <| Or.inl ⟨rfl, rfl⟩⟩⟩))
    · refine tx_catch (h := 25) (fun e9 ha9 => mk_miss C0 h9 htab (by decide) (by decide) (by decide) g_500 (by decide) hce hcv hcl e9 ha9 (fun L9 t9 => mk_miss C0 h9 t9 (by decide) (by decide) (by decide) g_461 (by decide) hce hcv hcl e9 ha9 (fun L9 t9 => mh_hit C0 t9 (by decide) (by decide) (by decide) g_378 hce hcv hcl e9 ha9))) ?_
      refine lv_astore (lv' := [(6, _), (0, _), (1, _), (2, _), (3, _), (4, _), (5, _)]) hx hb d_La_record_25 hl (by decide) rfl (fun ls hl => ?_)
      refine lv_iconst (v := 3) hx hb d_La_record_27 (by decide) ?_
      exact tx_ret (mw_zret hx hb hr hlocks hS hP hD (by decide) (by decide) d_La_record_28 rfl (⟨_, I', F', O, rfl, rfl, Or.inr ⟨_, hX9, Or.inr <| Or.inr ⟨rfl, rfl⟩⟩⟩))
  · intro v9 w9 H locs hq hP hD hS
    obtain ⟨I', F', rfl, hq9⟩ := hq
    obtain ⟨r9, rfl⟩ := hQ _ _ _ hq9
    refine lv_i2l hx hb d_La_record_12 rfl ?_
    refine va_last (D := D9) hx hb hK hP hD hS 48 2 ww_48 rfl (by unfold vp_in; decide +kernel) d_La_record_13 (fun H locs hP hD hS => ?_)
    refine lv_goto (tgt := 29) hx hb d_La_record_14 (by decide) ?_
    refine lv_iconst (v := 0) hx hb d_La_record_29 (by decide) ?_
    exact tx_ret (mw_zret hx hb hr hlocks hS hP hD (by decide) (by decide) d_La_record_30 rfl (⟨_, I', F', _, rfl, wso, Or.inl ⟨r9, hq9, rfl, rfl⟩⟩))
set_option maxHeartbeats 4000000 in
set_option maxRecDepth 100000 in
theorem m_La_write (l : Launch) (D9 : va_G) (cB cI cJ cG : ClassId) (a : Nat → Nat) (O : Nat → Int64) (I : Nat → Int32) (F : Nat → Nat → Int32) (u1 : Int32) {Q : Option Value → (Nat → Int32) → (Nat → Nat → Int32) → Prop} {X : String → (Nat → Int32) → (Nat → Nat → Int32) → Prop} (hM : MZW l D9 cB cI cJ cG a O y_Wm_write b_Wm_write 2 (some .int) 7 [.ref (a 0), .int u1] I F Q X) (hQ : ∀ v I' F', Q v I' F' → ∃ r : Int32, v = some (.int r)) (hX : ∀ E I' F', X E I' F' → E = "java/lang/IllegalArgumentException" ∨ E = "java/lang/UnsupportedOperationException") : MKW l D9 cB cI cJ cG a O y_La_write b_La_write 4 [(0, 9, 12, 19), (0, 9, 15, 34)] [.ref (a 0), .int u1, .ref (a 48)] I F (fun k I' F' O' => (∃ r : Int32, Q (some (.int r)) I' F' ∧ k = 0 ∧ O' 0 = r.toInt64) ∨ (∃ E, X E I' F' ∧ ((E = "java/lang/IllegalArgumentException" ∧ k = 1) ∨ (E = "java/lang/UnsupportedOperationException" ∧ k = 2)))) := by
  refine mk_of (by decide) (Nat.le_of_ble_eq_true rfl) ?_
  intro p e s m below meth c ls C0 htab h9 hZ hP hD hA hS hl
  obtain ⟨hx, hb, hml, hr, hlocks, hown, hts, hK⟩ := id C0
  have hl : lv_has ls 4 [(0, .ref (a 0)), (1, .int u1), (2, .ref (a 48))] := hl
  refine lv_aload_n hx hb d_La_write_0 rfl (lv_at hl 2 rfl) ?_
  refine lv_iconst (v := 0) hx hb d_La_write_1 (by decide) ?_
  refine lv_aload_n hx hb d_La_write_2 rfl (lv_at hl 0 rfl) ?_
  refine lv_iload_n hx hb d_La_write_3 rfl (lv_at hl 1 rfl) ?_
  refine mz_cV (ci := 6) (k := 0) C0 hM g_531 g_1 g_528 g_529 g_530 ⟨by decide +kernel, by decide +kernel, show Option.map (fun d => d.parameters.length) (parseMethodDescriptor y_Wm_write.desc) = some 1 by decide +kernel⟩ ⟨by decide, by decide⟩ rfl rfl (rz_Z hZ hS hD) hP hD hS hA rfl ww_0 hl.1 (Nat.le_of_ble_eq_true rfl) rfl d_La_write_4 ⟨by decide, by decide⟩ ?_ ?_
  · intro q9 E ce w9 H locs hpx hce hcv hcl hP hD hS
    obtain ⟨I', F', rfl, hX9⟩ := hpx
    rcases hX E I' F' hX9 with rfl | rfl
    · refine tx_catch (h := 12) (fun e9 ha9 => mh_hit C0 htab (by decide) (by decide) (by decide) g_461 hce hcv hcl e9 ha9) ?_
      refine lv_astore_n (lv' := [(3, _), (0, _), (1, _), (2, _)]) hx hb d_La_write_12 rfl hl (by decide) rfl (fun ls hl => ?_)
      refine lv_iconst (v := 1) hx hb d_La_write_13 (by decide) ?_
      exact tx_ret (mw_zret hx hb hr hlocks hS hP hD (by decide) (by decide) d_La_write_14 rfl (⟨_, I', F', O, rfl, rfl, Or.inr ⟨_, hX9, Or.inl ⟨rfl, rfl⟩⟩⟩))
    · refine tx_catch (h := 15) (fun e9 ha9 => mk_miss C0 h9 htab (by decide) (by decide) (by decide) g_461 (by decide) hce hcv hcl e9 ha9 (fun L9 t9 => mh_hit C0 t9 (by decide) (by decide) (by decide) g_527 hce hcv hcl e9 ha9)) ?_
      refine lv_astore_n (lv' := [(3, _), (0, _), (1, _), (2, _)]) hx hb d_La_write_15 rfl hl (by decide) rfl (fun ls hl => ?_)
      refine lv_iconst (v := 2) hx hb d_La_write_16 (by decide) ?_
      exact tx_ret (mw_zret hx hb hr hlocks hS hP hD (by decide) (by decide) d_La_write_17 rfl (⟨_, I', F', O, rfl, rfl, Or.inr ⟨_, hX9, Or.inr ⟨rfl, rfl⟩⟩⟩))
  · intro v9 w9 H locs hq hP hD hS
    obtain ⟨I', F', rfl, hq9⟩ := hq
    obtain ⟨r9, rfl⟩ := hQ _ _ _ hq9
    refine lv_i2l hx hb d_La_write_7 rfl ?_
    refine va_last (D := D9) hx hb hK hP hD hS 48 2 ww_48 rfl (by unfold vp_in; decide +kernel) d_La_write_8 (fun H locs hP hD hS => ?_)
    refine lv_goto (tgt := 18) hx hb d_La_write_9 (by decide) ?_
    refine lv_iconst (v := 0) hx hb d_La_write_18 (by decide) ?_
    exact tx_ret (mw_zret hx hb hr hlocks hS hP hD (by decide) (by decide) d_La_write_19 rfl (⟨_, I', F', _, rfl, wso, Or.inl ⟨r9, hq9, rfl, rfl⟩⟩))
set_option maxHeartbeats 4000000 in
set_option maxRecDepth 100000 in
theorem m_La_back (l : Launch) (D9 : va_G) (cB cI cJ cG : ClassId) (a : Nat → Nat) (O : Nat → Int64) (I : Nat → Int32) (F : Nat → Nat → Int32) (u1 u2 : Int32) {Q : Option Value → (Nat → Int32) → (Nat → Nat → Int32) → Prop} {X : String → (Nat → Int32) → (Nat → Nat → Int32) → Prop} (hM : MZW l D9 cB cI cJ cG a O y_Wm_back b_Wm_back 4 (some .int) 6 [.ref (a 0), .int u1, .int u2] I F Q X) (hQ : ∀ v I' F', Q v I' F' → ∃ r : Int32, v = some (.int r)) (hX : ∀ E I' F', X E I' F' → E = "java/lang/IndexOutOfBoundsException") : MKW l D9 cB cI cJ cG a O y_La_back b_La_back 5 [(0, 10, 13, 39)] [.ref (a 0), .int u1, .int u2, .ref (a 48)] I F (fun k I' F' O' => (∃ r : Int32, Q (some (.int r)) I' F' ∧ k = 0 ∧ O' 0 = r.toInt64) ∨ (∃ E, X E I' F' ∧ ((E = "java/lang/IndexOutOfBoundsException" ∧ k = 1)))) := by
  refine mk_of (by decide) (Nat.le_of_ble_eq_true rfl) ?_
  intro p e s m below meth c ls C0 htab h9 hZ hP hD hA hS hl
  obtain ⟨hx, hb, hml, hr, hlocks, hown, hts, hK⟩ := id C0
  have hl : lv_has ls 5 [(0, .ref (a 0)), (1, .int u1), (2, .int u2), (3, .ref (a 48))] := hl
  refine lv_aload_n hx hb d_La_back_0 rfl (lv_at hl 3 rfl) ?_
  refine lv_iconst (v := 0) hx hb d_La_back_1 (by decide) ?_
  refine lv_aload_n hx hb d_La_back_2 rfl (lv_at hl 0 rfl) ?_
  refine lv_iload_n hx hb d_La_back_3 rfl (lv_at hl 1 rfl) ?_
  refine lv_iload_n hx hb d_La_back_4 rfl (lv_at hl 2 rfl) ?_
  refine mz_cV (ci := 6) (k := 0) C0 hM g_627 g_1 g_624 g_625 g_626 ⟨by decide +kernel, by decide +kernel, show Option.map (fun d => d.parameters.length) (parseMethodDescriptor y_Wm_back.desc) = some 2 by decide +kernel⟩ ⟨by decide, by decide⟩ rfl rfl (rz_Z hZ hS hD) hP hD hS hA rfl ww_0 hl.1 (Nat.le_of_ble_eq_true rfl) rfl d_La_back_5 ⟨by decide, by decide⟩ ?_ ?_
  · intro q9 E ce w9 H locs hpx hce hcv hcl hP hD hS
    obtain ⟨I', F', rfl, hX9⟩ := hpx
    rcases hX E I' F' hX9 with rfl
    refine tx_catch (h := 13) (fun e9 ha9 => mh_hit C0 htab (by decide) (by decide) (by decide) g_623 hce hcv hcl e9 ha9) ?_
    refine lv_astore (lv' := [(4, _), (0, _), (1, _), (2, _), (3, _)]) hx hb d_La_back_13 hl (by decide) rfl (fun ls hl => ?_)
    refine lv_iconst (v := 1) hx hb d_La_back_15 (by decide) ?_
    exact tx_ret (mw_zret hx hb hr hlocks hS hP hD (by decide) (by decide) d_La_back_16 rfl (⟨_, I', F', O, rfl, rfl, Or.inr ⟨_, hX9, ⟨rfl, rfl⟩⟩⟩))
  · intro v9 w9 H locs hq hP hD hS
    obtain ⟨I', F', rfl, hq9⟩ := hq
    obtain ⟨r9, rfl⟩ := hQ _ _ _ hq9
    refine lv_i2l hx hb d_La_back_8 rfl ?_
    refine va_last (D := D9) hx hb hK hP hD hS 48 2 ww_48 rfl (by unfold vp_in; decide +kernel) d_La_back_9 (fun H locs hP hD hS => ?_)
    refine lv_goto (tgt := 17) hx hb d_La_back_10 (by decide) ?_
    refine lv_iconst (v := 0) hx hb d_La_back_17 (by decide) ?_
    exact tx_ret (mw_zret hx hb hr hlocks hS hP hD (by decide) (by decide) d_La_back_18 rfl (⟨_, I', F', _, rfl, wso, Or.inl ⟨r9, hq9, rfl, rfl⟩⟩))
set_option maxHeartbeats 4000000 in
set_option maxRecDepth 100000 in
theorem m_La_written (l : Launch) (D9 : va_G) (cB cI cJ cG : ClassId) (a : Nat → Nat) (O : Nat → Int64) (I : Nat → Int32) (F : Nat → Nat → Int32) (u1 : Int32) {Q : Option Value → (Nat → Int32) → (Nat → Nat → Int32) → Prop} {X : String → (Nat → Int32) → (Nat → Nat → Int32) → Prop} (hM : MZW l D9 cB cI cJ cG a O y_Wm_written b_Wm_written 2 (some .int) 6 [.ref (a 0), .int u1] I F Q X) (hQ : ∀ v I' F', Q v I' F' → ∃ r : Int32, v = some (.int r)) (hX : ∀ E I' F', X E I' F' → E = "java/lang/IndexOutOfBoundsException") : MKW l D9 cB cI cJ cG a O y_La_written b_La_written 4 [(0, 9, 12, 39)] [.ref (a 0), .int u1, .ref (a 48)] I F (fun k I' F' O' => (∃ r : Int32, Q (some (.int r)) I' F' ∧ k = 0 ∧ O' 0 = r.toInt64) ∨ (∃ E, X E I' F' ∧ ((E = "java/lang/IndexOutOfBoundsException" ∧ k = 1)))) := by
  refine mk_of (by decide) (Nat.le_of_ble_eq_true rfl) ?_
  intro p e s m below meth c ls C0 htab h9 hZ hP hD hA hS hl
  obtain ⟨hx, hb, hml, hr, hlocks, hown, hts, hK⟩ := id C0
  have hl : lv_has ls 4 [(0, .ref (a 0)), (1, .int u1), (2, .ref (a 48))] := hl
  refine lv_aload_n hx hb d_La_written_0 rfl (lv_at hl 2 rfl) ?_
  refine lv_iconst (v := 0) hx hb d_La_written_1 (by decide) ?_
  refine lv_aload_n hx hb d_La_written_2 rfl (lv_at hl 0 rfl) ?_
  refine lv_iload_n hx hb d_La_written_3 rfl (lv_at hl 1 rfl) ?_
  refine mz_cV (ci := 6) (k := 0) C0 hM g_652 g_1 g_649 g_650 g_651 ⟨by decide +kernel, by decide +kernel, show Option.map (fun d => d.parameters.length) (parseMethodDescriptor y_Wm_written.desc) = some 1 by decide +kernel⟩ ⟨by decide, by decide⟩ rfl rfl (rz_Z hZ hS hD) hP hD hS hA rfl ww_0 hl.1 (Nat.le_of_ble_eq_true rfl) rfl d_La_written_4 ⟨by decide, by decide⟩ ?_ ?_
  · intro q9 E ce w9 H locs hpx hce hcv hcl hP hD hS
    obtain ⟨I', F', rfl, hX9⟩ := hpx
    rcases hX E I' F' hX9 with rfl
    refine tx_catch (h := 12) (fun e9 ha9 => mh_hit C0 htab (by decide) (by decide) (by decide) g_623 hce hcv hcl e9 ha9) ?_
    refine lv_astore_n (lv' := [(3, _), (0, _), (1, _), (2, _)]) hx hb d_La_written_12 rfl hl (by decide) rfl (fun ls hl => ?_)
    refine lv_iconst (v := 1) hx hb d_La_written_13 (by decide) ?_
    exact tx_ret (mw_zret hx hb hr hlocks hS hP hD (by decide) (by decide) d_La_written_14 rfl (⟨_, I', F', O, rfl, rfl, Or.inr ⟨_, hX9, ⟨rfl, rfl⟩⟩⟩))
  · intro v9 w9 H locs hq hP hD hS
    obtain ⟨I', F', rfl, hq9⟩ := hq
    obtain ⟨r9, rfl⟩ := hQ _ _ _ hq9
    refine lv_i2l hx hb d_La_written_7 rfl ?_
    refine va_last (D := D9) hx hb hK hP hD hS 48 2 ww_48 rfl (by unfold vp_in; decide +kernel) d_La_written_8 (fun H locs hP hD hS => ?_)
    refine lv_goto (tgt := 15) hx hb d_La_written_9 (by decide) ?_
    refine lv_iconst (v := 0) hx hb d_La_written_15 (by decide) ?_
    exact tx_ret (mw_zret hx hb hr hlocks hS hP hD (by decide) (by decide) d_La_written_16 rfl (⟨_, I', F', _, rfl, wso, Or.inl ⟨r9, hq9, rfl, rfl⟩⟩))
set_option maxHeartbeats 4000000 in
set_option maxRecDepth 100000 in
theorem m_La_header (l : Launch) (D9 : va_G) (cB cI cJ cG : ClassId) (a : Nat → Nat) (O : Nat → Int64) (I : Nat → Int32) (F : Nat → Nat → Int32) (u1 : Int32) {Q : Option Value → (Nat → Int32) → (Nat → Nat → Int32) → Prop} {X : String → (Nat → Int32) → (Nat → Nat → Int32) → Prop} (hM : MZW l D9 cB cI cJ cG a O y_Wm_header b_Wm_header 2 (some .int) 6 [.ref (a 0), .int u1] I F Q X) (hQ : ∀ v I' F', Q v I' F' → ∃ r : Int32, v = some (.int r)) (hX : ∀ E I' F', X E I' F' → E = "java/lang/IllegalArgumentException") : MKW l D9 cB cI cJ cG a O y_La_header b_La_header 4 [(0, 9, 12, 19)] [.ref (a 0), .int u1, .ref (a 48)] I F (fun k I' F' O' => (∃ r : Int32, Q (some (.int r)) I' F' ∧ k = 0 ∧ O' 0 = r.toInt64) ∨ (∃ E, X E I' F' ∧ ((E = "java/lang/IllegalArgumentException" ∧ k = 1)))) := by
  refine mk_of (by decide) (Nat.le_of_ble_eq_true rfl) ?_
  intro p e s m below meth c ls C0 htab h9 hZ hP hD hA hS hl
  obtain ⟨hx, hb, hml, hr, hlocks, hown, hts, hK⟩ := id C0
  have hl : lv_has ls 4 [(0, .ref (a 0)), (1, .int u1), (2, .ref (a 48))] := hl
  refine lv_aload_n hx hb d_La_header_0 rfl (lv_at hl 2 rfl) ?_
  refine lv_iconst (v := 0) hx hb d_La_header_1 (by decide) ?_
  refine lv_aload_n hx hb d_La_header_2 rfl (lv_at hl 0 rfl) ?_
  refine lv_iload_n hx hb d_La_header_3 rfl (lv_at hl 1 rfl) ?_
  refine mz_cV (ci := 6) (k := 0) C0 hM g_659 g_1 g_656 g_657 g_658 ⟨by decide +kernel, by decide +kernel, show Option.map (fun d => d.parameters.length) (parseMethodDescriptor y_Wm_header.desc) = some 1 by decide +kernel⟩ ⟨by decide, by decide⟩ rfl rfl (rz_Z hZ hS hD) hP hD hS hA rfl ww_0 hl.1 (Nat.le_of_ble_eq_true rfl) rfl d_La_header_4 ⟨by decide, by decide⟩ ?_ ?_
  · intro q9 E ce w9 H locs hpx hce hcv hcl hP hD hS
    obtain ⟨I', F', rfl, hX9⟩ := hpx
    rcases hX E I' F' hX9 with rfl
    refine tx_catch (h := 12) (fun e9 ha9 => mh_hit C0 htab (by decide) (by decide) (by decide) g_461 hce hcv hcl e9 ha9) ?_
    refine lv_astore_n (lv' := [(3, _), (0, _), (1, _), (2, _)]) hx hb d_La_header_12 rfl hl (by decide) rfl (fun ls hl => ?_)
    refine lv_iconst (v := 1) hx hb d_La_header_13 (by decide) ?_
    exact tx_ret (mw_zret hx hb hr hlocks hS hP hD (by decide) (by decide) d_La_header_14 rfl (⟨_, I', F', O, rfl, rfl, Or.inr ⟨_, hX9, ⟨rfl, rfl⟩⟩⟩))
  · intro v9 w9 H locs hq hP hD hS
    obtain ⟨I', F', rfl, hq9⟩ := hq
    obtain ⟨r9, rfl⟩ := hQ _ _ _ hq9
    refine lv_i2l hx hb d_La_header_7 rfl ?_
    refine va_last (D := D9) hx hb hK hP hD hS 48 2 ww_48 rfl (by unfold vp_in; decide +kernel) d_La_header_8 (fun H locs hP hD hS => ?_)
    refine lv_goto (tgt := 15) hx hb d_La_header_9 (by decide) ?_
    refine lv_iconst (v := 0) hx hb d_La_header_15 (by decide) ?_
    exact tx_ret (mw_zret hx hb hr hlocks hS hP hD (by decide) (by decide) d_La_header_16 rfl (⟨_, I', F', _, rfl, wso, Or.inl ⟨r9, hq9, rfl, rfl⟩⟩))
set_option maxHeartbeats 4000000 in
set_option maxRecDepth 100000 in
theorem m_La_told (l : Launch) (D9 : va_G) (cB cI cJ cG : ClassId) (a : Nat → Nat) (O : Nat → Int64) (I : Nat → Int32) (F : Nat → Nat → Int32) (u1 u2 u3 : Int32) {Q : Option Value → (Nat → Int32) → (Nat → Nat → Int32) → Prop} {X : String → (Nat → Int32) → (Nat → Nat → Int32) → Prop} (hM : MZW l D9 cB cI cJ cG a O y_Wm_told b_Wm_told 5 (some .int) 7 [.ref (a 0), .int u1, .int u2, .int u3] I F Q X) (hQ : ∀ v I' F', Q v I' F' → ∃ r : Int32, v = some (.int r)) (hX : ∀ E I' F', X E I' F' → E = "java/util/NoSuchElementException" ∨ E = "java/lang/IllegalArgumentException") : MKW l D9 cB cI cJ cG a O y_La_told b_La_told 6 [(0, 12, 15, 29), (0, 12, 19, 19)] [.ref (a 0), .int u1, .int u2, .int u3, .ref (a 48)] I F (fun k I' F' O' => (∃ r : Int32, Q (some (.int r)) I' F' ∧ k = 0 ∧ O' 0 = r.toInt64) ∨ (∃ E, X E I' F' ∧ ((E = "java/util/NoSuchElementException" ∧ k = 1) ∨ (E = "java/lang/IllegalArgumentException" ∧ k = 2)))) := by
  refine mk_of (by decide) (Nat.le_of_ble_eq_true rfl) ?_
  intro p e s m below meth c ls C0 htab h9 hZ hP hD hA hS hl
  obtain ⟨hx, hb, hml, hr, hlocks, hown, hts, hK⟩ := id C0
  have hl : lv_has ls 6 [(0, .ref (a 0)), (1, .int u1), (2, .int u2), (3, .int u3), (4, .ref (a 48))] := hl
  refine lv_aload hx hb d_La_told_0 (lv_at hl 4 rfl) ?_
  refine lv_iconst (v := 0) hx hb d_La_told_2 (by decide) ?_
  refine lv_aload_n hx hb d_La_told_3 rfl (lv_at hl 0 rfl) ?_
  refine lv_iload_n hx hb d_La_told_4 rfl (lv_at hl 1 rfl) ?_
  refine lv_iload_n hx hb d_La_told_5 rfl (lv_at hl 2 rfl) ?_
  refine lv_iload_n hx hb d_La_told_6 rfl (lv_at hl 3 rfl) ?_
  refine mz_cV (ci := 6) (k := 0) C0 hM g_666 g_1 g_663 g_664 g_665 ⟨by decide +kernel, by decide +kernel, show Option.map (fun d => d.parameters.length) (parseMethodDescriptor y_Wm_told.desc) = some 3 by decide +kernel⟩ ⟨by decide, by decide⟩ rfl rfl (rz_Z hZ hS hD) hP hD hS hA rfl ww_0 hl.1 (Nat.le_of_ble_eq_true rfl) rfl d_La_told_7 ⟨by decide, by decide⟩ ?_ ?_
  · intro q9 E ce w9 H locs hpx hce hcv hcl hP hD hS
    obtain ⟨I', F', rfl, hX9⟩ := hpx
    rcases hX E I' F' hX9 with rfl | rfl
    · refine tx_catch (h := 15) (fun e9 ha9 => mh_hit C0 htab (by decide) (by decide) (by decide) g_500 hce hcv hcl e9 ha9) ?_
      refine lv_astore (lv' := [(5, _), (0, _), (1, _), (2, _), (3, _), (4, _)]) hx hb d_La_told_15 hl (by decide) rfl (fun ls hl => ?_)
      refine lv_iconst (v := 1) hx hb d_La_told_17 (by decide) ?_
      exact tx_ret (mw_zret hx hb hr hlocks hS hP hD (by decide) (by decide) d_La_told_18 rfl (⟨_, I', F', O, rfl, rfl, Or.inr ⟨_, hX9, Or.inl ⟨rfl, rfl⟩⟩⟩))
    · refine tx_catch (h := 19) (fun e9 ha9 => mk_miss C0 h9 htab (by decide) (by decide) (by decide) g_500 (by decide) hce hcv hcl e9 ha9 (fun L9 t9 => mh_hit C0 t9 (by decide) (by decide) (by decide) g_461 hce hcv hcl e9 ha9)) ?_
      refine lv_astore (lv' := [(5, _), (0, _), (1, _), (2, _), (3, _), (4, _)]) hx hb d_La_told_19 hl (by decide) rfl (fun ls hl => ?_)
      refine lv_iconst (v := 2) hx hb d_La_told_21 (by decide) ?_
      exact tx_ret (mw_zret hx hb hr hlocks hS hP hD (by decide) (by decide) d_La_told_22 rfl (⟨_, I', F', O, rfl, rfl, Or.inr ⟨_, hX9, Or.inr ⟨rfl, rfl⟩⟩⟩))
  · intro v9 w9 H locs hq hP hD hS
    obtain ⟨I', F', rfl, hq9⟩ := hq
    obtain ⟨r9, rfl⟩ := hQ _ _ _ hq9
    refine lv_i2l hx hb d_La_told_10 rfl ?_
    refine va_last (D := D9) hx hb hK hP hD hS 48 2 ww_48 rfl (by unfold vp_in; decide +kernel) d_La_told_11 (fun H locs hP hD hS => ?_)
    refine lv_goto (tgt := 23) hx hb d_La_told_12 (by decide) ?_
    refine lv_iconst (v := 0) hx hb d_La_told_23 (by decide) ?_
    exact tx_ret (mw_zret hx hb hr hlocks hS hP hD (by decide) (by decide) d_La_told_24 rfl (⟨_, I', F', _, rfl, wso, Or.inl ⟨r9, hq9, rfl, rfl⟩⟩))
set_option maxHeartbeats 4000000 in
set_option maxRecDepth 100000 in
theorem m_La_byteOf (l : Launch) (D9 : va_G) (cB cI cJ cG : ClassId) (a : Nat → Nat) (O : Nat → Int64) (I : Nat → Int32) (F : Nat → Nat → Int32) (u1 u2 u3 : Int32) {Q : Option Value → (Nat → Int32) → (Nat → Nat → Int32) → Prop} {X : String → (Nat → Int32) → (Nat → Nat → Int32) → Prop} (hM : MZW l D9 cB cI cJ cG a O y_Wm_byteOf b_Wm_byteOf 5 (some .int) 7 [.ref (a 0), .int u1, .int u2, .int u3] I F Q X) (hQ : ∀ v I' F', Q v I' F' → ∃ r : Int32, v = some (.int r)) (hX : ∀ E I' F', X E I' F' → E = "java/util/NoSuchElementException" ∨ E = "java/lang/IndexOutOfBoundsException") : MKW l D9 cB cI cJ cG a O y_La_byteOf b_La_byteOf 6 [(0, 12, 15, 29), (0, 12, 19, 39)] [.ref (a 0), .int u1, .int u2, .int u3, .ref (a 48)] I F (fun k I' F' O' => (∃ r : Int32, Q (some (.int r)) I' F' ∧ k = 0 ∧ O' 0 = r.toInt64) ∨ (∃ E, X E I' F' ∧ ((E = "java/util/NoSuchElementException" ∧ k = 1) ∨ (E = "java/lang/IndexOutOfBoundsException" ∧ k = 2)))) := by
  refine mk_of (by decide) (Nat.le_of_ble_eq_true rfl) ?_
  intro p e s m below meth c ls C0 htab h9 hZ hP hD hA hS hl
  obtain ⟨hx, hb, hml, hr, hlocks, hown, hts, hK⟩ := id C0
  have hl : lv_has ls 6 [(0, .ref (a 0)), (1, .int u1), (2, .int u2), (3, .int u3), (4, .ref (a 48))] := hl
  refine lv_aload hx hb d_La_byteOf_0 (lv_at hl 4 rfl) ?_
  refine lv_iconst (v := 0) hx hb d_La_byteOf_2 (by decide) ?_
  refine lv_aload_n hx hb d_La_byteOf_3 rfl (lv_at hl 0 rfl) ?_
  refine lv_iload_n hx hb d_La_byteOf_4 rfl (lv_at hl 1 rfl) ?_
  refine lv_iload_n hx hb d_La_byteOf_5 rfl (lv_at hl 2 rfl) ?_
  refine lv_iload_n hx hb d_La_byteOf_6 rfl (lv_at hl 3 rfl) ?_
  refine mz_cV (ci := 6) (k := 0) C0 hM g_681 g_1 g_678 g_679 g_680 ⟨by decide +kernel, by decide +kernel, show Option.map (fun d => d.parameters.length) (parseMethodDescriptor y_Wm_byteOf.desc) = some 3 by decide +kernel⟩ ⟨by decide, by decide⟩ rfl rfl (rz_Z hZ hS hD) hP hD hS hA rfl ww_0 hl.1 (Nat.le_of_ble_eq_true rfl) rfl d_La_byteOf_7 ⟨by decide, by decide⟩ ?_ ?_
  · intro q9 E ce w9 H locs hpx hce hcv hcl hP hD hS
    obtain ⟨I', F', rfl, hX9⟩ := hpx
    rcases hX E I' F' hX9 with rfl | rfl
    · refine tx_catch (h := 15) (fun e9 ha9 => mh_hit C0 htab (by decide) (by decide) (by decide) g_500 hce hcv hcl e9 ha9) ?_
      refine lv_astore (lv' := [(5, _), (0, _), (1, _), (2, _), (3, _), (4, _)]) hx hb d_La_byteOf_15 hl (by decide) rfl (fun ls hl => ?_)
      refine lv_iconst (v := 1) hx hb d_La_byteOf_17 (by decide) ?_
      exact tx_ret (mw_zret hx hb hr hlocks hS hP hD (by decide) (by decide) d_La_byteOf_18 rfl (⟨_, I', F', O, rfl, rfl, Or.inr ⟨_, hX9, Or.inl ⟨rfl, rfl⟩⟩⟩))
    · refine tx_catch (h := 19) (fun e9 ha9 => mk_miss C0 h9 htab (by decide) (by decide) (by decide) g_500 (by decide) hce hcv hcl e9 ha9 (fun L9 t9 => mh_hit C0 t9 (by decide) (by decide) (by decide) g_623 hce hcv hcl e9 ha9)) ?_
      refine lv_astore (lv' := [(5, _), (0, _), (1, _), (2, _), (3, _), (4, _)]) hx hb d_La_byteOf_19 hl (by decide) rfl (fun ls hl => ?_)
      refine lv_iconst (v := 2) hx hb d_La_byteOf_21 (by decide) ?_
      exact tx_ret (mw_zret hx hb hr hlocks hS hP hD (by decide) (by decide) d_La_byteOf_22 rfl (⟨_, I', F', O, rfl, rfl, Or.inr ⟨_, hX9, Or.inr ⟨rfl, rfl⟩⟩⟩))
  · intro v9 w9 H locs hq hP hD hS
    obtain ⟨I', F', rfl, hq9⟩ := hq
    obtain ⟨r9, rfl⟩ := hQ _ _ _ hq9
    refine lv_i2l hx hb d_La_byteOf_10 rfl ?_
    refine va_last (D := D9) hx hb hK hP hD hS 48 2 ww_48 rfl (by unfold vp_in; decide +kernel) d_La_byteOf_11 (fun H locs hP hD hS => ?_)
    refine lv_goto (tgt := 23) hx hb d_La_byteOf_12 (by decide) ?_
    refine lv_iconst (v := 0) hx hb d_La_byteOf_23 (by decide) ?_
    exact tx_ret (mw_zret hx hb hr hlocks hS hP hD (by decide) (by decide) d_La_byteOf_24 rfl (⟨_, I', F', _, rfl, wso, Or.inl ⟨r9, hq9, rfl, rfl⟩⟩))
set_option maxHeartbeats 4000000 in
set_option maxRecDepth 100000 in
theorem m_La_same (l : Launch) (D9 : va_G) (cB cI cJ cG : ClassId) (a : Nat → Nat) (O : Nat → Int64) (I : Nat → Int32) (F : Nat → Nat → Int32) (u1 u2 u3 u4 : Int32) {Q : Option Value → (Nat → Int32) → (Nat → Nat → Int32) → Prop} {X : String → (Nat → Int32) → (Nat → Nat → Int32) → Prop} (hM : MZW l D9 cB cI cJ cG a O y_Wm_same b_Wm_same 7 (some .boolean) 7 [.ref (a 0), .int u1, .int u2, .int u3, .int u4] I F Q X) (hQ : ∀ v I' F', Q v I' F' → ∃ r : Int32, v = some (.int r)) (hX : ∀ E I' F', X E I' F' → E = "java/util/NoSuchElementException") : MKW l D9 cB cI cJ cG a O y_La_same b_La_same 7 [(0, 21, 24, 29)] [.ref (a 0), .int u1, .int u2, .int u3, .int u4, .ref (a 48)] I F (fun k I' F' O' => (∃ r : Int32, Q (some (.int r)) I' F' ∧ k = 0 ∧ ((r = 0 ∧ O' 0 = 0) ∨ (¬ r = 0 ∧ O' 0 = 1))) ∨ (∃ E, X E I' F' ∧ ((E = "java/util/NoSuchElementException" ∧ k = 1)))) := by
  refine mk_of (by decide) (Nat.le_of_ble_eq_true rfl) ?_
  intro p e s m below meth c ls C0 htab h9 hZ hP hD hA hS hl
  obtain ⟨hx, hb, hml, hr, hlocks, hown, hts, hK⟩ := id C0
  have hl : lv_has ls 7 [(0, .ref (a 0)), (1, .int u1), (2, .int u2), (3, .int u3), (4, .int u4), (5, .ref (a 48))] := hl
  refine lv_aload hx hb d_La_same_0 (lv_at hl 5 rfl) ?_
  refine lv_iconst (v := 0) hx hb d_La_same_2 (by decide) ?_
  refine lv_aload_n hx hb d_La_same_3 rfl (lv_at hl 0 rfl) ?_
  refine lv_iload_n hx hb d_La_same_4 rfl (lv_at hl 1 rfl) ?_
  refine lv_iload_n hx hb d_La_same_5 rfl (lv_at hl 2 rfl) ?_
  refine lv_iload_n hx hb d_La_same_6 rfl (lv_at hl 3 rfl) ?_
  refine lv_iload hx hb d_La_same_7 (lv_at hl 4 rfl) ?_
  refine mz_cV (ci := 6) (k := 0) C0 hM g_688 g_1 g_685 g_686 g_687 ⟨by decide +kernel, by decide +kernel, show Option.map (fun d => d.parameters.length) (parseMethodDescriptor y_Wm_same.desc) = some 4 by decide +kernel⟩ ⟨by decide, by decide⟩ rfl rfl (rz_Z hZ hS hD) hP hD hS hA rfl ww_0 hl.1 (Nat.le_of_ble_eq_true rfl) rfl d_La_same_9 ⟨by decide, by decide⟩ ?_ ?_
  · intro q9 E ce w9 H locs hpx hce hcv hcl hP hD hS
    obtain ⟨I', F', rfl, hX9⟩ := hpx
    rcases hX E I' F' hX9 with rfl
    refine tx_catch (h := 24) (fun e9 ha9 => mh_hit C0 htab (by decide) (by decide) (by decide) g_500 hce hcv hcl e9 ha9) ?_
    refine lv_astore (lv' := [(6, _), (0, _), (1, _), (2, _), (3, _), (4, _), (5, _)]) hx hb d_La_same_24 hl (by decide) rfl (fun ls hl => ?_)
    refine lv_iconst (v := 1) hx hb d_La_same_26 (by decide) ?_
    exact tx_ret (mw_zret hx hb hr hlocks hS hP hD (by decide) (by decide) d_La_same_27 rfl (⟨_, I', F', O, rfl, rfl, Or.inr ⟨_, hX9, ⟨rfl, rfl⟩⟩⟩))
  · intro v9 w9 H locs hq hP hD hS
    obtain ⟨I', F', rfl, hq9⟩ := hq
    obtain ⟨r9, rfl⟩ := hQ _ _ _ hq9
    refine lv_if_eq (tgt := 19) hx hb d_La_same_12 (by decide) (fun c9 => ?_) (fun c9 => ?_)
    · refine lv_lconst (v := 0) hx hb d_La_same_19 (by decide) ?_
      refine va_last (D := D9) hx hb hK hP hD hS 48 2 ww_48 rfl (by unfold vp_in; decide +kernel) d_La_same_20 (fun H locs hP hD hS => ?_)
      refine lv_goto (tgt := 28) hx hb d_La_same_21 (by decide) ?_
      refine lv_iconst (v := 0) hx hb d_La_same_28 (by decide) ?_
      exact tx_ret (mw_zret hx hb hr hlocks hS hP hD (by decide) (by decide) d_La_same_29 rfl (⟨_, I', F', _, rfl, wso, Or.inl ⟨r9, hq9, rfl, Or.inl ⟨c9, rfl⟩⟩⟩))
    · refine lv_lconst (v := 1) hx hb d_La_same_15 (by decide) ?_
      refine lv_goto (tgt := 20) hx hb d_La_same_16 (by decide) ?_
      refine va_last (D := D9) hx hb hK hP hD hS 48 2 ww_48 rfl (by unfold vp_in; decide +kernel) d_La_same_20 (fun H locs hP hD hS => ?_)
      refine lv_goto (tgt := 28) hx hb d_La_same_21 (by decide) ?_
      refine lv_iconst (v := 0) hx hb d_La_same_28 (by decide) ?_
      exact tx_ret (mw_zret hx hb hr hlocks hS hP hD (by decide) (by decide) d_La_same_29 rfl (⟨_, I', F', _, rfl, wso, Or.inl ⟨r9, hq9, rfl, Or.inr ⟨c9, rfl⟩⟩⟩))
set_option maxHeartbeats 4000000 in
set_option maxRecDepth 100000 in
theorem m_La_order (l : Launch) (D9 : va_G) (cB cI cJ cG : ClassId) (a : Nat → Nat) (O : Nat → Int64) (I : Nat → Int32) (F : Nat → Nat → Int32) (u1 u2 u3 u4 : Int32) {Q : Option Value → (Nat → Int32) → (Nat → Nat → Int32) → Prop} {X : String → (Nat → Int32) → (Nat → Nat → Int32) → Prop} (hM : MZW l D9 cB cI cJ cG a O y_Wm_order b_Wm_order 7 (some .int) 7 [.ref (a 0), .int u1, .int u2, .int u3, .int u4] I F Q X) (hQ : ∀ v I' F', Q v I' F' → ∃ r : Int32, v = some (.int r)) (hX : ∀ E I' F', X E I' F' → E = "java/util/NoSuchElementException") : MKW l D9 cB cI cJ cG a O y_La_order b_La_order 7 [(0, 14, 17, 29)] [.ref (a 0), .int u1, .int u2, .int u3, .int u4, .ref (a 48)] I F (fun k I' F' O' => (∃ r : Int32, Q (some (.int r)) I' F' ∧ k = 0 ∧ O' 0 = r.toInt64) ∨ (∃ E, X E I' F' ∧ ((E = "java/util/NoSuchElementException" ∧ k = 1)))) := by
  refine mk_of (by decide) (Nat.le_of_ble_eq_true rfl) ?_
  intro p e s m below meth c ls C0 htab h9 hZ hP hD hA hS hl
  obtain ⟨hx, hb, hml, hr, hlocks, hown, hts, hK⟩ := id C0
  have hl : lv_has ls 7 [(0, .ref (a 0)), (1, .int u1), (2, .int u2), (3, .int u3), (4, .int u4), (5, .ref (a 48))] := hl
  refine lv_aload hx hb d_La_order_0 (lv_at hl 5 rfl) ?_
  refine lv_iconst (v := 0) hx hb d_La_order_2 (by decide) ?_
  refine lv_aload_n hx hb d_La_order_3 rfl (lv_at hl 0 rfl) ?_
  refine lv_iload_n hx hb d_La_order_4 rfl (lv_at hl 1 rfl) ?_
  refine lv_iload_n hx hb d_La_order_5 rfl (lv_at hl 2 rfl) ?_
  refine lv_iload_n hx hb d_La_order_6 rfl (lv_at hl 3 rfl) ?_
  refine lv_iload hx hb d_La_order_7 (lv_at hl 4 rfl) ?_
  refine mz_cV (ci := 6) (k := 0) C0 hM g_711 g_1 g_708 g_709 g_710 ⟨by decide +kernel, by decide +kernel, show Option.map (fun d => d.parameters.length) (parseMethodDescriptor y_Wm_order.desc) = some 4 by decide +kernel⟩ ⟨by decide, by decide⟩ rfl rfl (rz_Z hZ hS hD) hP hD hS hA rfl ww_0 hl.1 (Nat.le_of_ble_eq_true rfl) rfl d_La_order_9 ⟨by decide, by decide⟩ ?_ ?_
  · intro q9 E ce w9 H locs hpx hce hcv hcl hP hD hS
    obtain ⟨I', F', rfl, hX9⟩ := hpx
    rcases hX E I' F' hX9 with rfl
    refine tx_catch (h := 17) (fun e9 ha9 => mh_hit C0 htab (by decide) (by decide) (by decide) g_500 hce hcv hcl e9 ha9) ?_
    refine lv_astore (lv' := [(6, _), (0, _), (1, _), (2, _), (3, _), (4, _), (5, _)]) hx hb d_La_order_17 hl (by decide) rfl (fun ls hl => ?_)
    refine lv_iconst (v := 1) hx hb d_La_order_19 (by decide) ?_
    exact tx_ret (mw_zret hx hb hr hlocks hS hP hD (by decide) (by decide) d_La_order_20 rfl (⟨_, I', F', O, rfl, rfl, Or.inr ⟨_, hX9, ⟨rfl, rfl⟩⟩⟩))
  · intro v9 w9 H locs hq hP hD hS
    obtain ⟨I', F', rfl, hq9⟩ := hq
    obtain ⟨r9, rfl⟩ := hQ _ _ _ hq9
    refine lv_i2l hx hb d_La_order_12 rfl ?_
    refine va_last (D := D9) hx hb hK hP hD hS 48 2 ww_48 rfl (by unfold vp_in; decide +kernel) d_La_order_13 (fun H locs hP hD hS => ?_)
    refine lv_goto (tgt := 21) hx hb d_La_order_14 (by decide) ?_
    refine lv_iconst (v := 0) hx hb d_La_order_21 (by decide) ?_
    exact tx_ret (mw_zret hx hb hr hlocks hS hP hD (by decide) (by decide) d_La_order_22 rfl (⟨_, I', F', _, rfl, wso, Or.inl ⟨r9, hq9, rfl, rfl⟩⟩))
