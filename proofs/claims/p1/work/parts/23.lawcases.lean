theorem g_0 : (Cond.initialized "WireMessagesLaw") ∈ GT := gt_mem 0 (by decide +kernel) rfl
theorem g_244 : (Cond.methodLink "WireMessagesLaw" (79 : Nat) ({ cls := "WireMessages", name := "read", desc := "()I" } : MethodName)) ∈ GT := gt_mem 244 (by decide +kernel) rfl
theorem g_245 : (Cond.instanceMethod ({ cls := "WireMessages", name := "read", desc := "()I" } : MethodName)) ∈ GT := gt_mem 245 (by decide +kernel) rfl
theorem g_246 : (Cond.selects "WireMessages" ({ cls := "WireMessages", name := "read", desc := "()I" } : MethodName) ({ cls := "WireMessages", name := "read", desc := "()I" } : MethodName)) ∈ GT := gt_mem 246 (by decide +kernel) rfl
theorem g_247 : (Cond.code ({ cls := "WireMessages", name := "read", desc := "()I" } : MethodName) prog_1_method_4_code (2 : Nat) (Option.some FieldType.int)) ∈ GT := gt_mem 247 (by decide +kernel) rfl
theorem g_361 : (Cond.methodLink "WireMessagesLaw" (83 : Nat) ({ cls := "WireMessages", name := "faultAt", desc := "()I" } : MethodName)) ∈ GT := gt_mem 361 (by decide +kernel) rfl
theorem g_362 : (Cond.instanceMethod ({ cls := "WireMessages", name := "faultAt", desc := "()I" } : MethodName)) ∈ GT := gt_mem 362 (by decide +kernel) rfl
theorem g_363 : (Cond.selects "WireMessages" ({ cls := "WireMessages", name := "faultAt", desc := "()I" } : MethodName) ({ cls := "WireMessages", name := "faultAt", desc := "()I" } : MethodName)) ∈ GT := gt_mem 363 (by decide +kernel) rfl
theorem g_364 : (Cond.code ({ cls := "WireMessages", name := "faultAt", desc := "()I" } : MethodName) prog_1_method_5_code (1 : Nat) (Option.some FieldType.int)) ∈ GT := gt_mem 364 (by decide +kernel) rfl
theorem g_365 : (Cond.methodLink "WireMessagesLaw" (87 : Nat) ({ cls := "WireMessages", name := "begin", desc := "(II)V" } : MethodName)) ∈ GT := gt_mem 365 (by decide +kernel) rfl
theorem g_366 : (Cond.instanceMethod ({ cls := "WireMessages", name := "begin", desc := "(II)V" } : MethodName)) ∈ GT := gt_mem 366 (by decide +kernel) rfl
theorem g_367 : (Cond.selects "WireMessages" ({ cls := "WireMessages", name := "begin", desc := "(II)V" } : MethodName) ({ cls := "WireMessages", name := "begin", desc := "(II)V" } : MethodName)) ∈ GT := gt_mem 367 (by decide +kernel) rfl
theorem g_368 : (Cond.code ({ cls := "WireMessages", name := "begin", desc := "(II)V" } : MethodName) prog_1_method_6_code (3 : Nat) (Option.none : Option FieldType)) ∈ GT := gt_mem 368 (by decide +kernel) rfl
theorem g_371 : (Cond.methodLink "WireMessagesLaw" (125 : Nat) ({ cls := "WireMessages", name := "count", desc := "(I)I" } : MethodName)) ∈ GT := gt_mem 371 (by decide +kernel) rfl
theorem g_372 : (Cond.instanceMethod ({ cls := "WireMessages", name := "count", desc := "(I)I" } : MethodName)) ∈ GT := gt_mem 372 (by decide +kernel) rfl
theorem g_373 : (Cond.selects "WireMessages" ({ cls := "WireMessages", name := "count", desc := "(I)I" } : MethodName) ({ cls := "WireMessages", name := "count", desc := "(I)I" } : MethodName)) ∈ GT := gt_mem 373 (by decide +kernel) rfl
theorem g_374 : (Cond.code ({ cls := "WireMessages", name := "count", desc := "(I)I" } : MethodName) prog_1_method_17_code (2 : Nat) (Option.some FieldType.int)) ∈ GT := gt_mem 374 (by decide +kernel) rfl
theorem g_375 : (Cond.methodLink "WireMessagesLaw" (65 : Nat) ({ cls := "WireMessagesLaw", name := "feed", desc := "(LWireMessages;IIIII[J)I" } : MethodName)) ∈ GT := gt_mem 375 (by decide +kernel) rfl
theorem g_376 : (Cond.static ({ cls := "WireMessagesLaw", name := "feed", desc := "(LWireMessages;IIIII[J)I" } : MethodName)) ∈ GT := gt_mem 376 (by decide +kernel) rfl
theorem g_377 : (Cond.codeWith ({ cls := "WireMessagesLaw", name := "feed", desc := "(LWireMessages;IIIII[J)I" } : MethodName) method_3_code (8 : Nat) (Option.some FieldType.int) [((0 : Nat), (16 : Nat), (19 : Nat), (13 : Nat))]) ∈ GT := gt_mem 377 (by decide +kernel) rfl
theorem g_458 : (Cond.methodLink "WireMessagesLaw" (75 : Nat) ({ cls := "WireMessagesLaw", name := "end", desc := "(LWireMessages;I[J)I" } : MethodName)) ∈ GT := gt_mem 458 (by decide +kernel) rfl
theorem g_459 : (Cond.static ({ cls := "WireMessagesLaw", name := "end", desc := "(LWireMessages;I[J)I" } : MethodName)) ∈ GT := gt_mem 459 (by decide +kernel) rfl
theorem g_460 : (Cond.codeWith ({ cls := "WireMessagesLaw", name := "end", desc := "(LWireMessages;I[J)I" } : MethodName) method_4_code (4 : Nat) (Option.some FieldType.int) [((0 : Nat), (9 : Nat), (12 : Nat), (19 : Nat))]) ∈ GT := gt_mem 460 (by decide +kernel) rfl
theorem g_481 : (Cond.methodLink "WireMessagesLaw" (92 : Nat) ({ cls := "WireMessagesLaw", name := "question", desc := "(LWireMessages;II[J)I" } : MethodName)) ∈ GT := gt_mem 481 (by decide +kernel) rfl
theorem g_482 : (Cond.static ({ cls := "WireMessagesLaw", name := "question", desc := "(LWireMessages;II[J)I" } : MethodName)) ∈ GT := gt_mem 482 (by decide +kernel) rfl
theorem g_483 : (Cond.codeWith ({ cls := "WireMessagesLaw", name := "question", desc := "(LWireMessages;II[J)I" } : MethodName) method_5_code (5 : Nat) (Option.some FieldType.int) [((0 : Nat), (10 : Nat), (13 : Nat), (19 : Nat)), ((0 : Nat), (10 : Nat), (17 : Nat), (13 : Nat))]) ∈ GT := gt_mem 483 (by decide +kernel) rfl
theorem g_497 : (Cond.methodLink "WireMessagesLaw" (96 : Nat) ({ cls := "WireMessagesLaw", name := "record", desc := "(LWireMessages;IIII[J)I" } : MethodName)) ∈ GT := gt_mem 497 (by decide +kernel) rfl
theorem g_498 : (Cond.static ({ cls := "WireMessagesLaw", name := "record", desc := "(LWireMessages;IIII[J)I" } : MethodName)) ∈ GT := gt_mem 498 (by decide +kernel) rfl
theorem g_499 : (Cond.codeWith ({ cls := "WireMessagesLaw", name := "record", desc := "(LWireMessages;IIII[J)I" } : MethodName) method_6_code (7 : Nat) (Option.some FieldType.int) [((0 : Nat), (14 : Nat), (17 : Nat), (29 : Nat)), ((0 : Nat), (14 : Nat), (21 : Nat), (19 : Nat)), ((0 : Nat), (14 : Nat), (25 : Nat), (13 : Nat))]) ∈ GT := gt_mem 499 (by decide +kernel) rfl
theorem g_524 : (Cond.methodLink "WireMessagesLaw" (100 : Nat) ({ cls := "WireMessagesLaw", name := "write", desc := "(LWireMessages;I[J)I" } : MethodName)) ∈ GT := gt_mem 524 (by decide +kernel) rfl
theorem g_525 : (Cond.static ({ cls := "WireMessagesLaw", name := "write", desc := "(LWireMessages;I[J)I" } : MethodName)) ∈ GT := gt_mem 525 (by decide +kernel) rfl
theorem g_526 : (Cond.codeWith ({ cls := "WireMessagesLaw", name := "write", desc := "(LWireMessages;I[J)I" } : MethodName) method_7_code (4 : Nat) (Option.some FieldType.int) [((0 : Nat), (9 : Nat), (12 : Nat), (19 : Nat)), ((0 : Nat), (9 : Nat), (15 : Nat), (34 : Nat))]) ∈ GT := gt_mem 526 (by decide +kernel) rfl
theorem g_620 : (Cond.methodLink "WireMessagesLaw" (103 : Nat) ({ cls := "WireMessagesLaw", name := "back", desc := "(LWireMessages;II[J)I" } : MethodName)) ∈ GT := gt_mem 620 (by decide +kernel) rfl
theorem g_621 : (Cond.static ({ cls := "WireMessagesLaw", name := "back", desc := "(LWireMessages;II[J)I" } : MethodName)) ∈ GT := gt_mem 621 (by decide +kernel) rfl
theorem g_622 : (Cond.codeWith ({ cls := "WireMessagesLaw", name := "back", desc := "(LWireMessages;II[J)I" } : MethodName) method_8_code (5 : Nat) (Option.some FieldType.int) [((0 : Nat), (10 : Nat), (13 : Nat), (39 : Nat))]) ∈ GT := gt_mem 622 (by decide +kernel) rfl
theorem g_646 : (Cond.methodLink "WireMessagesLaw" (106 : Nat) ({ cls := "WireMessagesLaw", name := "written", desc := "(LWireMessages;I[J)I" } : MethodName)) ∈ GT := gt_mem 646 (by decide +kernel) rfl
theorem g_647 : (Cond.static ({ cls := "WireMessagesLaw", name := "written", desc := "(LWireMessages;I[J)I" } : MethodName)) ∈ GT := gt_mem 647 (by decide +kernel) rfl
theorem g_648 : (Cond.codeWith ({ cls := "WireMessagesLaw", name := "written", desc := "(LWireMessages;I[J)I" } : MethodName) method_9_code (4 : Nat) (Option.some FieldType.int) [((0 : Nat), (9 : Nat), (12 : Nat), (39 : Nat))]) ∈ GT := gt_mem 648 (by decide +kernel) rfl
theorem g_653 : (Cond.methodLink "WireMessagesLaw" (109 : Nat) ({ cls := "WireMessagesLaw", name := "header", desc := "(LWireMessages;I[J)I" } : MethodName)) ∈ GT := gt_mem 653 (by decide +kernel) rfl
theorem g_654 : (Cond.static ({ cls := "WireMessagesLaw", name := "header", desc := "(LWireMessages;I[J)I" } : MethodName)) ∈ GT := gt_mem 654 (by decide +kernel) rfl
theorem g_655 : (Cond.codeWith ({ cls := "WireMessagesLaw", name := "header", desc := "(LWireMessages;I[J)I" } : MethodName) method_10_code (4 : Nat) (Option.some FieldType.int) [((0 : Nat), (9 : Nat), (12 : Nat), (19 : Nat))]) ∈ GT := gt_mem 655 (by decide +kernel) rfl
theorem g_660 : (Cond.methodLink "WireMessagesLaw" (112 : Nat) ({ cls := "WireMessagesLaw", name := "told", desc := "(LWireMessages;III[J)I" } : MethodName)) ∈ GT := gt_mem 660 (by decide +kernel) rfl
theorem g_661 : (Cond.static ({ cls := "WireMessagesLaw", name := "told", desc := "(LWireMessages;III[J)I" } : MethodName)) ∈ GT := gt_mem 661 (by decide +kernel) rfl
theorem g_662 : (Cond.codeWith ({ cls := "WireMessagesLaw", name := "told", desc := "(LWireMessages;III[J)I" } : MethodName) method_11_code (6 : Nat) (Option.some FieldType.int) [((0 : Nat), (12 : Nat), (15 : Nat), (29 : Nat)), ((0 : Nat), (12 : Nat), (19 : Nat), (19 : Nat))]) ∈ GT := gt_mem 662 (by decide +kernel) rfl
theorem g_675 : (Cond.methodLink "WireMessagesLaw" (116 : Nat) ({ cls := "WireMessagesLaw", name := "byteOf", desc := "(LWireMessages;III[J)I" } : MethodName)) ∈ GT := gt_mem 675 (by decide +kernel) rfl
theorem g_676 : (Cond.static ({ cls := "WireMessagesLaw", name := "byteOf", desc := "(LWireMessages;III[J)I" } : MethodName)) ∈ GT := gt_mem 676 (by decide +kernel) rfl
theorem g_677 : (Cond.codeWith ({ cls := "WireMessagesLaw", name := "byteOf", desc := "(LWireMessages;III[J)I" } : MethodName) method_12_code (6 : Nat) (Option.some FieldType.int) [((0 : Nat), (12 : Nat), (15 : Nat), (29 : Nat)), ((0 : Nat), (12 : Nat), (19 : Nat), (39 : Nat))]) ∈ GT := gt_mem 677 (by decide +kernel) rfl
theorem g_682 : (Cond.methodLink "WireMessagesLaw" (119 : Nat) ({ cls := "WireMessagesLaw", name := "same", desc := "(LWireMessages;IIII[J)I" } : MethodName)) ∈ GT := gt_mem 682 (by decide +kernel) rfl
theorem g_683 : (Cond.static ({ cls := "WireMessagesLaw", name := "same", desc := "(LWireMessages;IIII[J)I" } : MethodName)) ∈ GT := gt_mem 683 (by decide +kernel) rfl
theorem g_684 : (Cond.codeWith ({ cls := "WireMessagesLaw", name := "same", desc := "(LWireMessages;IIII[J)I" } : MethodName) method_13_code (7 : Nat) (Option.some FieldType.int) [((0 : Nat), (21 : Nat), (24 : Nat), (29 : Nat))]) ∈ GT := gt_mem 684 (by decide +kernel) rfl
theorem g_705 : (Cond.methodLink "WireMessagesLaw" (122 : Nat) ({ cls := "WireMessagesLaw", name := "order", desc := "(LWireMessages;IIII[J)I" } : MethodName)) ∈ GT := gt_mem 705 (by decide +kernel) rfl
theorem g_706 : (Cond.static ({ cls := "WireMessagesLaw", name := "order", desc := "(LWireMessages;IIII[J)I" } : MethodName)) ∈ GT := gt_mem 706 (by decide +kernel) rfl
theorem g_707 : (Cond.codeWith ({ cls := "WireMessagesLaw", name := "order", desc := "(LWireMessages;IIII[J)I" } : MethodName) method_14_code (7 : Nat) (Option.some FieldType.int) [((0 : Nat), (14 : Nat), (17 : Nat), (29 : Nat))]) ∈ GT := gt_mem 707 (by decide +kernel) rfl
theorem g_813 : (Cond.methodLink "WireMessagesLaw" (71 : Nat) ({ cls := "WireMessagesModel", name := "thrown", desc := "()I" } : MethodName)) ∈ GT := gt_mem 813 (by decide +kernel) rfl
theorem g_814 : (Cond.instanceMethod ({ cls := "WireMessagesModel", name := "thrown", desc := "()I" } : MethodName)) ∈ GT := gt_mem 814 (by decide +kernel) rfl
theorem g_815 : (Cond.selects "WireMessagesModel" ({ cls := "WireMessagesModel", name := "thrown", desc := "()I" } : MethodName) ({ cls := "WireMessagesModel", name := "thrown", desc := "()I" } : MethodName)) ∈ GT := gt_mem 815 (by decide +kernel) rfl
theorem g_816 : (Cond.code ({ cls := "WireMessagesModel", name := "thrown", desc := "()I" } : MethodName) prog_10_method_2_code (1 : Nat) (Option.some FieldType.int)) ∈ GT := gt_mem 816 (by decide +kernel) rfl
theorem g_817 : (Cond.methodLink "WireMessagesLaw" (82 : Nat) ({ cls := "WireMessagesModel", name := "read", desc := "()I" } : MethodName)) ∈ GT := gt_mem 817 (by decide +kernel) rfl
theorem g_818 : (Cond.instanceMethod ({ cls := "WireMessagesModel", name := "read", desc := "()I" } : MethodName)) ∈ GT := gt_mem 818 (by decide +kernel) rfl
theorem g_819 : (Cond.selects "WireMessagesModel" ({ cls := "WireMessagesModel", name := "read", desc := "()I" } : MethodName) ({ cls := "WireMessagesModel", name := "read", desc := "()I" } : MethodName)) ∈ GT := gt_mem 819 (by decide +kernel) rfl
theorem g_820 : (Cond.code ({ cls := "WireMessagesModel", name := "read", desc := "()I" } : MethodName) prog_10_method_16_code (4 : Nat) (Option.some FieldType.int)) ∈ GT := gt_mem 820 (by decide +kernel) rfl
theorem g_865 : (Cond.methodLink "WireMessagesLaw" (86 : Nat) ({ cls := "WireMessagesModel", name := "faultAt", desc := "()I" } : MethodName)) ∈ GT := gt_mem 865 (by decide +kernel) rfl
theorem g_866 : (Cond.instanceMethod ({ cls := "WireMessagesModel", name := "faultAt", desc := "()I" } : MethodName)) ∈ GT := gt_mem 866 (by decide +kernel) rfl
theorem g_867 : (Cond.selects "WireMessagesModel" ({ cls := "WireMessagesModel", name := "faultAt", desc := "()I" } : MethodName) ({ cls := "WireMessagesModel", name := "faultAt", desc := "()I" } : MethodName)) ∈ GT := gt_mem 867 (by decide +kernel) rfl
theorem g_868 : (Cond.code ({ cls := "WireMessagesModel", name := "faultAt", desc := "()I" } : MethodName) prog_10_method_17_code (1 : Nat) (Option.some FieldType.int)) ∈ GT := gt_mem 868 (by decide +kernel) rfl
theorem g_869 : (Cond.methodLink "WireMessagesLaw" (70 : Nat) ({ cls := "WireMessagesModel", name := "feed", desc := "(IIIII)I" } : MethodName)) ∈ GT := gt_mem 869 (by decide +kernel) rfl
theorem g_870 : (Cond.instanceMethod ({ cls := "WireMessagesModel", name := "feed", desc := "(IIIII)I" } : MethodName)) ∈ GT := gt_mem 870 (by decide +kernel) rfl
theorem g_871 : (Cond.selects "WireMessagesModel" ({ cls := "WireMessagesModel", name := "feed", desc := "(IIIII)I" } : MethodName) ({ cls := "WireMessagesModel", name := "feed", desc := "(IIIII)I" } : MethodName)) ∈ GT := gt_mem 871 (by decide +kernel) rfl
theorem g_872 : (Cond.code ({ cls := "WireMessagesModel", name := "feed", desc := "(IIIII)I" } : MethodName) prog_10_method_18_code (8 : Nat) (Option.some FieldType.int)) ∈ GT := gt_mem 872 (by decide +kernel) rfl
theorem g_878 : (Cond.methodLink "WireMessagesLaw" (78 : Nat) ({ cls := "WireMessagesModel", name := "end", desc := "(I)I" } : MethodName)) ∈ GT := gt_mem 878 (by decide +kernel) rfl
theorem g_879 : (Cond.instanceMethod ({ cls := "WireMessagesModel", name := "end", desc := "(I)I" } : MethodName)) ∈ GT := gt_mem 879 (by decide +kernel) rfl
theorem g_880 : (Cond.selects "WireMessagesModel" ({ cls := "WireMessagesModel", name := "end", desc := "(I)I" } : MethodName) ({ cls := "WireMessagesModel", name := "end", desc := "(I)I" } : MethodName)) ∈ GT := gt_mem 880 (by decide +kernel) rfl
theorem g_881 : (Cond.code ({ cls := "WireMessagesModel", name := "end", desc := "(I)I" } : MethodName) prog_10_method_19_code (2 : Nat) (Option.some FieldType.int)) ∈ GT := gt_mem 881 (by decide +kernel) rfl
theorem g_882 : (Cond.methodLink "WireMessagesLaw" (91 : Nat) ({ cls := "WireMessagesModel", name := "begin", desc := "(II)V" } : MethodName)) ∈ GT := gt_mem 882 (by decide +kernel) rfl
theorem g_883 : (Cond.instanceMethod ({ cls := "WireMessagesModel", name := "begin", desc := "(II)V" } : MethodName)) ∈ GT := gt_mem 883 (by decide +kernel) rfl
theorem g_884 : (Cond.selects "WireMessagesModel" ({ cls := "WireMessagesModel", name := "begin", desc := "(II)V" } : MethodName) ({ cls := "WireMessagesModel", name := "begin", desc := "(II)V" } : MethodName)) ∈ GT := gt_mem 884 (by decide +kernel) rfl
theorem g_885 : (Cond.code ({ cls := "WireMessagesModel", name := "begin", desc := "(II)V" } : MethodName) prog_10_method_20_code (3 : Nat) (Option.none : Option FieldType)) ∈ GT := gt_mem 885 (by decide +kernel) rfl
theorem g_887 : (Cond.methodLink "WireMessagesLaw" (95 : Nat) ({ cls := "WireMessagesModel", name := "question", desc := "(II)I" } : MethodName)) ∈ GT := gt_mem 887 (by decide +kernel) rfl
theorem g_888 : (Cond.instanceMethod ({ cls := "WireMessagesModel", name := "question", desc := "(II)I" } : MethodName)) ∈ GT := gt_mem 888 (by decide +kernel) rfl
theorem g_889 : (Cond.selects "WireMessagesModel" ({ cls := "WireMessagesModel", name := "question", desc := "(II)I" } : MethodName) ({ cls := "WireMessagesModel", name := "question", desc := "(II)I" } : MethodName)) ∈ GT := gt_mem 889 (by decide +kernel) rfl
theorem g_890 : (Cond.code ({ cls := "WireMessagesModel", name := "question", desc := "(II)I" } : MethodName) prog_10_method_24_code (3 : Nat) (Option.some FieldType.int)) ∈ GT := gt_mem 890 (by decide +kernel) rfl
theorem g_899 : (Cond.methodLink "WireMessagesLaw" (99 : Nat) ({ cls := "WireMessagesModel", name := "record", desc := "(IIII)I" } : MethodName)) ∈ GT := gt_mem 899 (by decide +kernel) rfl
theorem g_900 : (Cond.instanceMethod ({ cls := "WireMessagesModel", name := "record", desc := "(IIII)I" } : MethodName)) ∈ GT := gt_mem 900 (by decide +kernel) rfl
theorem g_901 : (Cond.selects "WireMessagesModel" ({ cls := "WireMessagesModel", name := "record", desc := "(IIII)I" } : MethodName) ({ cls := "WireMessagesModel", name := "record", desc := "(IIII)I" } : MethodName)) ∈ GT := gt_mem 901 (by decide +kernel) rfl
theorem g_902 : (Cond.code ({ cls := "WireMessagesModel", name := "record", desc := "(IIII)I" } : MethodName) prog_10_method_25_code (6 : Nat) (Option.some FieldType.int)) ∈ GT := gt_mem 902 (by decide +kernel) rfl
theorem g_907 : (Cond.methodLink "WireMessagesLaw" (102 : Nat) ({ cls := "WireMessagesModel", name := "write", desc := "(I)I" } : MethodName)) ∈ GT := gt_mem 907 (by decide +kernel) rfl
theorem g_908 : (Cond.instanceMethod ({ cls := "WireMessagesModel", name := "write", desc := "(I)I" } : MethodName)) ∈ GT := gt_mem 908 (by decide +kernel) rfl
theorem g_909 : (Cond.selects "WireMessagesModel" ({ cls := "WireMessagesModel", name := "write", desc := "(I)I" } : MethodName) ({ cls := "WireMessagesModel", name := "write", desc := "(I)I" } : MethodName)) ∈ GT := gt_mem 909 (by decide +kernel) rfl
theorem g_910 : (Cond.code ({ cls := "WireMessagesModel", name := "write", desc := "(I)I" } : MethodName) prog_10_method_34_code (10 : Nat) (Option.some FieldType.int)) ∈ GT := gt_mem 910 (by decide +kernel) rfl
theorem g_944 : (Cond.methodLink "WireMessagesLaw" (105 : Nat) ({ cls := "WireMessagesModel", name := "back", desc := "(II)I" } : MethodName)) ∈ GT := gt_mem 944 (by decide +kernel) rfl
theorem g_945 : (Cond.instanceMethod ({ cls := "WireMessagesModel", name := "back", desc := "(II)I" } : MethodName)) ∈ GT := gt_mem 945 (by decide +kernel) rfl
theorem g_946 : (Cond.selects "WireMessagesModel" ({ cls := "WireMessagesModel", name := "back", desc := "(II)I" } : MethodName) ({ cls := "WireMessagesModel", name := "back", desc := "(II)I" } : MethodName)) ∈ GT := gt_mem 946 (by decide +kernel) rfl
theorem g_947 : (Cond.code ({ cls := "WireMessagesModel", name := "back", desc := "(II)I" } : MethodName) prog_10_method_35_code (4 : Nat) (Option.some FieldType.int)) ∈ GT := gt_mem 947 (by decide +kernel) rfl
theorem g_948 : (Cond.methodLink "WireMessagesLaw" (108 : Nat) ({ cls := "WireMessagesModel", name := "written", desc := "(I)I" } : MethodName)) ∈ GT := gt_mem 948 (by decide +kernel) rfl
theorem g_949 : (Cond.instanceMethod ({ cls := "WireMessagesModel", name := "written", desc := "(I)I" } : MethodName)) ∈ GT := gt_mem 949 (by decide +kernel) rfl
theorem g_950 : (Cond.selects "WireMessagesModel" ({ cls := "WireMessagesModel", name := "written", desc := "(I)I" } : MethodName) ({ cls := "WireMessagesModel", name := "written", desc := "(I)I" } : MethodName)) ∈ GT := gt_mem 950 (by decide +kernel) rfl
theorem g_951 : (Cond.code ({ cls := "WireMessagesModel", name := "written", desc := "(I)I" } : MethodName) prog_10_method_36_code (2 : Nat) (Option.some FieldType.int)) ∈ GT := gt_mem 951 (by decide +kernel) rfl
theorem g_952 : (Cond.methodLink "WireMessagesLaw" (111 : Nat) ({ cls := "WireMessagesModel", name := "header", desc := "(I)I" } : MethodName)) ∈ GT := gt_mem 952 (by decide +kernel) rfl
theorem g_953 : (Cond.instanceMethod ({ cls := "WireMessagesModel", name := "header", desc := "(I)I" } : MethodName)) ∈ GT := gt_mem 953 (by decide +kernel) rfl
theorem g_954 : (Cond.selects "WireMessagesModel" ({ cls := "WireMessagesModel", name := "header", desc := "(I)I" } : MethodName) ({ cls := "WireMessagesModel", name := "header", desc := "(I)I" } : MethodName)) ∈ GT := gt_mem 954 (by decide +kernel) rfl
theorem g_955 : (Cond.code ({ cls := "WireMessagesModel", name := "header", desc := "(I)I" } : MethodName) prog_10_method_37_code (2 : Nat) (Option.some FieldType.int)) ∈ GT := gt_mem 955 (by decide +kernel) rfl
theorem g_956 : (Cond.methodLink "WireMessagesLaw" (115 : Nat) ({ cls := "WireMessagesModel", name := "told", desc := "(III)I" } : MethodName)) ∈ GT := gt_mem 956 (by decide +kernel) rfl
theorem g_957 : (Cond.instanceMethod ({ cls := "WireMessagesModel", name := "told", desc := "(III)I" } : MethodName)) ∈ GT := gt_mem 957 (by decide +kernel) rfl
theorem g_958 : (Cond.selects "WireMessagesModel" ({ cls := "WireMessagesModel", name := "told", desc := "(III)I" } : MethodName) ({ cls := "WireMessagesModel", name := "told", desc := "(III)I" } : MethodName)) ∈ GT := gt_mem 958 (by decide +kernel) rfl
theorem g_959 : (Cond.code ({ cls := "WireMessagesModel", name := "told", desc := "(III)I" } : MethodName) prog_10_method_38_code (5 : Nat) (Option.some FieldType.int)) ∈ GT := gt_mem 959 (by decide +kernel) rfl
theorem g_964 : (Cond.methodLink "WireMessagesLaw" (118 : Nat) ({ cls := "WireMessagesModel", name := "byteOf", desc := "(III)I" } : MethodName)) ∈ GT := gt_mem 964 (by decide +kernel) rfl
theorem g_965 : (Cond.instanceMethod ({ cls := "WireMessagesModel", name := "byteOf", desc := "(III)I" } : MethodName)) ∈ GT := gt_mem 965 (by decide +kernel) rfl
theorem g_966 : (Cond.selects "WireMessagesModel" ({ cls := "WireMessagesModel", name := "byteOf", desc := "(III)I" } : MethodName) ({ cls := "WireMessagesModel", name := "byteOf", desc := "(III)I" } : MethodName)) ∈ GT := gt_mem 966 (by decide +kernel) rfl
theorem g_967 : (Cond.code ({ cls := "WireMessagesModel", name := "byteOf", desc := "(III)I" } : MethodName) prog_10_method_39_code (5 : Nat) (Option.some FieldType.int)) ∈ GT := gt_mem 967 (by decide +kernel) rfl
theorem g_968 : (Cond.methodLink "WireMessagesLaw" (121 : Nat) ({ cls := "WireMessagesModel", name := "same", desc := "(IIII)Z" } : MethodName)) ∈ GT := gt_mem 968 (by decide +kernel) rfl
theorem g_969 : (Cond.instanceMethod ({ cls := "WireMessagesModel", name := "same", desc := "(IIII)Z" } : MethodName)) ∈ GT := gt_mem 969 (by decide +kernel) rfl
theorem g_970 : (Cond.selects "WireMessagesModel" ({ cls := "WireMessagesModel", name := "same", desc := "(IIII)Z" } : MethodName) ({ cls := "WireMessagesModel", name := "same", desc := "(IIII)Z" } : MethodName)) ∈ GT := gt_mem 970 (by decide +kernel) rfl
theorem g_971 : (Cond.code ({ cls := "WireMessagesModel", name := "same", desc := "(IIII)Z" } : MethodName) prog_10_method_41_code (8 : Nat) (Option.some FieldType.boolean)) ∈ GT := gt_mem 971 (by decide +kernel) rfl
theorem g_975 : (Cond.methodLink "WireMessagesLaw" (124 : Nat) ({ cls := "WireMessagesModel", name := "order", desc := "(IIII)I" } : MethodName)) ∈ GT := gt_mem 975 (by decide +kernel) rfl
theorem g_976 : (Cond.instanceMethod ({ cls := "WireMessagesModel", name := "order", desc := "(IIII)I" } : MethodName)) ∈ GT := gt_mem 976 (by decide +kernel) rfl
theorem g_977 : (Cond.selects "WireMessagesModel" ({ cls := "WireMessagesModel", name := "order", desc := "(IIII)I" } : MethodName) ({ cls := "WireMessagesModel", name := "order", desc := "(IIII)I" } : MethodName)) ∈ GT := gt_mem 977 (by decide +kernel) rfl
theorem g_978 : (Cond.code ({ cls := "WireMessagesModel", name := "order", desc := "(IIII)I" } : MethodName) prog_10_method_45_code (11 : Nat) (Option.some FieldType.int)) ∈ GT := gt_mem 978 (by decide +kernel) rfl
theorem g_991 : (Cond.methodLink "WireMessagesLaw" (128 : Nat) ({ cls := "WireMessagesModel", name := "count", desc := "(I)I" } : MethodName)) ∈ GT := gt_mem 991 (by decide +kernel) rfl
theorem g_992 : (Cond.instanceMethod ({ cls := "WireMessagesModel", name := "count", desc := "(I)I" } : MethodName)) ∈ GT := gt_mem 992 (by decide +kernel) rfl
theorem g_993 : (Cond.selects "WireMessagesModel" ({ cls := "WireMessagesModel", name := "count", desc := "(I)I" } : MethodName) ({ cls := "WireMessagesModel", name := "count", desc := "(I)I" } : MethodName)) ∈ GT := gt_mem 993 (by decide +kernel) rfl
theorem g_994 : (Cond.code ({ cls := "WireMessagesModel", name := "count", desc := "(I)I" } : MethodName) prog_10_method_46_code (2 : Nat) (Option.some FieldType.int)) ∈ GT := gt_mem 994 (by decide +kernel) rfl
set_option maxHeartbeats 4000000 in
set_option maxRecDepth 100000 in
theorem law_case_0 (l : Launch) (hfl : l.flags = flags0) {p : Program} {e : Env} {s : State} {m : MethodId} {below : List Frame} {meth : Method} {c : Code} {b : Nat} {xs : Nat → Int32} (C1 : lw_At p s m meth c b 6 xs) (D9 : va_G) (cB cI cJ cG : ClassId) (hK : va_K D9 cls9 (ty9 cB cI cJ cG) s) (hZ : tx_Z (fun q : Nat => s.heap.size ≤ q) s s.heap) (h9 : no9 s) (q_x q_tp q_tpr q_ga q_gb q_gbr q_st q_nl q_dl q_ty q_ki q_ti q_rows q_sz q_re q_wr q_ms q_msr q_ls q_lm q_en q_ne q_ol q_mk q_pl q_so q_na q_lb q_ob q_mo q_m_tape q_m_store q_m_section q_m_type q_m_kind q_m_time q_m_nameAt q_m_nameSize q_m_dataAt q_m_dataSize q_m_message q_m_endPlace q_m_endAt q_m_countsWritten q_out : Nat) {H : Heap} {locs : List Loc} (hP : va_P D9 cls9 (wLaw cB cI cJ cG q_x q_tp q_tpr q_ga q_gb q_gbr q_st q_nl q_dl q_ty q_ki q_ti q_rows q_sz q_re q_wr q_ms q_msr q_ls q_lm q_en q_ne q_ol q_mk q_pl q_so q_na q_lb q_ob q_mo q_m_tape q_m_store q_m_section q_m_type q_m_kind q_m_time q_m_nameAt q_m_nameSize q_m_dataAt q_m_dataSize q_m_message q_m_endPlace q_m_endAt q_m_countsWritten q_out) H) (hD : va_D (fun q : Nat => s.heap.size ≤ q) (wLaw cB cI cJ cG q_x q_tp q_tpr q_ga q_gb q_gbr q_st q_nl q_dl q_ty q_ki q_ti q_rows q_sz q_re q_wr q_ms q_msr q_ls q_lm q_en q_ne q_ol q_mk q_pl q_so q_na q_lb q_ob q_mo q_m_tape q_m_store q_m_section q_m_type q_m_kind q_m_time q_m_nameAt q_m_nameSize q_m_dataAt q_m_dataSize q_m_message q_m_endPlace q_m_endAt q_m_countsWritten q_out)) (hS : va_S (fun q : Nat => s.heap.size ≤ q) s.heap H locs) {ls : Array Slot} (hl : lv_has ls 7 [(4, .int 0), (3, .ref q_out), (2, .ref q_mo), (1, .ref q_x), (0, .ref b)]) : W p l e room_1 s m #[Value.ref b] below meth c H locs 49 670223 (lw_Z below #[Value.ref b] s) (F0 m 120 ls []) := by
  obtain ⟨hx, hb, hr, hml, hown, hts0, hX, hbl, hlocks, hgv⟩ := id C1
  have hts : ∀ w ∈ GT, w.before #[Value.ref b] s = true := fun w hw => hts0 w ((List.mem_filter.mp hw).1)
  have C0 : mw_C p s m #[Value.ref b] meth c code 7 ret R_La D9 cls9 (ty9 cB cI cJ cG) := ⟨hx, hb, hml, hr, hlocks, hown, hts, hK⟩
  have hA : ∀ q : Nat, s.heap.size ≤ q → (fun q : Nat => s.heap.size ≤ q) q := fun _ h => h
  have hbA : ¬ (fun q : Nat => s.heap.size ≤ q) b := Nat.not_le.mpr hbl
  refine lv_aload_n hx hb d_La_law_120 rfl (lv_at hl 3 rfl) ?_
  refine lv_aload_n hx hb d_La_law_121 rfl (lv_at hl 4 rfl) ?_
  refine lv_iload hx hb d_La_law_122 (lv_at hl 0 rfl) ?_
  refine lv_iconst (v := 1) hx hb d_La_law_124 (by decide) ?_
  refine lv_iadd hx hb d_La_law_125 ?_
  refine va_sld hx hb hX hbl hbA hS (by unfold vp_in; decide +kernel) d_La_law_126 ?_
  refine lv_aload_n hx hb d_La_law_127 rfl (lv_at hl 4 rfl) ?_
  refine lv_iload hx hb d_La_law_128 (lv_at hl 0 rfl) ?_
  refine lv_iconst (v := 2) hx hb d_La_law_130 (by decide) ?_
  refine lv_iadd hx hb d_La_law_131 ?_
  refine va_sld hx hb hX hbl hbA hS (by unfold vp_in; decide +kernel) d_La_law_132 ?_
  refine lv_aload_n hx hb d_La_law_133 rfl (lv_at hl 4 rfl) ?_
  refine lv_iload hx hb d_La_law_134 (lv_at hl 0 rfl) ?_
  refine lv_iconst (v := 3) hx hb d_La_law_136 (by decide) ?_
  refine lv_iadd hx hb d_La_law_137 ?_
  refine va_sld hx hb hX hbl hbA hS (by unfold vp_in; decide +kernel) d_La_law_138 ?_
  refine lv_aload_n hx hb d_La_law_139 rfl (lv_at hl 4 rfl) ?_
  refine lv_iload hx hb d_La_law_140 (lv_at hl 0 rfl) ?_
  refine lv_iconst (v := 4) hx hb d_La_law_142 (by decide) ?_
  refine lv_iadd hx hb d_La_law_143 ?_
  refine va_sld hx hb hX hbl hbA hS (by unfold vp_in; decide +kernel) d_La_law_144 ?_
  refine lv_aload_n hx hb d_La_law_145 rfl (lv_at hl 4 rfl) ?_
  refine lv_iload hx hb d_La_law_146 (lv_at hl 0 rfl) ?_
  refine lv_iconst (v := 5) hx hb d_La_law_148 (by decide) ?_
  refine lv_iadd hx hb d_La_law_149 ?_
  refine va_sld hx hb hX hbl hbA hS (by unfold vp_in; decide +kernel) d_La_law_150 ?_
  refine lv_aload_n hx hb d_La_law_151 rfl (lv_at hl 1 rfl) ?_
  refine mh_cS (wr := [_, _, _, _, _, _, _, _, _, _, _, _, _, _, _, _, _, _, _, _, _, _, _, _, _, _, _, _, _, _, _, _, _, _, _, _, _, _, _, _, _, _, _, _, _]) C0 (c_La_feed l D9 cB cI cJ cG hfl q_x q_tp q_ga q_re q_wr q_na q_tpr q_out _ _ _ _ _ _) g_377 g_0 g_375 g_376 ⟨by decide +kernel, by decide +kernel, show Option.map (fun d => d.parameters.length) (parseMethodDescriptor y_La_feed.desc) = some 7 by decide +kernel⟩ ⟨by decide, by decide⟩ rfl rfl hZ h9 hP hD hS hA [0, 1, 2, 48] [3, 4, 5, 6, 7, 8, 9, 10, 11, 12, 13, 14, 15, 16, 17, 18, 19, 20, 21, 22, 23, 24, 25, 26, 27, 28, 29, 30, 31, 32, 33, 34, 35, 36, 37, 38, 39, 40, 41, 42, 43, 44, 45, 46, 47] rfl rfl (by decide) (by decide) (by decide) hl.1 (Nat.le_of_ble_eq_true rfl) rfl d_La_law_152 ⟨by decide, by decide⟩ (fun v9 w9 H locs hq hP hD hS => ?_)
  obtain ⟨k5, g5, w5, rfl, hw9, hk⟩ := hq
  rw [hw9] at hP hD
  refine lv_istore (lv' := [(5, _), (4, _), (3, _), (2, _), (1, _), (0, _)]) hx hb d_La_law_155 hl (by decide) rfl (fun ls hl => ?_)
  refine lv_aload_n hx hb d_La_law_157 rfl (lv_at hl 3 rfl) ?_
  refine lv_aload_n hx hb d_La_law_158 rfl (lv_at hl 5 rfl) ?_
  refine lv_iload hx hb d_La_law_159 (lv_at hl 1 rfl) ?_
  refine lv_iconst (v := 1) hx hb d_La_law_161 (by decide) ?_
  refine lv_iadd hx hb d_La_law_162 ?_
  refine va_sld hx hb hX hbl hbA hS (by unfold vp_in; decide +kernel) d_La_law_163 ?_
  refine lv_aload_n hx hb d_La_law_164 rfl (lv_at hl 5 rfl) ?_
  refine lv_iload hx hb d_La_law_165 (lv_at hl 1 rfl) ?_
  refine lv_iconst (v := 2) hx hb d_La_law_167 (by decide) ?_
  refine lv_iadd hx hb d_La_law_168 ?_
  refine va_sld hx hb hX hbl hbA hS (by unfold vp_in; decide +kernel) d_La_law_169 ?_
  refine lv_aload_n hx hb d_La_law_170 rfl (lv_at hl 5 rfl) ?_
  refine lv_iload hx hb d_La_law_171 (lv_at hl 1 rfl) ?_
  refine lv_iconst (v := 3) hx hb d_La_law_173 (by decide) ?_
  refine lv_iadd hx hb d_La_law_174 ?_
  refine va_sld hx hb hX hbl hbA hS (by unfold vp_in; decide +kernel) d_La_law_175 ?_
  refine lv_aload_n hx hb d_La_law_176 rfl (lv_at hl 5 rfl) ?_
  refine lv_iload hx hb d_La_law_177 (lv_at hl 1 rfl) ?_
  refine lv_iconst (v := 4) hx hb d_La_law_179 (by decide) ?_
  refine lv_iadd hx hb d_La_law_180 ?_
  refine va_sld hx hb hX hbl hbA hS (by unfold vp_in; decide +kernel) d_La_law_181 ?_
  refine lv_aload_n hx hb d_La_law_182 rfl (lv_at hl 5 rfl) ?_
  refine lv_iload hx hb d_La_law_183 (lv_at hl 1 rfl) ?_
  refine lv_iconst (v := 5) hx hb d_La_law_185 (by decide) ?_
  refine lv_iadd hx hb d_La_law_186 ?_
  refine va_sld hx hb hX hbl hbA hS (by unfold vp_in; decide +kernel) d_La_law_187 ?_
  refine mf_cV (wr := [_]) (ci := 7) (k := 0) C0 (c_Mo_feed l D9 cB cI cJ cG q_mo q_m_tape q_m_store q_m_section q_m_type q_m_kind q_m_time q_m_nameAt q_m_nameSize q_m_dataAt q_m_dataSize q_m_message q_m_endPlace q_m_endAt q_m_countsWritten _ _ _ _ _) g_872 g_8 g_869 g_870 g_871 ⟨by decide +kernel, by decide +kernel, show Option.map (fun d => d.parameters.length) (parseMethodDescriptor y_Mo_feed.desc) = some 5 by decide +kernel⟩ ⟨by decide, by decide⟩ rfl rfl hP hD hS hA [30, 31] [45] rfl rfl (by decide) (by decide) (by decide) rfl rfl hl.1 (Nat.le_of_ble_eq_true rfl) rfl d_La_law_188 ⟨by decide, by decide⟩ (fun v9 w9 H locs hq hP hD hS => ?_)
  obtain ⟨r6, x0, x1, x2, x3, x4, x5, x6, x7, x8, x9, x10, x11, x12, x13, x14, x15, x16, rfl, hw9, hm⟩ := hq
  rw [hw9] at hP hD
  obtain ⟨hkx, hz⟩ : x0 = k5 ∧ (k5 = 0 → g5 0 = r6.toInt64) := cmp0 hk hm
  refine lv_istore (lv' := [(6, _), (5, _), (4, _), (3, _), (2, _), (1, _), (0, _)]) hx hb d_La_law_191 hl (by decide) rfl (fun ls hl => ?_)
  refine lv_aload_n hx hb d_La_law_193 rfl (lv_at hl 4 rfl) ?_
  refine mf_cV (wr := [_]) (ci := 7) (k := 0) C0 (c_Mo_thrown l D9 cB cI cJ cG q_mo q_m_tape q_m_store q_m_section q_m_type q_m_kind q_m_time q_m_nameAt q_m_nameSize q_m_dataAt q_m_dataSize q_m_message q_m_endPlace q_m_endAt q_m_countsWritten _ _ _ _ _ _ _ _ _ _ _ _ _ _ _ _) g_816 g_8 g_813 g_814 g_815 ⟨by decide +kernel, by decide +kernel, show Option.map (fun d => d.parameters.length) (parseMethodDescriptor y_Mo_thrown.desc) = some 0 by decide +kernel⟩ ⟨by decide, by decide⟩ rfl rfl hP hD hS hA [1] [0] rfl rfl (by decide) (by decide) (by decide) rfl rfl hl.1 (Nat.le_of_ble_eq_true rfl) rfl d_La_law_194 ⟨by decide, by decide⟩ (fun v9 w9 H locs hq hP hD hS => ?_)
  obtain ⟨rfl, hw9⟩ := hq
  rw [hw9] at hP hD
  refine lv_iload hx hb d_La_law_197 (lv_at hl 1 rfl) ?_
  refine lv_icmp_eq (tgt := 204) hx hb d_La_law_199 (by decide) (fun c1 => ?_) (fun c1 => ?_)
  · refine lv_iload hx hb d_La_law_204 (lv_at hl 1 rfl) ?_
    refine lv_if_ne (tgt := 221) hx hb d_La_law_206 (by decide) (fun c2 => ?_) (fun c2 => ?_)
    · refine lv_goto (tgt := 1113) hx hb d_La_law_221 (by decide) ?_
      exact law_tail C1 hS (lv_sub hl [2, 6] rfl) (by decide) (by decide)
    · refine lv_aload_n hx hb d_La_law_209 rfl (lv_at hl 3 rfl) ?_
      refine lv_iconst (v := 0) hx hb d_La_law_210 (by decide) ?_
      refine va_lald (D := D9) hx hb hK hP 0 2 rfl rfl (by unfold vp_in; decide +kernel) d_La_law_211 ?_
      refine lv_iload hx hb d_La_law_212 (lv_at hl 0 rfl) ?_
      refine lv_i2l hx hb d_La_law_214 rfl ?_
      refine W.lcmp hx hb d_La_law_215 ?_
      refine lv_if_eq (tgt := 221) hx hb d_La_law_216 (by decide) (fun c3 => ?_) (fun c3 => ?_)
      · refine lv_goto (tgt := 1113) hx hb d_La_law_221 (by decide) ?_
        exact law_tail C1 hS (lv_sub hl [2, 6] rfl) (by decide) (by decide)
      · exact absurd ((lg_cmp_eq _ _).mpr (hz c2)) c3
  · exact absurd hkx c1
set_option maxHeartbeats 4000000 in
set_option maxRecDepth 100000 in
theorem law_case_1 (l : Launch) (hfl : l.flags = flags0) {p : Program} {e : Env} {s : State} {m : MethodId} {below : List Frame} {meth : Method} {c : Code} {b : Nat} {xs : Nat → Int32} (C1 : lw_At p s m meth c b 6 xs) (D9 : va_G) (cB cI cJ cG : ClassId) (hK : va_K D9 cls9 (ty9 cB cI cJ cG) s) (hZ : tx_Z (fun q : Nat => s.heap.size ≤ q) s s.heap) (h9 : no9 s) (q_x q_tp q_tpr q_ga q_gb q_gbr q_st q_nl q_dl q_ty q_ki q_ti q_rows q_sz q_re q_wr q_ms q_msr q_ls q_lm q_en q_ne q_ol q_mk q_pl q_so q_na q_lb q_ob q_mo q_m_tape q_m_store q_m_section q_m_type q_m_kind q_m_time q_m_nameAt q_m_nameSize q_m_dataAt q_m_dataSize q_m_message q_m_endPlace q_m_endAt q_m_countsWritten q_out : Nat) {H : Heap} {locs : List Loc} (hP : va_P D9 cls9 (wLaw cB cI cJ cG q_x q_tp q_tpr q_ga q_gb q_gbr q_st q_nl q_dl q_ty q_ki q_ti q_rows q_sz q_re q_wr q_ms q_msr q_ls q_lm q_en q_ne q_ol q_mk q_pl q_so q_na q_lb q_ob q_mo q_m_tape q_m_store q_m_section q_m_type q_m_kind q_m_time q_m_nameAt q_m_nameSize q_m_dataAt q_m_dataSize q_m_message q_m_endPlace q_m_endAt q_m_countsWritten q_out) H) (hD : va_D (fun q : Nat => s.heap.size ≤ q) (wLaw cB cI cJ cG q_x q_tp q_tpr q_ga q_gb q_gbr q_st q_nl q_dl q_ty q_ki q_ti q_rows q_sz q_re q_wr q_ms q_msr q_ls q_lm q_en q_ne q_ol q_mk q_pl q_so q_na q_lb q_ob q_mo q_m_tape q_m_store q_m_section q_m_type q_m_kind q_m_time q_m_nameAt q_m_nameSize q_m_dataAt q_m_dataSize q_m_message q_m_endPlace q_m_endAt q_m_countsWritten q_out)) (hS : va_S (fun q : Nat => s.heap.size ≤ q) s.heap H locs) {ls : Array Slot} (hl : lv_has ls 7 [(4, .int 0), (3, .ref q_out), (2, .ref q_mo), (1, .ref q_x), (0, .ref b)]) : W p l e room_1 s m #[Value.ref b] below meth c H locs 49 670223 (lw_Z below #[Value.ref b] s) (F0 m 224 ls []) := by
  obtain ⟨hx, hb, hr, hml, hown, hts0, hX, hbl, hlocks, hgv⟩ := id C1
  have hts : ∀ w ∈ GT, w.before #[Value.ref b] s = true := fun w hw => hts0 w ((List.mem_filter.mp hw).1)
  have C0 : mw_C p s m #[Value.ref b] meth c code 7 ret R_La D9 cls9 (ty9 cB cI cJ cG) := ⟨hx, hb, hml, hr, hlocks, hown, hts, hK⟩
  have hA : ∀ q : Nat, s.heap.size ≤ q → (fun q : Nat => s.heap.size ≤ q) q := fun _ h => h
  have hbA : ¬ (fun q : Nat => s.heap.size ≤ q) b := Nat.not_le.mpr hbl
  refine lv_aload_n hx hb d_La_law_224 rfl (lv_at hl 3 rfl) ?_
  refine lv_aload_n hx hb d_La_law_225 rfl (lv_at hl 4 rfl) ?_
  refine lv_iload hx hb d_La_law_226 (lv_at hl 0 rfl) ?_
  refine lv_iconst (v := 1) hx hb d_La_law_228 (by decide) ?_
  refine lv_iadd hx hb d_La_law_229 ?_
  refine va_sld hx hb hX hbl hbA hS (by unfold vp_in; decide +kernel) d_La_law_230 ?_
  refine lv_aload_n hx hb d_La_law_231 rfl (lv_at hl 1 rfl) ?_
  refine mh_cS (wr := [_, _, _, _, _, _, _, _, _, _, _, _, _, _, _, _, _, _, _, _, _, _, _, _, _, _, _, _, _, _, _, _, _, _, _, _, _, _, _, _, _, _, _, _, _, _]) C0 (c_La_end l D9 cB cI cJ cG hfl q_x q_tp q_ga q_re q_wr q_na q_tpr q_out _ _) g_460 g_0 g_458 g_459 ⟨by decide +kernel, by decide +kernel, show Option.map (fun d => d.parameters.length) (parseMethodDescriptor y_La_end.desc) = some 3 by decide +kernel⟩ ⟨by decide, by decide⟩ rfl rfl hZ h9 hP hD hS hA [0, 1, 48] [2, 3, 4, 5, 6, 7, 8, 9, 10, 11, 12, 13, 14, 15, 16, 17, 18, 19, 20, 21, 22, 23, 24, 25, 26, 27, 28, 29, 30, 31, 32, 33, 34, 35, 36, 37, 38, 39, 40, 41, 42, 43, 44, 45, 46, 47] rfl rfl (by decide) (by decide) (by decide) hl.1 (Nat.le_of_ble_eq_true rfl) rfl d_La_law_232 ⟨by decide, by decide⟩ (fun v9 w9 H locs hq hP hD hS => ?_)
  obtain ⟨k5, g5, w5, rfl, hw9, hk⟩ := hq
  rw [hw9] at hP hD
  refine lv_istore (lv' := [(5, _), (4, _), (3, _), (2, _), (1, _), (0, _)]) hx hb d_La_law_235 hl (by decide) rfl (fun ls hl => ?_)
  refine lv_aload_n hx hb d_La_law_237 rfl (lv_at hl 3 rfl) ?_
  refine lv_aload_n hx hb d_La_law_238 rfl (lv_at hl 5 rfl) ?_
  refine lv_iload hx hb d_La_law_239 (lv_at hl 1 rfl) ?_
  refine lv_iconst (v := 1) hx hb d_La_law_241 (by decide) ?_
  refine lv_iadd hx hb d_La_law_242 ?_
  refine va_sld hx hb hX hbl hbA hS (by unfold vp_in; decide +kernel) d_La_law_243 ?_
  refine mf_cV (wr := [_]) (ci := 7) (k := 0) C0 (c_Mo_end l D9 cB cI cJ cG q_mo q_m_tape q_m_store q_m_section q_m_type q_m_kind q_m_time q_m_nameAt q_m_nameSize q_m_dataAt q_m_dataSize q_m_message q_m_endPlace q_m_endAt q_m_countsWritten _) g_881 g_8 g_878 g_879 g_880 ⟨by decide +kernel, by decide +kernel, show Option.map (fun d => d.parameters.length) (parseMethodDescriptor y_Mo_end.desc) = some 1 by decide +kernel⟩ ⟨by decide, by decide⟩ rfl rfl hP hD hS hA [31] [46] rfl rfl (by decide) (by decide) (by decide) rfl rfl hl.1 (Nat.le_of_ble_eq_true rfl) rfl d_La_law_244 ⟨by decide, by decide⟩ (fun v9 w9 H locs hq hP hD hS => ?_)
  obtain ⟨r6, x0, x1, x2, x3, x4, x5, x6, x7, x8, x9, x10, x11, x12, x13, x14, x15, rfl, hw9, hm⟩ := hq
  rw [hw9] at hP hD
  obtain ⟨hkx, hz⟩ : x0 = k5 ∧ (k5 = 0 → g5 0 = r6.toInt64) := cmp2 (fun p q => q.elim p.1 (fun h => absurd p.2 (Int32.not_le.mpr h))) hk hm
  refine lv_istore (lv' := [(6, _), (5, _), (4, _), (3, _), (2, _), (1, _), (0, _)]) hx hb d_La_law_247 hl (by decide) rfl (fun ls hl => ?_)
  refine lv_aload_n hx hb d_La_law_249 rfl (lv_at hl 4 rfl) ?_
  refine mf_cV (wr := [_]) (ci := 7) (k := 0) C0 (c_Mo_thrown l D9 cB cI cJ cG q_mo q_m_tape q_m_store q_m_section q_m_type q_m_kind q_m_time q_m_nameAt q_m_nameSize q_m_dataAt q_m_dataSize q_m_message q_m_endPlace q_m_endAt q_m_countsWritten _ _ _ _ _ _ _ _ _ _ _ _ _ _ _ _) g_816 g_8 g_813 g_814 g_815 ⟨by decide +kernel, by decide +kernel, show Option.map (fun d => d.parameters.length) (parseMethodDescriptor y_Mo_thrown.desc) = some 0 by decide +kernel⟩ ⟨by decide, by decide⟩ rfl rfl hP hD hS hA [1] [0] rfl rfl (by decide) (by decide) (by decide) rfl rfl hl.1 (Nat.le_of_ble_eq_true rfl) rfl d_La_law_250 ⟨by decide, by decide⟩ (fun v9 w9 H locs hq hP hD hS => ?_)
  obtain ⟨rfl, hw9⟩ := hq
  rw [hw9] at hP hD
  refine lv_iload hx hb d_La_law_253 (lv_at hl 1 rfl) ?_
  refine lv_icmp_eq (tgt := 260) hx hb d_La_law_255 (by decide) (fun c1 => ?_) (fun c1 => ?_)
  · refine lv_iload hx hb d_La_law_260 (lv_at hl 1 rfl) ?_
    refine lv_if_ne (tgt := 277) hx hb d_La_law_262 (by decide) (fun c2 => ?_) (fun c2 => ?_)
    · refine lv_goto (tgt := 1113) hx hb d_La_law_277 (by decide) ?_
      exact law_tail C1 hS (lv_sub hl [2, 6] rfl) (by decide) (by decide)
    · refine lv_aload_n hx hb d_La_law_265 rfl (lv_at hl 3 rfl) ?_
      refine lv_iconst (v := 0) hx hb d_La_law_266 (by decide) ?_
      refine va_lald (D := D9) hx hb hK hP 0 2 rfl rfl (by unfold vp_in; decide +kernel) d_La_law_267 ?_
      refine lv_iload hx hb d_La_law_268 (lv_at hl 0 rfl) ?_
      refine lv_i2l hx hb d_La_law_270 rfl ?_
      refine W.lcmp hx hb d_La_law_271 ?_
      refine lv_if_eq (tgt := 277) hx hb d_La_law_272 (by decide) (fun c3 => ?_) (fun c3 => ?_)
      · refine lv_goto (tgt := 1113) hx hb d_La_law_277 (by decide) ?_
        exact law_tail C1 hS (lv_sub hl [2, 6] rfl) (by decide) (by decide)
      · exact absurd ((lg_cmp_eq _ _).mpr (hz c2)) c3
  · exact absurd hkx c1
set_option maxHeartbeats 4000000 in
set_option maxRecDepth 100000 in
theorem law_case_2 (l : Launch) (hfl : l.flags = flags0) {p : Program} {e : Env} {s : State} {m : MethodId} {below : List Frame} {meth : Method} {c : Code} {b : Nat} {xs : Nat → Int32} (C1 : lw_At p s m meth c b 6 xs) (D9 : va_G) (cB cI cJ cG : ClassId) (hK : va_K D9 cls9 (ty9 cB cI cJ cG) s) (hZ : tx_Z (fun q : Nat => s.heap.size ≤ q) s s.heap) (h9 : no9 s) (q_x q_tp q_tpr q_ga q_gb q_gbr q_st q_nl q_dl q_ty q_ki q_ti q_rows q_sz q_re q_wr q_ms q_msr q_ls q_lm q_en q_ne q_ol q_mk q_pl q_so q_na q_lb q_ob q_mo q_m_tape q_m_store q_m_section q_m_type q_m_kind q_m_time q_m_nameAt q_m_nameSize q_m_dataAt q_m_dataSize q_m_message q_m_endPlace q_m_endAt q_m_countsWritten q_out : Nat) {H : Heap} {locs : List Loc} (hP : va_P D9 cls9 (wLaw cB cI cJ cG q_x q_tp q_tpr q_ga q_gb q_gbr q_st q_nl q_dl q_ty q_ki q_ti q_rows q_sz q_re q_wr q_ms q_msr q_ls q_lm q_en q_ne q_ol q_mk q_pl q_so q_na q_lb q_ob q_mo q_m_tape q_m_store q_m_section q_m_type q_m_kind q_m_time q_m_nameAt q_m_nameSize q_m_dataAt q_m_dataSize q_m_message q_m_endPlace q_m_endAt q_m_countsWritten q_out) H) (hD : va_D (fun q : Nat => s.heap.size ≤ q) (wLaw cB cI cJ cG q_x q_tp q_tpr q_ga q_gb q_gbr q_st q_nl q_dl q_ty q_ki q_ti q_rows q_sz q_re q_wr q_ms q_msr q_ls q_lm q_en q_ne q_ol q_mk q_pl q_so q_na q_lb q_ob q_mo q_m_tape q_m_store q_m_section q_m_type q_m_kind q_m_time q_m_nameAt q_m_nameSize q_m_dataAt q_m_dataSize q_m_message q_m_endPlace q_m_endAt q_m_countsWritten q_out)) (hS : va_S (fun q : Nat => s.heap.size ≤ q) s.heap H locs) {ls : Array Slot} (hl : lv_has ls 7 [(4, .int 0), (3, .ref q_out), (2, .ref q_mo), (1, .ref q_x), (0, .ref b)]) : W p l e room_1 s m #[Value.ref b] below meth c H locs 49 670223 (lw_Z below #[Value.ref b] s) (F0 m 280 ls []) := by
  obtain ⟨hx, hb, hr, hml, hown, hts0, hX, hbl, hlocks, hgv⟩ := id C1
  have hts : ∀ w ∈ GT, w.before #[Value.ref b] s = true := fun w hw => hts0 w ((List.mem_filter.mp hw).1)
  have C0 : mw_C p s m #[Value.ref b] meth c code 7 ret R_La D9 cls9 (ty9 cB cI cJ cG) := ⟨hx, hb, hml, hr, hlocks, hown, hts, hK⟩
  have hA : ∀ q : Nat, s.heap.size ≤ q → (fun q : Nat => s.heap.size ≤ q) q := fun _ h => h
  have hbA : ¬ (fun q : Nat => s.heap.size ≤ q) b := Nat.not_le.mpr hbl
  refine lv_aload_n hx hb d_La_law_280 rfl (lv_at hl 3 rfl) ?_
  refine mf_cV (wr := [_, _, _, _, _, _, _, _, _, _, _, _, _, _, _, _, _, _, _, _, _, _, _, _, _, _, _, _, _, _, _, _, _, _, _, _, _, _, _, _, _, _]) (ci := 6) (k := 0) C0 (c_Wm_read l D9 cB cI cJ cG q_x q_tp q_ga q_re q_wr q_na q_tpr q_gbr q_gb q_st q_nl q_dl q_ty q_ki q_ti q_rows q_sz) g_247 g_1 g_244 g_245 g_246 ⟨by decide +kernel, by decide +kernel, show Option.map (fun d => d.parameters.length) (parseMethodDescriptor y_Wm_read.desc) = some 0 by decide +kernel⟩ ⟨by decide, by decide⟩ rfl rfl hP hD hS hA [0, 17, 1, 2, 19, 3, 16] [4, 5, 6, 7, 8, 9, 10, 11, 12, 13, 14, 15, 18, 20, 21, 22, 23, 24, 25, 26, 27, 28, 29, 30, 31, 32, 33, 34, 35, 36, 37, 38, 39, 40, 41, 42, 43, 44, 45, 46, 47, 48] rfl rfl (by decide) (by decide) (by decide) rfl rfl hl.1 (Nat.le_of_ble_eq_true rfl) rfl d_La_law_281 ⟨by decide, by decide⟩ (fun v9 w5 H locs hq hP hD hS => ?_)
  subst hq
  refine lv_aload_n hx hb d_La_law_284 rfl (lv_at hl 2 rfl) ?_
  refine mf_cV (wr := []) (ci := 7) (k := 0) C0 (c_Mo_read l D9 cB cI cJ cG q_mo q_m_tape q_m_store q_m_section q_m_type q_m_kind q_m_time q_m_nameAt q_m_nameSize q_m_dataAt q_m_dataSize q_m_message q_m_endPlace q_m_endAt q_m_countsWritten) g_820 g_8 g_817 g_818 g_819 ⟨by decide +kernel, by decide +kernel, show Option.map (fun d => d.parameters.length) (parseMethodDescriptor y_Mo_read.desc) = some 0 by decide +kernel⟩ ⟨by decide, by decide⟩ rfl rfl hP hD hS hA [26] [] rfl rfl (by decide) (by decide) (by decide) rfl rfl hl.1 (Nat.le_of_ble_eq_true rfl) rfl d_La_law_285 ⟨by decide, by decide⟩ (fun v9 w9 H locs hq hP hD hS => ?_)
  obtain ⟨r6, x0, x1, x2, x3, x4, x5, x6, x7, x8, x9, x10, x11, x12, x13, x14, x15, rfl, hw9, hm⟩ := hq
  rw [hw9] at hP hD
  refine lv_icmp_eq (tgt := 1113) hx hb d_La_law_288 (by decide) (fun c1 => ?_) (fun c1 => ?_)
  · exact law_tail C1 hS (lv_sub hl [0, 4] rfl) (by decide) (by decide)
  · exact absurd (by rw [hm.1]) c1
set_option maxHeartbeats 4000000 in
set_option maxRecDepth 100000 in
theorem law_case_3 (l : Launch) (hfl : l.flags = flags0) {p : Program} {e : Env} {s : State} {m : MethodId} {below : List Frame} {meth : Method} {c : Code} {b : Nat} {xs : Nat → Int32} (C1 : lw_At p s m meth c b 6 xs) (D9 : va_G) (cB cI cJ cG : ClassId) (hK : va_K D9 cls9 (ty9 cB cI cJ cG) s) (hZ : tx_Z (fun q : Nat => s.heap.size ≤ q) s s.heap) (h9 : no9 s) (q_x q_tp q_tpr q_ga q_gb q_gbr q_st q_nl q_dl q_ty q_ki q_ti q_rows q_sz q_re q_wr q_ms q_msr q_ls q_lm q_en q_ne q_ol q_mk q_pl q_so q_na q_lb q_ob q_mo q_m_tape q_m_store q_m_section q_m_type q_m_kind q_m_time q_m_nameAt q_m_nameSize q_m_dataAt q_m_dataSize q_m_message q_m_endPlace q_m_endAt q_m_countsWritten q_out : Nat) {H : Heap} {locs : List Loc} (hP : va_P D9 cls9 (wLaw cB cI cJ cG q_x q_tp q_tpr q_ga q_gb q_gbr q_st q_nl q_dl q_ty q_ki q_ti q_rows q_sz q_re q_wr q_ms q_msr q_ls q_lm q_en q_ne q_ol q_mk q_pl q_so q_na q_lb q_ob q_mo q_m_tape q_m_store q_m_section q_m_type q_m_kind q_m_time q_m_nameAt q_m_nameSize q_m_dataAt q_m_dataSize q_m_message q_m_endPlace q_m_endAt q_m_countsWritten q_out) H) (hD : va_D (fun q : Nat => s.heap.size ≤ q) (wLaw cB cI cJ cG q_x q_tp q_tpr q_ga q_gb q_gbr q_st q_nl q_dl q_ty q_ki q_ti q_rows q_sz q_re q_wr q_ms q_msr q_ls q_lm q_en q_ne q_ol q_mk q_pl q_so q_na q_lb q_ob q_mo q_m_tape q_m_store q_m_section q_m_type q_m_kind q_m_time q_m_nameAt q_m_nameSize q_m_dataAt q_m_dataSize q_m_message q_m_endPlace q_m_endAt q_m_countsWritten q_out)) (hS : va_S (fun q : Nat => s.heap.size ≤ q) s.heap H locs) {ls : Array Slot} (hl : lv_has ls 7 [(4, .int 0), (3, .ref q_out), (2, .ref q_mo), (1, .ref q_x), (0, .ref b)]) : W p l e room_1 s m #[Value.ref b] below meth c H locs 49 670223 (lw_Z below #[Value.ref b] s) (F0 m 293 ls []) := by
  obtain ⟨hx, hb, hr, hml, hown, hts0, hX, hbl, hlocks, hgv⟩ := id C1
  have hts : ∀ w ∈ GT, w.before #[Value.ref b] s = true := fun w hw => hts0 w ((List.mem_filter.mp hw).1)
  have C0 : mw_C p s m #[Value.ref b] meth c code 7 ret R_La D9 cls9 (ty9 cB cI cJ cG) := ⟨hx, hb, hml, hr, hlocks, hown, hts, hK⟩
  have hA : ∀ q : Nat, s.heap.size ≤ q → (fun q : Nat => s.heap.size ≤ q) q := fun _ h => h
  have hbA : ¬ (fun q : Nat => s.heap.size ≤ q) b := Nat.not_le.mpr hbl
  refine lv_aload_n hx hb d_La_law_293 rfl (lv_at hl 3 rfl) ?_
  refine mf_cV (wr := [_, _, _, _, _, _, _, _, _, _, _, _, _, _, _, _, _, _, _, _, _, _, _, _, _, _, _, _, _, _, _, _, _, _, _, _, _, _, _, _, _, _, _, _, _, _, _, _]) (ci := 6) (k := 0) C0 (c_Wm_faultAt l D9 cB cI cJ cG q_x q_tp q_ga q_re q_wr q_na) g_364 g_1 g_361 g_362 g_363 ⟨by decide +kernel, by decide +kernel, show Option.map (fun d => d.parameters.length) (parseMethodDescriptor y_Wm_faultAt.desc) = some 0 by decide +kernel⟩ ⟨by decide, by decide⟩ rfl rfl hP hD hS hA [0] [1, 2, 3, 4, 5, 6, 7, 8, 9, 10, 11, 12, 13, 14, 15, 16, 17, 18, 19, 20, 21, 22, 23, 24, 25, 26, 27, 28, 29, 30, 31, 32, 33, 34, 35, 36, 37, 38, 39, 40, 41, 42, 43, 44, 45, 46, 47, 48] rfl rfl (by decide) (by decide) (by decide) rfl rfl hl.1 (Nat.le_of_ble_eq_true rfl) rfl d_La_law_294 ⟨by decide, by decide⟩ (fun v9 w5 H locs hq hP hD hS => ?_)
  subst hq
  refine lv_aload_n hx hb d_La_law_297 rfl (lv_at hl 2 rfl) ?_
  refine mf_cV (wr := []) (ci := 7) (k := 0) C0 (c_Mo_faultAt l D9 cB cI cJ cG q_mo q_m_tape q_m_store q_m_section q_m_type q_m_kind q_m_time q_m_nameAt q_m_nameSize q_m_dataAt q_m_dataSize q_m_message q_m_endPlace q_m_endAt q_m_countsWritten) g_868 g_8 g_865 g_866 g_867 ⟨by decide +kernel, by decide +kernel, show Option.map (fun d => d.parameters.length) (parseMethodDescriptor y_Mo_faultAt.desc) = some 0 by decide +kernel⟩ ⟨by decide, by decide⟩ rfl rfl hP hD hS hA [32] [] rfl rfl (by decide) (by decide) (by decide) rfl rfl hl.1 (Nat.le_of_ble_eq_true rfl) rfl d_La_law_298 ⟨by decide, by decide⟩ (fun v9 w9 H locs hq hP hD hS => ?_)
  obtain ⟨r6, x0, x1, x2, x3, x4, x5, x6, x7, x8, x9, x10, x11, x12, x13, x14, x15, rfl, hw9, hm⟩ := hq
  rw [hw9] at hP hD
  refine lv_icmp_eq (tgt := 1113) hx hb d_La_law_301 (by decide) (fun c1 => ?_) (fun c1 => ?_)
  · exact law_tail C1 hS (lv_sub hl [0, 4] rfl) (by decide) (by decide)
  · exact absurd (by rw [hm.1]) c1
set_option maxHeartbeats 4000000 in
set_option maxRecDepth 100000 in
theorem law_case_4 (l : Launch) (hfl : l.flags = flags0) {p : Program} {e : Env} {s : State} {m : MethodId} {below : List Frame} {meth : Method} {c : Code} {b : Nat} {xs : Nat → Int32} (C1 : lw_At p s m meth c b 6 xs) (D9 : va_G) (cB cI cJ cG : ClassId) (hK : va_K D9 cls9 (ty9 cB cI cJ cG) s) (hZ : tx_Z (fun q : Nat => s.heap.size ≤ q) s s.heap) (h9 : no9 s) (q_x q_tp q_tpr q_ga q_gb q_gbr q_st q_nl q_dl q_ty q_ki q_ti q_rows q_sz q_re q_wr q_ms q_msr q_ls q_lm q_en q_ne q_ol q_mk q_pl q_so q_na q_lb q_ob q_mo q_m_tape q_m_store q_m_section q_m_type q_m_kind q_m_time q_m_nameAt q_m_nameSize q_m_dataAt q_m_dataSize q_m_message q_m_endPlace q_m_endAt q_m_countsWritten q_out : Nat) {H : Heap} {locs : List Loc} (hP : va_P D9 cls9 (wLaw cB cI cJ cG q_x q_tp q_tpr q_ga q_gb q_gbr q_st q_nl q_dl q_ty q_ki q_ti q_rows q_sz q_re q_wr q_ms q_msr q_ls q_lm q_en q_ne q_ol q_mk q_pl q_so q_na q_lb q_ob q_mo q_m_tape q_m_store q_m_section q_m_type q_m_kind q_m_time q_m_nameAt q_m_nameSize q_m_dataAt q_m_dataSize q_m_message q_m_endPlace q_m_endAt q_m_countsWritten q_out) H) (hD : va_D (fun q : Nat => s.heap.size ≤ q) (wLaw cB cI cJ cG q_x q_tp q_tpr q_ga q_gb q_gbr q_st q_nl q_dl q_ty q_ki q_ti q_rows q_sz q_re q_wr q_ms q_msr q_ls q_lm q_en q_ne q_ol q_mk q_pl q_so q_na q_lb q_ob q_mo q_m_tape q_m_store q_m_section q_m_type q_m_kind q_m_time q_m_nameAt q_m_nameSize q_m_dataAt q_m_dataSize q_m_message q_m_endPlace q_m_endAt q_m_countsWritten q_out)) (hS : va_S (fun q : Nat => s.heap.size ≤ q) s.heap H locs) {ls : Array Slot} (hl : lv_has ls 7 [(4, .int 0), (3, .ref q_out), (2, .ref q_mo), (1, .ref q_x), (0, .ref b)]) : W p l e room_1 s m #[Value.ref b] below meth c H locs 49 670223 (lw_Z below #[Value.ref b] s) (F0 m 306 ls []) := by
  obtain ⟨hx, hb, hr, hml, hown, hts0, hX, hbl, hlocks, hgv⟩ := id C1
  have hts : ∀ w ∈ GT, w.before #[Value.ref b] s = true := fun w hw => hts0 w ((List.mem_filter.mp hw).1)
  have C0 : mw_C p s m #[Value.ref b] meth c code 7 ret R_La D9 cls9 (ty9 cB cI cJ cG) := ⟨hx, hb, hml, hr, hlocks, hown, hts, hK⟩
  have hA : ∀ q : Nat, s.heap.size ≤ q → (fun q : Nat => s.heap.size ≤ q) q := fun _ h => h
  have hbA : ¬ (fun q : Nat => s.heap.size ≤ q) b := Nat.not_le.mpr hbl
  refine lv_aload_n hx hb d_La_law_306 rfl (lv_at hl 3 rfl) ?_
  refine lv_aload_n hx hb d_La_law_307 rfl (lv_at hl 4 rfl) ?_
  refine lv_iload hx hb d_La_law_308 (lv_at hl 0 rfl) ?_
  refine lv_iconst (v := 1) hx hb d_La_law_310 (by decide) ?_
  refine lv_iadd hx hb d_La_law_311 ?_
  refine va_sld hx hb hX hbl hbA hS (by unfold vp_in; decide +kernel) d_La_law_312 ?_
  refine lv_aload_n hx hb d_La_law_313 rfl (lv_at hl 4 rfl) ?_
  refine lv_iload hx hb d_La_law_314 (lv_at hl 0 rfl) ?_
  refine lv_iconst (v := 2) hx hb d_La_law_316 (by decide) ?_
  refine lv_iadd hx hb d_La_law_317 ?_
  refine va_sld hx hb hX hbl hbA hS (by unfold vp_in; decide +kernel) d_La_law_318 ?_
  refine mf_cV (wr := [_, _, _, _, _, _, _, _, _, _, _, _, _, _, _, _, _, _, _, _, _, _, _, _, _, _, _, _, _, _, _, _, _, _, _, _, _, _, _, _, _, _, _, _, _]) (ci := 6) (k := 0) C0 (c_Wm_begin l D9 cB cI cJ cG q_x q_tp q_ga q_re q_wr q_na q_gbr q_gb q_st q_nl q_dl q_ty q_ki q_ti q_rows q_sz _ _) g_368 g_1 g_365 g_366 g_367 ⟨by decide +kernel, by decide +kernel, show Option.map (fun d => d.parameters.length) (parseMethodDescriptor y_Wm_begin.desc) = some 2 by decide +kernel⟩ ⟨by decide, by decide⟩ rfl rfl hP hD hS hA [0, 19, 3, 16] [1, 2, 4, 5, 6, 7, 8, 9, 10, 11, 12, 13, 14, 15, 17, 18, 20, 21, 22, 23, 24, 25, 26, 27, 28, 29, 30, 31, 32, 33, 34, 35, 36, 37, 38, 39, 40, 41, 42, 43, 44, 45, 46, 47, 48] rfl rfl (by decide) (by decide) (by decide) rfl rfl hl.1 (Nat.le_of_ble_eq_true rfl) rfl d_La_law_319 ⟨by decide, by decide⟩ (fun v9 w5 H locs hq hP hD hS => ?_)
  subst hq
  refine lv_aload_n hx hb d_La_law_322 rfl (lv_at hl 2 rfl) ?_
  refine lv_aload_n hx hb d_La_law_323 rfl (lv_at hl 4 rfl) ?_
  refine lv_iload hx hb d_La_law_324 (lv_at hl 0 rfl) ?_
  refine lv_iconst (v := 1) hx hb d_La_law_326 (by decide) ?_
  refine lv_iadd hx hb d_La_law_327 ?_
  refine va_sld hx hb hX hbl hbA hS (by unfold vp_in; decide +kernel) d_La_law_328 ?_
  refine lv_aload_n hx hb d_La_law_329 rfl (lv_at hl 4 rfl) ?_
  refine lv_iload hx hb d_La_law_330 (lv_at hl 0 rfl) ?_
  refine lv_iconst (v := 2) hx hb d_La_law_332 (by decide) ?_
  refine lv_iadd hx hb d_La_law_333 ?_
  refine va_sld hx hb hX hbl hbA hS (by unfold vp_in; decide +kernel) d_La_law_334 ?_
  refine mf_cV (wr := []) (ci := 7) (k := 0) C0 (c_Mo_begin l D9 cB cI cJ cG q_mo q_m_tape q_m_store q_m_section q_m_type q_m_kind q_m_time q_m_nameAt q_m_nameSize q_m_dataAt q_m_dataSize q_m_message q_m_endPlace q_m_endAt q_m_countsWritten _ _) g_885 g_8 g_882 g_883 g_884 ⟨by decide +kernel, by decide +kernel, show Option.map (fun d => d.parameters.length) (parseMethodDescriptor y_Mo_begin.desc) = some 2 by decide +kernel⟩ ⟨by decide, by decide⟩ rfl rfl hP hD hS hA [29] [] rfl rfl (by decide) (by decide) (by decide) rfl rfl hl.1 (Nat.le_of_ble_eq_true rfl) rfl d_La_law_335 ⟨by decide, by decide⟩ (fun v9 w9 H locs hq hP hD hS => ?_)
  obtain ⟨x0, x1, x2, x3, x4, x5, x6, x7, x8, x9, x10, x11, x12, x13, x14, x15, rfl, hw9, hm⟩ := hq
  rw [hw9] at hP hD
  refine lv_goto (tgt := 1113) hx hb d_La_law_338 (by decide) ?_
  exact law_tail C1 hS (lv_sub hl [0, 4] rfl) (by decide) (by decide)
set_option maxHeartbeats 4000000 in
set_option maxRecDepth 100000 in
theorem law_case_5 (l : Launch) (hfl : l.flags = flags0) {p : Program} {e : Env} {s : State} {m : MethodId} {below : List Frame} {meth : Method} {c : Code} {b : Nat} {xs : Nat → Int32} (C1 : lw_At p s m meth c b 6 xs) (D9 : va_G) (cB cI cJ cG : ClassId) (hK : va_K D9 cls9 (ty9 cB cI cJ cG) s) (hZ : tx_Z (fun q : Nat => s.heap.size ≤ q) s s.heap) (h9 : no9 s) (q_x q_tp q_tpr q_ga q_gb q_gbr q_st q_nl q_dl q_ty q_ki q_ti q_rows q_sz q_re q_wr q_ms q_msr q_ls q_lm q_en q_ne q_ol q_mk q_pl q_so q_na q_lb q_ob q_mo q_m_tape q_m_store q_m_section q_m_type q_m_kind q_m_time q_m_nameAt q_m_nameSize q_m_dataAt q_m_dataSize q_m_message q_m_endPlace q_m_endAt q_m_countsWritten q_out : Nat) {H : Heap} {locs : List Loc} (hP : va_P D9 cls9 (wLaw cB cI cJ cG q_x q_tp q_tpr q_ga q_gb q_gbr q_st q_nl q_dl q_ty q_ki q_ti q_rows q_sz q_re q_wr q_ms q_msr q_ls q_lm q_en q_ne q_ol q_mk q_pl q_so q_na q_lb q_ob q_mo q_m_tape q_m_store q_m_section q_m_type q_m_kind q_m_time q_m_nameAt q_m_nameSize q_m_dataAt q_m_dataSize q_m_message q_m_endPlace q_m_endAt q_m_countsWritten q_out) H) (hD : va_D (fun q : Nat => s.heap.size ≤ q) (wLaw cB cI cJ cG q_x q_tp q_tpr q_ga q_gb q_gbr q_st q_nl q_dl q_ty q_ki q_ti q_rows q_sz q_re q_wr q_ms q_msr q_ls q_lm q_en q_ne q_ol q_mk q_pl q_so q_na q_lb q_ob q_mo q_m_tape q_m_store q_m_section q_m_type q_m_kind q_m_time q_m_nameAt q_m_nameSize q_m_dataAt q_m_dataSize q_m_message q_m_endPlace q_m_endAt q_m_countsWritten q_out)) (hS : va_S (fun q : Nat => s.heap.size ≤ q) s.heap H locs) {ls : Array Slot} (hl : lv_has ls 7 [(4, .int 0), (3, .ref q_out), (2, .ref q_mo), (1, .ref q_x), (0, .ref b)]) : W p l e room_1 s m #[Value.ref b] below meth c H locs 49 670223 (lw_Z below #[Value.ref b] s) (F0 m 341 ls []) := by
  obtain ⟨hx, hb, hr, hml, hown, hts0, hX, hbl, hlocks, hgv⟩ := id C1
  have hts : ∀ w ∈ GT, w.before #[Value.ref b] s = true := fun w hw => hts0 w ((List.mem_filter.mp hw).1)
  have C0 : mw_C p s m #[Value.ref b] meth c code 7 ret R_La D9 cls9 (ty9 cB cI cJ cG) := ⟨hx, hb, hml, hr, hlocks, hown, hts, hK⟩
  have hA : ∀ q : Nat, s.heap.size ≤ q → (fun q : Nat => s.heap.size ≤ q) q := fun _ h => h
  have hbA : ¬ (fun q : Nat => s.heap.size ≤ q) b := Nat.not_le.mpr hbl
  refine lv_aload_n hx hb d_La_law_341 rfl (lv_at hl 3 rfl) ?_
  refine lv_aload_n hx hb d_La_law_342 rfl (lv_at hl 4 rfl) ?_
  refine lv_iload hx hb d_La_law_343 (lv_at hl 0 rfl) ?_
  refine lv_iconst (v := 1) hx hb d_La_law_345 (by decide) ?_
  refine lv_iadd hx hb d_La_law_346 ?_
  refine va_sld hx hb hX hbl hbA hS (by unfold vp_in; decide +kernel) d_La_law_347 ?_
  refine lv_aload_n hx hb d_La_law_348 rfl (lv_at hl 4 rfl) ?_
  refine lv_iload hx hb d_La_law_349 (lv_at hl 0 rfl) ?_
  refine lv_iconst (v := 2) hx hb d_La_law_351 (by decide) ?_
  refine lv_iadd hx hb d_La_law_352 ?_
  refine va_sld hx hb hX hbl hbA hS (by unfold vp_in; decide +kernel) d_La_law_353 ?_
  refine lv_aload_n hx hb d_La_law_354 rfl (lv_at hl 1 rfl) ?_
  refine mh_cS (wr := [_, _, _, _, _, _, _, _, _, _, _, _, _, _, _, _, _, _, _, _, _, _, _, _, _, _, _, _, _, _, _, _, _, _, _, _, _, _, _, _, _, _, _]) C0 (c_La_question l D9 cB cI cJ cG hfl q_x q_tp q_ga q_re q_wr q_na q_tpr q_gbr q_gb q_st q_nl q_dl q_ty q_ki q_ti q_rows q_sz q_out _ _ _) g_483 g_0 g_481 g_482 ⟨by decide +kernel, by decide +kernel, show Option.map (fun d => d.parameters.length) (parseMethodDescriptor y_La_question.desc) = some 4 by decide +kernel⟩ ⟨by decide, by decide⟩ rfl rfl hZ h9 hP hD hS hA [0, 17, 1, 19, 3, 48] [2, 4, 5, 6, 7, 8, 9, 10, 11, 12, 13, 14, 15, 16, 18, 20, 21, 22, 23, 24, 25, 26, 27, 28, 29, 30, 31, 32, 33, 34, 35, 36, 37, 38, 39, 40, 41, 42, 43, 44, 45, 46, 47] rfl rfl (by decide) (by decide) (by decide) hl.1 (Nat.le_of_ble_eq_true rfl) rfl d_La_law_355 ⟨by decide, by decide⟩ (fun v9 w9 H locs hq hP hD hS => ?_)
  obtain ⟨k5, g5, w5, rfl, hw9, hk⟩ := hq
  rw [hw9] at hP hD
  refine lv_istore (lv' := [(5, _), (4, _), (3, _), (2, _), (1, _), (0, _)]) hx hb d_La_law_358 hl (by decide) rfl (fun ls hl => ?_)
  refine lv_aload_n hx hb d_La_law_360 rfl (lv_at hl 3 rfl) ?_
  refine lv_aload_n hx hb d_La_law_361 rfl (lv_at hl 5 rfl) ?_
  refine lv_iload hx hb d_La_law_362 (lv_at hl 1 rfl) ?_
  refine lv_iconst (v := 1) hx hb d_La_law_364 (by decide) ?_
  refine lv_iadd hx hb d_La_law_365 ?_
  refine va_sld hx hb hX hbl hbA hS (by unfold vp_in; decide +kernel) d_La_law_366 ?_
  refine lv_aload_n hx hb d_La_law_367 rfl (lv_at hl 5 rfl) ?_
  refine lv_iload hx hb d_La_law_368 (lv_at hl 1 rfl) ?_
  refine lv_iconst (v := 2) hx hb d_La_law_370 (by decide) ?_
  refine lv_iadd hx hb d_La_law_371 ?_
  refine va_sld hx hb hX hbl hbA hS (by unfold vp_in; decide +kernel) d_La_law_372 ?_
  refine mf_cV (wr := [_]) (ci := 7) (k := 0) C0 (c_Mo_question l D9 cB cI cJ cG q_mo q_m_tape q_m_store q_m_section q_m_type q_m_kind q_m_time q_m_nameAt q_m_nameSize q_m_dataAt q_m_dataSize q_m_message q_m_endPlace q_m_endAt q_m_countsWritten _ _) g_890 g_8 g_887 g_888 g_889 ⟨by decide +kernel, by decide +kernel, show Option.map (fun d => d.parameters.length) (parseMethodDescriptor y_Mo_question.desc) = some 2 by decide +kernel⟩ ⟨by decide, by decide⟩ rfl rfl hP hD hS hA [28] [43] rfl rfl (by decide) (by decide) (by decide) rfl rfl hl.1 (Nat.le_of_ble_eq_true rfl) rfl d_La_law_373 ⟨by decide, by decide⟩ (fun v9 w9 H locs hq hP hD hS => ?_)
  obtain ⟨r6, x0, x1, x2, x3, x4, x5, x6, x7, x8, x9, x10, x11, x12, x13, x14, x15, rfl, hw9, hm⟩ := hq
  rw [hw9] at hP hD
  obtain ⟨hkx, hz⟩ : x0 = k5 ∧ (k5 = 0 → g5 0 = r6.toInt64) := cmp1 hk hm
  refine lv_istore (lv' := [(6, _), (5, _), (4, _), (3, _), (2, _), (1, _), (0, _)]) hx hb d_La_law_376 hl (by decide) rfl (fun ls hl => ?_)
  refine lv_aload_n hx hb d_La_law_378 rfl (lv_at hl 4 rfl) ?_
  refine mf_cV (wr := [_]) (ci := 7) (k := 0) C0 (c_Mo_thrown l D9 cB cI cJ cG q_mo q_m_tape q_m_store q_m_section q_m_type q_m_kind q_m_time q_m_nameAt q_m_nameSize q_m_dataAt q_m_dataSize q_m_message q_m_endPlace q_m_endAt q_m_countsWritten _ _ _ _ _ _ _ _ _ _ _ _ _ _ _ _) g_816 g_8 g_813 g_814 g_815 ⟨by decide +kernel, by decide +kernel, show Option.map (fun d => d.parameters.length) (parseMethodDescriptor y_Mo_thrown.desc) = some 0 by decide +kernel⟩ ⟨by decide, by decide⟩ rfl rfl hP hD hS hA [1] [0] rfl rfl (by decide) (by decide) (by decide) rfl rfl hl.1 (Nat.le_of_ble_eq_true rfl) rfl d_La_law_379 ⟨by decide, by decide⟩ (fun v9 w9 H locs hq hP hD hS => ?_)
  obtain ⟨rfl, hw9⟩ := hq
  rw [hw9] at hP hD
  refine lv_iload hx hb d_La_law_382 (lv_at hl 1 rfl) ?_
  refine lv_icmp_eq (tgt := 389) hx hb d_La_law_384 (by decide) (fun c1 => ?_) (fun c1 => ?_)
  · refine lv_iload hx hb d_La_law_389 (lv_at hl 1 rfl) ?_
    refine lv_if_ne (tgt := 406) hx hb d_La_law_391 (by decide) (fun c2 => ?_) (fun c2 => ?_)
    · refine lv_goto (tgt := 1113) hx hb d_La_law_406 (by decide) ?_
      exact law_tail C1 hS (lv_sub hl [2, 6] rfl) (by decide) (by decide)
    · exact absurd (hk.symm.trans c2) (by decide)
  · exact absurd hkx c1
set_option maxHeartbeats 4000000 in
set_option maxRecDepth 100000 in
theorem law_case_6 (l : Launch) (hfl : l.flags = flags0) {p : Program} {e : Env} {s : State} {m : MethodId} {below : List Frame} {meth : Method} {c : Code} {b : Nat} {xs : Nat → Int32} (C1 : lw_At p s m meth c b 6 xs) (D9 : va_G) (cB cI cJ cG : ClassId) (hK : va_K D9 cls9 (ty9 cB cI cJ cG) s) (hZ : tx_Z (fun q : Nat => s.heap.size ≤ q) s s.heap) (h9 : no9 s) (q_x q_tp q_tpr q_ga q_gb q_gbr q_st q_nl q_dl q_ty q_ki q_ti q_rows q_sz q_re q_wr q_ms q_msr q_ls q_lm q_en q_ne q_ol q_mk q_pl q_so q_na q_lb q_ob q_mo q_m_tape q_m_store q_m_section q_m_type q_m_kind q_m_time q_m_nameAt q_m_nameSize q_m_dataAt q_m_dataSize q_m_message q_m_endPlace q_m_endAt q_m_countsWritten q_out : Nat) {H : Heap} {locs : List Loc} (hP : va_P D9 cls9 (wLaw cB cI cJ cG q_x q_tp q_tpr q_ga q_gb q_gbr q_st q_nl q_dl q_ty q_ki q_ti q_rows q_sz q_re q_wr q_ms q_msr q_ls q_lm q_en q_ne q_ol q_mk q_pl q_so q_na q_lb q_ob q_mo q_m_tape q_m_store q_m_section q_m_type q_m_kind q_m_time q_m_nameAt q_m_nameSize q_m_dataAt q_m_dataSize q_m_message q_m_endPlace q_m_endAt q_m_countsWritten q_out) H) (hD : va_D (fun q : Nat => s.heap.size ≤ q) (wLaw cB cI cJ cG q_x q_tp q_tpr q_ga q_gb q_gbr q_st q_nl q_dl q_ty q_ki q_ti q_rows q_sz q_re q_wr q_ms q_msr q_ls q_lm q_en q_ne q_ol q_mk q_pl q_so q_na q_lb q_ob q_mo q_m_tape q_m_store q_m_section q_m_type q_m_kind q_m_time q_m_nameAt q_m_nameSize q_m_dataAt q_m_dataSize q_m_message q_m_endPlace q_m_endAt q_m_countsWritten q_out)) (hS : va_S (fun q : Nat => s.heap.size ≤ q) s.heap H locs) {ls : Array Slot} (hl : lv_has ls 7 [(4, .int 0), (3, .ref q_out), (2, .ref q_mo), (1, .ref q_x), (0, .ref b)]) : W p l e room_1 s m #[Value.ref b] below meth c H locs 49 670223 (lw_Z below #[Value.ref b] s) (F0 m 409 ls []) := by
  obtain ⟨hx, hb, hr, hml, hown, hts0, hX, hbl, hlocks, hgv⟩ := id C1
  have hts : ∀ w ∈ GT, w.before #[Value.ref b] s = true := fun w hw => hts0 w ((List.mem_filter.mp hw).1)
  have C0 : mw_C p s m #[Value.ref b] meth c code 7 ret R_La D9 cls9 (ty9 cB cI cJ cG) := ⟨hx, hb, hml, hr, hlocks, hown, hts, hK⟩
  have hA : ∀ q : Nat, s.heap.size ≤ q → (fun q : Nat => s.heap.size ≤ q) q := fun _ h => h
  have hbA : ¬ (fun q : Nat => s.heap.size ≤ q) b := Nat.not_le.mpr hbl
  refine lv_aload_n hx hb d_La_law_409 rfl (lv_at hl 3 rfl) ?_
  refine lv_aload_n hx hb d_La_law_410 rfl (lv_at hl 4 rfl) ?_
  refine lv_iload hx hb d_La_law_411 (lv_at hl 0 rfl) ?_
  refine lv_iconst (v := 1) hx hb d_La_law_413 (by decide) ?_
  refine lv_iadd hx hb d_La_law_414 ?_
  refine va_sld hx hb hX hbl hbA hS (by unfold vp_in; decide +kernel) d_La_law_415 ?_
  refine lv_aload_n hx hb d_La_law_416 rfl (lv_at hl 4 rfl) ?_
  refine lv_iload hx hb d_La_law_417 (lv_at hl 0 rfl) ?_
  refine lv_iconst (v := 2) hx hb d_La_law_419 (by decide) ?_
  refine lv_iadd hx hb d_La_law_420 ?_
  refine va_sld hx hb hX hbl hbA hS (by unfold vp_in; decide +kernel) d_La_law_421 ?_
  refine lv_aload_n hx hb d_La_law_422 rfl (lv_at hl 4 rfl) ?_
  refine lv_iload hx hb d_La_law_423 (lv_at hl 0 rfl) ?_
  refine lv_iconst (v := 3) hx hb d_La_law_425 (by decide) ?_
  refine lv_iadd hx hb d_La_law_426 ?_
  refine va_sld hx hb hX hbl hbA hS (by unfold vp_in; decide +kernel) d_La_law_427 ?_
  refine lv_aload_n hx hb d_La_law_428 rfl (lv_at hl 4 rfl) ?_
  refine lv_iload hx hb d_La_law_429 (lv_at hl 0 rfl) ?_
  refine lv_iconst (v := 4) hx hb d_La_law_431 (by decide) ?_
  refine lv_iadd hx hb d_La_law_432 ?_
  refine va_sld hx hb hX hbl hbA hS (by unfold vp_in; decide +kernel) d_La_law_433 ?_
  refine lv_aload_n hx hb d_La_law_434 rfl (lv_at hl 1 rfl) ?_
  refine mh_cS (wr := [_, _, _, _, _, _, _, _, _, _, _, _, _, _, _, _, _, _, _, _, _, _, _, _, _, _, _, _, _, _, _, _, _, _, _, _, _, _, _, _, _, _, _]) C0 (c_La_record l D9 cB cI cJ cG hfl q_x q_tp q_ga q_re q_wr q_na q_tpr q_gbr q_gb q_st q_nl q_dl q_ty q_ki q_ti q_rows q_sz q_out _ _ _ _ _) g_499 g_0 g_497 g_498 ⟨by decide +kernel, by decide +kernel, show Option.map (fun d => d.parameters.length) (parseMethodDescriptor y_La_record.desc) = some 6 by decide +kernel⟩ ⟨by decide, by decide⟩ rfl rfl hZ h9 hP hD hS hA [0, 17, 1, 19, 3, 48] [2, 4, 5, 6, 7, 8, 9, 10, 11, 12, 13, 14, 15, 16, 18, 20, 21, 22, 23, 24, 25, 26, 27, 28, 29, 30, 31, 32, 33, 34, 35, 36, 37, 38, 39, 40, 41, 42, 43, 44, 45, 46, 47] rfl rfl (by decide) (by decide) (by decide) hl.1 (Nat.le_of_ble_eq_true rfl) rfl d_La_law_435 ⟨by decide, by decide⟩ (fun v9 w9 H locs hq hP hD hS => ?_)
  obtain ⟨k5, g5, w5, rfl, hw9, hk⟩ := hq
  rw [hw9] at hP hD
  refine lv_istore (lv' := [(5, _), (4, _), (3, _), (2, _), (1, _), (0, _)]) hx hb d_La_law_438 hl (by decide) rfl (fun ls hl => ?_)
  refine lv_aload_n hx hb d_La_law_440 rfl (lv_at hl 3 rfl) ?_
  refine lv_aload_n hx hb d_La_law_441 rfl (lv_at hl 5 rfl) ?_
  refine lv_iload hx hb d_La_law_442 (lv_at hl 1 rfl) ?_
  refine lv_iconst (v := 1) hx hb d_La_law_444 (by decide) ?_
  refine lv_iadd hx hb d_La_law_445 ?_
  refine va_sld hx hb hX hbl hbA hS (by unfold vp_in; decide +kernel) d_La_law_446 ?_
  refine lv_aload_n hx hb d_La_law_447 rfl (lv_at hl 5 rfl) ?_
  refine lv_iload hx hb d_La_law_448 (lv_at hl 1 rfl) ?_
  refine lv_iconst (v := 2) hx hb d_La_law_450 (by decide) ?_
  refine lv_iadd hx hb d_La_law_451 ?_
  refine va_sld hx hb hX hbl hbA hS (by unfold vp_in; decide +kernel) d_La_law_452 ?_
  refine lv_aload_n hx hb d_La_law_453 rfl (lv_at hl 5 rfl) ?_
  refine lv_iload hx hb d_La_law_454 (lv_at hl 1 rfl) ?_
  refine lv_iconst (v := 3) hx hb d_La_law_456 (by decide) ?_
  refine lv_iadd hx hb d_La_law_457 ?_
  refine va_sld hx hb hX hbl hbA hS (by unfold vp_in; decide +kernel) d_La_law_458 ?_
  refine lv_aload_n hx hb d_La_law_459 rfl (lv_at hl 5 rfl) ?_
  refine lv_iload hx hb d_La_law_460 (lv_at hl 1 rfl) ?_
  refine lv_iconst (v := 4) hx hb d_La_law_462 (by decide) ?_
  refine lv_iadd hx hb d_La_law_463 ?_
  refine va_sld hx hb hX hbl hbA hS (by unfold vp_in; decide +kernel) d_La_law_464 ?_
  refine mf_cV (wr := [_]) (ci := 7) (k := 0) C0 (c_Mo_record l D9 cB cI cJ cG q_mo q_m_tape q_m_store q_m_section q_m_type q_m_kind q_m_time q_m_nameAt q_m_nameSize q_m_dataAt q_m_dataSize q_m_message q_m_endPlace q_m_endAt q_m_countsWritten _ _ _ _) g_902 g_8 g_899 g_900 g_901 ⟨by decide +kernel, by decide +kernel, show Option.map (fun d => d.parameters.length) (parseMethodDescriptor y_Mo_record.desc) = some 4 by decide +kernel⟩ ⟨by decide, by decide⟩ rfl rfl hP hD hS hA [28] [43] rfl rfl (by decide) (by decide) (by decide) rfl rfl hl.1 (Nat.le_of_ble_eq_true rfl) rfl d_La_law_465 ⟨by decide, by decide⟩ (fun v9 w9 H locs hq hP hD hS => ?_)
  obtain ⟨r6, x0, x1, x2, x3, x4, x5, x6, x7, x8, x9, x10, x11, x12, x13, x14, x15, rfl, hw9, hm⟩ := hq
  rw [hw9] at hP hD
  obtain ⟨hkx, hz⟩ : x0 = k5 ∧ (k5 = 0 → g5 0 = r6.toInt64) := cmp3 (fun p q => p.elim q.1 (fun h => absurd q.2 (Int32.not_lt.mpr h))) hk hm
  refine lv_istore (lv' := [(6, _), (5, _), (4, _), (3, _), (2, _), (1, _), (0, _)]) hx hb d_La_law_468 hl (by decide) rfl (fun ls hl => ?_)
  refine lv_aload_n hx hb d_La_law_470 rfl (lv_at hl 4 rfl) ?_
  refine mf_cV (wr := [_]) (ci := 7) (k := 0) C0 (c_Mo_thrown l D9 cB cI cJ cG q_mo q_m_tape q_m_store q_m_section q_m_type q_m_kind q_m_time q_m_nameAt q_m_nameSize q_m_dataAt q_m_dataSize q_m_message q_m_endPlace q_m_endAt q_m_countsWritten _ _ _ _ _ _ _ _ _ _ _ _ _ _ _ _) g_816 g_8 g_813 g_814 g_815 ⟨by decide +kernel, by decide +kernel, show Option.map (fun d => d.parameters.length) (parseMethodDescriptor y_Mo_thrown.desc) = some 0 by decide +kernel⟩ ⟨by decide, by decide⟩ rfl rfl hP hD hS hA [1] [0] rfl rfl (by decide) (by decide) (by decide) rfl rfl hl.1 (Nat.le_of_ble_eq_true rfl) rfl d_La_law_471 ⟨by decide, by decide⟩ (fun v9 w9 H locs hq hP hD hS => ?_)
  obtain ⟨rfl, hw9⟩ := hq
  rw [hw9] at hP hD
  refine lv_iload hx hb d_La_law_474 (lv_at hl 1 rfl) ?_
  refine lv_icmp_eq (tgt := 481) hx hb d_La_law_476 (by decide) (fun c1 => ?_) (fun c1 => ?_)
  · refine lv_iload hx hb d_La_law_481 (lv_at hl 1 rfl) ?_
    refine lv_if_ne (tgt := 498) hx hb d_La_law_483 (by decide) (fun c2 => ?_) (fun c2 => ?_)
    · refine lv_goto (tgt := 1113) hx hb d_La_law_498 (by decide) ?_
      exact law_tail C1 hS (lv_sub hl [2, 6] rfl) (by decide) (by decide)
    · exact absurd c2 (by rcases hk with ⟨rfl, -⟩ | ⟨rfl, -⟩ <;> decide)
  · exact absurd hkx c1
set_option maxHeartbeats 4000000 in
set_option maxRecDepth 100000 in
theorem law_case_7 (l : Launch) (hfl : l.flags = flags0) {p : Program} {e : Env} {s : State} {m : MethodId} {below : List Frame} {meth : Method} {c : Code} {b : Nat} {xs : Nat → Int32} (C1 : lw_At p s m meth c b 6 xs) (D9 : va_G) (cB cI cJ cG : ClassId) (hK : va_K D9 cls9 (ty9 cB cI cJ cG) s) (hZ : tx_Z (fun q : Nat => s.heap.size ≤ q) s s.heap) (h9 : no9 s) (q_x q_tp q_tpr q_ga q_gb q_gbr q_st q_nl q_dl q_ty q_ki q_ti q_rows q_sz q_re q_wr q_ms q_msr q_ls q_lm q_en q_ne q_ol q_mk q_pl q_so q_na q_lb q_ob q_mo q_m_tape q_m_store q_m_section q_m_type q_m_kind q_m_time q_m_nameAt q_m_nameSize q_m_dataAt q_m_dataSize q_m_message q_m_endPlace q_m_endAt q_m_countsWritten q_out : Nat) {H : Heap} {locs : List Loc} (hP : va_P D9 cls9 (wLaw cB cI cJ cG q_x q_tp q_tpr q_ga q_gb q_gbr q_st q_nl q_dl q_ty q_ki q_ti q_rows q_sz q_re q_wr q_ms q_msr q_ls q_lm q_en q_ne q_ol q_mk q_pl q_so q_na q_lb q_ob q_mo q_m_tape q_m_store q_m_section q_m_type q_m_kind q_m_time q_m_nameAt q_m_nameSize q_m_dataAt q_m_dataSize q_m_message q_m_endPlace q_m_endAt q_m_countsWritten q_out) H) (hD : va_D (fun q : Nat => s.heap.size ≤ q) (wLaw cB cI cJ cG q_x q_tp q_tpr q_ga q_gb q_gbr q_st q_nl q_dl q_ty q_ki q_ti q_rows q_sz q_re q_wr q_ms q_msr q_ls q_lm q_en q_ne q_ol q_mk q_pl q_so q_na q_lb q_ob q_mo q_m_tape q_m_store q_m_section q_m_type q_m_kind q_m_time q_m_nameAt q_m_nameSize q_m_dataAt q_m_dataSize q_m_message q_m_endPlace q_m_endAt q_m_countsWritten q_out)) (hS : va_S (fun q : Nat => s.heap.size ≤ q) s.heap H locs) {ls : Array Slot} (hl : lv_has ls 7 [(4, .int 0), (3, .ref q_out), (2, .ref q_mo), (1, .ref q_x), (0, .ref b)]) : W p l e room_1 s m #[Value.ref b] below meth c H locs 49 670223 (lw_Z below #[Value.ref b] s) (F0 m 501 ls []) := by
  obtain ⟨hx, hb, hr, hml, hown, hts0, hX, hbl, hlocks, hgv⟩ := id C1
  have hts : ∀ w ∈ GT, w.before #[Value.ref b] s = true := fun w hw => hts0 w ((List.mem_filter.mp hw).1)
  have C0 : mw_C p s m #[Value.ref b] meth c code 7 ret R_La D9 cls9 (ty9 cB cI cJ cG) := ⟨hx, hb, hml, hr, hlocks, hown, hts, hK⟩
  have hA : ∀ q : Nat, s.heap.size ≤ q → (fun q : Nat => s.heap.size ≤ q) q := fun _ h => h
  have hbA : ¬ (fun q : Nat => s.heap.size ≤ q) b := Nat.not_le.mpr hbl
  refine lv_aload_n hx hb d_La_law_501 rfl (lv_at hl 3 rfl) ?_
  refine lv_aload_n hx hb d_La_law_502 rfl (lv_at hl 4 rfl) ?_
  refine lv_iload hx hb d_La_law_503 (lv_at hl 0 rfl) ?_
  refine lv_iconst (v := 1) hx hb d_La_law_505 (by decide) ?_
  refine lv_iadd hx hb d_La_law_506 ?_
  refine va_sld hx hb hX hbl hbA hS (by unfold vp_in; decide +kernel) d_La_law_507 ?_
  refine lv_aload_n hx hb d_La_law_508 rfl (lv_at hl 1 rfl) ?_
  refine mh_cS (wr := [_, _, _, _, _, _, _, _, _, _, _, _, _, _, _, _, _, _, _, _, _, _, _, _, _, _, _, _, _, _, _, _, _, _, _, _, _, _, _, _, _]) C0 (c_La_write l D9 cB cI cJ cG hfl q_x q_tp q_ga q_re q_wr q_na q_ms q_en q_ls q_lm q_msr q_ne q_ol q_mk q_pl q_so q_gb q_st q_nl q_dl q_ty q_ki q_ti q_rows q_sz q_out _ _) g_526 g_0 g_524 g_525 ⟨by decide +kernel, by decide +kernel, show Option.map (fun d => d.parameters.length) (parseMethodDescriptor y_La_write.desc) = some 3 by decide +kernel⟩ ⟨by decide, by decide⟩ rfl rfl hZ h9 hP hD hS hA [0, 18, 19, 16, 20, 21, 24, 48] [1, 2, 3, 4, 5, 6, 7, 8, 9, 10, 11, 12, 13, 14, 15, 17, 22, 23, 25, 26, 27, 28, 29, 30, 31, 32, 33, 34, 35, 36, 37, 38, 39, 40, 41, 42, 43, 44, 45, 46, 47] rfl rfl (by decide) (by decide) (by decide) hl.1 (Nat.le_of_ble_eq_true rfl) rfl d_La_law_509 ⟨by decide, by decide⟩ (fun v9 w9 H locs hq hP hD hS => ?_)
  obtain ⟨k5, g5, w5, rfl, hw9, hk⟩ := hq
  rw [hw9] at hP hD
  refine lv_istore (lv' := [(5, _), (4, _), (3, _), (2, _), (1, _), (0, _)]) hx hb d_La_law_512 hl (by decide) rfl (fun ls hl => ?_)
  refine lv_aload_n hx hb d_La_law_514 rfl (lv_at hl 3 rfl) ?_
  refine lv_aload_n hx hb d_La_law_515 rfl (lv_at hl 5 rfl) ?_
  refine lv_iload hx hb d_La_law_516 (lv_at hl 1 rfl) ?_
  refine lv_iconst (v := 1) hx hb d_La_law_518 (by decide) ?_
  refine lv_iadd hx hb d_La_law_519 ?_
  refine va_sld hx hb hX hbl hbA hS (by unfold vp_in; decide +kernel) d_La_law_520 ?_
  refine mf_cV (wr := [_]) (ci := 7) (k := 0) C0 (c_Mo_write l D9 cB cI cJ cG q_mo q_m_tape q_m_store q_m_section q_m_type q_m_kind q_m_time q_m_nameAt q_m_nameSize q_m_dataAt q_m_dataSize q_m_message q_m_endPlace q_m_endAt q_m_countsWritten _) g_910 g_8 g_907 g_908 g_909 ⟨by decide +kernel, by decide +kernel, show Option.map (fun d => d.parameters.length) (parseMethodDescriptor y_Mo_write.desc) = some 1 by decide +kernel⟩ ⟨by decide, by decide⟩ rfl rfl hP hD hS hA [26, 37, 40] [41] rfl rfl (by decide) (by decide) (by decide) rfl rfl hl.1 (Nat.le_of_ble_eq_true rfl) rfl d_La_law_521 ⟨by decide, by decide⟩ (fun v9 w9 H locs hq hP hD hS => ?_)
  obtain ⟨r6, x0, x1, x2, x3, x4, x5, x6, x7, x8, x9, x10, x11, x12, x13, x14, x15, x16, x17, rfl, hw9, hm⟩ := hq
  rw [hw9] at hP hD
  obtain ⟨hkx, hz⟩ : x0 = k5 ∧ (k5 = 0 → g5 0 = r6.toInt64) := cmp2 (fun p q => q.elim p.1 (fun h => absurd p.2 (Int32.not_le.mpr h))) hk hm
  refine lv_istore (lv' := [(6, _), (5, _), (4, _), (3, _), (2, _), (1, _), (0, _)]) hx hb d_La_law_524 hl (by decide) rfl (fun ls hl => ?_)
  refine lv_aload_n hx hb d_La_law_526 rfl (lv_at hl 4 rfl) ?_
  refine mf_cV (wr := [_]) (ci := 7) (k := 0) C0 (c_Mo_thrown l D9 cB cI cJ cG q_mo q_m_tape q_m_store q_m_section q_m_type q_m_kind q_m_time q_m_nameAt q_m_nameSize q_m_dataAt q_m_dataSize q_m_message q_m_endPlace q_m_endAt q_m_countsWritten _ _ _ _ _ _ _ _ _ _ _ _ _ _ _ _) g_816 g_8 g_813 g_814 g_815 ⟨by decide +kernel, by decide +kernel, show Option.map (fun d => d.parameters.length) (parseMethodDescriptor y_Mo_thrown.desc) = some 0 by decide +kernel⟩ ⟨by decide, by decide⟩ rfl rfl hP hD hS hA [1] [0] rfl rfl (by decide) (by decide) (by decide) rfl rfl hl.1 (Nat.le_of_ble_eq_true rfl) rfl d_La_law_527 ⟨by decide, by decide⟩ (fun v9 w9 H locs hq hP hD hS => ?_)
  obtain ⟨rfl, hw9⟩ := hq
  rw [hw9] at hP hD
  refine lv_iload hx hb d_La_law_530 (lv_at hl 1 rfl) ?_
  refine lv_icmp_eq (tgt := 537) hx hb d_La_law_532 (by decide) (fun c1 => ?_) (fun c1 => ?_)
  · refine lv_iload hx hb d_La_law_537 (lv_at hl 1 rfl) ?_
    refine lv_if_ne (tgt := 554) hx hb d_La_law_539 (by decide) (fun c2 => ?_) (fun c2 => ?_)
    · refine lv_goto (tgt := 1113) hx hb d_La_law_554 (by decide) ?_
      exact law_tail C1 hS (lv_sub hl [2, 6] rfl) (by decide) (by decide)
    · refine lv_aload_n hx hb d_La_law_542 rfl (lv_at hl 3 rfl) ?_
      refine lv_iconst (v := 0) hx hb d_La_law_543 (by decide) ?_
      refine va_lald (D := D9) hx hb hK hP 0 2 rfl rfl (by unfold vp_in; decide +kernel) d_La_law_544 ?_
      refine lv_iload hx hb d_La_law_545 (lv_at hl 0 rfl) ?_
      refine lv_i2l hx hb d_La_law_547 rfl ?_
      refine W.lcmp hx hb d_La_law_548 ?_
      refine lv_if_eq (tgt := 554) hx hb d_La_law_549 (by decide) (fun c3 => ?_) (fun c3 => ?_)
      · refine lv_goto (tgt := 1113) hx hb d_La_law_554 (by decide) ?_
        exact law_tail C1 hS (lv_sub hl [2, 6] rfl) (by decide) (by decide)
      · exact absurd ((lg_cmp_eq _ _).mpr (hz c2)) c3
  · exact absurd hkx c1
set_option maxHeartbeats 4000000 in
set_option maxRecDepth 100000 in
theorem law_case_8 (l : Launch) (hfl : l.flags = flags0) {p : Program} {e : Env} {s : State} {m : MethodId} {below : List Frame} {meth : Method} {c : Code} {b : Nat} {xs : Nat → Int32} (C1 : lw_At p s m meth c b 6 xs) (D9 : va_G) (cB cI cJ cG : ClassId) (hK : va_K D9 cls9 (ty9 cB cI cJ cG) s) (hZ : tx_Z (fun q : Nat => s.heap.size ≤ q) s s.heap) (h9 : no9 s) (q_x q_tp q_tpr q_ga q_gb q_gbr q_st q_nl q_dl q_ty q_ki q_ti q_rows q_sz q_re q_wr q_ms q_msr q_ls q_lm q_en q_ne q_ol q_mk q_pl q_so q_na q_lb q_ob q_mo q_m_tape q_m_store q_m_section q_m_type q_m_kind q_m_time q_m_nameAt q_m_nameSize q_m_dataAt q_m_dataSize q_m_message q_m_endPlace q_m_endAt q_m_countsWritten q_out : Nat) {H : Heap} {locs : List Loc} (hP : va_P D9 cls9 (wLaw cB cI cJ cG q_x q_tp q_tpr q_ga q_gb q_gbr q_st q_nl q_dl q_ty q_ki q_ti q_rows q_sz q_re q_wr q_ms q_msr q_ls q_lm q_en q_ne q_ol q_mk q_pl q_so q_na q_lb q_ob q_mo q_m_tape q_m_store q_m_section q_m_type q_m_kind q_m_time q_m_nameAt q_m_nameSize q_m_dataAt q_m_dataSize q_m_message q_m_endPlace q_m_endAt q_m_countsWritten q_out) H) (hD : va_D (fun q : Nat => s.heap.size ≤ q) (wLaw cB cI cJ cG q_x q_tp q_tpr q_ga q_gb q_gbr q_st q_nl q_dl q_ty q_ki q_ti q_rows q_sz q_re q_wr q_ms q_msr q_ls q_lm q_en q_ne q_ol q_mk q_pl q_so q_na q_lb q_ob q_mo q_m_tape q_m_store q_m_section q_m_type q_m_kind q_m_time q_m_nameAt q_m_nameSize q_m_dataAt q_m_dataSize q_m_message q_m_endPlace q_m_endAt q_m_countsWritten q_out)) (hS : va_S (fun q : Nat => s.heap.size ≤ q) s.heap H locs) {ls : Array Slot} (hl : lv_has ls 7 [(4, .int 0), (3, .ref q_out), (2, .ref q_mo), (1, .ref q_x), (0, .ref b)]) : W p l e room_1 s m #[Value.ref b] below meth c H locs 49 670223 (lw_Z below #[Value.ref b] s) (F0 m 557 ls []) := by
  obtain ⟨hx, hb, hr, hml, hown, hts0, hX, hbl, hlocks, hgv⟩ := id C1
  have hts : ∀ w ∈ GT, w.before #[Value.ref b] s = true := fun w hw => hts0 w ((List.mem_filter.mp hw).1)
  have C0 : mw_C p s m #[Value.ref b] meth c code 7 ret R_La D9 cls9 (ty9 cB cI cJ cG) := ⟨hx, hb, hml, hr, hlocks, hown, hts, hK⟩
  have hA : ∀ q : Nat, s.heap.size ≤ q → (fun q : Nat => s.heap.size ≤ q) q := fun _ h => h
  have hbA : ¬ (fun q : Nat => s.heap.size ≤ q) b := Nat.not_le.mpr hbl
  refine lv_aload_n hx hb d_La_law_557 rfl (lv_at hl 3 rfl) ?_
  refine lv_aload_n hx hb d_La_law_558 rfl (lv_at hl 4 rfl) ?_
  refine lv_iload hx hb d_La_law_559 (lv_at hl 0 rfl) ?_
  refine lv_iconst (v := 1) hx hb d_La_law_561 (by decide) ?_
  refine lv_iadd hx hb d_La_law_562 ?_
  refine va_sld hx hb hX hbl hbA hS (by unfold vp_in; decide +kernel) d_La_law_563 ?_
  refine lv_aload_n hx hb d_La_law_564 rfl (lv_at hl 4 rfl) ?_
  refine lv_iload hx hb d_La_law_565 (lv_at hl 0 rfl) ?_
  refine lv_iconst (v := 2) hx hb d_La_law_567 (by decide) ?_
  refine lv_iadd hx hb d_La_law_568 ?_
  refine va_sld hx hb hX hbl hbA hS (by unfold vp_in; decide +kernel) d_La_law_569 ?_
  refine lv_aload_n hx hb d_La_law_570 rfl (lv_at hl 1 rfl) ?_
  refine mh_cS (wr := [_, _, _, _, _, _, _, _, _, _, _, _, _, _, _, _, _, _, _, _, _, _, _, _, _, _, _, _, _, _, _, _, _, _, _, _, _, _, _, _, _, _]) C0 (c_La_back l D9 cB cI cJ cG hfl q_x q_tp q_ga q_re q_wr q_na q_ms q_en q_ls q_lm q_msr q_tpr q_out _ _ _) g_622 g_0 g_620 g_621 ⟨by decide +kernel, by decide +kernel, show Option.map (fun d => d.parameters.length) (parseMethodDescriptor y_La_back.desc) = some 4 by decide +kernel⟩ ⟨by decide, by decide⟩ rfl rfl hZ h9 hP hD hS hA [0, 18, 20, 21, 1, 2, 48] [3, 4, 5, 6, 7, 8, 9, 10, 11, 12, 13, 14, 15, 16, 17, 19, 22, 23, 24, 25, 26, 27, 28, 29, 30, 31, 32, 33, 34, 35, 36, 37, 38, 39, 40, 41, 42, 43, 44, 45, 46, 47] rfl rfl (by decide) (by decide) (by decide) hl.1 (Nat.le_of_ble_eq_true rfl) rfl d_La_law_571 ⟨by decide, by decide⟩ (fun v9 w9 H locs hq hP hD hS => ?_)
  obtain ⟨k5, g5, w5, rfl, hw9, hk⟩ := hq
  rw [hw9] at hP hD
  refine lv_istore (lv' := [(5, _), (4, _), (3, _), (2, _), (1, _), (0, _)]) hx hb d_La_law_574 hl (by decide) rfl (fun ls hl => ?_)
  refine lv_aload_n hx hb d_La_law_576 rfl (lv_at hl 3 rfl) ?_
  refine lv_aload_n hx hb d_La_law_577 rfl (lv_at hl 5 rfl) ?_
  refine lv_iload hx hb d_La_law_578 (lv_at hl 1 rfl) ?_
  refine lv_iconst (v := 1) hx hb d_La_law_580 (by decide) ?_
  refine lv_iadd hx hb d_La_law_581 ?_
  refine va_sld hx hb hX hbl hbA hS (by unfold vp_in; decide +kernel) d_La_law_582 ?_
  refine lv_aload_n hx hb d_La_law_583 rfl (lv_at hl 5 rfl) ?_
  refine lv_iload hx hb d_La_law_584 (lv_at hl 1 rfl) ?_
  refine lv_iconst (v := 2) hx hb d_La_law_586 (by decide) ?_
  refine lv_iadd hx hb d_La_law_587 ?_
  refine va_sld hx hb hX hbl hbA hS (by unfold vp_in; decide +kernel) d_La_law_588 ?_
  refine mf_cV (wr := [_]) (ci := 7) (k := 0) C0 (c_Mo_back l D9 cB cI cJ cG q_mo q_m_tape q_m_store q_m_section q_m_type q_m_kind q_m_time q_m_nameAt q_m_nameSize q_m_dataAt q_m_dataSize q_m_message q_m_endPlace q_m_endAt q_m_countsWritten _ _) g_947 g_8 g_944 g_945 g_946 ⟨by decide +kernel, by decide +kernel, show Option.map (fun d => d.parameters.length) (parseMethodDescriptor y_Mo_back.desc) = some 2 by decide +kernel⟩ ⟨by decide, by decide⟩ rfl rfl hP hD hS hA [27, 28, 38] [42] rfl rfl (by decide) (by decide) (by decide) rfl rfl hl.1 (Nat.le_of_ble_eq_true rfl) rfl d_La_law_589 ⟨by decide, by decide⟩ (fun v9 w9 H locs hq hP hD hS => ?_)
  obtain ⟨r6, x0, x1, x2, x3, x4, x5, x6, x7, x8, x9, x10, x11, x12, x13, x14, x15, x16, x17, rfl, hw9, hm⟩ := hq
  rw [hw9] at hP hD
  obtain ⟨hkx, hz⟩ : x0 = k5 ∧ (k5 = 0 → g5 0 = r6.toInt64) := cmp2 (fun p q => q.elim p.1 (fun h => absurd p.2 (Int32.not_lt.mpr h))) hk hm
  refine lv_istore (lv' := [(6, _), (5, _), (4, _), (3, _), (2, _), (1, _), (0, _)]) hx hb d_La_law_592 hl (by decide) rfl (fun ls hl => ?_)
  refine lv_aload_n hx hb d_La_law_594 rfl (lv_at hl 4 rfl) ?_
  refine mf_cV (wr := [_]) (ci := 7) (k := 0) C0 (c_Mo_thrown l D9 cB cI cJ cG q_mo q_m_tape q_m_store q_m_section q_m_type q_m_kind q_m_time q_m_nameAt q_m_nameSize q_m_dataAt q_m_dataSize q_m_message q_m_endPlace q_m_endAt q_m_countsWritten _ _ _ _ _ _ _ _ _ _ _ _ _ _ _ _) g_816 g_8 g_813 g_814 g_815 ⟨by decide +kernel, by decide +kernel, show Option.map (fun d => d.parameters.length) (parseMethodDescriptor y_Mo_thrown.desc) = some 0 by decide +kernel⟩ ⟨by decide, by decide⟩ rfl rfl hP hD hS hA [1] [0] rfl rfl (by decide) (by decide) (by decide) rfl rfl hl.1 (Nat.le_of_ble_eq_true rfl) rfl d_La_law_595 ⟨by decide, by decide⟩ (fun v9 w9 H locs hq hP hD hS => ?_)
  obtain ⟨rfl, hw9⟩ := hq
  rw [hw9] at hP hD
  refine lv_iload hx hb d_La_law_598 (lv_at hl 1 rfl) ?_
  refine lv_icmp_eq (tgt := 605) hx hb d_La_law_600 (by decide) (fun c1 => ?_) (fun c1 => ?_)
  · refine lv_iload hx hb d_La_law_605 (lv_at hl 1 rfl) ?_
    refine lv_if_ne (tgt := 622) hx hb d_La_law_607 (by decide) (fun c2 => ?_) (fun c2 => ?_)
    · refine lv_goto (tgt := 1113) hx hb d_La_law_622 (by decide) ?_
      exact law_tail C1 hS (lv_sub hl [2, 6] rfl) (by decide) (by decide)
    · refine lv_aload_n hx hb d_La_law_610 rfl (lv_at hl 3 rfl) ?_
      refine lv_iconst (v := 0) hx hb d_La_law_611 (by decide) ?_
      refine va_lald (D := D9) hx hb hK hP 0 2 rfl rfl (by unfold vp_in; decide +kernel) d_La_law_612 ?_
      refine lv_iload hx hb d_La_law_613 (lv_at hl 0 rfl) ?_
      refine lv_i2l hx hb d_La_law_615 rfl ?_
      refine W.lcmp hx hb d_La_law_616 ?_
      refine lv_if_eq (tgt := 622) hx hb d_La_law_617 (by decide) (fun c3 => ?_) (fun c3 => ?_)
      · refine lv_goto (tgt := 1113) hx hb d_La_law_622 (by decide) ?_
        exact law_tail C1 hS (lv_sub hl [2, 6] rfl) (by decide) (by decide)
      · exact absurd ((lg_cmp_eq _ _).mpr (hz c2)) c3
  · exact absurd hkx c1
set_option maxHeartbeats 4000000 in
set_option maxRecDepth 100000 in
theorem law_case_9 (l : Launch) (hfl : l.flags = flags0) {p : Program} {e : Env} {s : State} {m : MethodId} {below : List Frame} {meth : Method} {c : Code} {b : Nat} {xs : Nat → Int32} (C1 : lw_At p s m meth c b 6 xs) (D9 : va_G) (cB cI cJ cG : ClassId) (hK : va_K D9 cls9 (ty9 cB cI cJ cG) s) (hZ : tx_Z (fun q : Nat => s.heap.size ≤ q) s s.heap) (h9 : no9 s) (q_x q_tp q_tpr q_ga q_gb q_gbr q_st q_nl q_dl q_ty q_ki q_ti q_rows q_sz q_re q_wr q_ms q_msr q_ls q_lm q_en q_ne q_ol q_mk q_pl q_so q_na q_lb q_ob q_mo q_m_tape q_m_store q_m_section q_m_type q_m_kind q_m_time q_m_nameAt q_m_nameSize q_m_dataAt q_m_dataSize q_m_message q_m_endPlace q_m_endAt q_m_countsWritten q_out : Nat) {H : Heap} {locs : List Loc} (hP : va_P D9 cls9 (wLaw cB cI cJ cG q_x q_tp q_tpr q_ga q_gb q_gbr q_st q_nl q_dl q_ty q_ki q_ti q_rows q_sz q_re q_wr q_ms q_msr q_ls q_lm q_en q_ne q_ol q_mk q_pl q_so q_na q_lb q_ob q_mo q_m_tape q_m_store q_m_section q_m_type q_m_kind q_m_time q_m_nameAt q_m_nameSize q_m_dataAt q_m_dataSize q_m_message q_m_endPlace q_m_endAt q_m_countsWritten q_out) H) (hD : va_D (fun q : Nat => s.heap.size ≤ q) (wLaw cB cI cJ cG q_x q_tp q_tpr q_ga q_gb q_gbr q_st q_nl q_dl q_ty q_ki q_ti q_rows q_sz q_re q_wr q_ms q_msr q_ls q_lm q_en q_ne q_ol q_mk q_pl q_so q_na q_lb q_ob q_mo q_m_tape q_m_store q_m_section q_m_type q_m_kind q_m_time q_m_nameAt q_m_nameSize q_m_dataAt q_m_dataSize q_m_message q_m_endPlace q_m_endAt q_m_countsWritten q_out)) (hS : va_S (fun q : Nat => s.heap.size ≤ q) s.heap H locs) {ls : Array Slot} (hl : lv_has ls 7 [(4, .int 0), (3, .ref q_out), (2, .ref q_mo), (1, .ref q_x), (0, .ref b)]) : W p l e room_1 s m #[Value.ref b] below meth c H locs 49 670223 (lw_Z below #[Value.ref b] s) (F0 m 625 ls []) := by
  obtain ⟨hx, hb, hr, hml, hown, hts0, hX, hbl, hlocks, hgv⟩ := id C1
  have hts : ∀ w ∈ GT, w.before #[Value.ref b] s = true := fun w hw => hts0 w ((List.mem_filter.mp hw).1)
  have C0 : mw_C p s m #[Value.ref b] meth c code 7 ret R_La D9 cls9 (ty9 cB cI cJ cG) := ⟨hx, hb, hml, hr, hlocks, hown, hts, hK⟩
  have hA : ∀ q : Nat, s.heap.size ≤ q → (fun q : Nat => s.heap.size ≤ q) q := fun _ h => h
  have hbA : ¬ (fun q : Nat => s.heap.size ≤ q) b := Nat.not_le.mpr hbl
  refine lv_aload_n hx hb d_La_law_625 rfl (lv_at hl 3 rfl) ?_
  refine lv_aload_n hx hb d_La_law_626 rfl (lv_at hl 4 rfl) ?_
  refine lv_iload hx hb d_La_law_627 (lv_at hl 0 rfl) ?_
  refine lv_iconst (v := 1) hx hb d_La_law_629 (by decide) ?_
  refine lv_iadd hx hb d_La_law_630 ?_
  refine va_sld hx hb hX hbl hbA hS (by unfold vp_in; decide +kernel) d_La_law_631 ?_
  refine lv_aload_n hx hb d_La_law_632 rfl (lv_at hl 1 rfl) ?_
  refine mh_cS (wr := [_, _, _, _, _, _, _, _, _, _, _, _, _, _, _, _, _, _, _, _, _, _, _, _, _, _, _, _, _, _, _, _, _, _, _, _, _, _, _, _, _, _, _, _, _]) C0 (c_La_written l D9 cB cI cJ cG hfl q_x q_tp q_ga q_re q_wr q_na 0 q_ms q_en q_ls q_lm q_msr q_out _ _) g_648 g_0 g_646 g_647 ⟨by decide +kernel, by decide +kernel, show Option.map (fun d => d.parameters.length) (parseMethodDescriptor y_La_written.desc) = some 3 by decide +kernel⟩ ⟨by decide, by decide⟩ rfl rfl hZ h9 hP hD hS hA [0, 18, 20, 48] [1, 2, 3, 4, 5, 6, 7, 8, 9, 10, 11, 12, 13, 14, 15, 16, 17, 19, 21, 22, 23, 24, 25, 26, 27, 28, 29, 30, 31, 32, 33, 34, 35, 36, 37, 38, 39, 40, 41, 42, 43, 44, 45, 46, 47] rfl rfl (by decide) (by decide) (by decide) hl.1 (Nat.le_of_ble_eq_true rfl) rfl d_La_law_633 ⟨by decide, by decide⟩ (fun v9 w9 H locs hq hP hD hS => ?_)
  obtain ⟨k5, g5, w5, rfl, hw9, hk⟩ := hq
  rw [hw9] at hP hD
  refine lv_istore (lv' := [(5, _), (4, _), (3, _), (2, _), (1, _), (0, _)]) hx hb d_La_law_636 hl (by decide) rfl (fun ls hl => ?_)
  refine lv_aload_n hx hb d_La_law_638 rfl (lv_at hl 3 rfl) ?_
  refine lv_aload_n hx hb d_La_law_639 rfl (lv_at hl 5 rfl) ?_
  refine lv_iload hx hb d_La_law_640 (lv_at hl 1 rfl) ?_
  refine lv_iconst (v := 1) hx hb d_La_law_642 (by decide) ?_
  refine lv_iadd hx hb d_La_law_643 ?_
  refine va_sld hx hb hX hbl hbA hS (by unfold vp_in; decide +kernel) d_La_law_644 ?_
  refine mf_cV (wr := [_]) (ci := 7) (k := 0) C0 (c_Mo_written l D9 cB cI cJ cG q_mo q_m_tape q_m_store q_m_section q_m_type q_m_kind q_m_time q_m_nameAt q_m_nameSize q_m_dataAt q_m_dataSize q_m_message q_m_endPlace q_m_endAt q_m_countsWritten _) g_951 g_8 g_948 g_949 g_950 ⟨by decide +kernel, by decide +kernel, show Option.map (fun d => d.parameters.length) (parseMethodDescriptor y_Mo_written.desc) = some 1 by decide +kernel⟩ ⟨by decide, by decide⟩ rfl rfl hP hD hS hA [30] [45] rfl rfl (by decide) (by decide) (by decide) rfl rfl hl.1 (Nat.le_of_ble_eq_true rfl) rfl d_La_law_645 ⟨by decide, by decide⟩ (fun v9 w9 H locs hq hP hD hS => ?_)
  obtain ⟨r6, x0, x1, x2, x3, x4, x5, x6, x7, x8, x9, x10, x11, x12, x13, x14, x15, rfl, hw9, hm⟩ := hq
  rw [hw9] at hP hD
  obtain ⟨hkx, hz⟩ : x0 = k5 ∧ (k5 = 0 → g5 0 = r6.toInt64) := cmp1 hk hm
  refine lv_istore (lv' := [(6, _), (5, _), (4, _), (3, _), (2, _), (1, _), (0, _)]) hx hb d_La_law_648 hl (by decide) rfl (fun ls hl => ?_)
  refine lv_aload_n hx hb d_La_law_650 rfl (lv_at hl 4 rfl) ?_
  refine mf_cV (wr := [_]) (ci := 7) (k := 0) C0 (c_Mo_thrown l D9 cB cI cJ cG q_mo q_m_tape q_m_store q_m_section q_m_type q_m_kind q_m_time q_m_nameAt q_m_nameSize q_m_dataAt q_m_dataSize q_m_message q_m_endPlace q_m_endAt q_m_countsWritten _ _ _ _ _ _ _ _ _ _ _ _ _ _ _ _) g_816 g_8 g_813 g_814 g_815 ⟨by decide +kernel, by decide +kernel, show Option.map (fun d => d.parameters.length) (parseMethodDescriptor y_Mo_thrown.desc) = some 0 by decide +kernel⟩ ⟨by decide, by decide⟩ rfl rfl hP hD hS hA [1] [0] rfl rfl (by decide) (by decide) (by decide) rfl rfl hl.1 (Nat.le_of_ble_eq_true rfl) rfl d_La_law_651 ⟨by decide, by decide⟩ (fun v9 w9 H locs hq hP hD hS => ?_)
  obtain ⟨rfl, hw9⟩ := hq
  rw [hw9] at hP hD
  refine lv_iload hx hb d_La_law_654 (lv_at hl 1 rfl) ?_
  refine lv_icmp_eq (tgt := 661) hx hb d_La_law_656 (by decide) (fun c1 => ?_) (fun c1 => ?_)
  · refine lv_iload hx hb d_La_law_661 (lv_at hl 1 rfl) ?_
    refine lv_if_ne (tgt := 678) hx hb d_La_law_663 (by decide) (fun c2 => ?_) (fun c2 => ?_)
    · refine lv_goto (tgt := 1113) hx hb d_La_law_678 (by decide) ?_
      exact law_tail C1 hS (lv_sub hl [2, 6] rfl) (by decide) (by decide)
    · exact absurd (hk.symm.trans c2) (by decide)
  · exact absurd hkx c1
set_option maxHeartbeats 4000000 in
set_option maxRecDepth 100000 in
theorem law_case_10 (l : Launch) (hfl : l.flags = flags0) {p : Program} {e : Env} {s : State} {m : MethodId} {below : List Frame} {meth : Method} {c : Code} {b : Nat} {xs : Nat → Int32} (C1 : lw_At p s m meth c b 6 xs) (D9 : va_G) (cB cI cJ cG : ClassId) (hK : va_K D9 cls9 (ty9 cB cI cJ cG) s) (hZ : tx_Z (fun q : Nat => s.heap.size ≤ q) s s.heap) (h9 : no9 s) (q_x q_tp q_tpr q_ga q_gb q_gbr q_st q_nl q_dl q_ty q_ki q_ti q_rows q_sz q_re q_wr q_ms q_msr q_ls q_lm q_en q_ne q_ol q_mk q_pl q_so q_na q_lb q_ob q_mo q_m_tape q_m_store q_m_section q_m_type q_m_kind q_m_time q_m_nameAt q_m_nameSize q_m_dataAt q_m_dataSize q_m_message q_m_endPlace q_m_endAt q_m_countsWritten q_out : Nat) {H : Heap} {locs : List Loc} (hP : va_P D9 cls9 (wLaw cB cI cJ cG q_x q_tp q_tpr q_ga q_gb q_gbr q_st q_nl q_dl q_ty q_ki q_ti q_rows q_sz q_re q_wr q_ms q_msr q_ls q_lm q_en q_ne q_ol q_mk q_pl q_so q_na q_lb q_ob q_mo q_m_tape q_m_store q_m_section q_m_type q_m_kind q_m_time q_m_nameAt q_m_nameSize q_m_dataAt q_m_dataSize q_m_message q_m_endPlace q_m_endAt q_m_countsWritten q_out) H) (hD : va_D (fun q : Nat => s.heap.size ≤ q) (wLaw cB cI cJ cG q_x q_tp q_tpr q_ga q_gb q_gbr q_st q_nl q_dl q_ty q_ki q_ti q_rows q_sz q_re q_wr q_ms q_msr q_ls q_lm q_en q_ne q_ol q_mk q_pl q_so q_na q_lb q_ob q_mo q_m_tape q_m_store q_m_section q_m_type q_m_kind q_m_time q_m_nameAt q_m_nameSize q_m_dataAt q_m_dataSize q_m_message q_m_endPlace q_m_endAt q_m_countsWritten q_out)) (hS : va_S (fun q : Nat => s.heap.size ≤ q) s.heap H locs) {ls : Array Slot} (hl : lv_has ls 7 [(4, .int 0), (3, .ref q_out), (2, .ref q_mo), (1, .ref q_x), (0, .ref b)]) : W p l e room_1 s m #[Value.ref b] below meth c H locs 49 670223 (lw_Z below #[Value.ref b] s) (F0 m 681 ls []) := by
  obtain ⟨hx, hb, hr, hml, hown, hts0, hX, hbl, hlocks, hgv⟩ := id C1
  have hts : ∀ w ∈ GT, w.before #[Value.ref b] s = true := fun w hw => hts0 w ((List.mem_filter.mp hw).1)
  have C0 : mw_C p s m #[Value.ref b] meth c code 7 ret R_La D9 cls9 (ty9 cB cI cJ cG) := ⟨hx, hb, hml, hr, hlocks, hown, hts, hK⟩
  have hA : ∀ q : Nat, s.heap.size ≤ q → (fun q : Nat => s.heap.size ≤ q) q := fun _ h => h
  have hbA : ¬ (fun q : Nat => s.heap.size ≤ q) b := Nat.not_le.mpr hbl
  refine lv_aload_n hx hb d_La_law_681 rfl (lv_at hl 3 rfl) ?_
  refine lv_aload_n hx hb d_La_law_682 rfl (lv_at hl 4 rfl) ?_
  refine lv_iload hx hb d_La_law_683 (lv_at hl 0 rfl) ?_
  refine lv_iconst (v := 1) hx hb d_La_law_685 (by decide) ?_
  refine lv_iadd hx hb d_La_law_686 ?_
  refine va_sld hx hb hX hbl hbA hS (by unfold vp_in; decide +kernel) d_La_law_687 ?_
  refine lv_aload_n hx hb d_La_law_688 rfl (lv_at hl 1 rfl) ?_
  refine mh_cS (wr := [_, _, _, _, _, _, _, _, _, _, _, _, _, _, _, _, _, _, _, _, _, _, _, _, _, _, _, _, _, _, _, _, _, _, _, _, _, _, _, _, _, _, _, _, _]) C0 (c_La_header l D9 cB cI cJ cG hfl q_x q_tp q_ga q_re q_wr q_na q_gb q_st q_nl q_dl q_ty q_ki q_ti q_rows q_sz q_out _ _) g_655 g_0 g_653 g_654 ⟨by decide +kernel, by decide +kernel, show Option.map (fun d => d.parameters.length) (parseMethodDescriptor y_La_header.desc) = some 3 by decide +kernel⟩ ⟨by decide, by decide⟩ rfl rfl hZ h9 hP hD hS hA [0, 19, 16, 48] [1, 2, 3, 4, 5, 6, 7, 8, 9, 10, 11, 12, 13, 14, 15, 17, 18, 20, 21, 22, 23, 24, 25, 26, 27, 28, 29, 30, 31, 32, 33, 34, 35, 36, 37, 38, 39, 40, 41, 42, 43, 44, 45, 46, 47] rfl rfl (by decide) (by decide) (by decide) hl.1 (Nat.le_of_ble_eq_true rfl) rfl d_La_law_689 ⟨by decide, by decide⟩ (fun v9 w9 H locs hq hP hD hS => ?_)
  obtain ⟨k5, g5, w5, rfl, hw9, hk⟩ := hq
  rw [hw9] at hP hD
  refine lv_istore (lv' := [(5, _), (4, _), (3, _), (2, _), (1, _), (0, _)]) hx hb d_La_law_692 hl (by decide) rfl (fun ls hl => ?_)
  refine lv_aload_n hx hb d_La_law_694 rfl (lv_at hl 3 rfl) ?_
  refine lv_aload_n hx hb d_La_law_695 rfl (lv_at hl 5 rfl) ?_
  refine lv_iload hx hb d_La_law_696 (lv_at hl 1 rfl) ?_
  refine lv_iconst (v := 1) hx hb d_La_law_698 (by decide) ?_
  refine lv_iadd hx hb d_La_law_699 ?_
  refine va_sld hx hb hX hbl hbA hS (by unfold vp_in; decide +kernel) d_La_law_700 ?_
  refine mf_cV (wr := [_]) (ci := 7) (k := 0) C0 (c_Mo_header l D9 cB cI cJ cG q_mo q_m_tape q_m_store q_m_section q_m_type q_m_kind q_m_time q_m_nameAt q_m_nameSize q_m_dataAt q_m_dataSize q_m_message q_m_endPlace q_m_endAt q_m_countsWritten _) g_955 g_8 g_952 g_953 g_954 ⟨by decide +kernel, by decide +kernel, show Option.map (fun d => d.parameters.length) (parseMethodDescriptor y_Mo_header.desc) = some 1 by decide +kernel⟩ ⟨by decide, by decide⟩ rfl rfl hP hD hS hA [30] [45] rfl rfl (by decide) (by decide) (by decide) rfl rfl hl.1 (Nat.le_of_ble_eq_true rfl) rfl d_La_law_701 ⟨by decide, by decide⟩ (fun v9 w9 H locs hq hP hD hS => ?_)
  obtain ⟨r6, x0, x1, x2, x3, x4, x5, x6, x7, x8, x9, x10, x11, x12, x13, x14, x15, rfl, hw9, hm⟩ := hq
  rw [hw9] at hP hD
  obtain ⟨hkx, hz⟩ : x0 = k5 ∧ (k5 = 0 → g5 0 = r6.toInt64) := cmp2 (fun p q => q.elim p.1 p.2) hk hm
  refine lv_istore (lv' := [(6, _), (5, _), (4, _), (3, _), (2, _), (1, _), (0, _)]) hx hb d_La_law_704 hl (by decide) rfl (fun ls hl => ?_)
  refine lv_aload_n hx hb d_La_law_706 rfl (lv_at hl 4 rfl) ?_
  refine mf_cV (wr := [_]) (ci := 7) (k := 0) C0 (c_Mo_thrown l D9 cB cI cJ cG q_mo q_m_tape q_m_store q_m_section q_m_type q_m_kind q_m_time q_m_nameAt q_m_nameSize q_m_dataAt q_m_dataSize q_m_message q_m_endPlace q_m_endAt q_m_countsWritten _ _ _ _ _ _ _ _ _ _ _ _ _ _ _ _) g_816 g_8 g_813 g_814 g_815 ⟨by decide +kernel, by decide +kernel, show Option.map (fun d => d.parameters.length) (parseMethodDescriptor y_Mo_thrown.desc) = some 0 by decide +kernel⟩ ⟨by decide, by decide⟩ rfl rfl hP hD hS hA [1] [0] rfl rfl (by decide) (by decide) (by decide) rfl rfl hl.1 (Nat.le_of_ble_eq_true rfl) rfl d_La_law_707 ⟨by decide, by decide⟩ (fun v9 w9 H locs hq hP hD hS => ?_)
  obtain ⟨rfl, hw9⟩ := hq
  rw [hw9] at hP hD
  refine lv_iload hx hb d_La_law_710 (lv_at hl 1 rfl) ?_
  refine lv_icmp_eq (tgt := 717) hx hb d_La_law_712 (by decide) (fun c1 => ?_) (fun c1 => ?_)
  · refine lv_iload hx hb d_La_law_717 (lv_at hl 1 rfl) ?_
    refine lv_if_ne (tgt := 734) hx hb d_La_law_719 (by decide) (fun c2 => ?_) (fun c2 => ?_)
    · refine lv_goto (tgt := 1113) hx hb d_La_law_734 (by decide) ?_
      exact law_tail C1 hS (lv_sub hl [2, 6] rfl) (by decide) (by decide)
    · refine lv_aload_n hx hb d_La_law_722 rfl (lv_at hl 3 rfl) ?_
      refine lv_iconst (v := 0) hx hb d_La_law_723 (by decide) ?_
      refine va_lald (D := D9) hx hb hK hP 0 2 rfl rfl (by unfold vp_in; decide +kernel) d_La_law_724 ?_
      refine lv_iload hx hb d_La_law_725 (lv_at hl 0 rfl) ?_
      refine lv_i2l hx hb d_La_law_727 rfl ?_
      refine W.lcmp hx hb d_La_law_728 ?_
      refine lv_if_eq (tgt := 734) hx hb d_La_law_729 (by decide) (fun c3 => ?_) (fun c3 => ?_)
      · refine lv_goto (tgt := 1113) hx hb d_La_law_734 (by decide) ?_
        exact law_tail C1 hS (lv_sub hl [2, 6] rfl) (by decide) (by decide)
      · exact absurd ((lg_cmp_eq _ _).mpr (hz c2)) c3
  · exact absurd hkx c1
set_option maxHeartbeats 4000000 in
set_option maxRecDepth 100000 in
theorem law_case_11 (l : Launch) (hfl : l.flags = flags0) {p : Program} {e : Env} {s : State} {m : MethodId} {below : List Frame} {meth : Method} {c : Code} {b : Nat} {xs : Nat → Int32} (C1 : lw_At p s m meth c b 6 xs) (D9 : va_G) (cB cI cJ cG : ClassId) (hK : va_K D9 cls9 (ty9 cB cI cJ cG) s) (hZ : tx_Z (fun q : Nat => s.heap.size ≤ q) s s.heap) (h9 : no9 s) (q_x q_tp q_tpr q_ga q_gb q_gbr q_st q_nl q_dl q_ty q_ki q_ti q_rows q_sz q_re q_wr q_ms q_msr q_ls q_lm q_en q_ne q_ol q_mk q_pl q_so q_na q_lb q_ob q_mo q_m_tape q_m_store q_m_section q_m_type q_m_kind q_m_time q_m_nameAt q_m_nameSize q_m_dataAt q_m_dataSize q_m_message q_m_endPlace q_m_endAt q_m_countsWritten q_out : Nat) {H : Heap} {locs : List Loc} (hP : va_P D9 cls9 (wLaw cB cI cJ cG q_x q_tp q_tpr q_ga q_gb q_gbr q_st q_nl q_dl q_ty q_ki q_ti q_rows q_sz q_re q_wr q_ms q_msr q_ls q_lm q_en q_ne q_ol q_mk q_pl q_so q_na q_lb q_ob q_mo q_m_tape q_m_store q_m_section q_m_type q_m_kind q_m_time q_m_nameAt q_m_nameSize q_m_dataAt q_m_dataSize q_m_message q_m_endPlace q_m_endAt q_m_countsWritten q_out) H) (hD : va_D (fun q : Nat => s.heap.size ≤ q) (wLaw cB cI cJ cG q_x q_tp q_tpr q_ga q_gb q_gbr q_st q_nl q_dl q_ty q_ki q_ti q_rows q_sz q_re q_wr q_ms q_msr q_ls q_lm q_en q_ne q_ol q_mk q_pl q_so q_na q_lb q_ob q_mo q_m_tape q_m_store q_m_section q_m_type q_m_kind q_m_time q_m_nameAt q_m_nameSize q_m_dataAt q_m_dataSize q_m_message q_m_endPlace q_m_endAt q_m_countsWritten q_out)) (hS : va_S (fun q : Nat => s.heap.size ≤ q) s.heap H locs) {ls : Array Slot} (hl : lv_has ls 7 [(4, .int 0), (3, .ref q_out), (2, .ref q_mo), (1, .ref q_x), (0, .ref b)]) : W p l e room_1 s m #[Value.ref b] below meth c H locs 49 670223 (lw_Z below #[Value.ref b] s) (F0 m 737 ls []) := by
  obtain ⟨hx, hb, hr, hml, hown, hts0, hX, hbl, hlocks, hgv⟩ := id C1
  have hts : ∀ w ∈ GT, w.before #[Value.ref b] s = true := fun w hw => hts0 w ((List.mem_filter.mp hw).1)
  have C0 : mw_C p s m #[Value.ref b] meth c code 7 ret R_La D9 cls9 (ty9 cB cI cJ cG) := ⟨hx, hb, hml, hr, hlocks, hown, hts, hK⟩
  have hA : ∀ q : Nat, s.heap.size ≤ q → (fun q : Nat => s.heap.size ≤ q) q := fun _ h => h
  have hbA : ¬ (fun q : Nat => s.heap.size ≤ q) b := Nat.not_le.mpr hbl
  refine lv_aload_n hx hb d_La_law_737 rfl (lv_at hl 3 rfl) ?_
  refine lv_aload_n hx hb d_La_law_738 rfl (lv_at hl 4 rfl) ?_
  refine lv_iload hx hb d_La_law_739 (lv_at hl 0 rfl) ?_
  refine lv_iconst (v := 1) hx hb d_La_law_741 (by decide) ?_
  refine lv_iadd hx hb d_La_law_742 ?_
  refine va_sld hx hb hX hbl hbA hS (by unfold vp_in; decide +kernel) d_La_law_743 ?_
  refine lv_aload_n hx hb d_La_law_744 rfl (lv_at hl 4 rfl) ?_
  refine lv_iload hx hb d_La_law_745 (lv_at hl 0 rfl) ?_
  refine lv_iconst (v := 2) hx hb d_La_law_747 (by decide) ?_
  refine lv_iadd hx hb d_La_law_748 ?_
  refine va_sld hx hb hX hbl hbA hS (by unfold vp_in; decide +kernel) d_La_law_749 ?_
  refine lv_aload_n hx hb d_La_law_750 rfl (lv_at hl 4 rfl) ?_
  refine lv_iload hx hb d_La_law_751 (lv_at hl 0 rfl) ?_
  refine lv_iconst (v := 3) hx hb d_La_law_753 (by decide) ?_
  refine lv_iadd hx hb d_La_law_754 ?_
  refine va_sld hx hb hX hbl hbA hS (by unfold vp_in; decide +kernel) d_La_law_755 ?_
  refine lv_aload_n hx hb d_La_law_756 rfl (lv_at hl 1 rfl) ?_
  refine mh_cS (wr := [_, _, _, _, _, _, _, _, _, _, _, _, _, _, _, _, _, _, _, _, _, _, _, _, _, _, _, _, _, _, _, _, _, _, _, _, _, _, _, _, _, _, _, _, _]) C0 (c_La_told l D9 cB cI cJ cG hfl q_x q_tp q_ga q_re q_wr q_na q_gb q_st q_nl q_dl q_ty q_ki q_ti q_rows q_sz q_out _ _ _ _) g_662 g_0 g_660 g_661 ⟨by decide +kernel, by decide +kernel, show Option.map (fun d => d.parameters.length) (parseMethodDescriptor y_La_told.desc) = some 5 by decide +kernel⟩ ⟨by decide, by decide⟩ rfl rfl hZ h9 hP hD hS hA [0, 19, 16, 48] [1, 2, 3, 4, 5, 6, 7, 8, 9, 10, 11, 12, 13, 14, 15, 17, 18, 20, 21, 22, 23, 24, 25, 26, 27, 28, 29, 30, 31, 32, 33, 34, 35, 36, 37, 38, 39, 40, 41, 42, 43, 44, 45, 46, 47] rfl rfl (by decide) (by decide) (by decide) hl.1 (Nat.le_of_ble_eq_true rfl) rfl d_La_law_757 ⟨by decide, by decide⟩ (fun v9 w9 H locs hq hP hD hS => ?_)
  obtain ⟨k5, g5, w5, rfl, hw9, hk⟩ := hq
  rw [hw9] at hP hD
  refine lv_istore (lv' := [(5, _), (4, _), (3, _), (2, _), (1, _), (0, _)]) hx hb d_La_law_760 hl (by decide) rfl (fun ls hl => ?_)
  refine lv_aload_n hx hb d_La_law_762 rfl (lv_at hl 3 rfl) ?_
  refine lv_aload_n hx hb d_La_law_763 rfl (lv_at hl 5 rfl) ?_
  refine lv_iload hx hb d_La_law_764 (lv_at hl 1 rfl) ?_
  refine lv_iconst (v := 1) hx hb d_La_law_766 (by decide) ?_
  refine lv_iadd hx hb d_La_law_767 ?_
  refine va_sld hx hb hX hbl hbA hS (by unfold vp_in; decide +kernel) d_La_law_768 ?_
  refine lv_aload_n hx hb d_La_law_769 rfl (lv_at hl 5 rfl) ?_
  refine lv_iload hx hb d_La_law_770 (lv_at hl 1 rfl) ?_
  refine lv_iconst (v := 2) hx hb d_La_law_772 (by decide) ?_
  refine lv_iadd hx hb d_La_law_773 ?_
  refine va_sld hx hb hX hbl hbA hS (by unfold vp_in; decide +kernel) d_La_law_774 ?_
  refine lv_aload_n hx hb d_La_law_775 rfl (lv_at hl 5 rfl) ?_
  refine lv_iload hx hb d_La_law_776 (lv_at hl 1 rfl) ?_
  refine lv_iconst (v := 3) hx hb d_La_law_778 (by decide) ?_
  refine lv_iadd hx hb d_La_law_779 ?_
  refine va_sld hx hb hX hbl hbA hS (by unfold vp_in; decide +kernel) d_La_law_780 ?_
  refine mf_cV (wr := [_]) (ci := 7) (k := 0) C0 (c_Mo_told l D9 cB cI cJ cG q_mo q_m_tape q_m_store q_m_section q_m_type q_m_kind q_m_time q_m_nameAt q_m_nameSize q_m_dataAt q_m_dataSize q_m_message q_m_endPlace q_m_endAt q_m_countsWritten _ _ _) g_959 g_8 g_956 g_957 g_958 ⟨by decide +kernel, by decide +kernel, show Option.map (fun d => d.parameters.length) (parseMethodDescriptor y_Mo_told.desc) = some 3 by decide +kernel⟩ ⟨by decide, by decide⟩ rfl rfl hP hD hS hA [30] [45] rfl rfl (by decide) (by decide) (by decide) rfl rfl hl.1 (Nat.le_of_ble_eq_true rfl) rfl d_La_law_781 ⟨by decide, by decide⟩ (fun v9 w9 H locs hq hP hD hS => ?_)
  obtain ⟨r6, x0, x1, x2, x3, x4, x5, x6, x7, x8, x9, x10, x11, x12, x13, x14, x15, rfl, hw9, hm⟩ := hq
  rw [hw9] at hP hD
  obtain ⟨hkx, hz⟩ : x0 = k5 ∧ (k5 = 0 → g5 0 = r6.toInt64) := cmp1 hk hm
  refine lv_istore (lv' := [(6, _), (5, _), (4, _), (3, _), (2, _), (1, _), (0, _)]) hx hb d_La_law_784 hl (by decide) rfl (fun ls hl => ?_)
  refine lv_aload_n hx hb d_La_law_786 rfl (lv_at hl 4 rfl) ?_
  refine mf_cV (wr := [_]) (ci := 7) (k := 0) C0 (c_Mo_thrown l D9 cB cI cJ cG q_mo q_m_tape q_m_store q_m_section q_m_type q_m_kind q_m_time q_m_nameAt q_m_nameSize q_m_dataAt q_m_dataSize q_m_message q_m_endPlace q_m_endAt q_m_countsWritten _ _ _ _ _ _ _ _ _ _ _ _ _ _ _ _) g_816 g_8 g_813 g_814 g_815 ⟨by decide +kernel, by decide +kernel, show Option.map (fun d => d.parameters.length) (parseMethodDescriptor y_Mo_thrown.desc) = some 0 by decide +kernel⟩ ⟨by decide, by decide⟩ rfl rfl hP hD hS hA [1] [0] rfl rfl (by decide) (by decide) (by decide) rfl rfl hl.1 (Nat.le_of_ble_eq_true rfl) rfl d_La_law_787 ⟨by decide, by decide⟩ (fun v9 w9 H locs hq hP hD hS => ?_)
  obtain ⟨rfl, hw9⟩ := hq
  rw [hw9] at hP hD
  refine lv_iload hx hb d_La_law_790 (lv_at hl 1 rfl) ?_
  refine lv_icmp_eq (tgt := 797) hx hb d_La_law_792 (by decide) (fun c1 => ?_) (fun c1 => ?_)
  · refine lv_iload hx hb d_La_law_797 (lv_at hl 1 rfl) ?_
    refine lv_if_ne (tgt := 814) hx hb d_La_law_799 (by decide) (fun c2 => ?_) (fun c2 => ?_)
    · refine lv_goto (tgt := 1113) hx hb d_La_law_814 (by decide) ?_
      exact law_tail C1 hS (lv_sub hl [2, 6] rfl) (by decide) (by decide)
    · exact absurd (hk.symm.trans c2) (by decide)
  · exact absurd hkx c1
set_option maxHeartbeats 4000000 in
set_option maxRecDepth 100000 in
theorem law_case_12 (l : Launch) (hfl : l.flags = flags0) {p : Program} {e : Env} {s : State} {m : MethodId} {below : List Frame} {meth : Method} {c : Code} {b : Nat} {xs : Nat → Int32} (C1 : lw_At p s m meth c b 6 xs) (D9 : va_G) (cB cI cJ cG : ClassId) (hK : va_K D9 cls9 (ty9 cB cI cJ cG) s) (hZ : tx_Z (fun q : Nat => s.heap.size ≤ q) s s.heap) (h9 : no9 s) (q_x q_tp q_tpr q_ga q_gb q_gbr q_st q_nl q_dl q_ty q_ki q_ti q_rows q_sz q_re q_wr q_ms q_msr q_ls q_lm q_en q_ne q_ol q_mk q_pl q_so q_na q_lb q_ob q_mo q_m_tape q_m_store q_m_section q_m_type q_m_kind q_m_time q_m_nameAt q_m_nameSize q_m_dataAt q_m_dataSize q_m_message q_m_endPlace q_m_endAt q_m_countsWritten q_out : Nat) {H : Heap} {locs : List Loc} (hP : va_P D9 cls9 (wLaw cB cI cJ cG q_x q_tp q_tpr q_ga q_gb q_gbr q_st q_nl q_dl q_ty q_ki q_ti q_rows q_sz q_re q_wr q_ms q_msr q_ls q_lm q_en q_ne q_ol q_mk q_pl q_so q_na q_lb q_ob q_mo q_m_tape q_m_store q_m_section q_m_type q_m_kind q_m_time q_m_nameAt q_m_nameSize q_m_dataAt q_m_dataSize q_m_message q_m_endPlace q_m_endAt q_m_countsWritten q_out) H) (hD : va_D (fun q : Nat => s.heap.size ≤ q) (wLaw cB cI cJ cG q_x q_tp q_tpr q_ga q_gb q_gbr q_st q_nl q_dl q_ty q_ki q_ti q_rows q_sz q_re q_wr q_ms q_msr q_ls q_lm q_en q_ne q_ol q_mk q_pl q_so q_na q_lb q_ob q_mo q_m_tape q_m_store q_m_section q_m_type q_m_kind q_m_time q_m_nameAt q_m_nameSize q_m_dataAt q_m_dataSize q_m_message q_m_endPlace q_m_endAt q_m_countsWritten q_out)) (hS : va_S (fun q : Nat => s.heap.size ≤ q) s.heap H locs) {ls : Array Slot} (hl : lv_has ls 7 [(4, .int 0), (3, .ref q_out), (2, .ref q_mo), (1, .ref q_x), (0, .ref b)]) : W p l e room_1 s m #[Value.ref b] below meth c H locs 49 670223 (lw_Z below #[Value.ref b] s) (F0 m 817 ls []) := by
  obtain ⟨hx, hb, hr, hml, hown, hts0, hX, hbl, hlocks, hgv⟩ := id C1
  have hts : ∀ w ∈ GT, w.before #[Value.ref b] s = true := fun w hw => hts0 w ((List.mem_filter.mp hw).1)
  have C0 : mw_C p s m #[Value.ref b] meth c code 7 ret R_La D9 cls9 (ty9 cB cI cJ cG) := ⟨hx, hb, hml, hr, hlocks, hown, hts, hK⟩
  have hA : ∀ q : Nat, s.heap.size ≤ q → (fun q : Nat => s.heap.size ≤ q) q := fun _ h => h
  have hbA : ¬ (fun q : Nat => s.heap.size ≤ q) b := Nat.not_le.mpr hbl
  refine lv_aload_n hx hb d_La_law_817 rfl (lv_at hl 3 rfl) ?_
  refine lv_aload_n hx hb d_La_law_818 rfl (lv_at hl 4 rfl) ?_
  refine lv_iload hx hb d_La_law_819 (lv_at hl 0 rfl) ?_
  refine lv_iconst (v := 1) hx hb d_La_law_821 (by decide) ?_
  refine lv_iadd hx hb d_La_law_822 ?_
  refine va_sld hx hb hX hbl hbA hS (by unfold vp_in; decide +kernel) d_La_law_823 ?_
  refine lv_aload_n hx hb d_La_law_824 rfl (lv_at hl 4 rfl) ?_
  refine lv_iload hx hb d_La_law_825 (lv_at hl 0 rfl) ?_
  refine lv_iconst (v := 2) hx hb d_La_law_827 (by decide) ?_
  refine lv_iadd hx hb d_La_law_828 ?_
  refine va_sld hx hb hX hbl hbA hS (by unfold vp_in; decide +kernel) d_La_law_829 ?_
  refine lv_aload_n hx hb d_La_law_830 rfl (lv_at hl 4 rfl) ?_
  refine lv_iload hx hb d_La_law_831 (lv_at hl 0 rfl) ?_
  refine lv_iconst (v := 3) hx hb d_La_law_833 (by decide) ?_
  refine lv_iadd hx hb d_La_law_834 ?_
  refine va_sld hx hb hX hbl hbA hS (by unfold vp_in; decide +kernel) d_La_law_835 ?_
  refine lv_aload_n hx hb d_La_law_836 rfl (lv_at hl 1 rfl) ?_
  refine mh_cS (wr := [_, _, _, _, _, _, _, _, _, _, _, _, _, _, _, _, _, _, _, _, _, _, _, _, _, _, _, _, _, _, _, _, _, _, _, _, _, _, _, _, _, _, _, _, _]) C0 (c_La_byteOf l D9 cB cI cJ cG hfl q_x q_tp q_ga q_re q_wr q_na q_gb q_st q_nl q_dl q_ty q_ki q_ti q_rows q_sz q_out _ _ _ _) g_677 g_0 g_675 g_676 ⟨by decide +kernel, by decide +kernel, show Option.map (fun d => d.parameters.length) (parseMethodDescriptor y_La_byteOf.desc) = some 5 by decide +kernel⟩ ⟨by decide, by decide⟩ rfl rfl hZ h9 hP hD hS hA [0, 19, 16, 48] [1, 2, 3, 4, 5, 6, 7, 8, 9, 10, 11, 12, 13, 14, 15, 17, 18, 20, 21, 22, 23, 24, 25, 26, 27, 28, 29, 30, 31, 32, 33, 34, 35, 36, 37, 38, 39, 40, 41, 42, 43, 44, 45, 46, 47] rfl rfl (by decide) (by decide) (by decide) hl.1 (Nat.le_of_ble_eq_true rfl) rfl d_La_law_837 ⟨by decide, by decide⟩ (fun v9 w9 H locs hq hP hD hS => ?_)
  obtain ⟨k5, g5, w5, rfl, hw9, hk⟩ := hq
  rw [hw9] at hP hD
  refine lv_istore (lv' := [(5, _), (4, _), (3, _), (2, _), (1, _), (0, _)]) hx hb d_La_law_840 hl (by decide) rfl (fun ls hl => ?_)
  refine lv_aload_n hx hb d_La_law_842 rfl (lv_at hl 3 rfl) ?_
  refine lv_aload_n hx hb d_La_law_843 rfl (lv_at hl 5 rfl) ?_
  refine lv_iload hx hb d_La_law_844 (lv_at hl 1 rfl) ?_
  refine lv_iconst (v := 1) hx hb d_La_law_846 (by decide) ?_
  refine lv_iadd hx hb d_La_law_847 ?_
  refine va_sld hx hb hX hbl hbA hS (by unfold vp_in; decide +kernel) d_La_law_848 ?_
  refine lv_aload_n hx hb d_La_law_849 rfl (lv_at hl 5 rfl) ?_
  refine lv_iload hx hb d_La_law_850 (lv_at hl 1 rfl) ?_
  refine lv_iconst (v := 2) hx hb d_La_law_852 (by decide) ?_
  refine lv_iadd hx hb d_La_law_853 ?_
  refine va_sld hx hb hX hbl hbA hS (by unfold vp_in; decide +kernel) d_La_law_854 ?_
  refine lv_aload_n hx hb d_La_law_855 rfl (lv_at hl 5 rfl) ?_
  refine lv_iload hx hb d_La_law_856 (lv_at hl 1 rfl) ?_
  refine lv_iconst (v := 3) hx hb d_La_law_858 (by decide) ?_
  refine lv_iadd hx hb d_La_law_859 ?_
  refine va_sld hx hb hX hbl hbA hS (by unfold vp_in; decide +kernel) d_La_law_860 ?_
  refine mf_cV (wr := [_]) (ci := 7) (k := 0) C0 (c_Mo_byteOf l D9 cB cI cJ cG q_mo q_m_tape q_m_store q_m_section q_m_type q_m_kind q_m_time q_m_nameAt q_m_nameSize q_m_dataAt q_m_dataSize q_m_message q_m_endPlace q_m_endAt q_m_countsWritten _ _ _) g_967 g_8 g_964 g_965 g_966 ⟨by decide +kernel, by decide +kernel, show Option.map (fun d => d.parameters.length) (parseMethodDescriptor y_Mo_byteOf.desc) = some 3 by decide +kernel⟩ ⟨by decide, by decide⟩ rfl rfl hP hD hS hA [30] [45] rfl rfl (by decide) (by decide) (by decide) rfl rfl hl.1 (Nat.le_of_ble_eq_true rfl) rfl d_La_law_861 ⟨by decide, by decide⟩ (fun v9 w9 H locs hq hP hD hS => ?_)
  obtain ⟨r6, x0, x1, x2, x3, x4, x5, x6, x7, x8, x9, x10, x11, x12, x13, x14, x15, rfl, hw9, hm⟩ := hq
  rw [hw9] at hP hD
  obtain ⟨hkx, hz⟩ : x0 = k5 ∧ (k5 = 0 → g5 0 = r6.toInt64) := cmp1 hk hm
  refine lv_istore (lv' := [(6, _), (5, _), (4, _), (3, _), (2, _), (1, _), (0, _)]) hx hb d_La_law_864 hl (by decide) rfl (fun ls hl => ?_)
  refine lv_aload_n hx hb d_La_law_866 rfl (lv_at hl 4 rfl) ?_
  refine mf_cV (wr := [_]) (ci := 7) (k := 0) C0 (c_Mo_thrown l D9 cB cI cJ cG q_mo q_m_tape q_m_store q_m_section q_m_type q_m_kind q_m_time q_m_nameAt q_m_nameSize q_m_dataAt q_m_dataSize q_m_message q_m_endPlace q_m_endAt q_m_countsWritten _ _ _ _ _ _ _ _ _ _ _ _ _ _ _ _) g_816 g_8 g_813 g_814 g_815 ⟨by decide +kernel, by decide +kernel, show Option.map (fun d => d.parameters.length) (parseMethodDescriptor y_Mo_thrown.desc) = some 0 by decide +kernel⟩ ⟨by decide, by decide⟩ rfl rfl hP hD hS hA [1] [0] rfl rfl (by decide) (by decide) (by decide) rfl rfl hl.1 (Nat.le_of_ble_eq_true rfl) rfl d_La_law_867 ⟨by decide, by decide⟩ (fun v9 w9 H locs hq hP hD hS => ?_)
  obtain ⟨rfl, hw9⟩ := hq
  rw [hw9] at hP hD
  refine lv_iload hx hb d_La_law_870 (lv_at hl 1 rfl) ?_
  refine lv_icmp_eq (tgt := 877) hx hb d_La_law_872 (by decide) (fun c1 => ?_) (fun c1 => ?_)
  · refine lv_iload hx hb d_La_law_877 (lv_at hl 1 rfl) ?_
    refine lv_if_ne (tgt := 894) hx hb d_La_law_879 (by decide) (fun c2 => ?_) (fun c2 => ?_)
    · refine lv_goto (tgt := 1113) hx hb d_La_law_894 (by decide) ?_
      exact law_tail C1 hS (lv_sub hl [2, 6] rfl) (by decide) (by decide)
    · exact absurd (hk.symm.trans c2) (by decide)
  · exact absurd hkx c1
set_option maxHeartbeats 4000000 in
set_option maxRecDepth 100000 in
theorem law_case_13 (l : Launch) (hfl : l.flags = flags0) {p : Program} {e : Env} {s : State} {m : MethodId} {below : List Frame} {meth : Method} {c : Code} {b : Nat} {xs : Nat → Int32} (C1 : lw_At p s m meth c b 6 xs) (D9 : va_G) (cB cI cJ cG : ClassId) (hK : va_K D9 cls9 (ty9 cB cI cJ cG) s) (hZ : tx_Z (fun q : Nat => s.heap.size ≤ q) s s.heap) (h9 : no9 s) (q_x q_tp q_tpr q_ga q_gb q_gbr q_st q_nl q_dl q_ty q_ki q_ti q_rows q_sz q_re q_wr q_ms q_msr q_ls q_lm q_en q_ne q_ol q_mk q_pl q_so q_na q_lb q_ob q_mo q_m_tape q_m_store q_m_section q_m_type q_m_kind q_m_time q_m_nameAt q_m_nameSize q_m_dataAt q_m_dataSize q_m_message q_m_endPlace q_m_endAt q_m_countsWritten q_out : Nat) {H : Heap} {locs : List Loc} (hP : va_P D9 cls9 (wLaw cB cI cJ cG q_x q_tp q_tpr q_ga q_gb q_gbr q_st q_nl q_dl q_ty q_ki q_ti q_rows q_sz q_re q_wr q_ms q_msr q_ls q_lm q_en q_ne q_ol q_mk q_pl q_so q_na q_lb q_ob q_mo q_m_tape q_m_store q_m_section q_m_type q_m_kind q_m_time q_m_nameAt q_m_nameSize q_m_dataAt q_m_dataSize q_m_message q_m_endPlace q_m_endAt q_m_countsWritten q_out) H) (hD : va_D (fun q : Nat => s.heap.size ≤ q) (wLaw cB cI cJ cG q_x q_tp q_tpr q_ga q_gb q_gbr q_st q_nl q_dl q_ty q_ki q_ti q_rows q_sz q_re q_wr q_ms q_msr q_ls q_lm q_en q_ne q_ol q_mk q_pl q_so q_na q_lb q_ob q_mo q_m_tape q_m_store q_m_section q_m_type q_m_kind q_m_time q_m_nameAt q_m_nameSize q_m_dataAt q_m_dataSize q_m_message q_m_endPlace q_m_endAt q_m_countsWritten q_out)) (hS : va_S (fun q : Nat => s.heap.size ≤ q) s.heap H locs) {ls : Array Slot} (hl : lv_has ls 7 [(4, .int 0), (3, .ref q_out), (2, .ref q_mo), (1, .ref q_x), (0, .ref b)]) : W p l e room_1 s m #[Value.ref b] below meth c H locs 49 670223 (lw_Z below #[Value.ref b] s) (F0 m 897 ls []) := by
  obtain ⟨hx, hb, hr, hml, hown, hts0, hX, hbl, hlocks, hgv⟩ := id C1
  have hts : ∀ w ∈ GT, w.before #[Value.ref b] s = true := fun w hw => hts0 w ((List.mem_filter.mp hw).1)
  have C0 : mw_C p s m #[Value.ref b] meth c code 7 ret R_La D9 cls9 (ty9 cB cI cJ cG) := ⟨hx, hb, hml, hr, hlocks, hown, hts, hK⟩
  have hA : ∀ q : Nat, s.heap.size ≤ q → (fun q : Nat => s.heap.size ≤ q) q := fun _ h => h
  have hbA : ¬ (fun q : Nat => s.heap.size ≤ q) b := Nat.not_le.mpr hbl
  refine lv_aload_n hx hb d_La_law_897 rfl (lv_at hl 3 rfl) ?_
  refine lv_aload_n hx hb d_La_law_898 rfl (lv_at hl 4 rfl) ?_
  refine lv_iload hx hb d_La_law_899 (lv_at hl 0 rfl) ?_
  refine lv_iconst (v := 1) hx hb d_La_law_901 (by decide) ?_
  refine lv_iadd hx hb d_La_law_902 ?_
  refine va_sld hx hb hX hbl hbA hS (by unfold vp_in; decide +kernel) d_La_law_903 ?_
  refine lv_aload_n hx hb d_La_law_904 rfl (lv_at hl 4 rfl) ?_
  refine lv_iload hx hb d_La_law_905 (lv_at hl 0 rfl) ?_
  refine lv_iconst (v := 2) hx hb d_La_law_907 (by decide) ?_
  refine lv_iadd hx hb d_La_law_908 ?_
  refine va_sld hx hb hX hbl hbA hS (by unfold vp_in; decide +kernel) d_La_law_909 ?_
  refine lv_aload_n hx hb d_La_law_910 rfl (lv_at hl 4 rfl) ?_
  refine lv_iload hx hb d_La_law_911 (lv_at hl 0 rfl) ?_
  refine lv_iconst (v := 3) hx hb d_La_law_913 (by decide) ?_
  refine lv_iadd hx hb d_La_law_914 ?_
  refine va_sld hx hb hX hbl hbA hS (by unfold vp_in; decide +kernel) d_La_law_915 ?_
  refine lv_aload_n hx hb d_La_law_916 rfl (lv_at hl 4 rfl) ?_
  refine lv_iload hx hb d_La_law_917 (lv_at hl 0 rfl) ?_
  refine lv_iconst (v := 4) hx hb d_La_law_919 (by decide) ?_
  refine lv_iadd hx hb d_La_law_920 ?_
  refine va_sld hx hb hX hbl hbA hS (by unfold vp_in; decide +kernel) d_La_law_921 ?_
  refine lv_aload_n hx hb d_La_law_922 rfl (lv_at hl 1 rfl) ?_
  refine mh_cS (wr := [_, _, _, _, _, _, _, _, _, _, _, _, _, _, _, _, _, _, _, _, _, _, _, _, _, _, _, _, _, _, _, _, _, _, _, _, _, _, _, _, _, _, _, _, _]) C0 (c_La_same l D9 cB cI cJ cG hfl q_x q_tp q_ga q_re q_wr q_na q_gb q_st q_nl q_dl q_ty q_ki q_ti q_rows q_sz q_out _ _ _ _ _) g_684 g_0 g_682 g_683 ⟨by decide +kernel, by decide +kernel, show Option.map (fun d => d.parameters.length) (parseMethodDescriptor y_La_same.desc) = some 6 by decide +kernel⟩ ⟨by decide, by decide⟩ rfl rfl hZ h9 hP hD hS hA [0, 19, 16, 48] [1, 2, 3, 4, 5, 6, 7, 8, 9, 10, 11, 12, 13, 14, 15, 17, 18, 20, 21, 22, 23, 24, 25, 26, 27, 28, 29, 30, 31, 32, 33, 34, 35, 36, 37, 38, 39, 40, 41, 42, 43, 44, 45, 46, 47] rfl rfl (by decide) (by decide) (by decide) hl.1 (Nat.le_of_ble_eq_true rfl) rfl d_La_law_923 ⟨by decide, by decide⟩ (fun v9 w9 H locs hq hP hD hS => ?_)
  obtain ⟨k5, g5, w5, rfl, hw9, hk⟩ := hq
  rw [hw9] at hP hD
  refine lv_istore (lv' := [(5, _), (4, _), (3, _), (2, _), (1, _), (0, _)]) hx hb d_La_law_926 hl (by decide) rfl (fun ls hl => ?_)
  refine lv_aload_n hx hb d_La_law_928 rfl (lv_at hl 3 rfl) ?_
  refine lv_aload_n hx hb d_La_law_929 rfl (lv_at hl 5 rfl) ?_
  refine lv_iload hx hb d_La_law_930 (lv_at hl 1 rfl) ?_
  refine lv_iconst (v := 1) hx hb d_La_law_932 (by decide) ?_
  refine lv_iadd hx hb d_La_law_933 ?_
  refine va_sld hx hb hX hbl hbA hS (by unfold vp_in; decide +kernel) d_La_law_934 ?_
  refine lv_aload_n hx hb d_La_law_935 rfl (lv_at hl 5 rfl) ?_
  refine lv_iload hx hb d_La_law_936 (lv_at hl 1 rfl) ?_
  refine lv_iconst (v := 2) hx hb d_La_law_938 (by decide) ?_
  refine lv_iadd hx hb d_La_law_939 ?_
  refine va_sld hx hb hX hbl hbA hS (by unfold vp_in; decide +kernel) d_La_law_940 ?_
  refine lv_aload_n hx hb d_La_law_941 rfl (lv_at hl 5 rfl) ?_
  refine lv_iload hx hb d_La_law_942 (lv_at hl 1 rfl) ?_
  refine lv_iconst (v := 3) hx hb d_La_law_944 (by decide) ?_
  refine lv_iadd hx hb d_La_law_945 ?_
  refine va_sld hx hb hX hbl hbA hS (by unfold vp_in; decide +kernel) d_La_law_946 ?_
  refine lv_aload_n hx hb d_La_law_947 rfl (lv_at hl 5 rfl) ?_
  refine lv_iload hx hb d_La_law_948 (lv_at hl 1 rfl) ?_
  refine lv_iconst (v := 4) hx hb d_La_law_950 (by decide) ?_
  refine lv_iadd hx hb d_La_law_951 ?_
  refine va_sld hx hb hX hbl hbA hS (by unfold vp_in; decide +kernel) d_La_law_952 ?_
  refine mf_cV (wr := [_]) (ci := 7) (k := 0) C0 (c_Mo_same l D9 cB cI cJ cG q_mo q_m_tape q_m_store q_m_section q_m_type q_m_kind q_m_time q_m_nameAt q_m_nameSize q_m_dataAt q_m_dataSize q_m_message q_m_endPlace q_m_endAt q_m_countsWritten _ _ _ _) g_971 g_8 g_968 g_969 g_970 ⟨by decide +kernel, by decide +kernel, show Option.map (fun d => d.parameters.length) (parseMethodDescriptor y_Mo_same.desc) = some 4 by decide +kernel⟩ ⟨by decide, by decide⟩ rfl rfl hP hD hS hA [30] [45] rfl rfl (by decide) (by decide) (by decide) rfl rfl hl.1 (Nat.le_of_ble_eq_true rfl) rfl d_La_law_953 ⟨by decide, by decide⟩ (fun v9 w9 H locs hq hP hD hS => ?_)
  obtain ⟨r6, x0, x1, x2, x3, x4, x5, x6, x7, x8, x9, x10, x11, x12, x13, x14, x15, rfl, hw9, hm⟩ := hq
  rw [hw9] at hP hD
  obtain ⟨hkx, hz⟩ : x0 = k5 ∧ (k5 = 0 → g5 0 = r6.toInt64) := cmp1 hk hm
  refine lv_istore (lv' := [(6, _), (5, _), (4, _), (3, _), (2, _), (1, _), (0, _)]) hx hb d_La_law_956 hl (by decide) rfl (fun ls hl => ?_)
  refine lv_aload_n hx hb d_La_law_958 rfl (lv_at hl 4 rfl) ?_
  refine mf_cV (wr := [_]) (ci := 7) (k := 0) C0 (c_Mo_thrown l D9 cB cI cJ cG q_mo q_m_tape q_m_store q_m_section q_m_type q_m_kind q_m_time q_m_nameAt q_m_nameSize q_m_dataAt q_m_dataSize q_m_message q_m_endPlace q_m_endAt q_m_countsWritten _ _ _ _ _ _ _ _ _ _ _ _ _ _ _ _) g_816 g_8 g_813 g_814 g_815 ⟨by decide +kernel, by decide +kernel, show Option.map (fun d => d.parameters.length) (parseMethodDescriptor y_Mo_thrown.desc) = some 0 by decide +kernel⟩ ⟨by decide, by decide⟩ rfl rfl hP hD hS hA [1] [0] rfl rfl (by decide) (by decide) (by decide) rfl rfl hl.1 (Nat.le_of_ble_eq_true rfl) rfl d_La_law_959 ⟨by decide, by decide⟩ (fun v9 w9 H locs hq hP hD hS => ?_)
  obtain ⟨rfl, hw9⟩ := hq
  rw [hw9] at hP hD
  refine lv_iload hx hb d_La_law_962 (lv_at hl 1 rfl) ?_
  refine lv_icmp_eq (tgt := 969) hx hb d_La_law_964 (by decide) (fun c1 => ?_) (fun c1 => ?_)
  · refine lv_iload hx hb d_La_law_969 (lv_at hl 1 rfl) ?_
    refine lv_if_ne (tgt := 993) hx hb d_La_law_971 (by decide) (fun c2 => ?_) (fun c2 => ?_)
    · refine lv_goto (tgt := 1113) hx hb d_La_law_993 (by decide) ?_
      exact law_tail C1 hS (lv_sub hl [2, 6] rfl) (by decide) (by decide)
    · exact absurd (hk.symm.trans c2) (by decide)
  · exact absurd hkx c1
set_option maxHeartbeats 4000000 in
set_option maxRecDepth 100000 in
theorem law_case_14 (l : Launch) (hfl : l.flags = flags0) {p : Program} {e : Env} {s : State} {m : MethodId} {below : List Frame} {meth : Method} {c : Code} {b : Nat} {xs : Nat → Int32} (C1 : lw_At p s m meth c b 6 xs) (D9 : va_G) (cB cI cJ cG : ClassId) (hK : va_K D9 cls9 (ty9 cB cI cJ cG) s) (hZ : tx_Z (fun q : Nat => s.heap.size ≤ q) s s.heap) (h9 : no9 s) (q_x q_tp q_tpr q_ga q_gb q_gbr q_st q_nl q_dl q_ty q_ki q_ti q_rows q_sz q_re q_wr q_ms q_msr q_ls q_lm q_en q_ne q_ol q_mk q_pl q_so q_na q_lb q_ob q_mo q_m_tape q_m_store q_m_section q_m_type q_m_kind q_m_time q_m_nameAt q_m_nameSize q_m_dataAt q_m_dataSize q_m_message q_m_endPlace q_m_endAt q_m_countsWritten q_out : Nat) {H : Heap} {locs : List Loc} (hP : va_P D9 cls9 (wLaw cB cI cJ cG q_x q_tp q_tpr q_ga q_gb q_gbr q_st q_nl q_dl q_ty q_ki q_ti q_rows q_sz q_re q_wr q_ms q_msr q_ls q_lm q_en q_ne q_ol q_mk q_pl q_so q_na q_lb q_ob q_mo q_m_tape q_m_store q_m_section q_m_type q_m_kind q_m_time q_m_nameAt q_m_nameSize q_m_dataAt q_m_dataSize q_m_message q_m_endPlace q_m_endAt q_m_countsWritten q_out) H) (hD : va_D (fun q : Nat => s.heap.size ≤ q) (wLaw cB cI cJ cG q_x q_tp q_tpr q_ga q_gb q_gbr q_st q_nl q_dl q_ty q_ki q_ti q_rows q_sz q_re q_wr q_ms q_msr q_ls q_lm q_en q_ne q_ol q_mk q_pl q_so q_na q_lb q_ob q_mo q_m_tape q_m_store q_m_section q_m_type q_m_kind q_m_time q_m_nameAt q_m_nameSize q_m_dataAt q_m_dataSize q_m_message q_m_endPlace q_m_endAt q_m_countsWritten q_out)) (hS : va_S (fun q : Nat => s.heap.size ≤ q) s.heap H locs) {ls : Array Slot} (hl : lv_has ls 7 [(4, .int 0), (3, .ref q_out), (2, .ref q_mo), (1, .ref q_x), (0, .ref b)]) : W p l e room_1 s m #[Value.ref b] below meth c H locs 49 670223 (lw_Z below #[Value.ref b] s) (F0 m 996 ls []) := by
  obtain ⟨hx, hb, hr, hml, hown, hts0, hX, hbl, hlocks, hgv⟩ := id C1
  have hts : ∀ w ∈ GT, w.before #[Value.ref b] s = true := fun w hw => hts0 w ((List.mem_filter.mp hw).1)
  have C0 : mw_C p s m #[Value.ref b] meth c code 7 ret R_La D9 cls9 (ty9 cB cI cJ cG) := ⟨hx, hb, hml, hr, hlocks, hown, hts, hK⟩
  have hA : ∀ q : Nat, s.heap.size ≤ q → (fun q : Nat => s.heap.size ≤ q) q := fun _ h => h
  have hbA : ¬ (fun q : Nat => s.heap.size ≤ q) b := Nat.not_le.mpr hbl
  refine lv_aload_n hx hb d_La_law_996 rfl (lv_at hl 3 rfl) ?_
  refine lv_aload_n hx hb d_La_law_997 rfl (lv_at hl 4 rfl) ?_
  refine lv_iload hx hb d_La_law_998 (lv_at hl 0 rfl) ?_
  refine lv_iconst (v := 1) hx hb d_La_law_1000 (by decide) ?_
  refine lv_iadd hx hb d_La_law_1001 ?_
  refine va_sld hx hb hX hbl hbA hS (by unfold vp_in; decide +kernel) d_La_law_1002 ?_
  refine lv_aload_n hx hb d_La_law_1003 rfl (lv_at hl 4 rfl) ?_
  refine lv_iload hx hb d_La_law_1004 (lv_at hl 0 rfl) ?_
  refine lv_iconst (v := 2) hx hb d_La_law_1006 (by decide) ?_
  refine lv_iadd hx hb d_La_law_1007 ?_
  refine va_sld hx hb hX hbl hbA hS (by unfold vp_in; decide +kernel) d_La_law_1008 ?_
  refine lv_aload_n hx hb d_La_law_1009 rfl (lv_at hl 4 rfl) ?_
  refine lv_iload hx hb d_La_law_1010 (lv_at hl 0 rfl) ?_
  refine lv_iconst (v := 3) hx hb d_La_law_1012 (by decide) ?_
  refine lv_iadd hx hb d_La_law_1013 ?_
  refine va_sld hx hb hX hbl hbA hS (by unfold vp_in; decide +kernel) d_La_law_1014 ?_
  refine lv_aload_n hx hb d_La_law_1015 rfl (lv_at hl 4 rfl) ?_
  refine lv_iload hx hb d_La_law_1016 (lv_at hl 0 rfl) ?_
  refine lv_iconst (v := 4) hx hb d_La_law_1018 (by decide) ?_
  refine lv_iadd hx hb d_La_law_1019 ?_
  refine va_sld hx hb hX hbl hbA hS (by unfold vp_in; decide +kernel) d_La_law_1020 ?_
  refine lv_aload_n hx hb d_La_law_1021 rfl (lv_at hl 1 rfl) ?_
  refine mh_cS (wr := [_, _, _, _, _, _, _, _, _, _, _, _, _, _, _, _, _, _, _, _, _, _, _, _, _, _, _, _, _, _, _, _, _, _, _, _, _, _, _, _, _, _, _, _, _]) C0 (c_La_order l D9 cB cI cJ cG hfl q_x q_tp q_ga q_re q_wr q_na q_gb q_st q_nl q_dl q_ty q_ki q_ti q_rows q_sz q_out _ _ _ _ _) g_707 g_0 g_705 g_706 ⟨by decide +kernel, by decide +kernel, show Option.map (fun d => d.parameters.length) (parseMethodDescriptor y_La_order.desc) = some 6 by decide +kernel⟩ ⟨by decide, by decide⟩ rfl rfl hZ h9 hP hD hS hA [0, 19, 16, 48] [1, 2, 3, 4, 5, 6, 7, 8, 9, 10, 11, 12, 13, 14, 15, 17, 18, 20, 21, 22, 23, 24, 25, 26, 27, 28, 29, 30, 31, 32, 33, 34, 35, 36, 37, 38, 39, 40, 41, 42, 43, 44, 45, 46, 47] rfl rfl (by decide) (by decide) (by decide) hl.1 (Nat.le_of_ble_eq_true rfl) rfl d_La_law_1022 ⟨by decide, by decide⟩ (fun v9 w9 H locs hq hP hD hS => ?_)
  obtain ⟨k5, g5, w5, rfl, hw9, hk⟩ := hq
  rw [hw9] at hP hD
  refine lv_istore (lv' := [(5, _), (4, _), (3, _), (2, _), (1, _), (0, _)]) hx hb d_La_law_1025 hl (by decide) rfl (fun ls hl => ?_)
  refine lv_aload_n hx hb d_La_law_1027 rfl (lv_at hl 3 rfl) ?_
  refine lv_aload_n hx hb d_La_law_1028 rfl (lv_at hl 5 rfl) ?_
  refine lv_iload hx hb d_La_law_1029 (lv_at hl 1 rfl) ?_
  refine lv_iconst (v := 1) hx hb d_La_law_1031 (by decide) ?_
  refine lv_iadd hx hb d_La_law_1032 ?_
  refine va_sld hx hb hX hbl hbA hS (by unfold vp_in; decide +kernel) d_La_law_1033 ?_
  refine lv_aload_n hx hb d_La_law_1034 rfl (lv_at hl 5 rfl) ?_
  refine lv_iload hx hb d_La_law_1035 (lv_at hl 1 rfl) ?_
  refine lv_iconst (v := 2) hx hb d_La_law_1037 (by decide) ?_
  refine lv_iadd hx hb d_La_law_1038 ?_
  refine va_sld hx hb hX hbl hbA hS (by unfold vp_in; decide +kernel) d_La_law_1039 ?_
  refine lv_aload_n hx hb d_La_law_1040 rfl (lv_at hl 5 rfl) ?_
  refine lv_iload hx hb d_La_law_1041 (lv_at hl 1 rfl) ?_
  refine lv_iconst (v := 3) hx hb d_La_law_1043 (by decide) ?_
  refine lv_iadd hx hb d_La_law_1044 ?_
  refine va_sld hx hb hX hbl hbA hS (by unfold vp_in; decide +kernel) d_La_law_1045 ?_
  refine lv_aload_n hx hb d_La_law_1046 rfl (lv_at hl 5 rfl) ?_
  refine lv_iload hx hb d_La_law_1047 (lv_at hl 1 rfl) ?_
  refine lv_iconst (v := 4) hx hb d_La_law_1049 (by decide) ?_
  refine lv_iadd hx hb d_La_law_1050 ?_
  refine va_sld hx hb hX hbl hbA hS (by unfold vp_in; decide +kernel) d_La_law_1051 ?_
  refine mf_cV (wr := [_]) (ci := 7) (k := 0) C0 (c_Mo_order l D9 cB cI cJ cG q_mo q_m_tape q_m_store q_m_section q_m_type q_m_kind q_m_time q_m_nameAt q_m_nameSize q_m_dataAt q_m_dataSize q_m_message q_m_endPlace q_m_endAt q_m_countsWritten _ _ _ _) g_978 g_8 g_975 g_976 g_977 ⟨by decide +kernel, by decide +kernel, show Option.map (fun d => d.parameters.length) (parseMethodDescriptor y_Mo_order.desc) = some 4 by decide +kernel⟩ ⟨by decide, by decide⟩ rfl rfl hP hD hS hA [30] [45] rfl rfl (by decide) (by decide) (by decide) rfl rfl hl.1 (Nat.le_of_ble_eq_true rfl) rfl d_La_law_1052 ⟨by decide, by decide⟩ (fun v9 w9 H locs hq hP hD hS => ?_)
  obtain ⟨r6, x0, x1, x2, x3, x4, x5, x6, x7, x8, x9, x10, x11, x12, x13, x14, x15, rfl, hw9, hm⟩ := hq
  rw [hw9] at hP hD
  obtain ⟨hkx, hz⟩ : x0 = k5 ∧ (k5 = 0 → g5 0 = r6.toInt64) := cmp1 hk hm
  refine lv_istore (lv' := [(6, _), (5, _), (4, _), (3, _), (2, _), (1, _), (0, _)]) hx hb d_La_law_1055 hl (by decide) rfl (fun ls hl => ?_)
  refine lv_aload_n hx hb d_La_law_1057 rfl (lv_at hl 4 rfl) ?_
  refine mf_cV (wr := [_]) (ci := 7) (k := 0) C0 (c_Mo_thrown l D9 cB cI cJ cG q_mo q_m_tape q_m_store q_m_section q_m_type q_m_kind q_m_time q_m_nameAt q_m_nameSize q_m_dataAt q_m_dataSize q_m_message q_m_endPlace q_m_endAt q_m_countsWritten _ _ _ _ _ _ _ _ _ _ _ _ _ _ _ _) g_816 g_8 g_813 g_814 g_815 ⟨by decide +kernel, by decide +kernel, show Option.map (fun d => d.parameters.length) (parseMethodDescriptor y_Mo_thrown.desc) = some 0 by decide +kernel⟩ ⟨by decide, by decide⟩ rfl rfl hP hD hS hA [1] [0] rfl rfl (by decide) (by decide) (by decide) rfl rfl hl.1 (Nat.le_of_ble_eq_true rfl) rfl d_La_law_1058 ⟨by decide, by decide⟩ (fun v9 w9 H locs hq hP hD hS => ?_)
  obtain ⟨rfl, hw9⟩ := hq
  rw [hw9] at hP hD
  refine lv_iload hx hb d_La_law_1061 (lv_at hl 1 rfl) ?_
  refine lv_icmp_eq (tgt := 1068) hx hb d_La_law_1063 (by decide) (fun c1 => ?_) (fun c1 => ?_)
  · refine lv_iload hx hb d_La_law_1068 (lv_at hl 1 rfl) ?_
    refine lv_if_ne (tgt := 1085) hx hb d_La_law_1070 (by decide) (fun c2 => ?_) (fun c2 => ?_)
    · refine lv_goto (tgt := 1113) hx hb d_La_law_1085 (by decide) ?_
      exact law_tail C1 hS (lv_sub hl [2, 6] rfl) (by decide) (by decide)
    · exact absurd (hk.symm.trans c2) (by decide)
  · exact absurd hkx c1
set_option maxHeartbeats 4000000 in
set_option maxRecDepth 100000 in
theorem law_case_15 (l : Launch) (hfl : l.flags = flags0) {p : Program} {e : Env} {s : State} {m : MethodId} {below : List Frame} {meth : Method} {c : Code} {b : Nat} {xs : Nat → Int32} (C1 : lw_At p s m meth c b 6 xs) (D9 : va_G) (cB cI cJ cG : ClassId) (hK : va_K D9 cls9 (ty9 cB cI cJ cG) s) (hZ : tx_Z (fun q : Nat => s.heap.size ≤ q) s s.heap) (h9 : no9 s) (q_x q_tp q_tpr q_ga q_gb q_gbr q_st q_nl q_dl q_ty q_ki q_ti q_rows q_sz q_re q_wr q_ms q_msr q_ls q_lm q_en q_ne q_ol q_mk q_pl q_so q_na q_lb q_ob q_mo q_m_tape q_m_store q_m_section q_m_type q_m_kind q_m_time q_m_nameAt q_m_nameSize q_m_dataAt q_m_dataSize q_m_message q_m_endPlace q_m_endAt q_m_countsWritten q_out : Nat) {H : Heap} {locs : List Loc} (hP : va_P D9 cls9 (wLaw cB cI cJ cG q_x q_tp q_tpr q_ga q_gb q_gbr q_st q_nl q_dl q_ty q_ki q_ti q_rows q_sz q_re q_wr q_ms q_msr q_ls q_lm q_en q_ne q_ol q_mk q_pl q_so q_na q_lb q_ob q_mo q_m_tape q_m_store q_m_section q_m_type q_m_kind q_m_time q_m_nameAt q_m_nameSize q_m_dataAt q_m_dataSize q_m_message q_m_endPlace q_m_endAt q_m_countsWritten q_out) H) (hD : va_D (fun q : Nat => s.heap.size ≤ q) (wLaw cB cI cJ cG q_x q_tp q_tpr q_ga q_gb q_gbr q_st q_nl q_dl q_ty q_ki q_ti q_rows q_sz q_re q_wr q_ms q_msr q_ls q_lm q_en q_ne q_ol q_mk q_pl q_so q_na q_lb q_ob q_mo q_m_tape q_m_store q_m_section q_m_type q_m_kind q_m_time q_m_nameAt q_m_nameSize q_m_dataAt q_m_dataSize q_m_message q_m_endPlace q_m_endAt q_m_countsWritten q_out)) (hS : va_S (fun q : Nat => s.heap.size ≤ q) s.heap H locs) {ls : Array Slot} (hl : lv_has ls 7 [(4, .int 0), (3, .ref q_out), (2, .ref q_mo), (1, .ref q_x), (0, .ref b)]) : W p l e room_1 s m #[Value.ref b] below meth c H locs 49 670223 (lw_Z below #[Value.ref b] s) (F0 m 1088 ls []) := by
  obtain ⟨hx, hb, hr, hml, hown, hts0, hX, hbl, hlocks, hgv⟩ := id C1
  have hts : ∀ w ∈ GT, w.before #[Value.ref b] s = true := fun w hw => hts0 w ((List.mem_filter.mp hw).1)
  have C0 : mw_C p s m #[Value.ref b] meth c code 7 ret R_La D9 cls9 (ty9 cB cI cJ cG) := ⟨hx, hb, hml, hr, hlocks, hown, hts, hK⟩
  have hA : ∀ q : Nat, s.heap.size ≤ q → (fun q : Nat => s.heap.size ≤ q) q := fun _ h => h
  have hbA : ¬ (fun q : Nat => s.heap.size ≤ q) b := Nat.not_le.mpr hbl
  refine lv_aload_n hx hb d_La_law_1088 rfl (lv_at hl 3 rfl) ?_
  refine lv_aload_n hx hb d_La_law_1089 rfl (lv_at hl 4 rfl) ?_
  refine lv_iload hx hb d_La_law_1090 (lv_at hl 0 rfl) ?_
  refine lv_iconst (v := 1) hx hb d_La_law_1092 (by decide) ?_
  refine lv_iadd hx hb d_La_law_1093 ?_
  refine va_sld hx hb hX hbl hbA hS (by unfold vp_in; decide +kernel) d_La_law_1094 ?_
  refine mf_cV (wr := [_, _, _, _, _, _, _, _, _, _, _, _, _, _, _, _, _, _, _, _, _, _, _, _, _, _, _, _, _, _, _, _, _, _, _, _, _, _, _, _, _, _, _, _, _]) (ci := 6) (k := 0) C0 (c_Wm_count l D9 cB cI cJ cG q_x q_tp q_ga q_re q_wr q_na q_tpr q_ms q_en q_ls q_lm q_msr _) g_374 g_1 g_371 g_372 g_373 ⟨by decide +kernel, by decide +kernel, show Option.map (fun d => d.parameters.length) (parseMethodDescriptor y_Wm_count.desc) = some 1 by decide +kernel⟩ ⟨by decide, by decide⟩ rfl rfl hP hD hS hA [0, 1, 18, 20] [2, 3, 4, 5, 6, 7, 8, 9, 10, 11, 12, 13, 14, 15, 16, 17, 19, 21, 22, 23, 24, 25, 26, 27, 28, 29, 30, 31, 32, 33, 34, 35, 36, 37, 38, 39, 40, 41, 42, 43, 44, 45, 46, 47, 48] rfl rfl (by decide) (by decide) (by decide) rfl rfl hl.1 (Nat.le_of_ble_eq_true rfl) rfl d_La_law_1095 ⟨by decide, by decide⟩ (fun v9 w5 H locs hq hP hD hS => ?_)
  subst hq
  refine lv_aload_n hx hb d_La_law_1098 rfl (lv_at hl 2 rfl) ?_
  refine lv_aload_n hx hb d_La_law_1099 rfl (lv_at hl 4 rfl) ?_
  refine lv_iload hx hb d_La_law_1100 (lv_at hl 0 rfl) ?_
  refine lv_iconst (v := 1) hx hb d_La_law_1102 (by decide) ?_
  refine lv_iadd hx hb d_La_law_1103 ?_
  refine va_sld hx hb hX hbl hbA hS (by unfold vp_in; decide +kernel) d_La_law_1104 ?_
  refine mf_cV (wr := []) (ci := 7) (k := 0) C0 (c_Mo_count l D9 cB cI cJ cG q_mo q_m_tape q_m_store q_m_section q_m_type q_m_kind q_m_time q_m_nameAt q_m_nameSize q_m_dataAt q_m_dataSize q_m_message q_m_endPlace q_m_endAt q_m_countsWritten _) g_994 g_8 g_991 g_992 g_993 ⟨by decide +kernel, by decide +kernel, show Option.map (fun d => d.parameters.length) (parseMethodDescriptor y_Mo_count.desc) = some 1 by decide +kernel⟩ ⟨by decide, by decide⟩ rfl rfl hP hD hS hA [29] [] rfl rfl (by decide) (by decide) (by decide) rfl rfl hl.1 (Nat.le_of_ble_eq_true rfl) rfl d_La_law_1105 ⟨by decide, by decide⟩ (fun v9 w9 H locs hq hP hD hS => ?_)
  obtain ⟨r6, x0, x1, x2, x3, x4, x5, x6, x7, x8, x9, x10, x11, x12, x13, x14, x15, rfl, hw9, hm⟩ := hq
  rw [hw9] at hP hD
  refine lv_icmp_eq (tgt := 1113) hx hb d_La_law_1108 (by decide) (fun c1 => ?_) (fun c1 => ?_)
  · exact law_tail C1 hS (lv_sub hl [0, 4] rfl) (by decide) (by decide)
  · exact absurd (by rw [hm.1]) c1
