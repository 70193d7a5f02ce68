/-! by program: the law -/
abbrev mL_law : ol_M := (cL_law, RL, "law", 12, 93, 12266, 4, some .boolean)
theorem tw_71 : Cond.classLink RL 7 RX10 ∈ ol_tb := ol_mem 71 (by decide +kernel) rfl
theorem tw_72 : Cond.instantiable RX10 18 ∈ ol_tb := ol_mem 72 (by decide +kernel) rfl
theorem tw_73 : Cond.methodLink RL 9 yX10_init ∈ ol_tb := ol_mem 73 (by decide +kernel) rfl
theorem tw_74 : Cond.instanceMethod yX10_init ∈ ol_tb := ol_mem 74 (by decide +kernel) rfl
theorem tw_75 : Cond.code yX10_init cX10_init 2 none ∈ ol_tb := ol_mem 75 (by decide +kernel) rfl
theorem hyX10_init : yX10_init.name = "<init>" ∧ Cond.instanceMethod yX10_init ∈ ol_tb ∧ Cond.code yX10_init cX10_init 2 none ∈ ol_tb ∧ Cond.initialized yX10_init.cls ∈ ol_tb ∧ yX10_init.cls ≠ "java/lang/invoke/MethodHandle" ∧ yX10_init.cls ≠ "java/lang/invoke/VarHandle" ∧ (parseMethodDescriptor yX10_init.desc).map (fun d => d.parameters.length) = some 0 := ⟨rfl, tw_74, tw_75, tw_52, by decide, by decide, by decide +kernel⟩
theorem tw_843 : Cond.classLink RL 10 RX11 ∈ ol_tb := ol_mem 843 (by decide +kernel) rfl
theorem tw_844 : Cond.instantiable RX11 42 ∈ ol_tb := ol_mem 844 (by decide +kernel) rfl
theorem tw_845 : Cond.methodLink RL 12 yX11_init ∈ ol_tb := ol_mem 845 (by decide +kernel) rfl
theorem tw_846 : Cond.instanceMethod yX11_init ∈ ol_tb := ol_mem 846 (by decide +kernel) rfl
theorem tw_847 : Cond.code yX11_init cX11_init 3 none ∈ ol_tb := ol_mem 847 (by decide +kernel) rfl
theorem hyX11_init : yX11_init.name = "<init>" ∧ Cond.instanceMethod yX11_init ∈ ol_tb ∧ Cond.code yX11_init cX11_init 3 none ∈ ol_tb ∧ Cond.initialized yX11_init.cls ∈ ol_tb ∧ yX11_init.cls ≠ "java/lang/invoke/MethodHandle" ∧ yX11_init.cls ≠ "java/lang/invoke/VarHandle" ∧ (parseMethodDescriptor yX11_init.desc).map (fun d => d.parameters.length) = some 0 := ⟨rfl, tw_846, tw_847, tw_63, by decide, by decide, by decide +kernel⟩
theorem tw_1227 : Cond.constantLong RL 13 4294967295 ∈ ol_tb := ol_mem 1227 (by decide +kernel) rfl
theorem tw_400 : Cond.methodLink RL 15 yX10_type ∈ ol_tb := ol_mem 400 (by decide +kernel) rfl
theorem tw_403 : Cond.code yX10_type cX10_type 5 (some .int) ∈ ol_tb := ol_mem 403 (by decide +kernel) rfl
theorem cwL_15 : ol_cw RL 15 yX10_type mX10_type 2 := ⟨tw_400, tw_403, tw_52, by decide, by decide, by decide +kernel⟩
theorem tw_401 : Cond.instanceMethod yX10_type ∈ ol_tb := ol_mem 401 (by decide +kernel) rfl
theorem tw_402 : Cond.selects RX10 yX10_type yX10_type ∈ ol_tb := ol_mem 402 (by decide +kernel) rfl
theorem tw_976 : Cond.methodLink RL 19 yX11_type ∈ ol_tb := ol_mem 976 (by decide +kernel) rfl
theorem tw_979 : Cond.code yX11_type cX11_type 5 (some .int) ∈ ol_tb := ol_mem 979 (by decide +kernel) rfl
theorem cwL_19 : ol_cw RL 19 yX11_type mX11_type 2 := ⟨tw_976, tw_979, tw_63, by decide, by decide, by decide +kernel⟩
theorem tw_977 : Cond.instanceMethod yX11_type ∈ ol_tb := ol_mem 977 (by decide +kernel) rfl
theorem tw_978 : Cond.selects RX11 yX11_type yX11_type ∈ ol_tb := ol_mem 978 (by decide +kernel) rfl
theorem tw_408 : Cond.methodLink RL 20 yX10_clear ∈ ol_tb := ol_mem 408 (by decide +kernel) rfl
theorem tw_411 : Cond.code yX10_clear cX10_clear 2 (some .int) ∈ ol_tb := ol_mem 411 (by decide +kernel) rfl
theorem cwL_20 : ol_cw RL 20 yX10_clear mX10_clear 0 := ⟨tw_408, tw_411, tw_52, by decide, by decide, by decide +kernel⟩
theorem tw_409 : Cond.instanceMethod yX10_clear ∈ ol_tb := ol_mem 409 (by decide +kernel) rfl
theorem tw_410 : Cond.selects RX10 yX10_clear yX10_clear ∈ ol_tb := ol_mem 410 (by decide +kernel) rfl
theorem tw_984 : Cond.methodLink RL 24 yX11_clear ∈ ol_tb := ol_mem 984 (by decide +kernel) rfl
theorem tw_987 : Cond.code yX11_clear cX11_clear 2 (some .int) ∈ ol_tb := ol_mem 987 (by decide +kernel) rfl
theorem cwL_24 : ol_cw RL 24 yX11_clear mX11_clear 0 := ⟨tw_984, tw_987, tw_63, by decide, by decide, by decide +kernel⟩
theorem tw_985 : Cond.instanceMethod yX11_clear ∈ ol_tb := ol_mem 985 (by decide +kernel) rfl
theorem tw_986 : Cond.selects RX11 yX11_clear yX11_clear ∈ ol_tb := ol_mem 986 (by decide +kernel) rfl
theorem tw_412 : Cond.methodLink RL 25 yX10_pattern ∈ ol_tb := ol_mem 412 (by decide +kernel) rfl
theorem tw_415 : Cond.code yX10_pattern cX10_pattern 3 (some .int) ∈ ol_tb := ol_mem 415 (by decide +kernel) rfl
theorem cwL_25 : ol_cw RL 25 yX10_pattern mX10_pattern 1 := ⟨tw_412, tw_415, tw_52, by decide, by decide, by decide +kernel⟩
theorem tw_413 : Cond.instanceMethod yX10_pattern ∈ ol_tb := ol_mem 413 (by decide +kernel) rfl
theorem tw_414 : Cond.selects RX10 yX10_pattern yX10_pattern ∈ ol_tb := ol_mem 414 (by decide +kernel) rfl
theorem tw_988 : Cond.methodLink RL 29 yX11_pattern ∈ ol_tb := ol_mem 988 (by decide +kernel) rfl
theorem tw_991 : Cond.code yX11_pattern cX11_pattern 4 (some .int) ∈ ol_tb := ol_mem 991 (by decide +kernel) rfl
theorem cwL_29 : ol_cw RL 29 yX11_pattern mX11_pattern 1 := ⟨tw_988, tw_991, tw_63, by decide, by decide, by decide +kernel⟩
theorem tw_989 : Cond.instanceMethod yX11_pattern ∈ ol_tb := ol_mem 989 (by decide +kernel) rfl
theorem tw_990 : Cond.selects RX11 yX11_pattern yX11_pattern ∈ ol_tb := ol_mem 990 (by decide +kernel) rfl
theorem tw_519 : Cond.methodLink RL 30 yX10_lay ∈ ol_tb := ol_mem 519 (by decide +kernel) rfl
theorem tw_522 : Cond.code yX10_lay cX10_lay 2 (some .int) ∈ ol_tb := ol_mem 522 (by decide +kernel) rfl
theorem cwL_30 : ol_cw RL 30 yX10_lay mX10_lay 1 := ⟨tw_519, tw_522, tw_52, by decide, by decide, by decide +kernel⟩
theorem tw_520 : Cond.instanceMethod yX10_lay ∈ ol_tb := ol_mem 520 (by decide +kernel) rfl
theorem tw_521 : Cond.selects RX10 yX10_lay yX10_lay ∈ ol_tb := ol_mem 521 (by decide +kernel) rfl
theorem tw_1017 : Cond.methodLink RL 33 yX11_lay ∈ ol_tb := ol_mem 1017 (by decide +kernel) rfl
theorem tw_1020 : Cond.code yX11_lay cX11_lay 2 (some .int) ∈ ol_tb := ol_mem 1020 (by decide +kernel) rfl
theorem cwL_33 : ol_cw RL 33 yX11_lay mX11_lay 1 := ⟨tw_1017, tw_1020, tw_63, by decide, by decide, by decide +kernel⟩
theorem tw_1018 : Cond.instanceMethod yX11_lay ∈ ol_tb := ol_mem 1018 (by decide +kernel) rfl
theorem tw_1019 : Cond.selects RX11 yX11_lay yX11_lay ∈ ol_tb := ol_mem 1019 (by decide +kernel) rfl
theorem tw_546 : Cond.methodLink RL 34 yX10_drops ∈ ol_tb := ol_mem 546 (by decide +kernel) rfl
theorem tw_549 : Cond.code yX10_drops cX10_drops 3 (some .int) ∈ ol_tb := ol_mem 549 (by decide +kernel) rfl
theorem cwL_34 : ol_cw RL 34 yX10_drops mX10_drops 2 := ⟨tw_546, tw_549, tw_52, by decide, by decide, by decide +kernel⟩
theorem tw_547 : Cond.instanceMethod yX10_drops ∈ ol_tb := ol_mem 547 (by decide +kernel) rfl
theorem tw_548 : Cond.selects RX10 yX10_drops yX10_drops ∈ ol_tb := ol_mem 548 (by decide +kernel) rfl
theorem tw_1029 : Cond.methodLink RL 38 yX11_drops ∈ ol_tb := ol_mem 1029 (by decide +kernel) rfl
theorem tw_1032 : Cond.code yX11_drops cX11_drops 3 (some .int) ∈ ol_tb := ol_mem 1032 (by decide +kernel) rfl
theorem cwL_38 : ol_cw RL 38 yX11_drops mX11_drops 2 := ⟨tw_1029, tw_1032, tw_63, by decide, by decide, by decide +kernel⟩
theorem tw_1030 : Cond.instanceMethod yX11_drops ∈ ol_tb := ol_mem 1030 (by decide +kernel) rfl
theorem tw_1031 : Cond.selects RX11 yX11_drops yX11_drops ∈ ol_tb := ol_mem 1031 (by decide +kernel) rfl
theorem tw_550 : Cond.methodLink RL 39 yX10_oil ∈ ol_tb := ol_mem 550 (by decide +kernel) rfl
theorem tw_553 : Cond.code yX10_oil cX10_oil 2 (some .int) ∈ ol_tb := ol_mem 553 (by decide +kernel) rfl
theorem cwL_39 : ol_cw RL 39 yX10_oil mX10_oil 1 := ⟨tw_550, tw_553, tw_52, by decide, by decide, by decide +kernel⟩
theorem tw_551 : Cond.instanceMethod yX10_oil ∈ ol_tb := ol_mem 551 (by decide +kernel) rfl
theorem tw_552 : Cond.selects RX10 yX10_oil yX10_oil ∈ ol_tb := ol_mem 552 (by decide +kernel) rfl
theorem tw_1033 : Cond.methodLink RL 42 yX11_oil ∈ ol_tb := ol_mem 1033 (by decide +kernel) rfl
theorem tw_1036 : Cond.code yX11_oil cX11_oil 4 (some .int) ∈ ol_tb := ol_mem 1036 (by decide +kernel) rfl
theorem cwL_42 : ol_cw RL 42 yX11_oil mX11_oil 1 := ⟨tw_1033, tw_1036, tw_63, by decide, by decide, by decide +kernel⟩
theorem tw_1034 : Cond.instanceMethod yX11_oil ∈ ol_tb := ol_mem 1034 (by decide +kernel) rfl
theorem tw_1035 : Cond.selects RX11 yX11_oil yX11_oil ∈ ol_tb := ol_mem 1035 (by decide +kernel) rfl
theorem tw_554 : Cond.methodLink RL 43 yX10_ball ∈ ol_tb := ol_mem 554 (by decide +kernel) rfl
theorem tw_557 : Cond.code yX10_ball cX10_ball 4 (some .int) ∈ ol_tb := ol_mem 557 (by decide +kernel) rfl
theorem cwL_43 : ol_cw RL 43 yX10_ball mX10_ball 3 := ⟨tw_554, tw_557, tw_52, by decide, by decide, by decide +kernel⟩
theorem tw_555 : Cond.instanceMethod yX10_ball ∈ ol_tb := ol_mem 555 (by decide +kernel) rfl
theorem tw_556 : Cond.selects RX10 yX10_ball yX10_ball ∈ ol_tb := ol_mem 556 (by decide +kernel) rfl
theorem tw_1037 : Cond.methodLink RL 47 yX11_ball ∈ ol_tb := ol_mem 1037 (by decide +kernel) rfl
theorem tw_1040 : Cond.code yX11_ball cX11_ball 5 (some .int) ∈ ol_tb := ol_mem 1040 (by decide +kernel) rfl
theorem cwL_47 : ol_cw RL 47 yX11_ball mX11_ball 3 := ⟨tw_1037, tw_1040, tw_63, by decide, by decide, by decide +kernel⟩
theorem tw_1038 : Cond.instanceMethod yX11_ball ∈ ol_tb := ol_mem 1038 (by decide +kernel) rfl
theorem tw_1039 : Cond.selects RX11 yX11_ball yX11_ball ∈ ol_tb := ol_mem 1039 (by decide +kernel) rfl
theorem tw_564 : Cond.methodLink RL 48 yX10_shot ∈ ol_tb := ol_mem 564 (by decide +kernel) rfl
theorem tw_567 : Cond.code yX10_shot cX10_shot 5 (some .int) ∈ ol_tb := ol_mem 567 (by decide +kernel) rfl
theorem cwL_48 : ol_cw RL 48 yX10_shot mX10_shot 4 := ⟨tw_564, tw_567, tw_52, by decide, by decide, by decide +kernel⟩
theorem tw_565 : Cond.instanceMethod yX10_shot ∈ ol_tb := ol_mem 565 (by decide +kernel) rfl
theorem tw_566 : Cond.selects RX10 yX10_shot yX10_shot ∈ ol_tb := ol_mem 566 (by decide +kernel) rfl
theorem tw_1056 : Cond.methodLink RL 52 yX11_shot ∈ ol_tb := ol_mem 1056 (by decide +kernel) rfl
theorem tw_1059 : Cond.code yX11_shot cX11_shot 5 (some .int) ∈ ol_tb := ol_mem 1059 (by decide +kernel) rfl
theorem cwL_52 : ol_cw RL 52 yX11_shot mX11_shot 4 := ⟨tw_1056, tw_1059, tw_63, by decide, by decide, by decide +kernel⟩
theorem tw_1057 : Cond.instanceMethod yX11_shot ∈ ol_tb := ol_mem 1057 (by decide +kernel) rfl
theorem tw_1058 : Cond.selects RX11 yX11_shot yX11_shot ∈ ol_tb := ol_mem 1058 (by decide +kernel) rfl
theorem tw_611 : Cond.methodLink RL 53 yX10_came ∈ ol_tb := ol_mem 611 (by decide +kernel) rfl
theorem tw_614 : Cond.code yX10_came cX10_came 2 (some .int) ∈ ol_tb := ol_mem 614 (by decide +kernel) rfl
theorem cwL_53 : ol_cw RL 53 yX10_came mX10_came 1 := ⟨tw_611, tw_614, tw_52, by decide, by decide, by decide +kernel⟩
theorem tw_612 : Cond.instanceMethod yX10_came ∈ ol_tb := ol_mem 612 (by decide +kernel) rfl
theorem tw_613 : Cond.selects RX10 yX10_came yX10_came ∈ ol_tb := ol_mem 613 (by decide +kernel) rfl
theorem tw_1082 : Cond.methodLink RL 56 yX11_came ∈ ol_tb := ol_mem 1082 (by decide +kernel) rfl
theorem tw_1085 : Cond.code yX11_came cX11_came 2 (some .int) ∈ ol_tb := ol_mem 1085 (by decide +kernel) rfl
theorem cwL_56 : ol_cw RL 56 yX11_came mX11_came 1 := ⟨tw_1082, tw_1085, tw_63, by decide, by decide, by decide +kernel⟩
theorem tw_1083 : Cond.instanceMethod yX11_came ∈ ol_tb := ol_mem 1083 (by decide +kernel) rfl
theorem tw_1084 : Cond.selects RX11 yX11_came yX11_came ∈ ol_tb := ol_mem 1084 (by decide +kernel) rfl
theorem tw_616 : Cond.methodLink RL 57 yX10_tried ∈ ol_tb := ol_mem 616 (by decide +kernel) rfl
theorem tw_619 : Cond.code yX10_tried cX10_tried 5 (some .int) ∈ ol_tb := ol_mem 619 (by decide +kernel) rfl
theorem cwL_57 : ol_cw RL 57 yX10_tried mX10_tried 4 := ⟨tw_616, tw_619, tw_52, by decide, by decide, by decide +kernel⟩
theorem tw_617 : Cond.instanceMethod yX10_tried ∈ ol_tb := ol_mem 617 (by decide +kernel) rfl
theorem tw_618 : Cond.selects RX10 yX10_tried yX10_tried ∈ ol_tb := ol_mem 618 (by decide +kernel) rfl
theorem tw_1087 : Cond.methodLink RL 60 yX11_tried ∈ ol_tb := ol_mem 1087 (by decide +kernel) rfl
theorem tw_1090 : Cond.code yX11_tried cX11_tried 5 (some .int) ∈ ol_tb := ol_mem 1090 (by decide +kernel) rfl
theorem cwL_60 : ol_cw RL 60 yX11_tried mX11_tried 4 := ⟨tw_1087, tw_1090, tw_63, by decide, by decide, by decide +kernel⟩
theorem tw_1088 : Cond.instanceMethod yX11_tried ∈ ol_tb := ol_mem 1088 (by decide +kernel) rfl
theorem tw_1089 : Cond.selects RX11 yX11_tried yX11_tried ∈ ol_tb := ol_mem 1089 (by decide +kernel) rfl
theorem tw_621 : Cond.methodLink RL 61 yX10_fall ∈ ol_tb := ol_mem 621 (by decide +kernel) rfl
theorem tw_624 : Cond.code yX10_fall cX10_fall 5 (some .int) ∈ ol_tb := ol_mem 624 (by decide +kernel) rfl
theorem cwL_61 : ol_cw RL 61 yX10_fall mX10_fall 4 := ⟨tw_621, tw_624, tw_52, by decide, by decide, by decide +kernel⟩
theorem tw_622 : Cond.instanceMethod yX10_fall ∈ ol_tb := ol_mem 622 (by decide +kernel) rfl
theorem tw_623 : Cond.selects RX10 yX10_fall yX10_fall ∈ ol_tb := ol_mem 623 (by decide +kernel) rfl
theorem tw_1044 : Cond.methodLink RL 64 yX11_fall ∈ ol_tb := ol_mem 1044 (by decide +kernel) rfl
theorem tw_1047 : Cond.code yX11_fall cX11_fall 5 (some .int) ∈ ol_tb := ol_mem 1047 (by decide +kernel) rfl
theorem cwL_64 : ol_cw RL 64 yX11_fall mX11_fall 4 := ⟨tw_1044, tw_1047, tw_63, by decide, by decide, by decide +kernel⟩
theorem tw_1045 : Cond.instanceMethod yX11_fall ∈ ol_tb := ol_mem 1045 (by decide +kernel) rfl
theorem tw_1046 : Cond.selects RX11 yX11_fall yX11_fall ∈ ol_tb := ol_mem 1046 (by decide +kernel) rfl
theorem tw_626 : Cond.methodLink RL 65 yX10_roll ∈ ol_tb := ol_mem 626 (by decide +kernel) rfl
theorem tw_629 : Cond.code yX10_roll cX10_roll 2 (some .int) ∈ ol_tb := ol_mem 629 (by decide +kernel) rfl
theorem cwL_65 : ol_cw RL 65 yX10_roll mX10_roll 1 := ⟨tw_626, tw_629, tw_52, by decide, by decide, by decide +kernel⟩
theorem tw_627 : Cond.instanceMethod yX10_roll ∈ ol_tb := ol_mem 627 (by decide +kernel) rfl
theorem tw_628 : Cond.selects RX10 yX10_roll yX10_roll ∈ ol_tb := ol_mem 628 (by decide +kernel) rfl
theorem tw_1095 : Cond.methodLink RL 68 yX11_roll ∈ ol_tb := ol_mem 1095 (by decide +kernel) rfl
theorem tw_1098 : Cond.code yX11_roll cX11_roll 2 (some .int) ∈ ol_tb := ol_mem 1098 (by decide +kernel) rfl
theorem cwL_68 : ol_cw RL 68 yX11_roll mX11_roll 1 := ⟨tw_1095, tw_1098, tw_63, by decide, by decide, by decide +kernel⟩
theorem tw_1096 : Cond.instanceMethod yX11_roll ∈ ol_tb := ol_mem 1096 (by decide +kernel) rfl
theorem tw_1097 : Cond.selects RX11 yX11_roll yX11_roll ∈ ol_tb := ol_mem 1097 (by decide +kernel) rfl
theorem tw_646 : Cond.methodLink RL 69 yX10_game ∈ ol_tb := ol_mem 646 (by decide +kernel) rfl
theorem tw_649 : Cond.code yX10_game cX10_game 2 (some .int) ∈ ol_tb := ol_mem 649 (by decide +kernel) rfl
theorem cwL_69 : ol_cw RL 69 yX10_game mX10_game 1 := ⟨tw_646, tw_649, tw_52, by decide, by decide, by decide +kernel⟩
theorem tw_647 : Cond.instanceMethod yX10_game ∈ ol_tb := ol_mem 647 (by decide +kernel) rfl
theorem tw_648 : Cond.selects RX10 yX10_game yX10_game ∈ ol_tb := ol_mem 648 (by decide +kernel) rfl
theorem tw_1107 : Cond.methodLink RL 72 yX11_game ∈ ol_tb := ol_mem 1107 (by decide +kernel) rfl
theorem tw_1110 : Cond.code yX11_game cX11_game 3 (some .int) ∈ ol_tb := ol_mem 1110 (by decide +kernel) rfl
theorem cwL_72 : ol_cw RL 72 yX11_game mX11_game 1 := ⟨tw_1107, tw_1110, tw_63, by decide, by decide, by decide +kernel⟩
theorem tw_1108 : Cond.instanceMethod yX11_game ∈ ol_tb := ol_mem 1108 (by decide +kernel) rfl
theorem tw_1109 : Cond.selects RX11 yX11_game yX11_game ∈ ol_tb := ol_mem 1109 (by decide +kernel) rfl
theorem tw_656 : Cond.methodLink RL 73 yX10_anew ∈ ol_tb := ol_mem 656 (by decide +kernel) rfl
theorem tw_659 : Cond.code yX10_anew cX10_anew 2 (some .int) ∈ ol_tb := ol_mem 659 (by decide +kernel) rfl
theorem cwL_73 : ol_cw RL 73 yX10_anew mX10_anew 0 := ⟨tw_656, tw_659, tw_52, by decide, by decide, by decide +kernel⟩
theorem tw_657 : Cond.instanceMethod yX10_anew ∈ ol_tb := ol_mem 657 (by decide +kernel) rfl
theorem tw_658 : Cond.selects RX10 yX10_anew yX10_anew ∈ ol_tb := ol_mem 658 (by decide +kernel) rfl
theorem tw_1111 : Cond.methodLink RL 76 yX11_anew ∈ ol_tb := ol_mem 1111 (by decide +kernel) rfl
theorem tw_1114 : Cond.code yX11_anew cX11_anew 2 (some .int) ∈ ol_tb := ol_mem 1114 (by decide +kernel) rfl
theorem cwL_76 : ol_cw RL 76 yX11_anew mX11_anew 0 := ⟨tw_1111, tw_1114, tw_63, by decide, by decide, by decide +kernel⟩
theorem tw_1112 : Cond.instanceMethod yX11_anew ∈ ol_tb := ol_mem 1112 (by decide +kernel) rfl
theorem tw_1113 : Cond.selects RX11 yX11_anew yX11_anew ∈ ol_tb := ol_mem 1113 (by decide +kernel) rfl
theorem tw_660 : Cond.methodLink RL 77 yX10_scatter ∈ ol_tb := ol_mem 660 (by decide +kernel) rfl
theorem tw_663 : Cond.code yX10_scatter cX10_scatter 7 (some .int) ∈ ol_tb := ol_mem 663 (by decide +kernel) rfl
theorem cwL_77 : ol_cw RL 77 yX10_scatter mX10_scatter 4 := ⟨tw_660, tw_663, tw_52, by decide, by decide, by decide +kernel⟩
theorem tw_661 : Cond.instanceMethod yX10_scatter ∈ ol_tb := ol_mem 661 (by decide +kernel) rfl
theorem tw_662 : Cond.selects RX10 yX10_scatter yX10_scatter ∈ ol_tb := ol_mem 662 (by decide +kernel) rfl
theorem tw_1115 : Cond.methodLink RL 80 yX11_scatter ∈ ol_tb := ol_mem 1115 (by decide +kernel) rfl
theorem tw_1118 : Cond.code yX11_scatter cX11_scatter 5 (some .int) ∈ ol_tb := ol_mem 1118 (by decide +kernel) rfl
theorem cwL_80 : ol_cw RL 80 yX11_scatter mX11_scatter 4 := ⟨tw_1115, tw_1118, tw_63, by decide, by decide, by decide +kernel⟩
theorem tw_1116 : Cond.instanceMethod yX11_scatter ∈ ol_tb := ol_mem 1116 (by decide +kernel) rfl
theorem tw_1117 : Cond.selects RX11 yX11_scatter yX11_scatter ∈ ol_tb := ol_mem 1117 (by decide +kernel) rfl
theorem tw_664 : Cond.methodLink RL 81 yX10_mean ∈ ol_tb := ol_mem 664 (by decide +kernel) rfl
theorem tw_667 : Cond.code yX10_mean cX10_mean 6 (some .int) ∈ ol_tb := ol_mem 667 (by decide +kernel) rfl
theorem cwL_81 : ol_cw RL 81 yX10_mean mX10_mean 5 := ⟨tw_664, tw_667, tw_52, by decide, by decide, by decide +kernel⟩
theorem tw_665 : Cond.instanceMethod yX10_mean ∈ ol_tb := ol_mem 665 (by decide +kernel) rfl
theorem tw_666 : Cond.selects RX10 yX10_mean yX10_mean ∈ ol_tb := ol_mem 666 (by decide +kernel) rfl
theorem tw_1122 : Cond.methodLink RL 85 yX11_mean ∈ ol_tb := ol_mem 1122 (by decide +kernel) rfl
theorem tw_1125 : Cond.code yX11_mean cX11_mean 6 (some .int) ∈ ol_tb := ol_mem 1125 (by decide +kernel) rfl
theorem cwL_85 : ol_cw RL 85 yX11_mean mX11_mean 5 := ⟨tw_1122, tw_1125, tw_63, by decide, by decide, by decide +kernel⟩
theorem tw_1123 : Cond.instanceMethod yX11_mean ∈ ol_tb := ol_mem 1123 (by decide +kernel) rfl
theorem tw_1124 : Cond.selects RX11 yX11_mean yX11_mean ∈ ol_tb := ol_mem 1124 (by decide +kernel) rfl
theorem tw_674 : Cond.methodLink RL 86 yX10_best ∈ ol_tb := ol_mem 674 (by decide +kernel) rfl
theorem tw_677 : Cond.code yX10_best cX10_best 4 (some .int) ∈ ol_tb := ol_mem 677 (by decide +kernel) rfl
theorem cwL_86 : ol_cw RL 86 yX10_best mX10_best 3 := ⟨tw_674, tw_677, tw_52, by decide, by decide, by decide +kernel⟩
theorem tw_675 : Cond.instanceMethod yX10_best ∈ ol_tb := ol_mem 675 (by decide +kernel) rfl
theorem tw_676 : Cond.selects RX10 yX10_best yX10_best ∈ ol_tb := ol_mem 676 (by decide +kernel) rfl
theorem tw_1134 : Cond.methodLink RL 89 yX11_best ∈ ol_tb := ol_mem 1134 (by decide +kernel) rfl
theorem tw_1137 : Cond.code yX11_best cX11_best 12 (some .int) ∈ ol_tb := ol_mem 1137 (by decide +kernel) rfl
theorem cwL_89 : ol_cw RL 89 yX11_best mX11_best 3 := ⟨tw_1134, tw_1137, tw_63, by decide, by decide, by decide +kernel⟩
theorem tw_1135 : Cond.instanceMethod yX11_best ∈ ol_tb := ol_mem 1135 (by decide +kernel) rfl
theorem tw_1136 : Cond.selects RX11 yX11_best yX11_best ∈ ol_tb := ol_mem 1136 (by decide +kernel) rfl
theorem tw_694 : Cond.methodLink RL 90 yX10_thrower ∈ ol_tb := ol_mem 694 (by decide +kernel) rfl
theorem tw_697 : Cond.code yX10_thrower cX10_thrower 6 (some .int) ∈ ol_tb := ol_mem 697 (by decide +kernel) rfl
theorem cwL_90 : ol_cw RL 90 yX10_thrower mX10_thrower 5 := ⟨tw_694, tw_697, tw_52, by decide, by decide, by decide +kernel⟩
theorem tw_695 : Cond.instanceMethod yX10_thrower ∈ ol_tb := ol_mem 695 (by decide +kernel) rfl
theorem tw_696 : Cond.selects RX10 yX10_thrower yX10_thrower ∈ ol_tb := ol_mem 696 (by decide +kernel) rfl
theorem tw_1138 : Cond.methodLink RL 93 yX11_thrower ∈ ol_tb := ol_mem 1138 (by decide +kernel) rfl
theorem tw_1141 : Cond.code yX11_thrower cX11_thrower 7 (some .int) ∈ ol_tb := ol_mem 1141 (by decide +kernel) rfl
theorem cwL_93 : ol_cw RL 93 yX11_thrower mX11_thrower 5 := ⟨tw_1138, tw_1141, tw_63, by decide, by decide, by decide +kernel⟩
theorem tw_1139 : Cond.instanceMethod yX11_thrower ∈ ol_tb := ol_mem 1139 (by decide +kernel) rfl
theorem tw_1140 : Cond.selects RX11 yX11_thrower yX11_thrower ∈ ol_tb := ol_mem 1140 (by decide +kernel) rfl
theorem tw_702 : Cond.methodLink RL 94 yX10_stands ∈ ol_tb := ol_mem 702 (by decide +kernel) rfl
theorem tw_705 : Cond.code yX10_stands cX10_stands 4 (some .int) ∈ ol_tb := ol_mem 705 (by decide +kernel) rfl
theorem cwL_94 : ol_cw RL 94 yX10_stands mX10_stands 2 := ⟨tw_702, tw_705, tw_52, by decide, by decide, by decide +kernel⟩
theorem tw_703 : Cond.instanceMethod yX10_stands ∈ ol_tb := ol_mem 703 (by decide +kernel) rfl
theorem tw_704 : Cond.selects RX10 yX10_stands yX10_stands ∈ ol_tb := ol_mem 704 (by decide +kernel) rfl
theorem tw_1142 : Cond.methodLink RL 97 yX11_stands ∈ ol_tb := ol_mem 1142 (by decide +kernel) rfl
theorem tw_1145 : Cond.code yX11_stands cX11_stands 3 (some .int) ∈ ol_tb := ol_mem 1145 (by decide +kernel) rfl
theorem cwL_97 : ol_cw RL 97 yX11_stands mX11_stands 2 := ⟨tw_1142, tw_1145, tw_63, by decide, by decide, by decide +kernel⟩
theorem tw_1143 : Cond.instanceMethod yX11_stands ∈ ol_tb := ol_mem 1143 (by decide +kernel) rfl
theorem tw_1144 : Cond.selects RX11 yX11_stands yX11_stands ∈ ol_tb := ol_mem 1144 (by decide +kernel) rfl
theorem tw_706 : Cond.methodLink RL 98 yX10_evening ∈ ol_tb := ol_mem 706 (by decide +kernel) rfl
theorem tw_709 : Cond.code yX10_evening cX10_evening 2 (some .int) ∈ ol_tb := ol_mem 709 (by decide +kernel) rfl
theorem cwL_98 : ol_cw RL 98 yX10_evening mX10_evening 1 := ⟨tw_706, tw_709, tw_52, by decide, by decide, by decide +kernel⟩
theorem tw_707 : Cond.instanceMethod yX10_evening ∈ ol_tb := ol_mem 707 (by decide +kernel) rfl
theorem tw_708 : Cond.selects RX10 yX10_evening yX10_evening ∈ ol_tb := ol_mem 708 (by decide +kernel) rfl
theorem tw_1146 : Cond.methodLink RL 101 yX11_evening ∈ ol_tb := ol_mem 1146 (by decide +kernel) rfl
theorem tw_1149 : Cond.code yX11_evening cX11_evening 6 (some .int) ∈ ol_tb := ol_mem 1149 (by decide +kernel) rfl
theorem cwL_101 : ol_cw RL 101 yX11_evening mX11_evening 1 := ⟨tw_1146, tw_1149, tw_63, by decide, by decide, by decide +kernel⟩
theorem tw_1147 : Cond.instanceMethod yX11_evening ∈ ol_tb := ol_mem 1147 (by decide +kernel) rfl
theorem tw_1148 : Cond.selects RX11 yX11_evening yX11_evening ∈ ol_tb := ol_mem 1148 (by decide +kernel) rfl
theorem tw_733 : Cond.methodLink RL 102 yX10_would ∈ ol_tb := ol_mem 733 (by decide +kernel) rfl
theorem tw_736 : Cond.code yX10_would cX10_would 4 (some .int) ∈ ol_tb := ol_mem 736 (by decide +kernel) rfl
theorem cwL_102 : ol_cw RL 102 yX10_would mX10_would 2 := ⟨tw_733, tw_736, tw_52, by decide, by decide, by decide +kernel⟩
theorem tw_734 : Cond.instanceMethod yX10_would ∈ ol_tb := ol_mem 734 (by decide +kernel) rfl
theorem tw_735 : Cond.selects RX10 yX10_would yX10_would ∈ ol_tb := ol_mem 735 (by decide +kernel) rfl
theorem tw_1158 : Cond.methodLink RL 105 yX11_would ∈ ol_tb := ol_mem 1158 (by decide +kernel) rfl
theorem tw_1161 : Cond.code yX11_would cX11_would 4 (some .int) ∈ ol_tb := ol_mem 1161 (by decide +kernel) rfl
theorem cwL_105 : ol_cw RL 105 yX11_would mX11_would 2 := ⟨tw_1158, tw_1161, tw_63, by decide, by decide, by decide +kernel⟩
theorem tw_1159 : Cond.instanceMethod yX11_would ∈ ol_tb := ol_mem 1159 (by decide +kernel) rfl
theorem tw_1160 : Cond.selects RX11 yX11_would yX11_would ∈ ol_tb := ol_mem 1160 (by decide +kernel) rfl
theorem tw_755 : Cond.methodLink RL 106 yX10_order ∈ ol_tb := ol_mem 755 (by decide +kernel) rfl
theorem tw_758 : Cond.code yX10_order cX10_order 8 (some .int) ∈ ol_tb := ol_mem 758 (by decide +kernel) rfl
theorem cwL_106 : ol_cw RL 106 yX10_order mX10_order 2 := ⟨tw_755, tw_758, tw_52, by decide, by decide, by decide +kernel⟩
theorem tw_756 : Cond.instanceMethod yX10_order ∈ ol_tb := ol_mem 756 (by decide +kernel) rfl
theorem tw_757 : Cond.selects RX10 yX10_order yX10_order ∈ ol_tb := ol_mem 757 (by decide +kernel) rfl
theorem tw_1174 : Cond.methodLink RL 109 yX11_order ∈ ol_tb := ol_mem 1174 (by decide +kernel) rfl
theorem tw_1177 : Cond.code yX11_order cX11_order 7 (some .int) ∈ ol_tb := ol_mem 1177 (by decide +kernel) rfl
theorem cwL_109 : ol_cw RL 109 yX11_order mX11_order 2 := ⟨tw_1174, tw_1177, tw_63, by decide, by decide, by decide +kernel⟩
theorem tw_1175 : Cond.instanceMethod yX11_order ∈ ol_tb := ol_mem 1175 (by decide +kernel) rfl
theorem tw_1176 : Cond.selects RX11 yX11_order yX11_order ∈ ol_tb := ol_mem 1176 (by decide +kernel) rfl
theorem tw_771 : Cond.methodLink RL 110 yX10_clue ∈ ol_tb := ol_mem 771 (by decide +kernel) rfl
theorem tw_774 : Cond.code yX10_clue cX10_clue 7 (some .int) ∈ ol_tb := ol_mem 774 (by decide +kernel) rfl
theorem cwL_110 : ol_cw RL 110 yX10_clue mX10_clue 5 := ⟨tw_771, tw_774, tw_52, by decide, by decide, by decide +kernel⟩
theorem tw_772 : Cond.instanceMethod yX10_clue ∈ ol_tb := ol_mem 772 (by decide +kernel) rfl
theorem tw_773 : Cond.selects RX10 yX10_clue yX10_clue ∈ ol_tb := ol_mem 773 (by decide +kernel) rfl
theorem tw_1182 : Cond.methodLink RL 113 yX11_clue ∈ ol_tb := ol_mem 1182 (by decide +kernel) rfl
theorem tw_1185 : Cond.code yX11_clue cX11_clue 7 (some .int) ∈ ol_tb := ol_mem 1185 (by decide +kernel) rfl
theorem cwL_113 : ol_cw RL 113 yX11_clue mX11_clue 5 := ⟨tw_1182, tw_1185, tw_63, by decide, by decide, by decide +kernel⟩
theorem tw_1183 : Cond.instanceMethod yX11_clue ∈ ol_tb := ol_mem 1183 (by decide +kernel) rfl
theorem tw_1184 : Cond.selects RX11 yX11_clue yX11_clue ∈ ol_tb := ol_mem 1184 (by decide +kernel) rfl
theorem tw_775 : Cond.methodLink RL 114 yX10_fits ∈ ol_tb := ol_mem 775 (by decide +kernel) rfl
theorem tw_778 : Cond.code yX10_fits cX10_fits 3 (some .int) ∈ ol_tb := ol_mem 778 (by decide +kernel) rfl
theorem cwL_114 : ol_cw RL 114 yX10_fits mX10_fits 0 := ⟨tw_775, tw_778, tw_52, by decide, by decide, by decide +kernel⟩
theorem tw_776 : Cond.instanceMethod yX10_fits ∈ ol_tb := ol_mem 776 (by decide +kernel) rfl
theorem tw_777 : Cond.selects RX10 yX10_fits yX10_fits ∈ ol_tb := ol_mem 777 (by decide +kernel) rfl
theorem tw_1186 : Cond.methodLink RL 117 yX11_fits ∈ ol_tb := ol_mem 1186 (by decide +kernel) rfl
theorem tw_1189 : Cond.code yX11_fits cX11_fits 6 (some .int) ∈ ol_tb := ol_mem 1189 (by decide +kernel) rfl
theorem cwL_117 : ol_cw RL 117 yX11_fits mX11_fits 0 := ⟨tw_1186, tw_1189, tw_63, by decide, by decide, by decide +kernel⟩
theorem tw_1187 : Cond.instanceMethod yX11_fits ∈ ol_tb := ol_mem 1187 (by decide +kernel) rfl
theorem tw_1188 : Cond.selects RX11 yX11_fits yX11_fits ∈ ol_tb := ol_mem 1188 (by decide +kernel) rfl
theorem tw_783 : Cond.methodLink RL 118 yX10_trunk ∈ ol_tb := ol_mem 783 (by decide +kernel) rfl
theorem tw_786 : Cond.code yX10_trunk cX10_trunk 7 (some .int) ∈ ol_tb := ol_mem 786 (by decide +kernel) rfl
theorem cwL_118 : ol_cw RL 118 yX10_trunk mX10_trunk 3 := ⟨tw_783, tw_786, tw_52, by decide, by decide, by decide +kernel⟩
theorem tw_784 : Cond.instanceMethod yX10_trunk ∈ ol_tb := ol_mem 784 (by decide +kernel) rfl
theorem tw_785 : Cond.selects RX10 yX10_trunk yX10_trunk ∈ ol_tb := ol_mem 785 (by decide +kernel) rfl
theorem tw_1190 : Cond.methodLink RL 121 yX11_trunk ∈ ol_tb := ol_mem 1190 (by decide +kernel) rfl
theorem tw_1193 : Cond.code yX11_trunk cX11_trunk 11 (some .int) ∈ ol_tb := ol_mem 1193 (by decide +kernel) rfl
theorem cwL_121 : ol_cw RL 121 yX11_trunk mX11_trunk 3 := ⟨tw_1190, tw_1193, tw_63, by decide, by decide, by decide +kernel⟩
theorem tw_1191 : Cond.instanceMethod yX11_trunk ∈ ol_tb := ol_mem 1191 (by decide +kernel) rfl
theorem tw_1192 : Cond.selects RX11 yX11_trunk yX11_trunk ∈ ol_tb := ol_mem 1192 (by decide +kernel) rfl
theorem tw_803 : Cond.methodLink RL 122 yX10_spare ∈ ol_tb := ol_mem 803 (by decide +kernel) rfl
theorem tw_806 : Cond.code yX10_spare cX10_spare 4 (some .int) ∈ ol_tb := ol_mem 806 (by decide +kernel) rfl
theorem cwL_122 : ol_cw RL 122 yX10_spare mX10_spare 3 := ⟨tw_803, tw_806, tw_52, by decide, by decide, by decide +kernel⟩
theorem tw_804 : Cond.instanceMethod yX10_spare ∈ ol_tb := ol_mem 804 (by decide +kernel) rfl
theorem tw_805 : Cond.selects RX10 yX10_spare yX10_spare ∈ ol_tb := ol_mem 805 (by decide +kernel) rfl
theorem tw_1198 : Cond.methodLink RL 125 yX11_spare ∈ ol_tb := ol_mem 1198 (by decide +kernel) rfl
theorem tw_1201 : Cond.code yX11_spare cX11_spare 10 (some .int) ∈ ol_tb := ol_mem 1201 (by decide +kernel) rfl
theorem cwL_125 : ol_cw RL 125 yX11_spare mX11_spare 3 := ⟨tw_1198, tw_1201, tw_63, by decide, by decide, by decide +kernel⟩
theorem tw_1199 : Cond.instanceMethod yX11_spare ∈ ol_tb := ol_mem 1199 (by decide +kernel) rfl
theorem tw_1200 : Cond.selects RX11 yX11_spare yX11_spare ∈ ol_tb := ol_mem 1200 (by decide +kernel) rfl
theorem tw_811 : Cond.methodLink RL 126 yX10_worth ∈ ol_tb := ol_mem 811 (by decide +kernel) rfl
theorem tw_814 : Cond.code yX10_worth cX10_worth 2 (some .int) ∈ ol_tb := ol_mem 814 (by decide +kernel) rfl
theorem cwL_126 : ol_cw RL 126 yX10_worth mX10_worth 1 := ⟨tw_811, tw_814, tw_52, by decide, by decide, by decide +kernel⟩
theorem tw_812 : Cond.instanceMethod yX10_worth ∈ ol_tb := ol_mem 812 (by decide +kernel) rfl
theorem tw_813 : Cond.selects RX10 yX10_worth yX10_worth ∈ ol_tb := ol_mem 813 (by decide +kernel) rfl
theorem tw_1202 : Cond.methodLink RL 129 yX11_worth ∈ ol_tb := ol_mem 1202 (by decide +kernel) rfl
theorem tw_1205 : Cond.code yX11_worth cX11_worth 3 (some .int) ∈ ol_tb := ol_mem 1205 (by decide +kernel) rfl
theorem cwL_129 : ol_cw RL 129 yX11_worth mX11_worth 1 := ⟨tw_1202, tw_1205, tw_63, by decide, by decide, by decide +kernel⟩
theorem tw_1203 : Cond.instanceMethod yX11_worth ∈ ol_tb := ol_mem 1203 (by decide +kernel) rfl
theorem tw_1204 : Cond.selects RX11 yX11_worth yX11_worth ∈ ol_tb := ol_mem 1204 (by decide +kernel) rfl
theorem tw_823 : Cond.methodLink RL 130 yX10_keep ∈ ol_tb := ol_mem 823 (by decide +kernel) rfl
theorem tw_826 : Cond.code yX10_keep cX10_keep 2 (some .int) ∈ ol_tb := ol_mem 826 (by decide +kernel) rfl
theorem cwL_130 : ol_cw RL 130 yX10_keep mX10_keep 1 := ⟨tw_823, tw_826, tw_52, by decide, by decide, by decide +kernel⟩
theorem tw_824 : Cond.instanceMethod yX10_keep ∈ ol_tb := ol_mem 824 (by decide +kernel) rfl
theorem tw_825 : Cond.selects RX10 yX10_keep yX10_keep ∈ ol_tb := ol_mem 825 (by decide +kernel) rfl
theorem tw_1211 : Cond.methodLink RL 133 yX11_keep ∈ ol_tb := ol_mem 1211 (by decide +kernel) rfl
theorem tw_1214 : Cond.code yX11_keep cX11_keep 2 (some .int) ∈ ol_tb := ol_mem 1214 (by decide +kernel) rfl
theorem cwL_133 : ol_cw RL 133 yX11_keep mX11_keep 1 := ⟨tw_1211, tw_1214, tw_63, by decide, by decide, by decide +kernel⟩
theorem tw_1212 : Cond.instanceMethod yX11_keep ∈ ol_tb := ol_mem 1212 (by decide +kernel) rfl
theorem tw_1213 : Cond.selects RX11 yX11_keep yX11_keep ∈ ol_tb := ol_mem 1213 (by decide +kernel) rfl
theorem tw_827 : Cond.methodLink RL 134 yX10_back ∈ ol_tb := ol_mem 827 (by decide +kernel) rfl
theorem tw_830 : Cond.code yX10_back cX10_back 2 (some .int) ∈ ol_tb := ol_mem 830 (by decide +kernel) rfl
theorem cwL_134 : ol_cw RL 134 yX10_back mX10_back 1 := ⟨tw_827, tw_830, tw_52, by decide, by decide, by decide +kernel⟩
theorem tw_828 : Cond.instanceMethod yX10_back ∈ ol_tb := ol_mem 828 (by decide +kernel) rfl
theorem tw_829 : Cond.selects RX10 yX10_back yX10_back ∈ ol_tb := ol_mem 829 (by decide +kernel) rfl
theorem tw_1215 : Cond.methodLink RL 137 yX11_back ∈ ol_tb := ol_mem 1215 (by decide +kernel) rfl
theorem tw_1218 : Cond.code yX11_back cX11_back 2 (some .int) ∈ ol_tb := ol_mem 1218 (by decide +kernel) rfl
theorem cwL_137 : ol_cw RL 137 yX11_back mX11_back 1 := ⟨tw_1215, tw_1218, tw_63, by decide, by decide, by decide +kernel⟩
theorem tw_1216 : Cond.instanceMethod yX11_back ∈ ol_tb := ol_mem 1216 (by decide +kernel) rfl
theorem tw_1217 : Cond.selects RX11 yX11_back yX11_back ∈ ol_tb := ol_mem 1217 (by decide +kernel) rfl
theorem tw_831 : Cond.methodLink RL 138 yX10_count ∈ ol_tb := ol_mem 831 (by decide +kernel) rfl
theorem tw_834 : Cond.code yX10_count cX10_count 2 (some .int) ∈ ol_tb := ol_mem 834 (by decide +kernel) rfl
theorem cwL_138 : ol_cw RL 138 yX10_count mX10_count 1 := ⟨tw_831, tw_834, tw_52, by decide, by decide, by decide +kernel⟩
theorem tw_832 : Cond.instanceMethod yX10_count ∈ ol_tb := ol_mem 832 (by decide +kernel) rfl
theorem tw_833 : Cond.selects RX10 yX10_count yX10_count ∈ ol_tb := ol_mem 833 (by decide +kernel) rfl
theorem tw_1219 : Cond.methodLink RL 141 yX11_count ∈ ol_tb := ol_mem 1219 (by decide +kernel) rfl
theorem tw_1222 : Cond.code yX11_count cX11_count 2 (some .int) ∈ ol_tb := ol_mem 1222 (by decide +kernel) rfl
theorem cwL_141 : ol_cw RL 141 yX11_count mX11_count 1 := ⟨tw_1219, tw_1222, tw_63, by decide, by decide, by decide +kernel⟩
theorem tw_1220 : Cond.instanceMethod yX11_count ∈ ol_tb := ol_mem 1220 (by decide +kernel) rfl
theorem tw_1221 : Cond.selects RX11 yX11_count yX11_count ∈ ol_tb := ol_mem 1221 (by decide +kernel) rfl
theorem tw_839 : Cond.methodLink RL 142 yX10_trace ∈ ol_tb := ol_mem 839 (by decide +kernel) rfl
theorem tw_842 : Cond.code yX10_trace cX10_trace 1 (some .long) ∈ ol_tb := ol_mem 842 (by decide +kernel) rfl
theorem cwL_142 : ol_cw RL 142 yX10_trace mX10_trace 0 := ⟨tw_839, tw_842, tw_52, by decide, by decide, by decide +kernel⟩
theorem tw_840 : Cond.instanceMethod yX10_trace ∈ ol_tb := ol_mem 840 (by decide +kernel) rfl
theorem tw_841 : Cond.selects RX10 yX10_trace yX10_trace ∈ ol_tb := ol_mem 841 (by decide +kernel) rfl
theorem tw_1223 : Cond.methodLink RL 146 yX11_trace ∈ ol_tb := ol_mem 1223 (by decide +kernel) rfl
theorem tw_1226 : Cond.code yX11_trace cX11_trace 1 (some .long) ∈ ol_tb := ol_mem 1226 (by decide +kernel) rfl
theorem cwL_146 : ol_cw RL 146 yX11_trace mX11_trace 0 := ⟨tw_1223, tw_1226, tw_63, by decide, by decide, by decide +kernel⟩
theorem tw_1224 : Cond.instanceMethod yX11_trace ∈ ol_tb := ol_mem 1224 (by decide +kernel) rfl
theorem tw_1225 : Cond.selects RX11 yX11_trace yX11_trace ∈ ol_tb := ol_mem 1225 (by decide +kernel) rfl
theorem dL_law_0 : decode cL_law 0 = .ok (.new 7, 3) := by decide +kernel
theorem dL_law_3 : decode cL_law 3 = .ok (.dup, 1) := by decide +kernel
theorem dL_law_4 : decode cL_law 4 = .ok (.invokespecial 9, 3) := by decide +kernel
theorem dL_law_7 : decode cL_law 7 = .ok (.astore_n 1, 1) := by decide +kernel
theorem dL_law_8 : decode cL_law 8 = .ok (.new 10, 3) := by decide +kernel
theorem dL_law_11 : decode cL_law 11 = .ok (.dup, 1) := by decide +kernel
theorem dL_law_12 : decode cL_law 12 = .ok (.invokespecial 12, 3) := by decide +kernel
theorem dL_law_15 : decode cL_law 15 = .ok (.astore_n 2, 1) := by decide +kernel
theorem dL_law_16 : decode cL_law 16 = .ok (.iconst 0, 1) := by decide +kernel
theorem dL_law_17 : decode cL_law 17 = .ok (.istore_n 3, 1) := by decide +kernel
theorem dL_law_18 : decode cL_law 18 = .ok (.iload_n 3, 1) := by decide +kernel
theorem dL_law_19 : decode cL_law 19 = .ok (.aload_n 0, 1) := by decide +kernel
theorem dL_law_20 : decode cL_law 20 = .ok (.arraylength, 1) := by decide +kernel
theorem dL_law_21 : decode cL_law 21 = .ok (.bipush 6, 2) := by decide +kernel
theorem dL_law_23 : decode cL_law 23 = .ok (.isub, 1) := by decide +kernel
theorem dL_law_24 : decode cL_law 24 = .ok (.if_icmp .gt 1228, 3) := by decide +kernel
theorem dL_law_27 : decode cL_law 27 = .ok (.aload_n 0, 1) := by decide +kernel
theorem dL_law_28 : decode cL_law 28 = .ok (.iload_n 3, 1) := by decide +kernel
theorem dL_law_29 : decode cL_law 29 = .ok (.iaload, 1) := by decide +kernel
theorem dL_law_30 : decode cL_law 30 = .ok (.bipush 31, 2) := by decide +kernel
theorem dL_law_32 : decode cL_law 32 = .ok (.iand, 1) := by decide +kernel
theorem dL_law_33 : decode cL_law 33 = .ok (.tableswitch 1213 0 30 #[139, 202, 215, 238, 261, 294, 317, 360, 413, 436, 489, 542, 565, 588, 601, 654, 717, 760, 823, 856, 879, 912, 945, 1008, 1021, 1064, 1107, 1130, 1153, 1176, 1199], 139) := by decide +kernel
theorem dL_law_172 : decode cL_law 172 = .ok (.aload_n 1, 1) := by decide +kernel
theorem dL_law_173 : decode cL_law 173 = .ok (.aload_n 0, 1) := by decide +kernel
theorem dL_law_174 : decode cL_law 174 = .ok (.iload_n 3, 1) := by decide +kernel
theorem dL_law_175 : decode cL_law 175 = .ok (.iconst 1, 1) := by decide +kernel
theorem dL_law_176 : decode cL_law 176 = .ok (.iadd, 1) := by decide +kernel
theorem dL_law_177 : decode cL_law 177 = .ok (.iaload, 1) := by decide +kernel
theorem dL_law_178 : decode cL_law 178 = .ok (.i2l, 1) := by decide +kernel
theorem dL_law_179 : decode cL_law 179 = .ok (.bipush 32, 2) := by decide +kernel
theorem dL_law_181 : decode cL_law 181 = .ok (.lshl, 1) := by decide +kernel
theorem dL_law_182 : decode cL_law 182 = .ok (.aload_n 0, 1) := by decide +kernel
theorem dL_law_183 : decode cL_law 183 = .ok (.iload_n 3, 1) := by decide +kernel
theorem dL_law_184 : decode cL_law 184 = .ok (.iconst 2, 1) := by decide +kernel
theorem dL_law_185 : decode cL_law 185 = .ok (.iadd, 1) := by decide +kernel
theorem dL_law_186 : decode cL_law 186 = .ok (.iaload, 1) := by decide +kernel
theorem dL_law_187 : decode cL_law 187 = .ok (.i2l, 1) := by decide +kernel
theorem dL_law_188 : decode cL_law 188 = .ok (.ldc2_w 13, 3) := by decide +kernel
theorem dL_law_191 : decode cL_law 191 = .ok (.land, 1) := by decide +kernel
theorem dL_law_192 : decode cL_law 192 = .ok (.lor, 1) := by decide +kernel
theorem dL_law_193 : decode cL_law 193 = .ok (.aload_n 0, 1) := by decide +kernel
theorem dL_law_194 : decode cL_law 194 = .ok (.iload_n 3, 1) := by decide +kernel
theorem dL_law_195 : decode cL_law 195 = .ok (.iconst 3, 1) := by decide +kernel
theorem dL_law_196 : decode cL_law 196 = .ok (.iadd, 1) := by decide +kernel
theorem dL_law_197 : decode cL_law 197 = .ok (.iaload, 1) := by decide +kernel
theorem dL_law_198 : decode cL_law 198 = .ok (.invokevirtual 15, 3) := by decide +kernel
theorem dL_law_201 : decode cL_law 201 = .ok (.aload_n 2, 1) := by decide +kernel
theorem dL_law_202 : decode cL_law 202 = .ok (.aload_n 0, 1) := by decide +kernel
theorem dL_law_203 : decode cL_law 203 = .ok (.iload_n 3, 1) := by decide +kernel
theorem dL_law_204 : decode cL_law 204 = .ok (.iconst 1, 1) := by decide +kernel
theorem dL_law_205 : decode cL_law 205 = .ok (.iadd, 1) := by decide +kernel
theorem dL_law_206 : decode cL_law 206 = .ok (.iaload, 1) := by decide +kernel
theorem dL_law_207 : decode cL_law 207 = .ok (.i2l, 1) := by decide +kernel
theorem dL_law_208 : decode cL_law 208 = .ok (.bipush 32, 2) := by decide +kernel
theorem dL_law_210 : decode cL_law 210 = .ok (.lshl, 1) := by decide +kernel
theorem dL_law_211 : decode cL_law 211 = .ok (.aload_n 0, 1) := by decide +kernel
theorem dL_law_212 : decode cL_law 212 = .ok (.iload_n 3, 1) := by decide +kernel
theorem dL_law_213 : decode cL_law 213 = .ok (.iconst 2, 1) := by decide +kernel
theorem dL_law_214 : decode cL_law 214 = .ok (.iadd, 1) := by decide +kernel
theorem dL_law_215 : decode cL_law 215 = .ok (.iaload, 1) := by decide +kernel
theorem dL_law_216 : decode cL_law 216 = .ok (.i2l, 1) := by decide +kernel
theorem dL_law_217 : decode cL_law 217 = .ok (.ldc2_w 13, 3) := by decide +kernel
theorem dL_law_220 : decode cL_law 220 = .ok (.land, 1) := by decide +kernel
theorem dL_law_221 : decode cL_law 221 = .ok (.lor, 1) := by decide +kernel
theorem dL_law_222 : decode cL_law 222 = .ok (.aload_n 0, 1) := by decide +kernel
theorem dL_law_223 : decode cL_law 223 = .ok (.iload_n 3, 1) := by decide +kernel
theorem dL_law_224 : decode cL_law 224 = .ok (.iconst 3, 1) := by decide +kernel
theorem dL_law_225 : decode cL_law 225 = .ok (.iadd, 1) := by decide +kernel
theorem dL_law_226 : decode cL_law 226 = .ok (.iaload, 1) := by decide +kernel
theorem dL_law_227 : decode cL_law 227 = .ok (.invokevirtual 19, 3) := by decide +kernel
theorem dL_law_230 : decode cL_law 230 = .ok (.if_icmp .eq 1016, 3) := by decide +kernel
theorem dL_law_233 : decode cL_law 233 = .ok (.iconst 0, 1) := by decide +kernel
theorem dL_law_234 : decode cL_law 234 = .ok (.ireturn, 1) := by decide +kernel
theorem dL_law_235 : decode cL_law 235 = .ok (.aload_n 1, 1) := by decide +kernel
theorem dL_law_236 : decode cL_law 236 = .ok (.invokevirtual 20, 3) := by decide +kernel
theorem dL_law_239 : decode cL_law 239 = .ok (.aload_n 2, 1) := by decide +kernel
theorem dL_law_240 : decode cL_law 240 = .ok (.invokevirtual 24, 3) := by decide +kernel
theorem dL_law_243 : decode cL_law 243 = .ok (.if_icmp .eq 1003, 3) := by decide +kernel
theorem dL_law_246 : decode cL_law 246 = .ok (.iconst 0, 1) := by decide +kernel
theorem dL_law_247 : decode cL_law 247 = .ok (.ireturn, 1) := by decide +kernel
theorem dL_law_248 : decode cL_law 248 = .ok (.aload_n 1, 1) := by decide +kernel
theorem dL_law_249 : decode cL_law 249 = .ok (.aload_n 0, 1) := by decide +kernel
theorem dL_law_250 : decode cL_law 250 = .ok (.iload_n 3, 1) := by decide +kernel
theorem dL_law_251 : decode cL_law 251 = .ok (.iconst 1, 1) := by decide +kernel
theorem dL_law_252 : decode cL_law 252 = .ok (.iadd, 1) := by decide +kernel
theorem dL_law_253 : decode cL_law 253 = .ok (.iaload, 1) := by decide +kernel
theorem dL_law_254 : decode cL_law 254 = .ok (.invokevirtual 25, 3) := by decide +kernel
theorem dL_law_257 : decode cL_law 257 = .ok (.aload_n 2, 1) := by decide +kernel
theorem dL_law_258 : decode cL_law 258 = .ok (.aload_n 0, 1) := by decide +kernel
theorem dL_law_259 : decode cL_law 259 = .ok (.iload_n 3, 1) := by decide +kernel
theorem dL_law_260 : decode cL_law 260 = .ok (.iconst 1, 1) := by decide +kernel
theorem dL_law_261 : decode cL_law 261 = .ok (.iadd, 1) := by decide +kernel
theorem dL_law_262 : decode cL_law 262 = .ok (.iaload, 1) := by decide +kernel
theorem dL_law_263 : decode cL_law 263 = .ok (.invokevirtual 29, 3) := by decide +kernel
theorem dL_law_266 : decode cL_law 266 = .ok (.if_icmp .eq 980, 3) := by decide +kernel
theorem dL_law_269 : decode cL_law 269 = .ok (.iconst 0, 1) := by decide +kernel
theorem dL_law_270 : decode cL_law 270 = .ok (.ireturn, 1) := by decide +kernel
theorem dL_law_271 : decode cL_law 271 = .ok (.aload_n 1, 1) := by decide +kernel
theorem dL_law_272 : decode cL_law 272 = .ok (.aload_n 0, 1) := by decide +kernel
theorem dL_law_273 : decode cL_law 273 = .ok (.iload_n 3, 1) := by decide +kernel
theorem dL_law_274 : decode cL_law 274 = .ok (.iconst 1, 1) := by decide +kernel
theorem dL_law_275 : decode cL_law 275 = .ok (.iadd, 1) := by decide +kernel
theorem dL_law_276 : decode cL_law 276 = .ok (.iaload, 1) := by decide +kernel
theorem dL_law_277 : decode cL_law 277 = .ok (.invokevirtual 30, 3) := by decide +kernel
theorem dL_law_280 : decode cL_law 280 = .ok (.aload_n 2, 1) := by decide +kernel
theorem dL_law_281 : decode cL_law 281 = .ok (.aload_n 0, 1) := by decide +kernel
theorem dL_law_282 : decode cL_law 282 = .ok (.iload_n 3, 1) := by decide +kernel
theorem dL_law_283 : decode cL_law 283 = .ok (.iconst 1, 1) := by decide +kernel
theorem dL_law_284 : decode cL_law 284 = .ok (.iadd, 1) := by decide +kernel
theorem dL_law_285 : decode cL_law 285 = .ok (.iaload, 1) := by decide +kernel
theorem dL_law_286 : decode cL_law 286 = .ok (.invokevirtual 33, 3) := by decide +kernel
theorem dL_law_289 : decode cL_law 289 = .ok (.if_icmp .eq 957, 3) := by decide +kernel
theorem dL_law_292 : decode cL_law 292 = .ok (.iconst 0, 1) := by decide +kernel
theorem dL_law_293 : decode cL_law 293 = .ok (.ireturn, 1) := by decide +kernel
theorem dL_law_294 : decode cL_law 294 = .ok (.aload_n 1, 1) := by decide +kernel
theorem dL_law_295 : decode cL_law 295 = .ok (.aload_n 0, 1) := by decide +kernel
theorem dL_law_296 : decode cL_law 296 = .ok (.iload_n 3, 1) := by decide +kernel
theorem dL_law_297 : decode cL_law 297 = .ok (.iconst 1, 1) := by decide +kernel
theorem dL_law_298 : decode cL_law 298 = .ok (.iadd, 1) := by decide +kernel
theorem dL_law_299 : decode cL_law 299 = .ok (.iaload, 1) := by decide +kernel
theorem dL_law_300 : decode cL_law 300 = .ok (.aload_n 0, 1) := by decide +kernel
theorem dL_law_301 : decode cL_law 301 = .ok (.iload_n 3, 1) := by decide +kernel
theorem dL_law_302 : decode cL_law 302 = .ok (.iconst 2, 1) := by decide +kernel
theorem dL_law_303 : decode cL_law 303 = .ok (.iadd, 1) := by decide +kernel
theorem dL_law_304 : decode cL_law 304 = .ok (.iaload, 1) := by decide +kernel
theorem dL_law_305 : decode cL_law 305 = .ok (.invokevirtual 34, 3) := by decide +kernel
theorem dL_law_308 : decode cL_law 308 = .ok (.aload_n 2, 1) := by decide +kernel
theorem dL_law_309 : decode cL_law 309 = .ok (.aload_n 0, 1) := by decide +kernel
theorem dL_law_310 : decode cL_law 310 = .ok (.iload_n 3, 1) := by decide +kernel
theorem dL_law_311 : decode cL_law 311 = .ok (.iconst 1, 1) := by decide +kernel
theorem dL_law_312 : decode cL_law 312 = .ok (.iadd, 1) := by decide +kernel
theorem dL_law_313 : decode cL_law 313 = .ok (.iaload, 1) := by decide +kernel
theorem dL_law_314 : decode cL_law 314 = .ok (.aload_n 0, 1) := by decide +kernel
theorem dL_law_315 : decode cL_law 315 = .ok (.iload_n 3, 1) := by decide +kernel
theorem dL_law_316 : decode cL_law 316 = .ok (.iconst 2, 1) := by decide +kernel
theorem dL_law_317 : decode cL_law 317 = .ok (.iadd, 1) := by decide +kernel
theorem dL_law_318 : decode cL_law 318 = .ok (.iaload, 1) := by decide +kernel
theorem dL_law_319 : decode cL_law 319 = .ok (.invokevirtual 38, 3) := by decide +kernel
theorem dL_law_322 : decode cL_law 322 = .ok (.if_icmp .eq 924, 3) := by decide +kernel
theorem dL_law_325 : decode cL_law 325 = .ok (.iconst 0, 1) := by decide +kernel
theorem dL_law_326 : decode cL_law 326 = .ok (.ireturn, 1) := by decide +kernel
theorem dL_law_327 : decode cL_law 327 = .ok (.aload_n 1, 1) := by decide +kernel
theorem dL_law_328 : decode cL_law 328 = .ok (.aload_n 0, 1) := by decide +kernel
theorem dL_law_329 : decode cL_law 329 = .ok (.iload_n 3, 1) := by decide +kernel
theorem dL_law_330 : decode cL_law 330 = .ok (.iconst 1, 1) := by decide +kernel
theorem dL_law_331 : decode cL_law 331 = .ok (.iadd, 1) := by decide +kernel
theorem dL_law_332 : decode cL_law 332 = .ok (.iaload, 1) := by decide +kernel
theorem dL_law_333 : decode cL_law 333 = .ok (.invokevirtual 39, 3) := by decide +kernel
theorem dL_law_336 : decode cL_law 336 = .ok (.aload_n 2, 1) := by decide +kernel
theorem dL_law_337 : decode cL_law 337 = .ok (.aload_n 0, 1) := by decide +kernel
theorem dL_law_338 : decode cL_law 338 = .ok (.iload_n 3, 1) := by decide +kernel
theorem dL_law_339 : decode cL_law 339 = .ok (.iconst 1, 1) := by decide +kernel
theorem dL_law_340 : decode cL_law 340 = .ok (.iadd, 1) := by decide +kernel
theorem dL_law_341 : decode cL_law 341 = .ok (.iaload, 1) := by decide +kernel
theorem dL_law_342 : decode cL_law 342 = .ok (.invokevirtual 42, 3) := by decide +kernel
theorem dL_law_345 : decode cL_law 345 = .ok (.if_icmp .eq 901, 3) := by decide +kernel
theorem dL_law_348 : decode cL_law 348 = .ok (.iconst 0, 1) := by decide +kernel
theorem dL_law_349 : decode cL_law 349 = .ok (.ireturn, 1) := by decide +kernel
theorem dL_law_350 : decode cL_law 350 = .ok (.aload_n 1, 1) := by decide +kernel
theorem dL_law_351 : decode cL_law 351 = .ok (.aload_n 0, 1) := by decide +kernel
theorem dL_law_352 : decode cL_law 352 = .ok (.iload_n 3, 1) := by decide +kernel
theorem dL_law_353 : decode cL_law 353 = .ok (.iconst 1, 1) := by decide +kernel
theorem dL_law_354 : decode cL_law 354 = .ok (.iadd, 1) := by decide +kernel
theorem dL_law_355 : decode cL_law 355 = .ok (.iaload, 1) := by decide +kernel
theorem dL_law_356 : decode cL_law 356 = .ok (.aload_n 0, 1) := by decide +kernel
theorem dL_law_357 : decode cL_law 357 = .ok (.iload_n 3, 1) := by decide +kernel
theorem dL_law_358 : decode cL_law 358 = .ok (.iconst 2, 1) := by decide +kernel
theorem dL_law_359 : decode cL_law 359 = .ok (.iadd, 1) := by decide +kernel
theorem dL_law_360 : decode cL_law 360 = .ok (.iaload, 1) := by decide +kernel
theorem dL_law_361 : decode cL_law 361 = .ok (.aload_n 0, 1) := by decide +kernel
theorem dL_law_362 : decode cL_law 362 = .ok (.iload_n 3, 1) := by decide +kernel
theorem dL_law_363 : decode cL_law 363 = .ok (.iconst 3, 1) := by decide +kernel
theorem dL_law_364 : decode cL_law 364 = .ok (.iadd, 1) := by decide +kernel
theorem dL_law_365 : decode cL_law 365 = .ok (.iaload, 1) := by decide +kernel
theorem dL_law_366 : decode cL_law 366 = .ok (.invokevirtual 43, 3) := by decide +kernel
theorem dL_law_369 : decode cL_law 369 = .ok (.aload_n 2, 1) := by decide +kernel
theorem dL_law_370 : decode cL_law 370 = .ok (.aload_n 0, 1) := by decide +kernel
theorem dL_law_371 : decode cL_law 371 = .ok (.iload_n 3, 1) := by decide +kernel
theorem dL_law_372 : decode cL_law 372 = .ok (.iconst 1, 1) := by decide +kernel
theorem dL_law_373 : decode cL_law 373 = .ok (.iadd, 1) := by decide +kernel
theorem dL_law_374 : decode cL_law 374 = .ok (.iaload, 1) := by decide +kernel
theorem dL_law_375 : decode cL_law 375 = .ok (.aload_n 0, 1) := by decide +kernel
theorem dL_law_376 : decode cL_law 376 = .ok (.iload_n 3, 1) := by decide +kernel
theorem dL_law_377 : decode cL_law 377 = .ok (.iconst 2, 1) := by decide +kernel
theorem dL_law_378 : decode cL_law 378 = .ok (.iadd, 1) := by decide +kernel
theorem dL_law_379 : decode cL_law 379 = .ok (.iaload, 1) := by decide +kernel
theorem dL_law_380 : decode cL_law 380 = .ok (.aload_n 0, 1) := by decide +kernel
theorem dL_law_381 : decode cL_law 381 = .ok (.iload_n 3, 1) := by decide +kernel
theorem dL_law_382 : decode cL_law 382 = .ok (.iconst 3, 1) := by decide +kernel
theorem dL_law_383 : decode cL_law 383 = .ok (.iadd, 1) := by decide +kernel
theorem dL_law_384 : decode cL_law 384 = .ok (.iaload, 1) := by decide +kernel
theorem dL_law_385 : decode cL_law 385 = .ok (.invokevirtual 47, 3) := by decide +kernel
theorem dL_law_388 : decode cL_law 388 = .ok (.if_icmp .eq 858, 3) := by decide +kernel
theorem dL_law_391 : decode cL_law 391 = .ok (.iconst 0, 1) := by decide +kernel
theorem dL_law_392 : decode cL_law 392 = .ok (.ireturn, 1) := by decide +kernel
theorem dL_law_393 : decode cL_law 393 = .ok (.aload_n 1, 1) := by decide +kernel
theorem dL_law_394 : decode cL_law 394 = .ok (.aload_n 0, 1) := by decide +kernel
theorem dL_law_395 : decode cL_law 395 = .ok (.iload_n 3, 1) := by decide +kernel
theorem dL_law_396 : decode cL_law 396 = .ok (.iconst 1, 1) := by decide +kernel
theorem dL_law_397 : decode cL_law 397 = .ok (.iadd, 1) := by decide +kernel
theorem dL_law_398 : decode cL_law 398 = .ok (.iaload, 1) := by decide +kernel
theorem dL_law_399 : decode cL_law 399 = .ok (.aload_n 0, 1) := by decide +kernel
theorem dL_law_400 : decode cL_law 400 = .ok (.iload_n 3, 1) := by decide +kernel
theorem dL_law_401 : decode cL_law 401 = .ok (.iconst 2, 1) := by decide +kernel
theorem dL_law_402 : decode cL_law 402 = .ok (.iadd, 1) := by decide +kernel
theorem dL_law_403 : decode cL_law 403 = .ok (.iaload, 1) := by decide +kernel
theorem dL_law_404 : decode cL_law 404 = .ok (.aload_n 0, 1) := by decide +kernel
theorem dL_law_405 : decode cL_law 405 = .ok (.iload_n 3, 1) := by decide +kernel
theorem dL_law_406 : decode cL_law 406 = .ok (.iconst 3, 1) := by decide +kernel
theorem dL_law_407 : decode cL_law 407 = .ok (.iadd, 1) := by decide +kernel
theorem dL_law_408 : decode cL_law 408 = .ok (.iaload, 1) := by decide +kernel
theorem dL_law_409 : decode cL_law 409 = .ok (.aload_n 0, 1) := by decide +kernel
theorem dL_law_410 : decode cL_law 410 = .ok (.iload_n 3, 1) := by decide +kernel
theorem dL_law_411 : decode cL_law 411 = .ok (.iconst 4, 1) := by decide +kernel
theorem dL_law_412 : decode cL_law 412 = .ok (.iadd, 1) := by decide +kernel
theorem dL_law_413 : decode cL_law 413 = .ok (.iaload, 1) := by decide +kernel
theorem dL_law_414 : decode cL_law 414 = .ok (.invokevirtual 48, 3) := by decide +kernel
theorem dL_law_417 : decode cL_law 417 = .ok (.aload_n 2, 1) := by decide +kernel
theorem dL_law_418 : decode cL_law 418 = .ok (.aload_n 0, 1) := by decide +kernel
theorem dL_law_419 : decode cL_law 419 = .ok (.iload_n 3, 1) := by decide +kernel
theorem dL_law_420 : decode cL_law 420 = .ok (.iconst 1, 1) := by decide +kernel
theorem dL_law_421 : decode cL_law 421 = .ok (.iadd, 1) := by decide +kernel
theorem dL_law_422 : decode cL_law 422 = .ok (.iaload, 1) := by decide +kernel
theorem dL_law_423 : decode cL_law 423 = .ok (.aload_n 0, 1) := by decide +kernel
theorem dL_law_424 : decode cL_law 424 = .ok (.iload_n 3, 1) := by decide +kernel
theorem dL_law_425 : decode cL_law 425 = .ok (.iconst 2, 1) := by decide +kernel
theorem dL_law_426 : decode cL_law 426 = .ok (.iadd, 1) := by decide +kernel
theorem dL_law_427 : decode cL_law 427 = .ok (.iaload, 1) := by decide +kernel
theorem dL_law_428 : decode cL_law 428 = .ok (.aload_n 0, 1) := by decide +kernel
theorem dL_law_429 : decode cL_law 429 = .ok (.iload_n 3, 1) := by decide +kernel
theorem dL_law_430 : decode cL_law 430 = .ok (.iconst 3, 1) := by decide +kernel
theorem dL_law_431 : decode cL_law 431 = .ok (.iadd, 1) := by decide +kernel
theorem dL_law_432 : decode cL_law 432 = .ok (.iaload, 1) := by decide +kernel
theorem dL_law_433 : decode cL_law 433 = .ok (.aload_n 0, 1) := by decide +kernel
theorem dL_law_434 : decode cL_law 434 = .ok (.iload_n 3, 1) := by decide +kernel
theorem dL_law_435 : decode cL_law 435 = .ok (.iconst 4, 1) := by decide +kernel
theorem dL_law_436 : decode cL_law 436 = .ok (.iadd, 1) := by decide +kernel
theorem dL_law_437 : decode cL_law 437 = .ok (.iaload, 1) := by decide +kernel
theorem dL_law_438 : decode cL_law 438 = .ok (.invokevirtual 52, 3) := by decide +kernel
theorem dL_law_441 : decode cL_law 441 = .ok (.if_icmp .eq 805, 3) := by decide +kernel
theorem dL_law_444 : decode cL_law 444 = .ok (.iconst 0, 1) := by decide +kernel
theorem dL_law_445 : decode cL_law 445 = .ok (.ireturn, 1) := by decide +kernel
theorem dL_law_446 : decode cL_law 446 = .ok (.aload_n 1, 1) := by decide +kernel
theorem dL_law_447 : decode cL_law 447 = .ok (.aload_n 0, 1) := by decide +kernel
theorem dL_law_448 : decode cL_law 448 = .ok (.iload_n 3, 1) := by decide +kernel
theorem dL_law_449 : decode cL_law 449 = .ok (.iconst 1, 1) := by decide +kernel
theorem dL_law_450 : decode cL_law 450 = .ok (.iadd, 1) := by decide +kernel
theorem dL_law_451 : decode cL_law 451 = .ok (.iaload, 1) := by decide +kernel
theorem dL_law_452 : decode cL_law 452 = .ok (.invokevirtual 53, 3) := by decide +kernel
theorem dL_law_455 : decode cL_law 455 = .ok (.aload_n 2, 1) := by decide +kernel
theorem dL_law_456 : decode cL_law 456 = .ok (.aload_n 0, 1) := by decide +kernel
theorem dL_law_457 : decode cL_law 457 = .ok (.iload_n 3, 1) := by decide +kernel
theorem dL_law_458 : decode cL_law 458 = .ok (.iconst 1, 1) := by decide +kernel
theorem dL_law_459 : decode cL_law 459 = .ok (.iadd, 1) := by decide +kernel
theorem dL_law_460 : decode cL_law 460 = .ok (.iaload, 1) := by decide +kernel
theorem dL_law_461 : decode cL_law 461 = .ok (.invokevirtual 56, 3) := by decide +kernel
theorem dL_law_464 : decode cL_law 464 = .ok (.if_icmp .eq 782, 3) := by decide +kernel
theorem dL_law_467 : decode cL_law 467 = .ok (.iconst 0, 1) := by decide +kernel
theorem dL_law_468 : decode cL_law 468 = .ok (.ireturn, 1) := by decide +kernel
theorem dL_law_469 : decode cL_law 469 = .ok (.aload_n 1, 1) := by decide +kernel
theorem dL_law_470 : decode cL_law 470 = .ok (.aload_n 0, 1) := by decide +kernel
theorem dL_law_471 : decode cL_law 471 = .ok (.iload_n 3, 1) := by decide +kernel
theorem dL_law_472 : decode cL_law 472 = .ok (.iconst 1, 1) := by decide +kernel
theorem dL_law_473 : decode cL_law 473 = .ok (.iadd, 1) := by decide +kernel
theorem dL_law_474 : decode cL_law 474 = .ok (.iaload, 1) := by decide +kernel
theorem dL_law_475 : decode cL_law 475 = .ok (.aload_n 0, 1) := by decide +kernel
theorem dL_law_476 : decode cL_law 476 = .ok (.iload_n 3, 1) := by decide +kernel
theorem dL_law_477 : decode cL_law 477 = .ok (.iconst 2, 1) := by decide +kernel
theorem dL_law_478 : decode cL_law 478 = .ok (.iadd, 1) := by decide +kernel
theorem dL_law_479 : decode cL_law 479 = .ok (.iaload, 1) := by decide +kernel
theorem dL_law_480 : decode cL_law 480 = .ok (.aload_n 0, 1) := by decide +kernel
theorem dL_law_481 : decode cL_law 481 = .ok (.iload_n 3, 1) := by decide +kernel
theorem dL_law_482 : decode cL_law 482 = .ok (.iconst 3, 1) := by decide +kernel
theorem dL_law_483 : decode cL_law 483 = .ok (.iadd, 1) := by decide +kernel
theorem dL_law_484 : decode cL_law 484 = .ok (.iaload, 1) := by decide +kernel
theorem dL_law_485 : decode cL_law 485 = .ok (.aload_n 0, 1) := by decide +kernel
theorem dL_law_486 : decode cL_law 486 = .ok (.iload_n 3, 1) := by decide +kernel
theorem dL_law_487 : decode cL_law 487 = .ok (.iconst 4, 1) := by decide +kernel
theorem dL_law_488 : decode cL_law 488 = .ok (.iadd, 1) := by decide +kernel
theorem dL_law_489 : decode cL_law 489 = .ok (.iaload, 1) := by decide +kernel
theorem dL_law_490 : decode cL_law 490 = .ok (.invokevirtual 57, 3) := by decide +kernel
theorem dL_law_493 : decode cL_law 493 = .ok (.aload_n 2, 1) := by decide +kernel
theorem dL_law_494 : decode cL_law 494 = .ok (.aload_n 0, 1) := by decide +kernel
theorem dL_law_495 : decode cL_law 495 = .ok (.iload_n 3, 1) := by decide +kernel
theorem dL_law_496 : decode cL_law 496 = .ok (.iconst 1, 1) := by decide +kernel
theorem dL_law_497 : decode cL_law 497 = .ok (.iadd, 1) := by decide +kernel
theorem dL_law_498 : decode cL_law 498 = .ok (.iaload, 1) := by decide +kernel
theorem dL_law_499 : decode cL_law 499 = .ok (.aload_n 0, 1) := by decide +kernel
theorem dL_law_500 : decode cL_law 500 = .ok (.iload_n 3, 1) := by decide +kernel
theorem dL_law_501 : decode cL_law 501 = .ok (.iconst 2, 1) := by decide +kernel
theorem dL_law_502 : decode cL_law 502 = .ok (.iadd, 1) := by decide +kernel
theorem dL_law_503 : decode cL_law 503 = .ok (.iaload, 1) := by decide +kernel
theorem dL_law_504 : decode cL_law 504 = .ok (.aload_n 0, 1) := by decide +kernel
theorem dL_law_505 : decode cL_law 505 = .ok (.iload_n 3, 1) := by decide +kernel
theorem dL_law_506 : decode cL_law 506 = .ok (.iconst 3, 1) := by decide +kernel
theorem dL_law_507 : decode cL_law 507 = .ok (.iadd, 1) := by decide +kernel
theorem dL_law_508 : decode cL_law 508 = .ok (.iaload, 1) := by decide +kernel
theorem dL_law_509 : decode cL_law 509 = .ok (.aload_n 0, 1) := by decide +kernel
theorem dL_law_510 : decode cL_law 510 = .ok (.iload_n 3, 1) := by decide +kernel
theorem dL_law_511 : decode cL_law 511 = .ok (.iconst 4, 1) := by decide +kernel
theorem dL_law_512 : decode cL_law 512 = .ok (.iadd, 1) := by decide +kernel
theorem dL_law_513 : decode cL_law 513 = .ok (.iaload, 1) := by decide +kernel
theorem dL_law_514 : decode cL_law 514 = .ok (.invokevirtual 60, 3) := by decide +kernel
theorem dL_law_517 : decode cL_law 517 = .ok (.if_icmp .eq 729, 3) := by decide +kernel
theorem dL_law_520 : decode cL_law 520 = .ok (.iconst 0, 1) := by decide +kernel
theorem dL_law_521 : decode cL_law 521 = .ok (.ireturn, 1) := by decide +kernel
theorem dL_law_522 : decode cL_law 522 = .ok (.aload_n 1, 1) := by decide +kernel
theorem dL_law_523 : decode cL_law 523 = .ok (.aload_n 0, 1) := by decide +kernel
theorem dL_law_524 : decode cL_law 524 = .ok (.iload_n 3, 1) := by decide +kernel
theorem dL_law_525 : decode cL_law 525 = .ok (.iconst 1, 1) := by decide +kernel
theorem dL_law_526 : decode cL_law 526 = .ok (.iadd, 1) := by decide +kernel
theorem dL_law_527 : decode cL_law 527 = .ok (.iaload, 1) := by decide +kernel
theorem dL_law_528 : decode cL_law 528 = .ok (.aload_n 0, 1) := by decide +kernel
theorem dL_law_529 : decode cL_law 529 = .ok (.iload_n 3, 1) := by decide +kernel
theorem dL_law_530 : decode cL_law 530 = .ok (.iconst 2, 1) := by decide +kernel
theorem dL_law_531 : decode cL_law 531 = .ok (.iadd, 1) := by decide +kernel
theorem dL_law_532 : decode cL_law 532 = .ok (.iaload, 1) := by decide +kernel
theorem dL_law_533 : decode cL_law 533 = .ok (.aload_n 0, 1) := by decide +kernel
theorem dL_law_534 : decode cL_law 534 = .ok (.iload_n 3, 1) := by decide +kernel
theorem dL_law_535 : decode cL_law 535 = .ok (.iconst 3, 1) := by decide +kernel
theorem dL_law_536 : decode cL_law 536 = .ok (.iadd, 1) := by decide +kernel
theorem dL_law_537 : decode cL_law 537 = .ok (.iaload, 1) := by decide +kernel
theorem dL_law_538 : decode cL_law 538 = .ok (.aload_n 0, 1) := by decide +kernel
theorem dL_law_539 : decode cL_law 539 = .ok (.iload_n 3, 1) := by decide +kernel
theorem dL_law_540 : decode cL_law 540 = .ok (.iconst 4, 1) := by decide +kernel
theorem dL_law_541 : decode cL_law 541 = .ok (.iadd, 1) := by decide +kernel
theorem dL_law_542 : decode cL_law 542 = .ok (.iaload, 1) := by decide +kernel
theorem dL_law_543 : decode cL_law 543 = .ok (.invokevirtual 61, 3) := by decide +kernel
theorem dL_law_546 : decode cL_law 546 = .ok (.aload_n 2, 1) := by decide +kernel
theorem dL_law_547 : decode cL_law 547 = .ok (.aload_n 0, 1) := by decide +kernel
theorem dL_law_548 : decode cL_law 548 = .ok (.iload_n 3, 1) := by decide +kernel
theorem dL_law_549 : decode cL_law 549 = .ok (.iconst 1, 1) := by decide +kernel
theorem dL_law_550 : decode cL_law 550 = .ok (.iadd, 1) := by decide +kernel
theorem dL_law_551 : decode cL_law 551 = .ok (.iaload, 1) := by decide +kernel
theorem dL_law_552 : decode cL_law 552 = .ok (.aload_n 0, 1) := by decide +kernel
theorem dL_law_553 : decode cL_law 553 = .ok (.iload_n 3, 1) := by decide +kernel
theorem dL_law_554 : decode cL_law 554 = .ok (.iconst 2, 1) := by decide +kernel
theorem dL_law_555 : decode cL_law 555 = .ok (.iadd, 1) := by decide +kernel
theorem dL_law_556 : decode cL_law 556 = .ok (.iaload, 1) := by decide +kernel
theorem dL_law_557 : decode cL_law 557 = .ok (.aload_n 0, 1) := by decide +kernel
theorem dL_law_558 : decode cL_law 558 = .ok (.iload_n 3, 1) := by decide +kernel
theorem dL_law_559 : decode cL_law 559 = .ok (.iconst 3, 1) := by decide +kernel
theorem dL_law_560 : decode cL_law 560 = .ok (.iadd, 1) := by decide +kernel
theorem dL_law_561 : decode cL_law 561 = .ok (.iaload, 1) := by decide +kernel
theorem dL_law_562 : decode cL_law 562 = .ok (.aload_n 0, 1) := by decide +kernel
theorem dL_law_563 : decode cL_law 563 = .ok (.iload_n 3, 1) := by decide +kernel
theorem dL_law_564 : decode cL_law 564 = .ok (.iconst 4, 1) := by decide +kernel
theorem dL_law_565 : decode cL_law 565 = .ok (.iadd, 1) := by decide +kernel
theorem dL_law_566 : decode cL_law 566 = .ok (.iaload, 1) := by decide +kernel
theorem dL_law_567 : decode cL_law 567 = .ok (.invokevirtual 64, 3) := by decide +kernel
theorem dL_law_570 : decode cL_law 570 = .ok (.if_icmp .eq 676, 3) := by decide +kernel
theorem dL_law_573 : decode cL_law 573 = .ok (.iconst 0, 1) := by decide +kernel
theorem dL_law_574 : decode cL_law 574 = .ok (.ireturn, 1) := by decide +kernel
theorem dL_law_575 : decode cL_law 575 = .ok (.aload_n 1, 1) := by decide +kernel
theorem dL_law_576 : decode cL_law 576 = .ok (.aload_n 0, 1) := by decide +kernel
theorem dL_law_577 : decode cL_law 577 = .ok (.iload_n 3, 1) := by decide +kernel
theorem dL_law_578 : decode cL_law 578 = .ok (.iconst 1, 1) := by decide +kernel
theorem dL_law_579 : decode cL_law 579 = .ok (.iadd, 1) := by decide +kernel
theorem dL_law_580 : decode cL_law 580 = .ok (.iaload, 1) := by decide +kernel
theorem dL_law_581 : decode cL_law 581 = .ok (.invokevirtual 65, 3) := by decide +kernel
theorem dL_law_584 : decode cL_law 584 = .ok (.aload_n 2, 1) := by decide +kernel
theorem dL_law_585 : decode cL_law 585 = .ok (.aload_n 0, 1) := by decide +kernel
theorem dL_law_586 : decode cL_law 586 = .ok (.iload_n 3, 1) := by decide +kernel
theorem dL_law_587 : decode cL_law 587 = .ok (.iconst 1, 1) := by decide +kernel
theorem dL_law_588 : decode cL_law 588 = .ok (.iadd, 1) := by decide +kernel
theorem dL_law_589 : decode cL_law 589 = .ok (.iaload, 1) := by decide +kernel
theorem dL_law_590 : decode cL_law 590 = .ok (.invokevirtual 68, 3) := by decide +kernel
theorem dL_law_593 : decode cL_law 593 = .ok (.if_icmp .eq 653, 3) := by decide +kernel
theorem dL_law_596 : decode cL_law 596 = .ok (.iconst 0, 1) := by decide +kernel
theorem dL_law_597 : decode cL_law 597 = .ok (.ireturn, 1) := by decide +kernel
theorem dL_law_598 : decode cL_law 598 = .ok (.aload_n 1, 1) := by decide +kernel
theorem dL_law_599 : decode cL_law 599 = .ok (.aload_n 0, 1) := by decide +kernel
theorem dL_law_600 : decode cL_law 600 = .ok (.iload_n 3, 1) := by decide +kernel
theorem dL_law_601 : decode cL_law 601 = .ok (.iconst 1, 1) := by decide +kernel
theorem dL_law_602 : decode cL_law 602 = .ok (.iadd, 1) := by decide +kernel
theorem dL_law_603 : decode cL_law 603 = .ok (.iaload, 1) := by decide +kernel
theorem dL_law_604 : decode cL_law 604 = .ok (.invokevirtual 69, 3) := by decide +kernel
theorem dL_law_607 : decode cL_law 607 = .ok (.aload_n 2, 1) := by decide +kernel
theorem dL_law_608 : decode cL_law 608 = .ok (.aload_n 0, 1) := by decide +kernel
theorem dL_law_609 : decode cL_law 609 = .ok (.iload_n 3, 1) := by decide +kernel
theorem dL_law_610 : decode cL_law 610 = .ok (.iconst 1, 1) := by decide +kernel
theorem dL_law_611 : decode cL_law 611 = .ok (.iadd, 1) := by decide +kernel
theorem dL_law_612 : decode cL_law 612 = .ok (.iaload, 1) := by decide +kernel
theorem dL_law_613 : decode cL_law 613 = .ok (.invokevirtual 72, 3) := by decide +kernel
theorem dL_law_616 : decode cL_law 616 = .ok (.if_icmp .eq 630, 3) := by decide +kernel
theorem dL_law_619 : decode cL_law 619 = .ok (.iconst 0, 1) := by decide +kernel
theorem dL_law_620 : decode cL_law 620 = .ok (.ireturn, 1) := by decide +kernel
theorem dL_law_621 : decode cL_law 621 = .ok (.aload_n 1, 1) := by decide +kernel
theorem dL_law_622 : decode cL_law 622 = .ok (.invokevirtual 73, 3) := by decide +kernel
theorem dL_law_625 : decode cL_law 625 = .ok (.aload_n 2, 1) := by decide +kernel
theorem dL_law_626 : decode cL_law 626 = .ok (.invokevirtual 76, 3) := by decide +kernel
theorem dL_law_629 : decode cL_law 629 = .ok (.if_icmp .eq 617, 3) := by decide +kernel
theorem dL_law_632 : decode cL_law 632 = .ok (.iconst 0, 1) := by decide +kernel
theorem dL_law_633 : decode cL_law 633 = .ok (.ireturn, 1) := by decide +kernel
theorem dL_law_634 : decode cL_law 634 = .ok (.aload_n 1, 1) := by decide +kernel
theorem dL_law_635 : decode cL_law 635 = .ok (.aload_n 0, 1) := by decide +kernel
theorem dL_law_636 : decode cL_law 636 = .ok (.iload_n 3, 1) := by decide +kernel
theorem dL_law_637 : decode cL_law 637 = .ok (.iconst 1, 1) := by decide +kernel
theorem dL_law_638 : decode cL_law 638 = .ok (.iadd, 1) := by decide +kernel
theorem dL_law_639 : decode cL_law 639 = .ok (.iaload, 1) := by decide +kernel
theorem dL_law_640 : decode cL_law 640 = .ok (.aload_n 0, 1) := by decide +kernel
theorem dL_law_641 : decode cL_law 641 = .ok (.iload_n 3, 1) := by decide +kernel
theorem dL_law_642 : decode cL_law 642 = .ok (.iconst 2, 1) := by decide +kernel
theorem dL_law_643 : decode cL_law 643 = .ok (.iadd, 1) := by decide +kernel
theorem dL_law_644 : decode cL_law 644 = .ok (.iaload, 1) := by decide +kernel
theorem dL_law_645 : decode cL_law 645 = .ok (.aload_n 0, 1) := by decide +kernel
theorem dL_law_646 : decode cL_law 646 = .ok (.iload_n 3, 1) := by decide +kernel
theorem dL_law_647 : decode cL_law 647 = .ok (.iconst 3, 1) := by decide +kernel
theorem dL_law_648 : decode cL_law 648 = .ok (.iadd, 1) := by decide +kernel
theorem dL_law_649 : decode cL_law 649 = .ok (.iaload, 1) := by decide +kernel
theorem dL_law_650 : decode cL_law 650 = .ok (.aload_n 0, 1) := by decide +kernel
theorem dL_law_651 : decode cL_law 651 = .ok (.iload_n 3, 1) := by decide +kernel
theorem dL_law_652 : decode cL_law 652 = .ok (.iconst 4, 1) := by decide +kernel
theorem dL_law_653 : decode cL_law 653 = .ok (.iadd, 1) := by decide +kernel
theorem dL_law_654 : decode cL_law 654 = .ok (.iaload, 1) := by decide +kernel
theorem dL_law_655 : decode cL_law 655 = .ok (.invokevirtual 77, 3) := by decide +kernel
theorem dL_law_658 : decode cL_law 658 = .ok (.aload_n 2, 1) := by decide +kernel
theorem dL_law_659 : decode cL_law 659 = .ok (.aload_n 0, 1) := by decide +kernel
theorem dL_law_660 : decode cL_law 660 = .ok (.iload_n 3, 1) := by decide +kernel
theorem dL_law_661 : decode cL_law 661 = .ok (.iconst 1, 1) := by decide +kernel
theorem dL_law_662 : decode cL_law 662 = .ok (.iadd, 1) := by decide +kernel
theorem dL_law_663 : decode cL_law 663 = .ok (.iaload, 1) := by decide +kernel
theorem dL_law_664 : decode cL_law 664 = .ok (.aload_n 0, 1) := by decide +kernel
theorem dL_law_665 : decode cL_law 665 = .ok (.iload_n 3, 1) := by decide +kernel
theorem dL_law_666 : decode cL_law 666 = .ok (.iconst 2, 1) := by decide +kernel
theorem dL_law_667 : decode cL_law 667 = .ok (.iadd, 1) := by decide +kernel
theorem dL_law_668 : decode cL_law 668 = .ok (.iaload, 1) := by decide +kernel
theorem dL_law_669 : decode cL_law 669 = .ok (.aload_n 0, 1) := by decide +kernel
theorem dL_law_670 : decode cL_law 670 = .ok (.iload_n 3, 1) := by decide +kernel
theorem dL_law_671 : decode cL_law 671 = .ok (.iconst 3, 1) := by decide +kernel
theorem dL_law_672 : decode cL_law 672 = .ok (.iadd, 1) := by decide +kernel
theorem dL_law_673 : decode cL_law 673 = .ok (.iaload, 1) := by decide +kernel
theorem dL_law_674 : decode cL_law 674 = .ok (.aload_n 0, 1) := by decide +kernel
theorem dL_law_675 : decode cL_law 675 = .ok (.iload_n 3, 1) := by decide +kernel
theorem dL_law_676 : decode cL_law 676 = .ok (.iconst 4, 1) := by decide +kernel
theorem dL_law_677 : decode cL_law 677 = .ok (.iadd, 1) := by decide +kernel
theorem dL_law_678 : decode cL_law 678 = .ok (.iaload, 1) := by decide +kernel
theorem dL_law_679 : decode cL_law 679 = .ok (.invokevirtual 80, 3) := by decide +kernel
theorem dL_law_682 : decode cL_law 682 = .ok (.if_icmp .eq 564, 3) := by decide +kernel
theorem dL_law_685 : decode cL_law 685 = .ok (.iconst 0, 1) := by decide +kernel
theorem dL_law_686 : decode cL_law 686 = .ok (.ireturn, 1) := by decide +kernel
theorem dL_law_687 : decode cL_law 687 = .ok (.aload_n 1, 1) := by decide +kernel
theorem dL_law_688 : decode cL_law 688 = .ok (.aload_n 0, 1) := by decide +kernel
theorem dL_law_689 : decode cL_law 689 = .ok (.iload_n 3, 1) := by decide +kernel
theorem dL_law_690 : decode cL_law 690 = .ok (.iconst 1, 1) := by decide +kernel
theorem dL_law_691 : decode cL_law 691 = .ok (.iadd, 1) := by decide +kernel
theorem dL_law_692 : decode cL_law 692 = .ok (.iaload, 1) := by decide +kernel
theorem dL_law_693 : decode cL_law 693 = .ok (.aload_n 0, 1) := by decide +kernel
theorem dL_law_694 : decode cL_law 694 = .ok (.iload_n 3, 1) := by decide +kernel
theorem dL_law_695 : decode cL_law 695 = .ok (.iconst 2, 1) := by decide +kernel
theorem dL_law_696 : decode cL_law 696 = .ok (.iadd, 1) := by decide +kernel
theorem dL_law_697 : decode cL_law 697 = .ok (.iaload, 1) := by decide +kernel
theorem dL_law_698 : decode cL_law 698 = .ok (.aload_n 0, 1) := by decide +kernel
theorem dL_law_699 : decode cL_law 699 = .ok (.iload_n 3, 1) := by decide +kernel
theorem dL_law_700 : decode cL_law 700 = .ok (.iconst 3, 1) := by decide +kernel
theorem dL_law_701 : decode cL_law 701 = .ok (.iadd, 1) := by decide +kernel
theorem dL_law_702 : decode cL_law 702 = .ok (.iaload, 1) := by decide +kernel
theorem dL_law_703 : decode cL_law 703 = .ok (.aload_n 0, 1) := by decide +kernel
theorem dL_law_704 : decode cL_law 704 = .ok (.iload_n 3, 1) := by decide +kernel
theorem dL_law_705 : decode cL_law 705 = .ok (.iconst 4, 1) := by decide +kernel
theorem dL_law_706 : decode cL_law 706 = .ok (.iadd, 1) := by decide +kernel
theorem dL_law_707 : decode cL_law 707 = .ok (.iaload, 1) := by decide +kernel
theorem dL_law_708 : decode cL_law 708 = .ok (.aload_n 0, 1) := by decide +kernel
theorem dL_law_709 : decode cL_law 709 = .ok (.iload_n 3, 1) := by decide +kernel
theorem dL_law_710 : decode cL_law 710 = .ok (.iconst 5, 1) := by decide +kernel
theorem dL_law_711 : decode cL_law 711 = .ok (.iadd, 1) := by decide +kernel
theorem dL_law_712 : decode cL_law 712 = .ok (.iaload, 1) := by decide +kernel
theorem dL_law_713 : decode cL_law 713 = .ok (.invokevirtual 81, 3) := by decide +kernel
theorem dL_law_716 : decode cL_law 716 = .ok (.aload_n 2, 1) := by decide +kernel
theorem dL_law_717 : decode cL_law 717 = .ok (.aload_n 0, 1) := by decide +kernel
theorem dL_law_718 : decode cL_law 718 = .ok (.iload_n 3, 1) := by decide +kernel
theorem dL_law_719 : decode cL_law 719 = .ok (.iconst 1, 1) := by decide +kernel
theorem dL_law_720 : decode cL_law 720 = .ok (.iadd, 1) := by decide +kernel
theorem dL_law_721 : decode cL_law 721 = .ok (.iaload, 1) := by decide +kernel
theorem dL_law_722 : decode cL_law 722 = .ok (.aload_n 0, 1) := by decide +kernel
theorem dL_law_723 : decode cL_law 723 = .ok (.iload_n 3, 1) := by decide +kernel
theorem dL_law_724 : decode cL_law 724 = .ok (.iconst 2, 1) := by decide +kernel
theorem dL_law_725 : decode cL_law 725 = .ok (.iadd, 1) := by decide +kernel
theorem dL_law_726 : decode cL_law 726 = .ok (.iaload, 1) := by decide +kernel
theorem dL_law_727 : decode cL_law 727 = .ok (.aload_n 0, 1) := by decide +kernel
theorem dL_law_728 : decode cL_law 728 = .ok (.iload_n 3, 1) := by decide +kernel
theorem dL_law_729 : decode cL_law 729 = .ok (.iconst 3, 1) := by decide +kernel
theorem dL_law_730 : decode cL_law 730 = .ok (.iadd, 1) := by decide +kernel
theorem dL_law_731 : decode cL_law 731 = .ok (.iaload, 1) := by decide +kernel
theorem dL_law_732 : decode cL_law 732 = .ok (.aload_n 0, 1) := by decide +kernel
theorem dL_law_733 : decode cL_law 733 = .ok (.iload_n 3, 1) := by decide +kernel
theorem dL_law_734 : decode cL_law 734 = .ok (.iconst 4, 1) := by decide +kernel
theorem dL_law_735 : decode cL_law 735 = .ok (.iadd, 1) := by decide +kernel
theorem dL_law_736 : decode cL_law 736 = .ok (.iaload, 1) := by decide +kernel
theorem dL_law_737 : decode cL_law 737 = .ok (.aload_n 0, 1) := by decide +kernel
theorem dL_law_738 : decode cL_law 738 = .ok (.iload_n 3, 1) := by decide +kernel
theorem dL_law_739 : decode cL_law 739 = .ok (.iconst 5, 1) := by decide +kernel
theorem dL_law_740 : decode cL_law 740 = .ok (.iadd, 1) := by decide +kernel
theorem dL_law_741 : decode cL_law 741 = .ok (.iaload, 1) := by decide +kernel
theorem dL_law_742 : decode cL_law 742 = .ok (.invokevirtual 85, 3) := by decide +kernel
theorem dL_law_745 : decode cL_law 745 = .ok (.if_icmp .eq 501, 3) := by decide +kernel
theorem dL_law_748 : decode cL_law 748 = .ok (.iconst 0, 1) := by decide +kernel
theorem dL_law_749 : decode cL_law 749 = .ok (.ireturn, 1) := by decide +kernel
theorem dL_law_750 : decode cL_law 750 = .ok (.aload_n 1, 1) := by decide +kernel
theorem dL_law_751 : decode cL_law 751 = .ok (.aload_n 0, 1) := by decide +kernel
theorem dL_law_752 : decode cL_law 752 = .ok (.iload_n 3, 1) := by decide +kernel
theorem dL_law_753 : decode cL_law 753 = .ok (.iconst 1, 1) := by decide +kernel
theorem dL_law_754 : decode cL_law 754 = .ok (.iadd, 1) := by decide +kernel
theorem dL_law_755 : decode cL_law 755 = .ok (.iaload, 1) := by decide +kernel
theorem dL_law_756 : decode cL_law 756 = .ok (.aload_n 0, 1) := by decide +kernel
theorem dL_law_757 : decode cL_law 757 = .ok (.iload_n 3, 1) := by decide +kernel
theorem dL_law_758 : decode cL_law 758 = .ok (.iconst 2, 1) := by decide +kernel
theorem dL_law_759 : decode cL_law 759 = .ok (.iadd, 1) := by decide +kernel
theorem dL_law_760 : decode cL_law 760 = .ok (.iaload, 1) := by decide +kernel
theorem dL_law_761 : decode cL_law 761 = .ok (.aload_n 0, 1) := by decide +kernel
theorem dL_law_762 : decode cL_law 762 = .ok (.iload_n 3, 1) := by decide +kernel
theorem dL_law_763 : decode cL_law 763 = .ok (.iconst 3, 1) := by decide +kernel
theorem dL_law_764 : decode cL_law 764 = .ok (.iadd, 1) := by decide +kernel
theorem dL_law_765 : decode cL_law 765 = .ok (.iaload, 1) := by decide +kernel
theorem dL_law_766 : decode cL_law 766 = .ok (.invokevirtual 86, 3) := by decide +kernel
theorem dL_law_769 : decode cL_law 769 = .ok (.aload_n 2, 1) := by decide +kernel
theorem dL_law_770 : decode cL_law 770 = .ok (.aload_n 0, 1) := by decide +kernel
theorem dL_law_771 : decode cL_law 771 = .ok (.iload_n 3, 1) := by decide +kernel
theorem dL_law_772 : decode cL_law 772 = .ok (.iconst 1, 1) := by decide +kernel
theorem dL_law_773 : decode cL_law 773 = .ok (.iadd, 1) := by decide +kernel
theorem dL_law_774 : decode cL_law 774 = .ok (.iaload, 1) := by decide +kernel
theorem dL_law_775 : decode cL_law 775 = .ok (.aload_n 0, 1) := by decide +kernel
theorem dL_law_776 : decode cL_law 776 = .ok (.iload_n 3, 1) := by decide +kernel
theorem dL_law_777 : decode cL_law 777 = .ok (.iconst 2, 1) := by decide +kernel
theorem dL_law_778 : decode cL_law 778 = .ok (.iadd, 1) := by decide +kernel
theorem dL_law_779 : decode cL_law 779 = .ok (.iaload, 1) := by decide +kernel
theorem dL_law_780 : decode cL_law 780 = .ok (.aload_n 0, 1) := by decide +kernel
theorem dL_law_781 : decode cL_law 781 = .ok (.iload_n 3, 1) := by decide +kernel
theorem dL_law_782 : decode cL_law 782 = .ok (.iconst 3, 1) := by decide +kernel
theorem dL_law_783 : decode cL_law 783 = .ok (.iadd, 1) := by decide +kernel
theorem dL_law_784 : decode cL_law 784 = .ok (.iaload, 1) := by decide +kernel
theorem dL_law_785 : decode cL_law 785 = .ok (.invokevirtual 89, 3) := by decide +kernel
theorem dL_law_788 : decode cL_law 788 = .ok (.if_icmp .eq 458, 3) := by decide +kernel
theorem dL_law_791 : decode cL_law 791 = .ok (.iconst 0, 1) := by decide +kernel
theorem dL_law_792 : decode cL_law 792 = .ok (.ireturn, 1) := by decide +kernel
theorem dL_law_793 : decode cL_law 793 = .ok (.aload_n 1, 1) := by decide +kernel
theorem dL_law_794 : decode cL_law 794 = .ok (.aload_n 0, 1) := by decide +kernel
theorem dL_law_795 : decode cL_law 795 = .ok (.iload_n 3, 1) := by decide +kernel
theorem dL_law_796 : decode cL_law 796 = .ok (.iconst 1, 1) := by decide +kernel
theorem dL_law_797 : decode cL_law 797 = .ok (.iadd, 1) := by decide +kernel
theorem dL_law_798 : decode cL_law 798 = .ok (.iaload, 1) := by decide +kernel
theorem dL_law_799 : decode cL_law 799 = .ok (.aload_n 0, 1) := by decide +kernel
theorem dL_law_800 : decode cL_law 800 = .ok (.iload_n 3, 1) := by decide +kernel
theorem dL_law_801 : decode cL_law 801 = .ok (.iconst 2, 1) := by decide +kernel
theorem dL_law_802 : decode cL_law 802 = .ok (.iadd, 1) := by decide +kernel
theorem dL_law_803 : decode cL_law 803 = .ok (.iaload, 1) := by decide +kernel
theorem dL_law_804 : decode cL_law 804 = .ok (.aload_n 0, 1) := by decide +kernel
theorem dL_law_805 : decode cL_law 805 = .ok (.iload_n 3, 1) := by decide +kernel
theorem dL_law_806 : decode cL_law 806 = .ok (.iconst 3, 1) := by decide +kernel
theorem dL_law_807 : decode cL_law 807 = .ok (.iadd, 1) := by decide +kernel
theorem dL_law_808 : decode cL_law 808 = .ok (.iaload, 1) := by decide +kernel
theorem dL_law_809 : decode cL_law 809 = .ok (.aload_n 0, 1) := by decide +kernel
theorem dL_law_810 : decode cL_law 810 = .ok (.iload_n 3, 1) := by decide +kernel
theorem dL_law_811 : decode cL_law 811 = .ok (.iconst 4, 1) := by decide +kernel
theorem dL_law_812 : decode cL_law 812 = .ok (.iadd, 1) := by decide +kernel
theorem dL_law_813 : decode cL_law 813 = .ok (.iaload, 1) := by decide +kernel
theorem dL_law_814 : decode cL_law 814 = .ok (.aload_n 0, 1) := by decide +kernel
theorem dL_law_815 : decode cL_law 815 = .ok (.iload_n 3, 1) := by decide +kernel
theorem dL_law_816 : decode cL_law 816 = .ok (.iconst 5, 1) := by decide +kernel
theorem dL_law_817 : decode cL_law 817 = .ok (.iadd, 1) := by decide +kernel
theorem dL_law_818 : decode cL_law 818 = .ok (.iaload, 1) := by decide +kernel
theorem dL_law_819 : decode cL_law 819 = .ok (.invokevirtual 90, 3) := by decide +kernel
theorem dL_law_822 : decode cL_law 822 = .ok (.aload_n 2, 1) := by decide +kernel
theorem dL_law_823 : decode cL_law 823 = .ok (.aload_n 0, 1) := by decide +kernel
theorem dL_law_824 : decode cL_law 824 = .ok (.iload_n 3, 1) := by decide +kernel
theorem dL_law_825 : decode cL_law 825 = .ok (.iconst 1, 1) := by decide +kernel
theorem dL_law_826 : decode cL_law 826 = .ok (.iadd, 1) := by decide +kernel
theorem dL_law_827 : decode cL_law 827 = .ok (.iaload, 1) := by decide +kernel
theorem dL_law_828 : decode cL_law 828 = .ok (.aload_n 0, 1) := by decide +kernel
theorem dL_law_829 : decode cL_law 829 = .ok (.iload_n 3, 1) := by decide +kernel
theorem dL_law_830 : decode cL_law 830 = .ok (.iconst 2, 1) := by decide +kernel
theorem dL_law_831 : decode cL_law 831 = .ok (.iadd, 1) := by decide +kernel
theorem dL_law_832 : decode cL_law 832 = .ok (.iaload, 1) := by decide +kernel
theorem dL_law_833 : decode cL_law 833 = .ok (.aload_n 0, 1) := by decide +kernel
theorem dL_law_834 : decode cL_law 834 = .ok (.iload_n 3, 1) := by decide +kernel
theorem dL_law_835 : decode cL_law 835 = .ok (.iconst 3, 1) := by decide +kernel
theorem dL_law_836 : decode cL_law 836 = .ok (.iadd, 1) := by decide +kernel
theorem dL_law_837 : decode cL_law 837 = .ok (.iaload, 1) := by decide +kernel
theorem dL_law_838 : decode cL_law 838 = .ok (.aload_n 0, 1) := by decide +kernel
theorem dL_law_839 : decode cL_law 839 = .ok (.iload_n 3, 1) := by decide +kernel
theorem dL_law_840 : decode cL_law 840 = .ok (.iconst 4, 1) := by decide +kernel
theorem dL_law_841 : decode cL_law 841 = .ok (.iadd, 1) := by decide +kernel
theorem dL_law_842 : decode cL_law 842 = .ok (.iaload, 1) := by decide +kernel
theorem dL_law_843 : decode cL_law 843 = .ok (.aload_n 0, 1) := by decide +kernel
theorem dL_law_844 : decode cL_law 844 = .ok (.iload_n 3, 1) := by decide +kernel
theorem dL_law_845 : decode cL_law 845 = .ok (.iconst 5, 1) := by decide +kernel
theorem dL_law_846 : decode cL_law 846 = .ok (.iadd, 1) := by decide +kernel
theorem dL_law_847 : decode cL_law 847 = .ok (.iaload, 1) := by decide +kernel
theorem dL_law_848 : decode cL_law 848 = .ok (.invokevirtual 93, 3) := by decide +kernel
theorem dL_law_851 : decode cL_law 851 = .ok (.if_icmp .eq 395, 3) := by decide +kernel
theorem dL_law_854 : decode cL_law 854 = .ok (.iconst 0, 1) := by decide +kernel
theorem dL_law_855 : decode cL_law 855 = .ok (.ireturn, 1) := by decide +kernel
theorem dL_law_856 : decode cL_law 856 = .ok (.aload_n 1, 1) := by decide +kernel
theorem dL_law_857 : decode cL_law 857 = .ok (.aload_n 0, 1) := by decide +kernel
theorem dL_law_858 : decode cL_law 858 = .ok (.iload_n 3, 1) := by decide +kernel
theorem dL_law_859 : decode cL_law 859 = .ok (.iconst 1, 1) := by decide +kernel
theorem dL_law_860 : decode cL_law 860 = .ok (.iadd, 1) := by decide +kernel
theorem dL_law_861 : decode cL_law 861 = .ok (.iaload, 1) := by decide +kernel
theorem dL_law_862 : decode cL_law 862 = .ok (.aload_n 0, 1) := by decide +kernel
theorem dL_law_863 : decode cL_law 863 = .ok (.iload_n 3, 1) := by decide +kernel
theorem dL_law_864 : decode cL_law 864 = .ok (.iconst 2, 1) := by decide +kernel
theorem dL_law_865 : decode cL_law 865 = .ok (.iadd, 1) := by decide +kernel
theorem dL_law_866 : decode cL_law 866 = .ok (.iaload, 1) := by decide +kernel
theorem dL_law_867 : decode cL_law 867 = .ok (.invokevirtual 94, 3) := by decide +kernel
theorem dL_law_870 : decode cL_law 870 = .ok (.aload_n 2, 1) := by decide +kernel
theorem dL_law_871 : decode cL_law 871 = .ok (.aload_n 0, 1) := by decide +kernel
theorem dL_law_872 : decode cL_law 872 = .ok (.iload_n 3, 1) := by decide +kernel
theorem dL_law_873 : decode cL_law 873 = .ok (.iconst 1, 1) := by decide +kernel
theorem dL_law_874 : decode cL_law 874 = .ok (.iadd, 1) := by decide +kernel
theorem dL_law_875 : decode cL_law 875 = .ok (.iaload, 1) := by decide +kernel
theorem dL_law_876 : decode cL_law 876 = .ok (.aload_n 0, 1) := by decide +kernel
theorem dL_law_877 : decode cL_law 877 = .ok (.iload_n 3, 1) := by decide +kernel
theorem dL_law_878 : decode cL_law 878 = .ok (.iconst 2, 1) := by decide +kernel
theorem dL_law_879 : decode cL_law 879 = .ok (.iadd, 1) := by decide +kernel
theorem dL_law_880 : decode cL_law 880 = .ok (.iaload, 1) := by decide +kernel
theorem dL_law_881 : decode cL_law 881 = .ok (.invokevirtual 97, 3) := by decide +kernel
theorem dL_law_884 : decode cL_law 884 = .ok (.if_icmp .eq 362, 3) := by decide +kernel
theorem dL_law_887 : decode cL_law 887 = .ok (.iconst 0, 1) := by decide +kernel
theorem dL_law_888 : decode cL_law 888 = .ok (.ireturn, 1) := by decide +kernel
theorem dL_law_889 : decode cL_law 889 = .ok (.aload_n 1, 1) := by decide +kernel
theorem dL_law_890 : decode cL_law 890 = .ok (.aload_n 0, 1) := by decide +kernel
theorem dL_law_891 : decode cL_law 891 = .ok (.iload_n 3, 1) := by decide +kernel
theorem dL_law_892 : decode cL_law 892 = .ok (.iconst 1, 1) := by decide +kernel
theorem dL_law_893 : decode cL_law 893 = .ok (.iadd, 1) := by decide +kernel
theorem dL_law_894 : decode cL_law 894 = .ok (.iaload, 1) := by decide +kernel
theorem dL_law_895 : decode cL_law 895 = .ok (.invokevirtual 98, 3) := by decide +kernel
theorem dL_law_898 : decode cL_law 898 = .ok (.aload_n 2, 1) := by decide +kernel
theorem dL_law_899 : decode cL_law 899 = .ok (.aload_n 0, 1) := by decide +kernel
theorem dL_law_900 : decode cL_law 900 = .ok (.iload_n 3, 1) := by decide +kernel
theorem dL_law_901 : decode cL_law 901 = .ok (.iconst 1, 1) := by decide +kernel
theorem dL_law_902 : decode cL_law 902 = .ok (.iadd, 1) := by decide +kernel
theorem dL_law_903 : decode cL_law 903 = .ok (.iaload, 1) := by decide +kernel
theorem dL_law_904 : decode cL_law 904 = .ok (.invokevirtual 101, 3) := by decide +kernel
theorem dL_law_907 : decode cL_law 907 = .ok (.if_icmp .eq 339, 3) := by decide +kernel
theorem dL_law_910 : decode cL_law 910 = .ok (.iconst 0, 1) := by decide +kernel
theorem dL_law_911 : decode cL_law 911 = .ok (.ireturn, 1) := by decide +kernel
theorem dL_law_912 : decode cL_law 912 = .ok (.aload_n 1, 1) := by decide +kernel
theorem dL_law_913 : decode cL_law 913 = .ok (.aload_n 0, 1) := by decide +kernel
theorem dL_law_914 : decode cL_law 914 = .ok (.iload_n 3, 1) := by decide +kernel
theorem dL_law_915 : decode cL_law 915 = .ok (.iconst 1, 1) := by decide +kernel
theorem dL_law_916 : decode cL_law 916 = .ok (.iadd, 1) := by decide +kernel
theorem dL_law_917 : decode cL_law 917 = .ok (.iaload, 1) := by decide +kernel
theorem dL_law_918 : decode cL_law 918 = .ok (.aload_n 0, 1) := by decide +kernel
theorem dL_law_919 : decode cL_law 919 = .ok (.iload_n 3, 1) := by decide +kernel
theorem dL_law_920 : decode cL_law 920 = .ok (.iconst 2, 1) := by decide +kernel
theorem dL_law_921 : decode cL_law 921 = .ok (.iadd, 1) := by decide +kernel
theorem dL_law_922 : decode cL_law 922 = .ok (.iaload, 1) := by decide +kernel
theorem dL_law_923 : decode cL_law 923 = .ok (.invokevirtual 102, 3) := by decide +kernel
theorem dL_law_926 : decode cL_law 926 = .ok (.aload_n 2, 1) := by decide +kernel
theorem dL_law_927 : decode cL_law 927 = .ok (.aload_n 0, 1) := by decide +kernel
theorem dL_law_928 : decode cL_law 928 = .ok (.iload_n 3, 1) := by decide +kernel
theorem dL_law_929 : decode cL_law 929 = .ok (.iconst 1, 1) := by decide +kernel
theorem dL_law_930 : decode cL_law 930 = .ok (.iadd, 1) := by decide +kernel
theorem dL_law_931 : decode cL_law 931 = .ok (.iaload, 1) := by decide +kernel
theorem dL_law_932 : decode cL_law 932 = .ok (.aload_n 0, 1) := by decide +kernel
theorem dL_law_933 : decode cL_law 933 = .ok (.iload_n 3, 1) := by decide +kernel
theorem dL_law_934 : decode cL_law 934 = .ok (.iconst 2, 1) := by decide +kernel
theorem dL_law_935 : decode cL_law 935 = .ok (.iadd, 1) := by decide +kernel
theorem dL_law_936 : decode cL_law 936 = .ok (.iaload, 1) := by decide +kernel
theorem dL_law_937 : decode cL_law 937 = .ok (.invokevirtual 105, 3) := by decide +kernel
theorem dL_law_940 : decode cL_law 940 = .ok (.if_icmp .eq 306, 3) := by decide +kernel
theorem dL_law_943 : decode cL_law 943 = .ok (.iconst 0, 1) := by decide +kernel
theorem dL_law_944 : decode cL_law 944 = .ok (.ireturn, 1) := by decide +kernel
theorem dL_law_945 : decode cL_law 945 = .ok (.aload_n 1, 1) := by decide +kernel
theorem dL_law_946 : decode cL_law 946 = .ok (.aload_n 0, 1) := by decide +kernel
theorem dL_law_947 : decode cL_law 947 = .ok (.iload_n 3, 1) := by decide +kernel
theorem dL_law_948 : decode cL_law 948 = .ok (.iconst 1, 1) := by decide +kernel
theorem dL_law_949 : decode cL_law 949 = .ok (.iadd, 1) := by decide +kernel
theorem dL_law_950 : decode cL_law 950 = .ok (.iaload, 1) := by decide +kernel
theorem dL_law_951 : decode cL_law 951 = .ok (.aload_n 0, 1) := by decide +kernel
theorem dL_law_952 : decode cL_law 952 = .ok (.iload_n 3, 1) := by decide +kernel
theorem dL_law_953 : decode cL_law 953 = .ok (.iconst 2, 1) := by decide +kernel
theorem dL_law_954 : decode cL_law 954 = .ok (.iadd, 1) := by decide +kernel
theorem dL_law_955 : decode cL_law 955 = .ok (.iaload, 1) := by decide +kernel
theorem dL_law_956 : decode cL_law 956 = .ok (.invokevirtual 106, 3) := by decide +kernel
theorem dL_law_959 : decode cL_law 959 = .ok (.aload_n 2, 1) := by decide +kernel
theorem dL_law_960 : decode cL_law 960 = .ok (.aload_n 0, 1) := by decide +kernel
theorem dL_law_961 : decode cL_law 961 = .ok (.iload_n 3, 1) := by decide +kernel
theorem dL_law_962 : decode cL_law 962 = .ok (.iconst 1, 1) := by decide +kernel
theorem dL_law_963 : decode cL_law 963 = .ok (.iadd, 1) := by decide +kernel
theorem dL_law_964 : decode cL_law 964 = .ok (.iaload, 1) := by decide +kernel
theorem dL_law_965 : decode cL_law 965 = .ok (.aload_n 0, 1) := by decide +kernel
theorem dL_law_966 : decode cL_law 966 = .ok (.iload_n 3, 1) := by decide +kernel
theorem dL_law_967 : decode cL_law 967 = .ok (.iconst 2, 1) := by decide +kernel
theorem dL_law_968 : decode cL_law 968 = .ok (.iadd, 1) := by decide +kernel
theorem dL_law_969 : decode cL_law 969 = .ok (.iaload, 1) := by decide +kernel
theorem dL_law_970 : decode cL_law 970 = .ok (.invokevirtual 109, 3) := by decide +kernel
theorem dL_law_973 : decode cL_law 973 = .ok (.if_icmp .eq 273, 3) := by decide +kernel
theorem dL_law_976 : decode cL_law 976 = .ok (.iconst 0, 1) := by decide +kernel
theorem dL_law_977 : decode cL_law 977 = .ok (.ireturn, 1) := by decide +kernel
theorem dL_law_978 : decode cL_law 978 = .ok (.aload_n 1, 1) := by decide +kernel
theorem dL_law_979 : decode cL_law 979 = .ok (.aload_n 0, 1) := by decide +kernel
theorem dL_law_980 : decode cL_law 980 = .ok (.iload_n 3, 1) := by decide +kernel
theorem dL_law_981 : decode cL_law 981 = .ok (.iconst 1, 1) := by decide +kernel
theorem dL_law_982 : decode cL_law 982 = .ok (.iadd, 1) := by decide +kernel
theorem dL_law_983 : decode cL_law 983 = .ok (.iaload, 1) := by decide +kernel
theorem dL_law_984 : decode cL_law 984 = .ok (.aload_n 0, 1) := by decide +kernel
theorem dL_law_985 : decode cL_law 985 = .ok (.iload_n 3, 1) := by decide +kernel
theorem dL_law_986 : decode cL_law 986 = .ok (.iconst 2, 1) := by decide +kernel
theorem dL_law_987 : decode cL_law 987 = .ok (.iadd, 1) := by decide +kernel
theorem dL_law_988 : decode cL_law 988 = .ok (.iaload, 1) := by decide +kernel
theorem dL_law_989 : decode cL_law 989 = .ok (.aload_n 0, 1) := by decide +kernel
theorem dL_law_990 : decode cL_law 990 = .ok (.iload_n 3, 1) := by decide +kernel
theorem dL_law_991 : decode cL_law 991 = .ok (.iconst 3, 1) := by decide +kernel
theorem dL_law_992 : decode cL_law 992 = .ok (.iadd, 1) := by decide +kernel
theorem dL_law_993 : decode cL_law 993 = .ok (.iaload, 1) := by decide +kernel
theorem dL_law_994 : decode cL_law 994 = .ok (.aload_n 0, 1) := by decide +kernel
theorem dL_law_995 : decode cL_law 995 = .ok (.iload_n 3, 1) := by decide +kernel
theorem dL_law_996 : decode cL_law 996 = .ok (.iconst 4, 1) := by decide +kernel
theorem dL_law_997 : decode cL_law 997 = .ok (.iadd, 1) := by decide +kernel
theorem dL_law_998 : decode cL_law 998 = .ok (.iaload, 1) := by decide +kernel
theorem dL_law_999 : decode cL_law 999 = .ok (.aload_n 0, 1) := by decide +kernel
theorem dL_law_1000 : decode cL_law 1000 = .ok (.iload_n 3, 1) := by decide +kernel
theorem dL_law_1001 : decode cL_law 1001 = .ok (.iconst 5, 1) := by decide +kernel
theorem dL_law_1002 : decode cL_law 1002 = .ok (.iadd, 1) := by decide +kernel
theorem dL_law_1003 : decode cL_law 1003 = .ok (.iaload, 1) := by decide +kernel
theorem dL_law_1004 : decode cL_law 1004 = .ok (.invokevirtual 110, 3) := by decide +kernel
theorem dL_law_1007 : decode cL_law 1007 = .ok (.aload_n 2, 1) := by decide +kernel
theorem dL_law_1008 : decode cL_law 1008 = .ok (.aload_n 0, 1) := by decide +kernel
theorem dL_law_1009 : decode cL_law 1009 = .ok (.iload_n 3, 1) := by decide +kernel
theorem dL_law_1010 : decode cL_law 1010 = .ok (.iconst 1, 1) := by decide +kernel
theorem dL_law_1011 : decode cL_law 1011 = .ok (.iadd, 1) := by decide +kernel
theorem dL_law_1012 : decode cL_law 1012 = .ok (.iaload, 1) := by decide +kernel
theorem dL_law_1013 : decode cL_law 1013 = .ok (.aload_n 0, 1) := by decide +kernel
theorem dL_law_1014 : decode cL_law 1014 = .ok (.iload_n 3, 1) := by decide +kernel
theorem dL_law_1015 : decode cL_law 1015 = .ok (.iconst 2, 1) := by decide +kernel
theorem dL_law_1016 : decode cL_law 1016 = .ok (.iadd, 1) := by decide +kernel
theorem dL_law_1017 : decode cL_law 1017 = .ok (.iaload, 1) := by decide +kernel
theorem dL_law_1018 : decode cL_law 1018 = .ok (.aload_n 0, 1) := by decide +kernel
theorem dL_law_1019 : decode cL_law 1019 = .ok (.iload_n 3, 1) := by decide +kernel
theorem dL_law_1020 : decode cL_law 1020 = .ok (.iconst 3, 1) := by decide +kernel
theorem dL_law_1021 : decode cL_law 1021 = .ok (.iadd, 1) := by decide +kernel
theorem dL_law_1022 : decode cL_law 1022 = .ok (.iaload, 1) := by decide +kernel
theorem dL_law_1023 : decode cL_law 1023 = .ok (.aload_n 0, 1) := by decide +kernel
theorem dL_law_1024 : decode cL_law 1024 = .ok (.iload_n 3, 1) := by decide +kernel
theorem dL_law_1025 : decode cL_law 1025 = .ok (.iconst 4, 1) := by decide +kernel
theorem dL_law_1026 : decode cL_law 1026 = .ok (.iadd, 1) := by decide +kernel
theorem dL_law_1027 : decode cL_law 1027 = .ok (.iaload, 1) := by decide +kernel
theorem dL_law_1028 : decode cL_law 1028 = .ok (.aload_n 0, 1) := by decide +kernel
theorem dL_law_1029 : decode cL_law 1029 = .ok (.iload_n 3, 1) := by decide +kernel
theorem dL_law_1030 : decode cL_law 1030 = .ok (.iconst 5, 1) := by decide +kernel
theorem dL_law_1031 : decode cL_law 1031 = .ok (.iadd, 1) := by decide +kernel
theorem dL_law_1032 : decode cL_law 1032 = .ok (.iaload, 1) := by decide +kernel
theorem dL_law_1033 : decode cL_law 1033 = .ok (.invokevirtual 113, 3) := by decide +kernel
theorem dL_law_1036 : decode cL_law 1036 = .ok (.if_icmp .eq 210, 3) := by decide +kernel
theorem dL_law_1039 : decode cL_law 1039 = .ok (.iconst 0, 1) := by decide +kernel
theorem dL_law_1040 : decode cL_law 1040 = .ok (.ireturn, 1) := by decide +kernel
theorem dL_law_1041 : decode cL_law 1041 = .ok (.aload_n 1, 1) := by decide +kernel
theorem dL_law_1042 : decode cL_law 1042 = .ok (.invokevirtual 114, 3) := by decide +kernel
theorem dL_law_1045 : decode cL_law 1045 = .ok (.aload_n 2, 1) := by decide +kernel
theorem dL_law_1046 : decode cL_law 1046 = .ok (.invokevirtual 117, 3) := by decide +kernel
theorem dL_law_1049 : decode cL_law 1049 = .ok (.if_icmp .eq 197, 3) := by decide +kernel
theorem dL_law_1052 : decode cL_law 1052 = .ok (.iconst 0, 1) := by decide +kernel
theorem dL_law_1053 : decode cL_law 1053 = .ok (.ireturn, 1) := by decide +kernel
theorem dL_law_1054 : decode cL_law 1054 = .ok (.aload_n 1, 1) := by decide +kernel
theorem dL_law_1055 : decode cL_law 1055 = .ok (.aload_n 0, 1) := by decide +kernel
theorem dL_law_1056 : decode cL_law 1056 = .ok (.iload_n 3, 1) := by decide +kernel
theorem dL_law_1057 : decode cL_law 1057 = .ok (.iconst 1, 1) := by decide +kernel
theorem dL_law_1058 : decode cL_law 1058 = .ok (.iadd, 1) := by decide +kernel
theorem dL_law_1059 : decode cL_law 1059 = .ok (.iaload, 1) := by decide +kernel
theorem dL_law_1060 : decode cL_law 1060 = .ok (.aload_n 0, 1) := by decide +kernel
theorem dL_law_1061 : decode cL_law 1061 = .ok (.iload_n 3, 1) := by decide +kernel
theorem dL_law_1062 : decode cL_law 1062 = .ok (.iconst 2, 1) := by decide +kernel
theorem dL_law_1063 : decode cL_law 1063 = .ok (.iadd, 1) := by decide +kernel
theorem dL_law_1064 : decode cL_law 1064 = .ok (.iaload, 1) := by decide +kernel
theorem dL_law_1065 : decode cL_law 1065 = .ok (.aload_n 0, 1) := by decide +kernel
theorem dL_law_1066 : decode cL_law 1066 = .ok (.iload_n 3, 1) := by decide +kernel
theorem dL_law_1067 : decode cL_law 1067 = .ok (.iconst 3, 1) := by decide +kernel
theorem dL_law_1068 : decode cL_law 1068 = .ok (.iadd, 1) := by decide +kernel
theorem dL_law_1069 : decode cL_law 1069 = .ok (.iaload, 1) := by decide +kernel
theorem dL_law_1070 : decode cL_law 1070 = .ok (.invokevirtual 118, 3) := by decide +kernel
theorem dL_law_1073 : decode cL_law 1073 = .ok (.aload_n 2, 1) := by decide +kernel
theorem dL_law_1074 : decode cL_law 1074 = .ok (.aload_n 0, 1) := by decide +kernel
theorem dL_law_1075 : decode cL_law 1075 = .ok (.iload_n 3, 1) := by decide +kernel
theorem dL_law_1076 : decode cL_law 1076 = .ok (.iconst 1, 1) := by decide +kernel
theorem dL_law_1077 : decode cL_law 1077 = .ok (.iadd, 1) := by decide +kernel
theorem dL_law_1078 : decode cL_law 1078 = .ok (.iaload, 1) := by decide +kernel
theorem dL_law_1079 : decode cL_law 1079 = .ok (.aload_n 0, 1) := by decide +kernel
theorem dL_law_1080 : decode cL_law 1080 = .ok (.iload_n 3, 1) := by decide +kernel
theorem dL_law_1081 : decode cL_law 1081 = .ok (.iconst 2, 1) := by decide +kernel
theorem dL_law_1082 : decode cL_law 1082 = .ok (.iadd, 1) := by decide +kernel
theorem dL_law_1083 : decode cL_law 1083 = .ok (.iaload, 1) := by decide +kernel
theorem dL_law_1084 : decode cL_law 1084 = .ok (.aload_n 0, 1) := by decide +kernel
theorem dL_law_1085 : decode cL_law 1085 = .ok (.iload_n 3, 1) := by decide +kernel
theorem dL_law_1086 : decode cL_law 1086 = .ok (.iconst 3, 1) := by decide +kernel
theorem dL_law_1087 : decode cL_law 1087 = .ok (.iadd, 1) := by decide +kernel
theorem dL_law_1088 : decode cL_law 1088 = .ok (.iaload, 1) := by decide +kernel
theorem dL_law_1089 : decode cL_law 1089 = .ok (.invokevirtual 121, 3) := by decide +kernel
theorem dL_law_1092 : decode cL_law 1092 = .ok (.if_icmp .eq 154, 3) := by decide +kernel
theorem dL_law_1095 : decode cL_law 1095 = .ok (.iconst 0, 1) := by decide +kernel
theorem dL_law_1096 : decode cL_law 1096 = .ok (.ireturn, 1) := by decide +kernel
theorem dL_law_1097 : decode cL_law 1097 = .ok (.aload_n 1, 1) := by decide +kernel
theorem dL_law_1098 : decode cL_law 1098 = .ok (.aload_n 0, 1) := by decide +kernel
theorem dL_law_1099 : decode cL_law 1099 = .ok (.iload_n 3, 1) := by decide +kernel
theorem dL_law_1100 : decode cL_law 1100 = .ok (.iconst 1, 1) := by decide +kernel
theorem dL_law_1101 : decode cL_law 1101 = .ok (.iadd, 1) := by decide +kernel
theorem dL_law_1102 : decode cL_law 1102 = .ok (.iaload, 1) := by decide +kernel
theorem dL_law_1103 : decode cL_law 1103 = .ok (.aload_n 0, 1) := by decide +kernel
theorem dL_law_1104 : decode cL_law 1104 = .ok (.iload_n 3, 1) := by decide +kernel
theorem dL_law_1105 : decode cL_law 1105 = .ok (.iconst 2, 1) := by decide +kernel
theorem dL_law_1106 : decode cL_law 1106 = .ok (.iadd, 1) := by decide +kernel
theorem dL_law_1107 : decode cL_law 1107 = .ok (.iaload, 1) := by decide +kernel
theorem dL_law_1108 : decode cL_law 1108 = .ok (.aload_n 0, 1) := by decide +kernel
theorem dL_law_1109 : decode cL_law 1109 = .ok (.iload_n 3, 1) := by decide +kernel
theorem dL_law_1110 : decode cL_law 1110 = .ok (.iconst 3, 1) := by decide +kernel
theorem dL_law_1111 : decode cL_law 1111 = .ok (.iadd, 1) := by decide +kernel
theorem dL_law_1112 : decode cL_law 1112 = .ok (.iaload, 1) := by decide +kernel
theorem dL_law_1113 : decode cL_law 1113 = .ok (.invokevirtual 122, 3) := by decide +kernel
theorem dL_law_1116 : decode cL_law 1116 = .ok (.aload_n 2, 1) := by decide +kernel
theorem dL_law_1117 : decode cL_law 1117 = .ok (.aload_n 0, 1) := by decide +kernel
theorem dL_law_1118 : decode cL_law 1118 = .ok (.iload_n 3, 1) := by decide +kernel
theorem dL_law_1119 : decode cL_law 1119 = .ok (.iconst 1, 1) := by decide +kernel
theorem dL_law_1120 : decode cL_law 1120 = .ok (.iadd, 1) := by decide +kernel
theorem dL_law_1121 : decode cL_law 1121 = .ok (.iaload, 1) := by decide +kernel
theorem dL_law_1122 : decode cL_law 1122 = .ok (.aload_n 0, 1) := by decide +kernel
theorem dL_law_1123 : decode cL_law 1123 = .ok (.iload_n 3, 1) := by decide +kernel
theorem dL_law_1124 : decode cL_law 1124 = .ok (.iconst 2, 1) := by decide +kernel
theorem dL_law_1125 : decode cL_law 1125 = .ok (.iadd, 1) := by decide +kernel
theorem dL_law_1126 : decode cL_law 1126 = .ok (.iaload, 1) := by decide +kernel
theorem dL_law_1127 : decode cL_law 1127 = .ok (.aload_n 0, 1) := by decide +kernel
theorem dL_law_1128 : decode cL_law 1128 = .ok (.iload_n 3, 1) := by decide +kernel
theorem dL_law_1129 : decode cL_law 1129 = .ok (.iconst 3, 1) := by decide +kernel
theorem dL_law_1130 : decode cL_law 1130 = .ok (.iadd, 1) := by decide +kernel
theorem dL_law_1131 : decode cL_law 1131 = .ok (.iaload, 1) := by decide +kernel
theorem dL_law_1132 : decode cL_law 1132 = .ok (.invokevirtual 125, 3) := by decide +kernel
theorem dL_law_1135 : decode cL_law 1135 = .ok (.if_icmp .eq 111, 3) := by decide +kernel
theorem dL_law_1138 : decode cL_law 1138 = .ok (.iconst 0, 1) := by decide +kernel
theorem dL_law_1139 : decode cL_law 1139 = .ok (.ireturn, 1) := by decide +kernel
theorem dL_law_1140 : decode cL_law 1140 = .ok (.aload_n 1, 1) := by decide +kernel
theorem dL_law_1141 : decode cL_law 1141 = .ok (.aload_n 0, 1) := by decide +kernel
theorem dL_law_1142 : decode cL_law 1142 = .ok (.iload_n 3, 1) := by decide +kernel
theorem dL_law_1143 : decode cL_law 1143 = .ok (.iconst 1, 1) := by decide +kernel
theorem dL_law_1144 : decode cL_law 1144 = .ok (.iadd, 1) := by decide +kernel
theorem dL_law_1145 : decode cL_law 1145 = .ok (.iaload, 1) := by decide +kernel
theorem dL_law_1146 : decode cL_law 1146 = .ok (.invokevirtual 126, 3) := by decide +kernel
theorem dL_law_1149 : decode cL_law 1149 = .ok (.aload_n 2, 1) := by decide +kernel
theorem dL_law_1150 : decode cL_law 1150 = .ok (.aload_n 0, 1) := by decide +kernel
theorem dL_law_1151 : decode cL_law 1151 = .ok (.iload_n 3, 1) := by decide +kernel
theorem dL_law_1152 : decode cL_law 1152 = .ok (.iconst 1, 1) := by decide +kernel
theorem dL_law_1153 : decode cL_law 1153 = .ok (.iadd, 1) := by decide +kernel
theorem dL_law_1154 : decode cL_law 1154 = .ok (.iaload, 1) := by decide +kernel
theorem dL_law_1155 : decode cL_law 1155 = .ok (.invokevirtual 129, 3) := by decide +kernel
theorem dL_law_1158 : decode cL_law 1158 = .ok (.if_icmp .eq 88, 3) := by decide +kernel
theorem dL_law_1161 : decode cL_law 1161 = .ok (.iconst 0, 1) := by decide +kernel
theorem dL_law_1162 : decode cL_law 1162 = .ok (.ireturn, 1) := by decide +kernel
theorem dL_law_1163 : decode cL_law 1163 = .ok (.aload_n 1, 1) := by decide +kernel
theorem dL_law_1164 : decode cL_law 1164 = .ok (.aload_n 0, 1) := by decide +kernel
theorem dL_law_1165 : decode cL_law 1165 = .ok (.iload_n 3, 1) := by decide +kernel
theorem dL_law_1166 : decode cL_law 1166 = .ok (.iconst 1, 1) := by decide +kernel
theorem dL_law_1167 : decode cL_law 1167 = .ok (.iadd, 1) := by decide +kernel
theorem dL_law_1168 : decode cL_law 1168 = .ok (.iaload, 1) := by decide +kernel
theorem dL_law_1169 : decode cL_law 1169 = .ok (.invokevirtual 130, 3) := by decide +kernel
theorem dL_law_1172 : decode cL_law 1172 = .ok (.aload_n 2, 1) := by decide +kernel
theorem dL_law_1173 : decode cL_law 1173 = .ok (.aload_n 0, 1) := by decide +kernel
theorem dL_law_1174 : decode cL_law 1174 = .ok (.iload_n 3, 1) := by decide +kernel
theorem dL_law_1175 : decode cL_law 1175 = .ok (.iconst 1, 1) := by decide +kernel
theorem dL_law_1176 : decode cL_law 1176 = .ok (.iadd, 1) := by decide +kernel
theorem dL_law_1177 : decode cL_law 1177 = .ok (.iaload, 1) := by decide +kernel
theorem dL_law_1178 : decode cL_law 1178 = .ok (.invokevirtual 133, 3) := by decide +kernel
theorem dL_law_1181 : decode cL_law 1181 = .ok (.if_icmp .eq 65, 3) := by decide +kernel
theorem dL_law_1184 : decode cL_law 1184 = .ok (.iconst 0, 1) := by decide +kernel
theorem dL_law_1185 : decode cL_law 1185 = .ok (.ireturn, 1) := by decide +kernel
theorem dL_law_1186 : decode cL_law 1186 = .ok (.aload_n 1, 1) := by decide +kernel
theorem dL_law_1187 : decode cL_law 1187 = .ok (.aload_n 0, 1) := by decide +kernel
theorem dL_law_1188 : decode cL_law 1188 = .ok (.iload_n 3, 1) := by decide +kernel
theorem dL_law_1189 : decode cL_law 1189 = .ok (.iconst 1, 1) := by decide +kernel
theorem dL_law_1190 : decode cL_law 1190 = .ok (.iadd, 1) := by decide +kernel
theorem dL_law_1191 : decode cL_law 1191 = .ok (.iaload, 1) := by decide +kernel
theorem dL_law_1192 : decode cL_law 1192 = .ok (.invokevirtual 134, 3) := by decide +kernel
theorem dL_law_1195 : decode cL_law 1195 = .ok (.aload_n 2, 1) := by decide +kernel
theorem dL_law_1196 : decode cL_law 1196 = .ok (.aload_n 0, 1) := by decide +kernel
theorem dL_law_1197 : decode cL_law 1197 = .ok (.iload_n 3, 1) := by decide +kernel
theorem dL_law_1198 : decode cL_law 1198 = .ok (.iconst 1, 1) := by decide +kernel
theorem dL_law_1199 : decode cL_law 1199 = .ok (.iadd, 1) := by decide +kernel
theorem dL_law_1200 : decode cL_law 1200 = .ok (.iaload, 1) := by decide +kernel
theorem dL_law_1201 : decode cL_law 1201 = .ok (.invokevirtual 137, 3) := by decide +kernel
theorem dL_law_1204 : decode cL_law 1204 = .ok (.if_icmp .eq 42, 3) := by decide +kernel
theorem dL_law_1207 : decode cL_law 1207 = .ok (.iconst 0, 1) := by decide +kernel
theorem dL_law_1208 : decode cL_law 1208 = .ok (.ireturn, 1) := by decide +kernel
theorem dL_law_1209 : decode cL_law 1209 = .ok (.aload_n 1, 1) := by decide +kernel
theorem dL_law_1210 : decode cL_law 1210 = .ok (.aload_n 0, 1) := by decide +kernel
theorem dL_law_1211 : decode cL_law 1211 = .ok (.iload_n 3, 1) := by decide +kernel
theorem dL_law_1212 : decode cL_law 1212 = .ok (.iconst 1, 1) := by decide +kernel
theorem dL_law_1213 : decode cL_law 1213 = .ok (.iadd, 1) := by decide +kernel
theorem dL_law_1214 : decode cL_law 1214 = .ok (.iaload, 1) := by decide +kernel
theorem dL_law_1215 : decode cL_law 1215 = .ok (.invokevirtual 138, 3) := by decide +kernel
theorem dL_law_1218 : decode cL_law 1218 = .ok (.aload_n 2, 1) := by decide +kernel
theorem dL_law_1219 : decode cL_law 1219 = .ok (.aload_n 0, 1) := by decide +kernel
theorem dL_law_1220 : decode cL_law 1220 = .ok (.iload_n 3, 1) := by decide +kernel
theorem dL_law_1221 : decode cL_law 1221 = .ok (.iconst 1, 1) := by decide +kernel
theorem dL_law_1222 : decode cL_law 1222 = .ok (.iadd, 1) := by decide +kernel
theorem dL_law_1223 : decode cL_law 1223 = .ok (.iaload, 1) := by decide +kernel
theorem dL_law_1224 : decode cL_law 1224 = .ok (.invokevirtual 141, 3) := by decide +kernel
theorem dL_law_1227 : decode cL_law 1227 = .ok (.if_icmp .eq 19, 3) := by decide +kernel
theorem dL_law_1230 : decode cL_law 1230 = .ok (.iconst 0, 1) := by decide +kernel
theorem dL_law_1231 : decode cL_law 1231 = .ok (.ireturn, 1) := by decide +kernel
theorem dL_law_1232 : decode cL_law 1232 = .ok (.aload_n 1, 1) := by decide +kernel
theorem dL_law_1233 : decode cL_law 1233 = .ok (.invokevirtual 142, 3) := by decide +kernel
theorem dL_law_1236 : decode cL_law 1236 = .ok (.aload_n 2, 1) := by decide +kernel
theorem dL_law_1237 : decode cL_law 1237 = .ok (.invokevirtual 146, 3) := by decide +kernel
theorem dL_law_1240 : decode cL_law 1240 = .ok (.lcmp, 1) := by decide +kernel
theorem dL_law_1241 : decode cL_law 1241 = .ok (.ifCond .eq 5, 3) := by decide +kernel
theorem dL_law_1244 : decode cL_law 1244 = .ok (.iconst 0, 1) := by decide +kernel
theorem dL_law_1245 : decode cL_law 1245 = .ok (.ireturn, 1) := by decide +kernel
theorem dL_law_1246 : decode cL_law 1246 = .ok (.iinc 3 6, 3) := by decide +kernel
theorem dL_law_1249 : decode cL_law 1249 = .ok (.goto (-1231), 3) := by decide +kernel
theorem dL_law_1252 : decode cL_law 1252 = .ok (.iconst 1, 1) := by decide +kernel
theorem dL_law_1253 : decode cL_law 1253 = .ok (.ireturn, 1) := by decide +kernel
def bL_law (nn : Nat) (sc : Nat → Int) : ol_SE := es_seq (es_setr 1 (er_n 10 tyX10 18 93 12266 fX10_init (mc mX10_init) (ms mX10_init) (ea_0))) (es_seq (es_setr 2 (er_n 11 tyX11 42 93 12266 fX11_init (mc mX11_init) (ms mX11_init) (ea_0))) (es_seq (es_seq (es_set 3 (ei_c 0)) (es_wh (ec_2 ol_le (ei_v 3) (ei_2 ol_sub (ei_l8 nn (er_v 0)) (ei_c 6))) (es_seq (es_sw (ei_2 ol_and (ei_s8 nn sc (er_v 0) (ei_v 3)) (ei_c 31)) 0 [es_if (ec_2 ol_ne (ei_of (ea_cv 10 fX10_type (ea_r (er_v 1) (ea_j (ej_2 ej_or (ej_s ej_shl (ej_i (ei_s8 nn sc (er_v 0) (ei_2 ol_add (ei_v 3) (ei_c 1)))) (ei_c 32)) (ej_2 ej_and (ej_i (ei_s8 nn sc (er_v 0) (ei_2 ol_add (ei_v 3) (ei_c 2)))) (ej_c 4294967295))) (ea_i (ei_s8 nn sc (er_v 0) (ei_2 ol_add (ei_v 3) (ei_c 3))) (ea_0)))))) (ei_of (ea_cv 11 fX11_type (ea_r (er_v 2) (ea_j (ej_2 ej_or (ej_s ej_shl (ej_i (ei_s8 nn sc (er_v 0) (ei_2 ol_add (ei_v 3) (ei_c 1)))) (ei_c 32)) (ej_2 ej_and (ej_i (ei_s8 nn sc (er_v 0) (ei_2 ol_add (ei_v 3) (ei_c 2)))) (ej_c 4294967295))) (ea_i (ei_s8 nn sc (er_v 0) (ei_2 ol_add (ei_v 3) (ei_c 3))) (ea_0))))))) (es_retz (ei_c 0)) es_skip, es_if (ec_2 ol_ne (ei_of (ea_cv 10 fX10_clear (ea_r (er_v 1) (ea_0)))) (ei_of (ea_cv 11 fX11_clear (ea_r (er_v 2) (ea_0))))) (es_retz (ei_c 0)) es_skip, es_if (ec_2 ol_ne (ei_of (ea_cv 10 fX10_pattern (ea_r (er_v 1) (ea_i (ei_s8 nn sc (er_v 0) (ei_2 ol_add (ei_v 3) (ei_c 1))) (ea_0))))) (ei_of (ea_cv 11 fX11_pattern (ea_r (er_v 2) (ea_i (ei_s8 nn sc (er_v 0) (ei_2 ol_add (ei_v 3) (ei_c 1))) (ea_0)))))) (es_retz (ei_c 0)) es_skip, es_if (ec_2 ol_ne (ei_of (ea_cv 10 fX10_lay (ea_r (er_v 1) (ea_i (ei_s8 nn sc (er_v 0) (ei_2 ol_add (ei_v 3) (ei_c 1))) (ea_0))))) (ei_of (ea_cv 11 fX11_lay (ea_r (er_v 2) (ea_i (ei_s8 nn sc (er_v 0) (ei_2 ol_add (ei_v 3) (ei_c 1))) (ea_0)))))) (es_retz (ei_c 0)) es_skip, es_if (ec_2 ol_ne (ei_of (ea_cv 10 fX10_drops (ea_r (er_v 1) (ea_i (ei_s8 nn sc (er_v 0) (ei_2 ol_add (ei_v 3) (ei_c 1))) (ea_i (ei_s8 nn sc (er_v 0) (ei_2 ol_add (ei_v 3) (ei_c 2))) (ea_0)))))) (ei_of (ea_cv 11 fX11_drops (ea_r (er_v 2) (ea_i (ei_s8 nn sc (er_v 0) (ei_2 ol_add (ei_v 3) (ei_c 1))) (ea_i (ei_s8 nn sc (er_v 0) (ei_2 ol_add (ei_v 3) (ei_c 2))) (ea_0))))))) (es_retz (ei_c 0)) es_skip, es_if (ec_2 ol_ne (ei_of (ea_cv 10 fX10_oil (ea_r (er_v 1) (ea_i (ei_s8 nn sc (er_v 0) (ei_2 ol_add (ei_v 3) (ei_c 1))) (ea_0))))) (ei_of (ea_cv 11 fX11_oil (ea_r (er_v 2) (ea_i (ei_s8 nn sc (er_v 0) (ei_2 ol_add (ei_v 3) (ei_c 1))) (ea_0)))))) (es_retz (ei_c 0)) es_skip, es_if (ec_2 ol_ne (ei_of (ea_cv 10 fX10_ball (ea_r (er_v 1) (ea_i (ei_s8 nn sc (er_v 0) (ei_2 ol_add (ei_v 3) (ei_c 1))) (ea_i (ei_s8 nn sc (er_v 0) (ei_2 ol_add (ei_v 3) (ei_c 2))) (ea_i (ei_s8 nn sc (er_v 0) (ei_2 ol_add (ei_v 3) (ei_c 3))) (ea_0))))))) (ei_of (ea_cv 11 fX11_ball (ea_r (er_v 2) (ea_i (ei_s8 nn sc (er_v 0) (ei_2 ol_add (ei_v 3) (ei_c 1))) (ea_i (ei_s8 nn sc (er_v 0) (ei_2 ol_add (ei_v 3) (ei_c 2))) (ea_i (ei_s8 nn sc (er_v 0) (ei_2 ol_add (ei_v 3) (ei_c 3))) (ea_0)))))))) (es_retz (ei_c 0)) es_skip, es_if (ec_2 ol_ne (ei_of (ea_cv 10 fX10_shot (ea_r (er_v 1) (ea_i (ei_s8 nn sc (er_v 0) (ei_2 ol_add (ei_v 3) (ei_c 1))) (ea_i (ei_s8 nn sc (er_v 0) (ei_2 ol_add (ei_v 3) (ei_c 2))) (ea_i (ei_s8 nn sc (er_v 0) (ei_2 ol_add (ei_v 3) (ei_c 3))) (ea_i (ei_s8 nn sc (er_v 0) (ei_2 ol_add (ei_v 3) (ei_c 4))) (ea_0)))))))) (ei_of (ea_cv 11 fX11_shot (ea_r (er_v 2) (ea_i (ei_s8 nn sc (er_v 0) (ei_2 ol_add (ei_v 3) (ei_c 1))) (ea_i (ei_s8 nn sc (er_v 0) (ei_2 ol_add (ei_v 3) (ei_c 2))) (ea_i (ei_s8 nn sc (er_v 0) (ei_2 ol_add (ei_v 3) (ei_c 3))) (ea_i (ei_s8 nn sc (er_v 0) (ei_2 ol_add (ei_v 3) (ei_c 4))) (ea_0))))))))) (es_retz (ei_c 0)) es_skip, es_if (ec_2 ol_ne (ei_of (ea_cv 10 fX10_came (ea_r (er_v 1) (ea_i (ei_s8 nn sc (er_v 0) (ei_2 ol_add (ei_v 3) (ei_c 1))) (ea_0))))) (ei_of (ea_cv 11 fX11_came (ea_r (er_v 2) (ea_i (ei_s8 nn sc (er_v 0) (ei_2 ol_add (ei_v 3) (ei_c 1))) (ea_0)))))) (es_retz (ei_c 0)) es_skip, es_if (ec_2 ol_ne (ei_of (ea_cv 10 fX10_tried (ea_r (er_v 1) (ea_i (ei_s8 nn sc (er_v 0) (ei_2 ol_add (ei_v 3) (ei_c 1))) (ea_i (ei_s8 nn sc (er_v 0) (ei_2 ol_add (ei_v 3) (ei_c 2))) (ea_i (ei_s8 nn sc (er_v 0) (ei_2 ol_add (ei_v 3) (ei_c 3))) (ea_i (ei_s8 nn sc (er_v 0) (ei_2 ol_add (ei_v 3) (ei_c 4))) (ea_0)))))))) (ei_of (ea_cv 11 fX11_tried (ea_r (er_v 2) (ea_i (ei_s8 nn sc (er_v 0) (ei_2 ol_add (ei_v 3) (ei_c 1))) (ea_i (ei_s8 nn sc (er_v 0) (ei_2 ol_add (ei_v 3) (ei_c 2))) (ea_i (ei_s8 nn sc (er_v 0) (ei_2 ol_add (ei_v 3) (ei_c 3))) (ea_i (ei_s8 nn sc (er_v 0) (ei_2 ol_add (ei_v 3) (ei_c 4))) (ea_0))))))))) (es_retz (ei_c 0)) es_skip, es_if (ec_2 ol_ne (ei_of (ea_cv 10 fX10_fall (ea_r (er_v 1) (ea_i (ei_s8 nn sc (er_v 0) (ei_2 ol_add (ei_v 3) (ei_c 1))) (ea_i (ei_s8 nn sc (er_v 0) (ei_2 ol_add (ei_v 3) (ei_c 2))) (ea_i (ei_s8 nn sc (er_v 0) (ei_2 ol_add (ei_v 3) (ei_c 3))) (ea_i (ei_s8 nn sc (er_v 0) (ei_2 ol_add (ei_v 3) (ei_c 4))) (ea_0)))))))) (ei_of (ea_cv 11 fX11_fall (ea_r (er_v 2) (ea_i (ei_s8 nn sc (er_v 0) (ei_2 ol_add (ei_v 3) (ei_c 1))) (ea_i (ei_s8 nn sc (er_v 0) (ei_2 ol_add (ei_v 3) (ei_c 2))) (ea_i (ei_s8 nn sc (er_v 0) (ei_2 ol_add (ei_v 3) (ei_c 3))) (ea_i (ei_s8 nn sc (er_v 0) (ei_2 ol_add (ei_v 3) (ei_c 4))) (ea_0))))))))) (es_retz (ei_c 0)) es_skip, es_if (ec_2 ol_ne (ei_of (ea_cv 10 fX10_roll (ea_r (er_v 1) (ea_i (ei_s8 nn sc (er_v 0) (ei_2 ol_add (ei_v 3) (ei_c 1))) (ea_0))))) (ei_of (ea_cv 11 fX11_roll (ea_r (er_v 2) (ea_i (ei_s8 nn sc (er_v 0) (ei_2 ol_add (ei_v 3) (ei_c 1))) (ea_0)))))) (es_retz (ei_c 0)) es_skip, es_if (ec_2 ol_ne (ei_of (ea_cv 10 fX10_game (ea_r (er_v 1) (ea_i (ei_s8 nn sc (er_v 0) (ei_2 ol_add (ei_v 3) (ei_c 1))) (ea_0))))) (ei_of (ea_cv 11 fX11_game (ea_r (er_v 2) (ea_i (ei_s8 nn sc (er_v 0) (ei_2 ol_add (ei_v 3) (ei_c 1))) (ea_0)))))) (es_retz (ei_c 0)) es_skip, es_if (ec_2 ol_ne (ei_of (ea_cv 10 fX10_anew (ea_r (er_v 1) (ea_0)))) (ei_of (ea_cv 11 fX11_anew (ea_r (er_v 2) (ea_0))))) (es_retz (ei_c 0)) es_skip, es_if (ec_2 ol_ne (ei_of (ea_cv 10 fX10_scatter (ea_r (er_v 1) (ea_i (ei_s8 nn sc (er_v 0) (ei_2 ol_add (ei_v 3) (ei_c 1))) (ea_i (ei_s8 nn sc (er_v 0) (ei_2 ol_add (ei_v 3) (ei_c 2))) (ea_i (ei_s8 nn sc (er_v 0) (ei_2 ol_add (ei_v 3) (ei_c 3))) (ea_i (ei_s8 nn sc (er_v 0) (ei_2 ol_add (ei_v 3) (ei_c 4))) (ea_0)))))))) (ei_of (ea_cv 11 fX11_scatter (ea_r (er_v 2) (ea_i (ei_s8 nn sc (er_v 0) (ei_2 ol_add (ei_v 3) (ei_c 1))) (ea_i (ei_s8 nn sc (er_v 0) (ei_2 ol_add (ei_v 3) (ei_c 2))) (ea_i (ei_s8 nn sc (er_v 0) (ei_2 ol_add (ei_v 3) (ei_c 3))) (ea_i (ei_s8 nn sc (er_v 0) (ei_2 ol_add (ei_v 3) (ei_c 4))) (ea_0))))))))) (es_retz (ei_c 0)) es_skip, es_if (ec_2 ol_ne (ei_of (ea_cv 10 fX10_mean (ea_r (er_v 1) (ea_i (ei_s8 nn sc (er_v 0) (ei_2 ol_add (ei_v 3) (ei_c 1))) (ea_i (ei_s8 nn sc (er_v 0) (ei_2 ol_add (ei_v 3) (ei_c 2))) (ea_i (ei_s8 nn sc (er_v 0) (ei_2 ol_add (ei_v 3) (ei_c 3))) (ea_i (ei_s8 nn sc (er_v 0) (ei_2 ol_add (ei_v 3) (ei_c 4))) (ea_i (ei_s8 nn sc (er_v 0) (ei_2 ol_add (ei_v 3) (ei_c 5))) (ea_0))))))))) (ei_of (ea_cv 11 fX11_mean (ea_r (er_v 2) (ea_i (ei_s8 nn sc (er_v 0) (ei_2 ol_add (ei_v 3) (ei_c 1))) (ea_i (ei_s8 nn sc (er_v 0) (ei_2 ol_add (ei_v 3) (ei_c 2))) (ea_i (ei_s8 nn sc (er_v 0) (ei_2 ol_add (ei_v 3) (ei_c 3))) (ea_i (ei_s8 nn sc (er_v 0) (ei_2 ol_add (ei_v 3) (ei_c 4))) (ea_i (ei_s8 nn sc (er_v 0) (ei_2 ol_add (ei_v 3) (ei_c 5))) (ea_0)))))))))) (es_retz (ei_c 0)) es_skip, es_if (ec_2 ol_ne (ei_of (ea_cv 10 fX10_best (ea_r (er_v 1) (ea_i (ei_s8 nn sc (er_v 0) (ei_2 ol_add (ei_v 3) (ei_c 1))) (ea_i (ei_s8 nn sc (er_v 0) (ei_2 ol_add (ei_v 3) (ei_c 2))) (ea_i (ei_s8 nn sc (er_v 0) (ei_2 ol_add (ei_v 3) (ei_c 3))) (ea_0))))))) (ei_of (ea_cv 11 fX11_best (ea_r (er_v 2) (ea_i (ei_s8 nn sc (er_v 0) (ei_2 ol_add (ei_v 3) (ei_c 1))) (ea_i (ei_s8 nn sc (er_v 0) (ei_2 ol_add (ei_v 3) (ei_c 2))) (ea_i (ei_s8 nn sc (er_v 0) (ei_2 ol_add (ei_v 3) (ei_c 3))) (ea_0)))))))) (es_retz (ei_c 0)) es_skip, es_if (ec_2 ol_ne (ei_of (ea_cv 10 fX10_thrower (ea_r (er_v 1) (ea_i (ei_s8 nn sc (er_v 0) (ei_2 ol_add (ei_v 3) (ei_c 1))) (ea_i (ei_s8 nn sc (er_v 0) (ei_2 ol_add (ei_v 3) (ei_c 2))) (ea_i (ei_s8 nn sc (er_v 0) (ei_2 ol_add (ei_v 3) (ei_c 3))) (ea_i (ei_s8 nn sc (er_v 0) (ei_2 ol_add (ei_v 3) (ei_c 4))) (ea_i (ei_s8 nn sc (er_v 0) (ei_2 ol_add (ei_v 3) (ei_c 5))) (ea_0))))))))) (ei_of (ea_cv 11 fX11_thrower (ea_r (er_v 2) (ea_i (ei_s8 nn sc (er_v 0) (ei_2 ol_add (ei_v 3) (ei_c 1))) (ea_i (ei_s8 nn sc (er_v 0) (ei_2 ol_add (ei_v 3) (ei_c 2))) (ea_i (ei_s8 nn sc (er_v 0) (ei_2 ol_add (ei_v 3) (ei_c 3))) (ea_i (ei_s8 nn sc (er_v 0) (ei_2 ol_add (ei_v 3) (ei_c 4))) (ea_i (ei_s8 nn sc (er_v 0) (ei_2 ol_add (ei_v 3) (ei_c 5))) (ea_0)))))))))) (es_retz (ei_c 0)) es_skip, es_if (ec_2 ol_ne (ei_of (ea_cv 10 fX10_stands (ea_r (er_v 1) (ea_i (ei_s8 nn sc (er_v 0) (ei_2 ol_add (ei_v 3) (ei_c 1))) (ea_i (ei_s8 nn sc (er_v 0) (ei_2 ol_add (ei_v 3) (ei_c 2))) (ea_0)))))) (ei_of (ea_cv 11 fX11_stands (ea_r (er_v 2) (ea_i (ei_s8 nn sc (er_v 0) (ei_2 ol_add (ei_v 3) (ei_c 1))) (ea_i (ei_s8 nn sc (er_v 0) (ei_2 ol_add (ei_v 3) (ei_c 2))) (ea_0))))))) (es_retz (ei_c 0)) es_skip, es_if (ec_2 ol_ne (ei_of (ea_cv 10 fX10_evening (ea_r (er_v 1) (ea_i (ei_s8 nn sc (er_v 0) (ei_2 ol_add (ei_v 3) (ei_c 1))) (ea_0))))) (ei_of (ea_cv 11 fX11_evening (ea_r (er_v 2) (ea_i (ei_s8 nn sc (er_v 0) (ei_2 ol_add (ei_v 3) (ei_c 1))) (ea_0)))))) (es_retz (ei_c 0)) es_skip, es_if (ec_2 ol_ne (ei_of (ea_cv 10 fX10_would (ea_r (er_v 1) (ea_i (ei_s8 nn sc (er_v 0) (ei_2 ol_add (ei_v 3) (ei_c 1))) (ea_i (ei_s8 nn sc (er_v 0) (ei_2 ol_add (ei_v 3) (ei_c 2))) (ea_0)))))) (ei_of (ea_cv 11 fX11_would (ea_r (er_v 2) (ea_i (ei_s8 nn sc (er_v 0) (ei_2 ol_add (ei_v 3) (ei_c 1))) (ea_i (ei_s8 nn sc (er_v 0) (ei_2 ol_add (ei_v 3) (ei_c 2))) (ea_0))))))) (es_retz (ei_c 0)) es_skip, es_if (ec_2 ol_ne (ei_of (ea_cv 10 fX10_order (ea_r (er_v 1) (ea_i (ei_s8 nn sc (er_v 0) (ei_2 ol_add (ei_v 3) (ei_c 1))) (ea_i (ei_s8 nn sc (er_v 0) (ei_2 ol_add (ei_v 3) (ei_c 2))) (ea_0)))))) (ei_of (ea_cv 11 fX11_order (ea_r (er_v 2) (ea_i (ei_s8 nn sc (er_v 0) (ei_2 ol_add (ei_v 3) (ei_c 1))) (ea_i (ei_s8 nn sc (er_v 0) (ei_2 ol_add (ei_v 3) (ei_c 2))) (ea_0))))))) (es_retz (ei_c 0)) es_skip, es_if (ec_2 ol_ne (ei_of (ea_cv 10 fX10_clue (ea_r (er_v 1) (ea_i (ei_s8 nn sc (er_v 0) (ei_2 ol_add (ei_v 3) (ei_c 1))) (ea_i (ei_s8 nn sc (er_v 0) (ei_2 ol_add (ei_v 3) (ei_c 2))) (ea_i (ei_s8 nn sc (er_v 0) (ei_2 ol_add (ei_v 3) (ei_c 3))) (ea_i (ei_s8 nn sc (er_v 0) (ei_2 ol_add (ei_v 3) (ei_c 4))) (ea_i (ei_s8 nn sc (er_v 0) (ei_2 ol_add (ei_v 3) (ei_c 5))) (ea_0))))))))) (ei_of (ea_cv 11 fX11_clue (ea_r (er_v 2) (ea_i (ei_s8 nn sc (er_v 0) (ei_2 ol_add (ei_v 3) (ei_c 1))) (ea_i (ei_s8 nn sc (er_v 0) (ei_2 ol_add (ei_v 3) (ei_c 2))) (ea_i (ei_s8 nn sc (er_v 0) (ei_2 ol_add (ei_v 3) (ei_c 3))) (ea_i (ei_s8 nn sc (er_v 0) (ei_2 ol_add (ei_v 3) (ei_c 4))) (ea_i (ei_s8 nn sc (er_v 0) (ei_2 ol_add (ei_v 3) (ei_c 5))) (ea_0)))))))))) (es_retz (ei_c 0)) es_skip, es_if (ec_2 ol_ne (ei_of (ea_cv 10 fX10_fits (ea_r (er_v 1) (ea_0)))) (ei_of (ea_cv 11 fX11_fits (ea_r (er_v 2) (ea_0))))) (es_retz (ei_c 0)) es_skip, es_if (ec_2 ol_ne (ei_of (ea_cv 10 fX10_trunk (ea_r (er_v 1) (ea_i (ei_s8 nn sc (er_v 0) (ei_2 ol_add (ei_v 3) (ei_c 1))) (ea_i (ei_s8 nn sc (er_v 0) (ei_2 ol_add (ei_v 3) (ei_c 2))) (ea_i (ei_s8 nn sc (er_v 0) (ei_2 ol_add (ei_v 3) (ei_c 3))) (ea_0))))))) (ei_of (ea_cv 11 fX11_trunk (ea_r (er_v 2) (ea_i (ei_s8 nn sc (er_v 0) (ei_2 ol_add (ei_v 3) (ei_c 1))) (ea_i (ei_s8 nn sc (er_v 0) (ei_2 ol_add (ei_v 3) (ei_c 2))) (ea_i (ei_s8 nn sc (er_v 0) (ei_2 ol_add (ei_v 3) (ei_c 3))) (ea_0)))))))) (es_retz (ei_c 0)) es_skip, es_if (ec_2 ol_ne (ei_of (ea_cv 10 fX10_spare (ea_r (er_v 1) (ea_i (ei_s8 nn sc (er_v 0) (ei_2 ol_add (ei_v 3) (ei_c 1))) (ea_i (ei_s8 nn sc (er_v 0) (ei_2 ol_add (ei_v 3) (ei_c 2))) (ea_i (ei_s8 nn sc (er_v 0) (ei_2 ol_add (ei_v 3) (ei_c 3))) (ea_0))))))) (ei_of (ea_cv 11 fX11_spare (ea_r (er_v 2) (ea_i (ei_s8 nn sc (er_v 0) (ei_2 ol_add (ei_v 3) (ei_c 1))) (ea_i (ei_s8 nn sc (er_v 0) (ei_2 ol_add (ei_v 3) (ei_c 2))) (ea_i (ei_s8 nn sc (er_v 0) (ei_2 ol_add (ei_v 3) (ei_c 3))) (ea_0)))))))) (es_retz (ei_c 0)) es_skip, es_if (ec_2 ol_ne (ei_of (ea_cv 10 fX10_worth (ea_r (er_v 1) (ea_i (ei_s8 nn sc (er_v 0) (ei_2 ol_add (ei_v 3) (ei_c 1))) (ea_0))))) (ei_of (ea_cv 11 fX11_worth (ea_r (er_v 2) (ea_i (ei_s8 nn sc (er_v 0) (ei_2 ol_add (ei_v 3) (ei_c 1))) (ea_0)))))) (es_retz (ei_c 0)) es_skip, es_if (ec_2 ol_ne (ei_of (ea_cv 10 fX10_keep (ea_r (er_v 1) (ea_i (ei_s8 nn sc (er_v 0) (ei_2 ol_add (ei_v 3) (ei_c 1))) (ea_0))))) (ei_of (ea_cv 11 fX11_keep (ea_r (er_v 2) (ea_i (ei_s8 nn sc (er_v 0) (ei_2 ol_add (ei_v 3) (ei_c 1))) (ea_0)))))) (es_retz (ei_c 0)) es_skip, es_if (ec_2 ol_ne (ei_of (ea_cv 10 fX10_back (ea_r (er_v 1) (ea_i (ei_s8 nn sc (er_v 0) (ei_2 ol_add (ei_v 3) (ei_c 1))) (ea_0))))) (ei_of (ea_cv 11 fX11_back (ea_r (er_v 2) (ea_i (ei_s8 nn sc (er_v 0) (ei_2 ol_add (ei_v 3) (ei_c 1))) (ea_0)))))) (es_retz (ei_c 0)) es_skip, es_if (ec_2 ol_ne (ei_of (ea_cv 10 fX10_count (ea_r (er_v 1) (ea_i (ei_s8 nn sc (er_v 0) (ei_2 ol_add (ei_v 3) (ei_c 1))) (ea_0))))) (ei_of (ea_cv 11 fX11_count (ea_r (er_v 2) (ea_i (ei_s8 nn sc (er_v 0) (ei_2 ol_add (ei_v 3) (ei_c 1))) (ea_0)))))) (es_retz (ei_c 0)) es_skip, es_if (ec_j (ej_of (ea_cv 10 fX10_trace (ea_r (er_v 1) (ea_0)))) (ej_of (ea_cv 11 fX11_trace (ea_r (er_v 2) (ea_0))))) (es_retz (ei_c 0)) es_skip] (es_skip)) (es_inc 3 6)))) (es_retz (ei_c 1))))
set_option maxRecDepth 100000 in
set_option maxHeartbeats 4000000 in
theorem imL_law {nn : Nat} {sc : Nat → Int} (x : ol_X) (K : ol_K) (hX : ol_X8 x K nn sc) : IM_S x K mL_law 0 0 (bL_law nn sc) := rs_seq (p2 := 8) (rs_setrn (rr_n (T := TX10) (conX10_init _ K) dL_law_0 dL_law_3 (ra_0) dL_law_4 rfl (by decide) inX10 tyX10_ok (by decide +kernel) ⟨tw_71, tw_72, tw_52⟩ (Or.inl tw_73) hyX10_init rfl (by decide) (by decide) (by decide) (al_0)) dL_law_7 rfl (ol_ltn rfl)) (rs_seq (p2 := 16) (rs_setrn (rr_n (T := TX11) (conX11_init _ K) dL_law_8 dL_law_11 (ra_0) dL_law_12 rfl (by decide) inX11 tyX11_ok (by decide +kernel) ⟨tw_843, tw_844, tw_63⟩ (Or.inl tw_845) hyX11_init rfl (by decide) (by decide) (by decide) (al_0)) dL_law_15 rfl (ol_ltn rfl)) (rs_seq (p2 := 1252) (rs_seq (p2 := 18) (rs_setn (ri_ic dL_law_16 (by unfold ol_inR; omega)) dL_law_17 rfl (ol_ltn rfl)) (rs_wh (pH := 18) (pB := 27) (pE := 1252) (pG := 1249) (rc_2F (pF := 1252) ol_j2_gt_F (ri_vn dL_law_18 rfl) (ri_2 ol_op_sub (ri_l8 hX (rr_vn dL_law_19 rfl) dL_law_20) (ri_bi dL_law_21 (by unfold ol_inR; omega) (by decide)) dL_law_23) dL_law_24 (by decide)) (rs_seq (p2 := 1246) (rs_sw (pE := 1246) (pD := 1246) (ri_2 ol_op_and (ri_s8 hX (rr_vn dL_law_27 rfl) (ri_vn dL_law_28 rfl) dL_law_29) (ri_bi dL_law_30 (by unfold ol_inR; omega) (by decide)) dL_law_32) dL_law_33 rfl ⟨⟨_, 172, rfl, by decide, rs_if (pT := 233) (pF := 1246) (pE := 1246) (rc_2F (pF := 1246) ol_j2_eq_F (ri_k (rk_v (Mc := mX10_type) (conX10_type _ K) (ra_r (rr_vn dL_law_172 rfl) (ra_j (rj_or (rj_shl (rj_i (ri_s8 hX (rr_vn dL_law_173 rfl) (ri_2 ol_op_add (ri_vn dL_law_174 rfl) (ri_ic dL_law_175 (by unfold ol_inR; omega)) dL_law_176) dL_law_177) dL_law_178) (ri_bi dL_law_179 (by unfold ol_inR; omega) (by decide)) dL_law_181) (rj_and (rj_i (ri_s8 hX (rr_vn dL_law_182 rfl) (ri_2 ol_op_add (ri_vn dL_law_183 rfl) (ri_ic dL_law_184 (by unfold ol_inR; omega)) dL_law_185) dL_law_186) dL_law_187) (rj_ldc dL_law_188 tw_1227) dL_law_191) dL_law_192) (ra_i (ri_s8 hX (rr_vn dL_law_193 rfl) (ri_2 ol_op_add (ri_vn dL_law_194 rfl) (ri_ic dL_law_195 (by unfold ol_inR; omega)) dL_law_196) dL_law_197) (ra_0)))) dL_law_198 cwL_15 tw_401 tw_402 (by decide) rfl rfl ⟨rfl, rfl, Nat.le_of_ble_eq_true rfl⟩ (by decide) (by decide) (al_r (al_j (al_i al_0)))) (Or.inl rfl)) (ri_k (rk_v (Mc := mX11_type) (conX11_type _ K) (ra_r (rr_vn dL_law_201 rfl) (ra_j (rj_or (rj_shl (rj_i (ri_s8 hX (rr_vn dL_law_202 rfl) (ri_2 ol_op_add (ri_vn dL_law_203 rfl) (ri_ic dL_law_204 (by unfold ol_inR; omega)) dL_law_205) dL_law_206) dL_law_207) (ri_bi dL_law_208 (by unfold ol_inR; omega) (by decide)) dL_law_210) (rj_and (rj_i (ri_s8 hX (rr_vn dL_law_211 rfl) (ri_2 ol_op_add (ri_vn dL_law_212 rfl) (ri_ic dL_law_213 (by unfold ol_inR; omega)) dL_law_214) dL_law_215) dL_law_216) (rj_ldc dL_law_217 tw_1227) dL_law_220) dL_law_221) (ra_i (ri_s8 hX (rr_vn dL_law_222 rfl) (ri_2 ol_op_add (ri_vn dL_law_223 rfl) (ri_ic dL_law_224 (by unfold ol_inR; omega)) dL_law_225) dL_law_226) (ra_0)))) dL_law_227 cwL_19 tw_977 tw_978 (by decide) rfl rfl ⟨rfl, rfl, Nat.le_of_ble_eq_true rfl⟩ (by decide) (by decide) (al_r (al_j (al_i al_0)))) (Or.inl rfl)) dL_law_230 (by decide)) (rs_retz (ri_ic dL_law_233 (by unfold ol_inR; omega)) rfl dL_law_234) rs_skip⟩, ⟨_, 235, rfl, by decide, rs_if (pT := 246) (pF := 1246) (pE := 1246) (rc_2F (pF := 1246) ol_j2_eq_F (ri_k (rk_v (Mc := mX10_clear) (conX10_clear _ K) (ra_r (rr_vn dL_law_235 rfl) (ra_0)) dL_law_236 cwL_20 tw_409 tw_410 (by decide) rfl rfl ⟨rfl, rfl, Nat.le_of_ble_eq_true rfl⟩ (by decide) (by decide) (al_r al_0)) (Or.inl rfl)) (ri_k (rk_v (Mc := mX11_clear) (conX11_clear _ K) (ra_r (rr_vn dL_law_239 rfl) (ra_0)) dL_law_240 cwL_24 tw_985 tw_986 (by decide) rfl rfl ⟨rfl, rfl, Nat.le_of_ble_eq_true rfl⟩ (by decide) (by decide) (al_r al_0)) (Or.inl rfl)) dL_law_243 (by decide)) (rs_retz (ri_ic dL_law_246 (by unfold ol_inR; omega)) rfl dL_law_247) rs_skip⟩, ⟨_, 248, rfl, by decide, rs_if (pT := 269) (pF := 1246) (pE := 1246) (rc_2F (pF := 1246) ol_j2_eq_F (ri_k (rk_v (Mc := mX10_pattern) (conX10_pattern _ K) (ra_r (rr_vn dL_law_248 rfl) (ra_i (ri_s8 hX (rr_vn dL_law_249 rfl) (ri_2 ol_op_add (ri_vn dL_law_250 rfl) (ri_ic dL_law_251 (by unfold ol_inR; omega)) dL_law_252) dL_law_253) (ra_0))) dL_law_254 cwL_25 tw_413 tw_414 (by decide) rfl rfl ⟨rfl, rfl, Nat.le_of_ble_eq_true rfl⟩ (by decide) (by decide) (al_r (al_i al_0))) (Or.inl rfl)) (ri_k (rk_v (Mc := mX11_pattern) (conX11_pattern _ K) (ra_r (rr_vn dL_law_257 rfl) (ra_i (ri_s8 hX (rr_vn dL_law_258 rfl) (ri_2 ol_op_add (ri_vn dL_law_259 rfl) (ri_ic dL_law_260 (by unfold ol_inR; omega)) dL_law_261) dL_law_262) (ra_0))) dL_law_263 cwL_29 tw_989 tw_990 (by decide) rfl rfl ⟨rfl, rfl, Nat.le_of_ble_eq_true rfl⟩ (by decide) (by decide) (al_r (al_i al_0))) (Or.inl rfl)) dL_law_266 (by decide)) (rs_retz (ri_ic dL_law_269 (by unfold ol_inR; omega)) rfl dL_law_270) rs_skip⟩, ⟨_, 271, rfl, by decide, rs_if (pT := 292) (pF := 1246) (pE := 1246) (rc_2F (pF := 1246) ol_j2_eq_F (ri_k (rk_v (Mc := mX10_lay) (conX10_lay _ K) (ra_r (rr_vn dL_law_271 rfl) (ra_i (ri_s8 hX (rr_vn dL_law_272 rfl) (ri_2 ol_op_add (ri_vn dL_law_273 rfl) (ri_ic dL_law_274 (by unfold ol_inR; omega)) dL_law_275) dL_law_276) (ra_0))) dL_law_277 cwL_30 tw_520 tw_521 (by decide) rfl rfl ⟨rfl, rfl, Nat.le_of_ble_eq_true rfl⟩ (by decide) (by decide) (al_r (al_i al_0))) (Or.inl rfl)) (ri_k (rk_v (Mc := mX11_lay) (conX11_lay _ K) (ra_r (rr_vn dL_law_280 rfl) (ra_i (ri_s8 hX (rr_vn dL_law_281 rfl) (ri_2 ol_op_add (ri_vn dL_law_282 rfl) (ri_ic dL_law_283 (by unfold ol_inR; omega)) dL_law_284) dL_law_285) (ra_0))) dL_law_286 cwL_33 tw_1018 tw_1019 (by decide) rfl rfl ⟨rfl, rfl, Nat.le_of_ble_eq_true rfl⟩ (by decide) (by decide) (al_r (al_i al_0))) (Or.inl rfl)) dL_law_289 (by decide)) (rs_retz (ri_ic dL_law_292 (by unfold ol_inR; omega)) rfl dL_law_293) rs_skip⟩, ⟨_, 294, rfl, by decide, rs_if (pT := 325) (pF := 1246) (pE := 1246) (rc_2F (pF := 1246) ol_j2_eq_F (ri_k (rk_v (Mc := mX10_drops) (conX10_drops _ K) (ra_r (rr_vn dL_law_294 rfl) (ra_i (ri_s8 hX (rr_vn dL_law_295 rfl) (ri_2 ol_op_add (ri_vn dL_law_296 rfl) (ri_ic dL_law_297 (by unfold ol_inR; omega)) dL_law_298) dL_law_299) (ra_i (ri_s8 hX (rr_vn dL_law_300 rfl) (ri_2 ol_op_add (ri_vn dL_law_301 rfl) (ri_ic dL_law_302 (by unfold ol_inR; omega)) dL_law_303) dL_law_304) (ra_0)))) dL_law_305 cwL_34 tw_547 tw_548 (by decide) rfl rfl ⟨rfl, rfl, Nat.le_of_ble_eq_true rfl⟩ (by decide) (by decide) (al_r (al_i (al_i al_0)))) (Or.inl rfl)) (ri_k (rk_v (Mc := mX11_drops) (conX11_drops _ K) (ra_r (rr_vn dL_law_308 rfl) (ra_i (ri_s8 hX (rr_vn dL_law_309 rfl) (ri_2 ol_op_add (ri_vn dL_law_310 rfl) (ri_ic dL_law_311 (by unfold ol_inR; omega)) dL_law_312) dL_law_313) (ra_i (ri_s8 hX (rr_vn dL_law_314 rfl) (ri_2 ol_op_add (ri_vn dL_law_315 rfl) (ri_ic dL_law_316 (by unfold ol_inR; omega)) dL_law_317) dL_law_318) (ra_0)))) dL_law_319 cwL_38 tw_1030 tw_1031 (by decide) rfl rfl ⟨rfl, rfl, Nat.le_of_ble_eq_true rfl⟩ (by decide) (by decide) (al_r (al_i (al_i al_0)))) (Or.inl rfl)) dL_law_322 (by decide)) (rs_retz (ri_ic dL_law_325 (by unfold ol_inR; omega)) rfl dL_law_326) rs_skip⟩, ⟨_, 327, rfl, by decide, rs_if (pT := 348) (pF := 1246) (pE := 1246) (rc_2F (pF := 1246) ol_j2_eq_F (ri_k (rk_v (Mc := mX10_oil) (conX10_oil _ K) (ra_r (rr_vn dL_law_327 rfl) (ra_i (ri_s8 hX (rr_vn dL_law_328 rfl) (ri_2 ol_op_add (ri_vn dL_law_329 rfl) (ri_ic dL_law_330 (by unfold ol_inR; omega)) dL_law_331) dL_law_332) (ra_0))) dL_law_333 cwL_39 tw_551 tw_552 (by decide) rfl rfl ⟨rfl, rfl, Nat.le_of_ble_eq_true rfl⟩ (by decide) (by decide) (al_r (al_i al_0))) (Or.inl rfl)) (ri_k (rk_v (Mc := mX11_oil) (conX11_oil _ K) (ra_r (rr_vn dL_law_336 rfl) (ra_i (ri_s8 hX (rr_vn dL_law_337 rfl) (ri_2 ol_op_add (ri_vn dL_law_338 rfl) (ri_ic dL_law_339 (by unfold ol_inR; omega)) dL_law_340) dL_law_341) (ra_0))) dL_law_342 cwL_42 tw_1034 tw_1035 (by decide) rfl rfl ⟨rfl, rfl, Nat.le_of_ble_eq_true rfl⟩ (by decide) (by decide) (al_r (al_i al_0))) (Or.inl rfl)) dL_law_345 (by decide)) (rs_retz (ri_ic dL_law_348 (by unfold ol_inR; omega)) rfl dL_law_349) rs_skip⟩, ⟨_, 350, rfl, by decide, rs_if (pT := 391) (pF := 1246) (pE := 1246) (rc_2F (pF := 1246) ol_j2_eq_F (ri_k (rk_v (Mc := mX10_ball) (conX10_ball _ K) (ra_r (rr_vn dL_law_350 rfl) (ra_i (ri_s8 hX (rr_vn dL_law_351 rfl) (ri_2 ol_op_add (ri_vn dL_law_352 rfl) (ri_ic dL_law_353 (by unfold ol_inR; omega)) dL_law_354) dL_law_355) (ra_i (ri_s8 hX (rr_vn dL_law_356 rfl) (ri_2 ol_op_add (ri_vn dL_law_357 rfl) (ri_ic dL_law_358 (by unfold ol_inR; omega)) dL_law_359) dL_law_360) (ra_i (ri_s8 hX (rr_vn dL_law_361 rfl) (ri_2 ol_op_add (ri_vn dL_law_362 rfl) (ri_ic dL_law_363 (by unfold ol_inR; omega)) dL_law_364) dL_law_365) (ra_0))))) dL_law_366 cwL_43 tw_555 tw_556 (by decide) rfl rfl ⟨rfl, rfl, Nat.le_of_ble_eq_true rfl⟩ (by decide) (by decide) (al_r (al_i (al_i (al_i al_0))))) (Or.inl rfl)) (ri_k (rk_v (Mc := mX11_ball) (conX11_ball _ K) (ra_r (rr_vn dL_law_369 rfl) (ra_i (ri_s8 hX (rr_vn dL_law_370 rfl) (ri_2 ol_op_add (ri_vn dL_law_371 rfl) (ri_ic dL_law_372 (by unfold ol_inR; omega)) dL_law_373) dL_law_374) (ra_i (ri_s8 hX (rr_vn dL_law_375 rfl) (ri_2 ol_op_add (ri_vn dL_law_376 rfl) (ri_ic dL_law_377 (by unfold ol_inR; omega)) dL_law_378) dL_law_379) (ra_i (ri_s8 hX (rr_vn dL_law_380 rfl) (ri_2 ol_op_add (ri_vn dL_law_381 rfl) (ri_ic dL_law_382 (by unfold ol_inR; omega)) dL_law_383) dL_law_384) (ra_0))))) dL_law_385 cwL_47 tw_1038 tw_1039 (by decide) rfl rfl ⟨rfl, rfl, Nat.le_of_ble_eq_true rfl⟩ (by decide) (by decide) (al_r (al_i (al_i (al_i al_0))))) (Or.inl rfl)) dL_law_388 (by decide)) (rs_retz (ri_ic dL_law_391 (by unfold ol_inR; omega)) rfl dL_law_392) rs_skip⟩, ⟨_, 393, rfl, by decide, rs_if (pT := 444) (pF := 1246) (pE := 1246) (rc_2F (pF := 1246) ol_j2_eq_F (ri_k (rk_v (Mc := mX10_shot) (conX10_shot _ K) (ra_r (rr_vn dL_law_393 rfl) (ra_i (ri_s8 hX (rr_vn dL_law_394 rfl) (ri_2 ol_op_add (ri_vn dL_law_395 rfl) (ri_ic dL_law_396 (by unfold ol_inR; omega)) dL_law_397) dL_law_398) (ra_i (ri_s8 hX (rr_vn dL_law_399 rfl) (ri_2 ol_op_add (ri_vn dL_law_400 rfl) (ri_ic dL_law_401 (by unfold ol_inR; omega)) dL_law_402) dL_law_403) (ra_i (ri_s8 hX (rr_vn dL_law_404 rfl) (ri_2 ol_op_add (ri_vn dL_law_405 rfl) (ri_ic dL_law_406 (by unfold ol_inR; omega)) dL_law_407) dL_law_408) (ra_i (ri_s8 hX (rr_vn dL_law_409 rfl) (ri_2 ol_op_add (ri_vn dL_law_410 rfl) (ri_ic dL_law_411 (by unfold ol_inR; omega)) dL_law_412) dL_law_413) (ra_0)))))) dL_law_414 cwL_48 tw_565 tw_566 (by decide) rfl rfl ⟨rfl, rfl, Nat.le_of_ble_eq_true rfl⟩ (by decide) (by decide) (al_r (al_i (al_i (al_i (al_i al_0)))))) (Or.inl rfl)) (ri_k (rk_v (Mc := mX11_shot) (conX11_shot _ K) (ra_r (rr_vn dL_law_417 rfl) (ra_i (ri_s8 hX (rr_vn dL_law_418 rfl) (ri_2 ol_op_add (ri_vn dL_law_419 rfl) (ri_ic dL_law_420 (by unfold ol_inR; omega)) dL_law_421) dL_law_422) (ra_i (ri_s8 hX (rr_vn dL_law_423 rfl) (ri_2 ol_op_add (ri_vn dL_law_424 rfl) (ri_ic dL_law_425 (by unfold ol_inR; omega)) dL_law_426) dL_law_427) (ra_i (ri_s8 hX (rr_vn dL_law_428 rfl) (ri_2 ol_op_add (ri_vn dL_law_429 rfl) (ri_ic dL_law_430 (by unfold ol_inR; omega)) dL_law_431) dL_law_432) (ra_i (ri_s8 hX (rr_vn dL_law_433 rfl) (ri_2 ol_op_add (ri_vn dL_law_434 rfl) (ri_ic dL_law_435 (by unfold ol_inR; omega)) dL_law_436) dL_law_437) (ra_0)))))) dL_law_438 cwL_52 tw_1057 tw_1058 (by decide) rfl rfl ⟨rfl, rfl, Nat.le_of_ble_eq_true rfl⟩ (by decide) (by decide) (al_r (al_i (al_i (al_i (al_i al_0)))))) (Or.inl rfl)) dL_law_441 (by decide)) (rs_retz (ri_ic dL_law_444 (by unfold ol_inR; omega)) rfl dL_law_445) rs_skip⟩, ⟨_, 446, rfl, by decide, rs_if (pT := 467) (pF := 1246) (pE := 1246) (rc_2F (pF := 1246) ol_j2_eq_F (ri_k (rk_v (Mc := mX10_came) (conX10_came _ K) (ra_r (rr_vn dL_law_446 rfl) (ra_i (ri_s8 hX (rr_vn dL_law_447 rfl) (ri_2 ol_op_add (ri_vn dL_law_448 rfl) (ri_ic dL_law_449 (by unfold ol_inR; omega)) dL_law_450) dL_law_451) (ra_0))) dL_law_452 cwL_53 tw_612 tw_613 (by decide) rfl rfl ⟨rfl, rfl, Nat.le_of_ble_eq_true rfl⟩ (by decide) (by decide) (al_r (al_i al_0))) (Or.inl rfl)) (ri_k (rk_v (Mc := mX11_came) (conX11_came _ K) (ra_r (rr_vn dL_law_455 rfl) (ra_i (ri_s8 hX (rr_vn dL_law_456 rfl) (ri_2 ol_op_add (ri_vn dL_law_457 rfl) (ri_ic dL_law_458 (by unfold ol_inR; omega)) dL_law_459) dL_law_460) (ra_0))) dL_law_461 cwL_56 tw_1083 tw_1084 (by decide) rfl rfl ⟨rfl, rfl, Nat.le_of_ble_eq_true rfl⟩ (by decide) (by decide) (al_r (al_i al_0))) (Or.inl rfl)) dL_law_464 (by decide)) (rs_retz (ri_ic dL_law_467 (by unfold ol_inR; omega)) rfl dL_law_468) rs_skip⟩, ⟨_, 469, rfl, by decide, rs_if (pT := 520) (pF := 1246) (pE := 1246) (rc_2F (pF := 1246) ol_j2_eq_F (ri_k (rk_v (Mc := mX10_tried) (conX10_tried _ K) (ra_r (rr_vn dL_law_469 rfl) (ra_i (ri_s8 hX (rr_vn dL_law_470 rfl) (ri_2 ol_op_add (ri_vn dL_law_471 rfl) (ri_ic dL_law_472 (by unfold ol_inR; omega)) dL_law_473) dL_law_474) (ra_i (ri_s8 hX (rr_vn dL_law_475 rfl) (ri_2 ol_op_add (ri_vn dL_law_476 rfl) (ri_ic dL_law_477 (by unfold ol_inR; omega)) dL_law_478) dL_law_479) (ra_i (ri_s8 hX (rr_vn dL_law_480 rfl) (ri_2 ol_op_add (ri_vn dL_law_481 rfl) (ri_ic dL_law_482 (by unfold ol_inR; omega)) dL_law_483) dL_law_484) (ra_i (ri_s8 hX (rr_vn dL_law_485 rfl) (ri_2 ol_op_add (ri_vn dL_law_486 rfl) (ri_ic dL_law_487 (by unfold ol_inR; omega)) dL_law_488) dL_law_489) (ra_0)))))) dL_law_490 cwL_57 tw_617 tw_618 (by decide) rfl rfl ⟨rfl, rfl, Nat.le_of_ble_eq_true rfl⟩ (by decide) (by decide) (al_r (al_i (al_i (al_i (al_i al_0)))))) (Or.inl rfl)) (ri_k (rk_v (Mc := mX11_tried) (conX11_tried _ K) (ra_r (rr_vn dL_law_493 rfl) (ra_i (ri_s8 hX (rr_vn dL_law_494 rfl) (ri_2 ol_op_add (ri_vn dL_law_495 rfl) (ri_ic dL_law_496 (by unfold ol_inR; omega)) dL_law_497) dL_law_498) (ra_i (ri_s8 hX (rr_vn dL_law_499 rfl) (ri_2 ol_op_add (ri_vn dL_law_500 rfl) (ri_ic dL_law_501 (by unfold ol_inR; omega)) dL_law_502) dL_law_503) (ra_i (ri_s8 hX (rr_vn dL_law_504 rfl) (ri_2 ol_op_add (ri_vn dL_law_505 rfl) (ri_ic dL_law_506 (by unfold ol_inR; omega)) dL_law_507) dL_law_508) (ra_i (ri_s8 hX (rr_vn dL_law_509 rfl) (ri_2 ol_op_add (ri_vn dL_law_510 rfl) (ri_ic dL_law_511 (by unfold ol_inR; omega)) dL_law_512) dL_law_513) (ra_0)))))) dL_law_514 cwL_60 tw_1088 tw_1089 (by decide) rfl rfl ⟨rfl, rfl, Nat.le_of_ble_eq_true rfl⟩ (by decide) (by decide) (al_r (al_i (al_i (al_i (al_i al_0)))))) (Or.inl rfl)) dL_law_517 (by decide)) (rs_retz (ri_ic dL_law_520 (by unfold ol_inR; omega)) rfl dL_law_521) rs_skip⟩, ⟨_, 522, rfl, by decide, rs_if (pT := 573) (pF := 1246) (pE := 1246) (rc_2F (pF := 1246) ol_j2_eq_F (ri_k (rk_v (Mc := mX10_fall) (conX10_fall _ K) (ra_r (rr_vn dL_law_522 rfl) (ra_i (ri_s8 hX (rr_vn dL_law_523 rfl) (ri_2 ol_op_add (ri_vn dL_law_524 rfl) (ri_ic dL_law_525 (by unfold ol_inR; omega)) dL_law_526) dL_law_527) (ra_i (ri_s8 hX (rr_vn dL_law_528 rfl) (ri_2 ol_op_add (ri_vn dL_law_529 rfl) (ri_ic dL_law_530 (by unfold ol_inR; omega)) dL_law_531) dL_law_532) (ra_i (ri_s8 hX (rr_vn dL_law_533 rfl) (ri_2 ol_op_add (ri_vn dL_law_534 rfl) (ri_ic dL_law_535 (by unfold ol_inR; omega)) dL_law_536) dL_law_537) (ra_i (ri_s8 hX (rr_vn dL_law_538 rfl) (ri_2 ol_op_add (ri_vn dL_law_539 rfl) (ri_ic dL_law_540 (by unfold ol_inR; omega)) dL_law_541) dL_law_542) (ra_0)))))) dL_law_543 cwL_61 tw_622 tw_623 (by decide) rfl rfl ⟨rfl, rfl, Nat.le_of_ble_eq_true rfl⟩ (by decide) (by decide) (al_r (al_i (al_i (al_i (al_i al_0)))))) (Or.inl rfl)) (ri_k (rk_v (Mc := mX11_fall) (conX11_fall _ K) (ra_r (rr_vn dL_law_546 rfl) (ra_i (ri_s8 hX (rr_vn dL_law_547 rfl) (ri_2 ol_op_add (ri_vn dL_law_548 rfl) (ri_ic dL_law_549 (by unfold ol_inR; omega)) dL_law_550) dL_law_551) (ra_i (ri_s8 hX (rr_vn dL_law_552 rfl) (ri_2 ol_op_add (ri_vn dL_law_553 rfl) (ri_ic dL_law_554 (by unfold ol_inR; omega)) dL_law_555) dL_law_556) (ra_i (ri_s8 hX (rr_vn dL_law_557 rfl) (ri_2 ol_op_add (ri_vn dL_law_558 rfl) (ri_ic dL_law_559 (by unfold ol_inR; omega)) dL_law_560) dL_law_561) (ra_i (ri_s8 hX (rr_vn dL_law_562 rfl) (ri_2 ol_op_add (ri_vn dL_law_563 rfl) (ri_ic dL_law_564 (by unfold ol_inR; omega)) dL_law_565) dL_law_566) (ra_0)))))) dL_law_567 cwL_64 tw_1045 tw_1046 (by decide) rfl rfl ⟨rfl, rfl, Nat.le_of_ble_eq_true rfl⟩ (by decide) (by decide) (al_r (al_i (al_i (al_i (al_i al_0)))))) (Or.inl rfl)) dL_law_570 (by decide)) (rs_retz (ri_ic dL_law_573 (by unfold ol_inR; omega)) rfl dL_law_574) rs_skip⟩, ⟨_, 575, rfl, by decide, rs_if (pT := 596) (pF := 1246) (pE := 1246) (rc_2F (pF := 1246) ol_j2_eq_F (ri_k (rk_v (Mc := mX10_roll) (conX10_roll _ K) (ra_r (rr_vn dL_law_575 rfl) (ra_i (ri_s8 hX (rr_vn dL_law_576 rfl) (ri_2 ol_op_add (ri_vn dL_law_577 rfl) (ri_ic dL_law_578 (by unfold ol_inR; omega)) dL_law_579) dL_law_580) (ra_0))) dL_law_581 cwL_65 tw_627 tw_628 (by decide) rfl rfl ⟨rfl, rfl, Nat.le_of_ble_eq_true rfl⟩ (by decide) (by decide) (al_r (al_i al_0))) (Or.inl rfl)) (ri_k (rk_v (Mc := mX11_roll) (conX11_roll _ K) (ra_r (rr_vn dL_law_584 rfl) (ra_i (ri_s8 hX (rr_vn dL_law_585 rfl) (ri_2 ol_op_add (ri_vn dL_law_586 rfl) (ri_ic dL_law_587 (by unfold ol_inR; omega)) dL_law_588) dL_law_589) (ra_0))) dL_law_590 cwL_68 tw_1096 tw_1097 (by decide) rfl rfl ⟨rfl, rfl, Nat.le_of_ble_eq_true rfl⟩ (by decide) (by decide) (al_r (al_i al_0))) (Or.inl rfl)) dL_law_593 (by decide)) (rs_retz (ri_ic dL_law_596 (by unfold ol_inR; omega)) rfl dL_law_597) rs_skip⟩, ⟨_, 598, rfl, by decide, rs_if (pT := 619) (pF := 1246) (pE := 1246) (rc_2F (pF := 1246) ol_j2_eq_F (ri_k (rk_v (Mc := mX10_game) (conX10_game _ K) (ra_r (rr_vn dL_law_598 rfl) (ra_i (ri_s8 hX (rr_vn dL_law_599 rfl) (ri_2 ol_op_add (ri_vn dL_law_600 rfl) (ri_ic dL_law_601 (by unfold ol_inR; omega)) dL_law_602) dL_law_603) (ra_0))) dL_law_604 cwL_69 tw_647 tw_648 (by decide) rfl rfl ⟨rfl, rfl, Nat.le_of_ble_eq_true rfl⟩ (by decide) (by decide) (al_r (al_i al_0))) (Or.inl rfl)) (ri_k (rk_v (Mc := mX11_game) (conX11_game _ K) (ra_r (rr_vn dL_law_607 rfl) (ra_i (ri_s8 hX (rr_vn dL_law_608 rfl) (ri_2 ol_op_add (ri_vn dL_law_609 rfl) (ri_ic dL_law_610 (by unfold ol_inR; omega)) dL_law_611) dL_law_612) (ra_0))) dL_law_613 cwL_72 tw_1108 tw_1109 (by decide) rfl rfl ⟨rfl, rfl, Nat.le_of_ble_eq_true rfl⟩ (by decide) (by decide) (al_r (al_i al_0))) (Or.inl rfl)) dL_law_616 (by decide)) (rs_retz (ri_ic dL_law_619 (by unfold ol_inR; omega)) rfl dL_law_620) rs_skip⟩, ⟨_, 621, rfl, by decide, rs_if (pT := 632) (pF := 1246) (pE := 1246) (rc_2F (pF := 1246) ol_j2_eq_F (ri_k (rk_v (Mc := mX10_anew) (conX10_anew _ K) (ra_r (rr_vn dL_law_621 rfl) (ra_0)) dL_law_622 cwL_73 tw_657 tw_658 (by decide) rfl rfl ⟨rfl, rfl, Nat.le_of_ble_eq_true rfl⟩ (by decide) (by decide) (al_r al_0)) (Or.inl rfl)) (ri_k (rk_v (Mc := mX11_anew) (conX11_anew _ K) (ra_r (rr_vn dL_law_625 rfl) (ra_0)) dL_law_626 cwL_76 tw_1112 tw_1113 (by decide) rfl rfl ⟨rfl, rfl, Nat.le_of_ble_eq_true rfl⟩ (by decide) (by decide) (al_r al_0)) (Or.inl rfl)) dL_law_629 (by decide)) (rs_retz (ri_ic dL_law_632 (by unfold ol_inR; omega)) rfl dL_law_633) rs_skip⟩, ⟨_, 634, rfl, by decide, rs_if (pT := 685) (pF := 1246) (pE := 1246) (rc_2F (pF := 1246) ol_j2_eq_F (ri_k (rk_v (Mc := mX10_scatter) (conX10_scatter _ K) (ra_r (rr_vn dL_law_634 rfl) (ra_i (ri_s8 hX (rr_vn dL_law_635 rfl) (ri_2 ol_op_add (ri_vn dL_law_636 rfl) (ri_ic dL_law_637 (by unfold ol_inR; omega)) dL_law_638) dL_law_639) (ra_i (ri_s8 hX (rr_vn dL_law_640 rfl) (ri_2 ol_op_add (ri_vn dL_law_641 rfl) (ri_ic dL_law_642 (by unfold ol_inR; omega)) dL_law_643) dL_law_644) (ra_i (ri_s8 hX (rr_vn dL_law_645 rfl) (ri_2 ol_op_add (ri_vn dL_law_646 rfl) (ri_ic dL_law_647 (by unfold ol_inR; omega)) dL_law_648) dL_law_649) (ra_i (ri_s8 hX (rr_vn dL_law_650 rfl) (ri_2 ol_op_add (ri_vn dL_law_651 rfl) (ri_ic dL_law_652 (by unfold ol_inR; omega)) dL_law_653) dL_law_654) (ra_0)))))) dL_law_655 cwL_77 tw_661 tw_662 (by decide) rfl rfl ⟨rfl, rfl, Nat.le_of_ble_eq_true rfl⟩ (by decide) (by decide) (al_r (al_i (al_i (al_i (al_i al_0)))))) (Or.inl rfl)) (ri_k (rk_v (Mc := mX11_scatter) (conX11_scatter _ K) (ra_r (rr_vn dL_law_658 rfl) (ra_i (ri_s8 hX (rr_vn dL_law_659 rfl) (ri_2 ol_op_add (ri_vn dL_law_660 rfl) (ri_ic dL_law_661 (by unfold ol_inR; omega)) dL_law_662) dL_law_663) (ra_i (ri_s8 hX (rr_vn dL_law_664 rfl) (ri_2 ol_op_add (ri_vn dL_law_665 rfl) (ri_ic dL_law_666 (by unfold ol_inR; omega)) dL_law_667) dL_law_668) (ra_i (ri_s8 hX (rr_vn dL_law_669 rfl) (ri_2 ol_op_add (ri_vn dL_law_670 rfl) (ri_ic dL_law_671 (by unfold ol_inR; omega)) dL_law_672) dL_law_673) (ra_i (ri_s8 hX (rr_vn dL_law_674 rfl) (ri_2 ol_op_add (ri_vn dL_law_675 rfl) (ri_ic dL_law_676 (by unfold ol_inR; omega)) dL_law_677) dL_law_678) (ra_0)))))) dL_law_679 cwL_80 tw_1116 tw_1117 (by decide) rfl rfl ⟨rfl, rfl, Nat.le_of_ble_eq_true rfl⟩ (by decide) (by decide) (al_r (al_i (al_i (al_i (al_i al_0)))))) (Or.inl rfl)) dL_law_682 (by decide)) (rs_retz (ri_ic dL_law_685 (by unfold ol_inR; omega)) rfl dL_law_686) rs_skip⟩, ⟨_, 687, rfl, by decide, rs_if (pT := 748) (pF := 1246) (pE := 1246) (rc_2F (pF := 1246) ol_j2_eq_F (ri_k (rk_v (Mc := mX10_mean) (conX10_mean _ K) (ra_r (rr_vn dL_law_687 rfl) (ra_i (ri_s8 hX (rr_vn dL_law_688 rfl) (ri_2 ol_op_add (ri_vn dL_law_689 rfl) (ri_ic dL_law_690 (by unfold ol_inR; omega)) dL_law_691) dL_law_692) (ra_i (ri_s8 hX (rr_vn dL_law_693 rfl) (ri_2 ol_op_add (ri_vn dL_law_694 rfl) (ri_ic dL_law_695 (by unfold ol_inR; omega)) dL_law_696) dL_law_697) (ra_i (ri_s8 hX (rr_vn dL_law_698 rfl) (ri_2 ol_op_add (ri_vn dL_law_699 rfl) (ri_ic dL_law_700 (by unfold ol_inR; omega)) dL_law_701) dL_law_702) (ra_i (ri_s8 hX (rr_vn dL_law_703 rfl) (ri_2 ol_op_add (ri_vn dL_law_704 rfl) (ri_ic dL_law_705 (by unfold ol_inR; omega)) dL_law_706) dL_law_707) (ra_i (ri_s8 hX (rr_vn dL_law_708 rfl) (ri_2 ol_op_add (ri_vn dL_law_709 rfl) (ri_ic dL_law_710 (by unfold ol_inR; omega)) dL_law_711) dL_law_712) (ra_0))))))) dL_law_713 cwL_81 tw_665 tw_666 (by decide) rfl rfl ⟨rfl, rfl, Nat.le_of_ble_eq_true rfl⟩ (by decide) (by decide) (al_r (al_i (al_i (al_i (al_i (al_i al_0))))))) (Or.inl rfl)) (ri_k (rk_v (Mc := mX11_mean) (conX11_mean _ K) (ra_r (rr_vn dL_law_716 rfl) (ra_i (ri_s8 hX (rr_vn dL_law_717 rfl) (ri_2 ol_op_add (ri_vn dL_law_718 rfl) (ri_ic dL_law_719 (by unfold ol_inR; omega)) dL_law_720) dL_law_721) (ra_i (ri_s8 hX (rr_vn dL_law_722 rfl) (ri_2 ol_op_add (ri_vn dL_law_723 rfl) (ri_ic dL_law_724 (by unfold ol_inR; omega)) dL_law_725) dL_law_726) (ra_i (ri_s8 hX (rr_vn dL_law_727 rfl) (ri_2 ol_op_add (ri_vn dL_law_728 rfl) (ri_ic dL_law_729 (by unfold ol_inR; omega)) dL_law_730) dL_law_731) (ra_i (ri_s8 hX (rr_vn dL_law_732 rfl) (ri_2 ol_op_add (ri_vn dL_law_733 rfl) (ri_ic dL_law_734 (by unfold ol_inR; omega)) dL_law_735) dL_law_736) (ra_i (ri_s8 hX (rr_vn dL_law_737 rfl) (ri_2 ol_op_add (ri_vn dL_law_738 rfl) (ri_ic dL_law_739 (by unfold ol_inR; omega)) dL_law_740) dL_law_741) (ra_0))))))) dL_law_742 cwL_85 tw_1123 tw_1124 (by decide) rfl rfl ⟨rfl, rfl, Nat.le_of_ble_eq_true rfl⟩ (by decide) (by decide) (al_r (al_i (al_i (al_i (al_i (al_i al_0))))))) (Or.inl rfl)) dL_law_745 (by decide)) (rs_retz (ri_ic dL_law_748 (by unfold ol_inR; omega)) rfl dL_law_749) rs_skip⟩, ⟨_, 750, rfl, by decide, rs_if (pT := 791) (pF := 1246) (pE := 1246) (rc_2F (pF := 1246) ol_j2_eq_F (ri_k (rk_v (Mc := mX10_best) (conX10_best _ K) (ra_r (rr_vn dL_law_750 rfl) (ra_i (ri_s8 hX (rr_vn dL_law_751 rfl) (ri_2 ol_op_add (ri_vn dL_law_752 rfl) (ri_ic dL_law_753 (by unfold ol_inR; omega)) dL_law_754) dL_law_755) (ra_i (ri_s8 hX (rr_vn dL_law_756 rfl) (ri_2 ol_op_add (ri_vn dL_law_757 rfl) (ri_ic dL_law_758 (by unfold ol_inR; omega)) dL_law_759) dL_law_760) (ra_i (ri_s8 hX (rr_vn dL_law_761 rfl) (ri_2 ol_op_add (ri_vn dL_law_762 rfl) (ri_ic dL_law_763 (by unfold ol_inR; omega)) dL_law_764) dL_law_765) (ra_0))))) dL_law_766 cwL_86 tw_675 tw_676 (by decide) rfl rfl ⟨rfl, rfl, Nat.le_of_ble_eq_true rfl⟩ (by decide) (by decide) (al_r (al_i (al_i (al_i al_0))))) (Or.inl rfl)) (ri_k (rk_v (Mc := mX11_best) (conX11_best _ K) (ra_r (rr_vn dL_law_769 rfl) (ra_i (ri_s8 hX (rr_vn dL_law_770 rfl) (ri_2 ol_op_add (ri_vn dL_law_771 rfl) (ri_ic dL_law_772 (by unfold ol_inR; omega)) dL_law_773) dL_law_774) (ra_i (ri_s8 hX (rr_vn dL_law_775 rfl) (ri_2 ol_op_add (ri_vn dL_law_776 rfl) (ri_ic dL_law_777 (by unfold ol_inR; omega)) dL_law_778) dL_law_779) (ra_i (ri_s8 hX (rr_vn dL_law_780 rfl) (ri_2 ol_op_add (ri_vn dL_law_781 rfl) (ri_ic dL_law_782 (by unfold ol_inR; omega)) dL_law_783) dL_law_784) (ra_0))))) dL_law_785 cwL_89 tw_1135 tw_1136 (by decide) rfl rfl ⟨rfl, rfl, Nat.le_of_ble_eq_true rfl⟩ (by decide) (by decide) (al_r (al_i (al_i (al_i al_0))))) (Or.inl rfl)) dL_law_788 (by decide)) (rs_retz (ri_ic dL_law_791 (by unfold ol_inR; omega)) rfl dL_law_792) rs_skip⟩, ⟨_, 793, rfl, by decide, rs_if (pT := 854) (pF := 1246) (pE := 1246) (rc_2F (pF := 1246) ol_j2_eq_F (ri_k (rk_v (Mc := mX10_thrower) (conX10_thrower _ K) (ra_r (rr_vn dL_law_793 rfl) (ra_i (ri_s8 hX (rr_vn dL_law_794 rfl) (ri_2 ol_op_add (ri_vn dL_law_795 rfl) (ri_ic dL_law_796 (by unfold ol_inR; omega)) dL_law_797) dL_law_798) (ra_i (ri_s8 hX (rr_vn dL_law_799 rfl) (ri_2 ol_op_add (ri_vn dL_law_800 rfl) (ri_ic dL_law_801 (by unfold ol_inR; omega)) dL_law_802) dL_law_803) (ra_i (ri_s8 hX (rr_vn dL_law_804 rfl) (ri_2 ol_op_add (ri_vn dL_law_805 rfl) (ri_ic dL_law_806 (by unfold ol_inR; omega)) dL_law_807) dL_law_808) (ra_i (ri_s8 hX (rr_vn dL_law_809 rfl) (ri_2 ol_op_add (ri_vn dL_law_810 rfl) (ri_ic dL_law_811 (by unfold ol_inR; omega)) dL_law_812) dL_law_813) (ra_i (ri_s8 hX (rr_vn dL_law_814 rfl) (ri_2 ol_op_add (ri_vn dL_law_815 rfl) (ri_ic dL_law_816 (by unfold ol_inR; omega)) dL_law_817) dL_law_818) (ra_0))))))) dL_law_819 cwL_90 tw_695 tw_696 (by decide) rfl rfl ⟨rfl, rfl, Nat.le_of_ble_eq_true rfl⟩ (by decide) (by decide) (al_r (al_i (al_i (al_i (al_i (al_i al_0))))))) (Or.inl rfl)) (ri_k (rk_v (Mc := mX11_thrower) (conX11_thrower _ K) (ra_r (rr_vn dL_law_822 rfl) (ra_i (ri_s8 hX (rr_vn dL_law_823 rfl) (ri_2 ol_op_add (ri_vn dL_law_824 rfl) (ri_ic dL_law_825 (by unfold ol_inR; omega)) dL_law_826) dL_law_827) (ra_i (ri_s8 hX (rr_vn dL_law_828 rfl) (ri_2 ol_op_add (ri_vn dL_law_829 rfl) (ri_ic dL_law_830 (by unfold ol_inR; omega)) dL_law_831) dL_law_832) (ra_i (ri_s8 hX (rr_vn dL_law_833 rfl) (ri_2 ol_op_add (ri_vn dL_law_834 rfl) (ri_ic dL_law_835 (by unfold ol_inR; omega)) dL_law_836) dL_law_837) (ra_i (ri_s8 hX (rr_vn dL_law_838 rfl) (ri_2 ol_op_add (ri_vn dL_law_839 rfl) (ri_ic dL_law_840 (by unfold ol_inR; omega)) dL_law_841) dL_law_842) (ra_i (ri_s8 hX (rr_vn dL_law_843 rfl) (ri_2 ol_op_add (ri_vn dL_law_844 rfl) (ri_ic dL_law_845 (by unfold ol_inR; omega)) dL_law_846) dL_law_847) (ra_0))))))) dL_law_848 cwL_93 tw_1139 tw_1140 (by decide) rfl rfl ⟨rfl, rfl, Nat.le_of_ble_eq_true rfl⟩ (by decide) (by decide) (al_r (al_i (al_i (al_i (al_i (al_i al_0))))))) (Or.inl rfl)) dL_law_851 (by decide)) (rs_retz (ri_ic dL_law_854 (by unfold ol_inR; omega)) rfl dL_law_855) rs_skip⟩, ⟨_, 856, rfl, by decide, rs_if (pT := 887) (pF := 1246) (pE := 1246) (rc_2F (pF := 1246) ol_j2_eq_F (ri_k (rk_v (Mc := mX10_stands) (conX10_stands _ K) (ra_r (rr_vn dL_law_856 rfl) (ra_i (ri_s8 hX (rr_vn dL_law_857 rfl) (ri_2 ol_op_add (ri_vn dL_law_858 rfl) (ri_ic dL_law_859 (by unfold ol_inR; omega)) dL_law_860) dL_law_861) (ra_i (ri_s8 hX (rr_vn dL_law_862 rfl) (ri_2 ol_op_add (ri_vn dL_law_863 rfl) (ri_ic dL_law_864 (by unfold ol_inR; omega)) dL_law_865) dL_law_866) (ra_0)))) dL_law_867 cwL_94 tw_703 tw_704 (by decide) rfl rfl ⟨rfl, rfl, Nat.le_of_ble_eq_true rfl⟩ (by decide) (by decide) (al_r (al_i (al_i al_0)))) (Or.inl rfl)) (ri_k (rk_v (Mc := mX11_stands) (conX11_stands _ K) (ra_r (rr_vn dL_law_870 rfl) (ra_i (ri_s8 hX (rr_vn dL_law_871 rfl) (ri_2 ol_op_add (ri_vn dL_law_872 rfl) (ri_ic dL_law_873 (by unfold ol_inR; omega)) dL_law_874) dL_law_875) (ra_i (ri_s8 hX (rr_vn dL_law_876 rfl) (ri_2 ol_op_add (ri_vn dL_law_877 rfl) (ri_ic dL_law_878 (by unfold ol_inR; omega)) dL_law_879) dL_law_880) (ra_0)))) dL_law_881 cwL_97 tw_1143 tw_1144 (by decide) rfl rfl ⟨rfl, rfl, Nat.le_of_ble_eq_true rfl⟩ (by decide) (by decide) (al_r (al_i (al_i al_0)))) (Or.inl rfl)) dL_law_884 (by decide)) (rs_retz (ri_ic dL_law_887 (by unfold ol_inR; omega)) rfl dL_law_888) rs_skip⟩, ⟨_, 889, rfl, by decide, rs_if (pT := 910) (pF := 1246) (pE := 1246) (rc_2F (pF := 1246) ol_j2_eq_F (ri_k (rk_v (Mc := mX10_evening) (conX10_evening _ K) (ra_r (rr_vn dL_law_889 rfl) (ra_i (ri_s8 hX (rr_vn dL_law_890 rfl) (ri_2 ol_op_add (ri_vn dL_law_891 rfl) (ri_ic dL_law_892 (by unfold ol_inR; omega)) dL_law_893) dL_law_894) (ra_0))) dL_law_895 cwL_98 tw_707 tw_708 (by decide) rfl rfl ⟨rfl, rfl, Nat.le_of_ble_eq_true rfl⟩ (by decide) (by decide) (al_r (al_i al_0))) (Or.inl rfl)) (ri_k (rk_v (Mc := mX11_evening) (conX11_evening _ K) (ra_r (rr_vn dL_law_898 rfl) (ra_i (ri_s8 hX (rr_vn dL_law_899 rfl) (ri_2 ol_op_add (ri_vn dL_law_900 rfl) (ri_ic dL_law_901 (by unfold ol_inR; omega)) dL_law_902) dL_law_903) (ra_0))) dL_law_904 cwL_101 tw_1147 tw_1148 (by decide) rfl rfl ⟨rfl, rfl, Nat.le_of_ble_eq_true rfl⟩ (by decide) (by decide) (al_r (al_i al_0))) (Or.inl rfl)) dL_law_907 (by decide)) (rs_retz (ri_ic dL_law_910 (by unfold ol_inR; omega)) rfl dL_law_911) rs_skip⟩, ⟨_, 912, rfl, by decide, rs_if (pT := 943) (pF := 1246) (pE := 1246) (rc_2F (pF := 1246) ol_j2_eq_F (ri_k (rk_v (Mc := mX10_would) (conX10_would _ K) (ra_r (rr_vn dL_law_912 rfl) (ra_i (ri_s8 hX (rr_vn dL_law_913 rfl) (ri_2 ol_op_add (ri_vn dL_law_914 rfl) (ri_ic dL_law_915 (by unfold ol_inR; omega)) dL_law_916) dL_law_917) (ra_i (ri_s8 hX (rr_vn dL_law_918 rfl) (ri_2 ol_op_add (ri_vn dL_law_919 rfl) (ri_ic dL_law_920 (by unfold ol_inR; omega)) dL_law_921) dL_law_922) (ra_0)))) dL_law_923 cwL_102 tw_734 tw_735 (by decide) rfl rfl ⟨rfl, rfl, Nat.le_of_ble_eq_true rfl⟩ (by decide) (by decide) (al_r (al_i (al_i al_0)))) (Or.inl rfl)) (ri_k (rk_v (Mc := mX11_would) (conX11_would _ K) (ra_r (rr_vn dL_law_926 rfl) (ra_i (ri_s8 hX (rr_vn dL_law_927 rfl) (ri_2 ol_op_add (ri_vn dL_law_928 rfl) (ri_ic dL_law_929 (by unfold ol_inR; omega)) dL_law_930) dL_law_931) (ra_i (ri_s8 hX (rr_vn dL_law_932 rfl) (ri_2 ol_op_add (ri_vn dL_law_933 rfl) (ri_ic dL_law_934 (by unfold ol_inR; omega)) dL_law_935) dL_law_936) (ra_0)))) dL_law_937 cwL_105 tw_1159 tw_1160 (by decide) rfl rfl ⟨rfl, rfl, Nat.le_of_ble_eq_true rfl⟩ (by decide) (by decide) (al_r (al_i (al_i al_0)))) (Or.inl rfl)) dL_law_940 (by decide)) (rs_retz (ri_ic dL_law_943 (by unfold ol_inR; omega)) rfl dL_law_944) rs_skip⟩, ⟨_, 945, rfl, by decide, rs_if (pT := 976) (pF := 1246) (pE := 1246) (rc_2F (pF := 1246) ol_j2_eq_F (ri_k (rk_v (Mc := mX10_order) (conX10_order _ K) (ra_r (rr_vn dL_law_945 rfl) (ra_i (ri_s8 hX (rr_vn dL_law_946 rfl) (ri_2 ol_op_add (ri_vn dL_law_947 rfl) (ri_ic dL_law_948 (by unfold ol_inR; omega)) dL_law_949) dL_law_950) (ra_i (ri_s8 hX (rr_vn dL_law_951 rfl) (ri_2 ol_op_add (ri_vn dL_law_952 rfl) (ri_ic dL_law_953 (by unfold ol_inR; omega)) dL_law_954) dL_law_955) (ra_0)))) dL_law_956 cwL_106 tw_756 tw_757 (by decide) rfl rfl ⟨rfl, rfl, Nat.le_of_ble_eq_true rfl⟩ (by decide) (by decide) (al_r (al_i (al_i al_0)))) (Or.inl rfl)) (ri_k (rk_v (Mc := mX11_order) (conX11_order _ K) (ra_r (rr_vn dL_law_959 rfl) (ra_i (ri_s8 hX (rr_vn dL_law_960 rfl) (ri_2 ol_op_add (ri_vn dL_law_961 rfl) (ri_ic dL_law_962 (by unfold ol_inR; omega)) dL_law_963) dL_law_964) (ra_i (ri_s8 hX (rr_vn dL_law_965 rfl) (ri_2 ol_op_add (ri_vn dL_law_966 rfl) (ri_ic dL_law_967 (by unfold ol_inR; omega)) dL_law_968) dL_law_969) (ra_0)))) dL_law_970 cwL_109 tw_1175 tw_1176 (by decide) rfl rfl ⟨rfl, rfl, Nat.le_of_ble_eq_true rfl⟩ (by decide) (by decide) (al_r (al_i (al_i al_0)))) (Or.inl rfl)) dL_law_973 (by decide)) (rs_retz (ri_ic dL_law_976 (by unfold ol_inR; omega)) rfl dL_law_977) rs_skip⟩, ⟨_, 978, rfl, by decide, rs_if (pT := 1039) (pF := 1246) (pE := 1246) (rc_2F (pF := 1246) ol_j2_eq_F (ri_k (rk_v (Mc := mX10_clue) (conX10_clue _ K) (ra_r (rr_vn dL_law_978 rfl) (ra_i (ri_s8 hX (rr_vn dL_law_979 rfl) (ri_2 ol_op_add (ri_vn dL_law_980 rfl) (ri_ic dL_law_981 (by unfold ol_inR; omega)) dL_law_982) dL_law_983) (ra_i (ri_s8 hX (rr_vn dL_law_984 rfl) (ri_2 ol_op_add (ri_vn dL_law_985 rfl) (ri_ic dL_law_986 (by unfold ol_inR; omega)) dL_law_987) dL_law_988) (ra_i (ri_s8 hX (rr_vn dL_law_989 rfl) (ri_2 ol_op_add (ri_vn dL_law_990 rfl) (ri_ic dL_law_991 (by unfold ol_inR; omega)) dL_law_992) dL_law_993) (ra_i (ri_s8 hX (rr_vn dL_law_994 rfl) (ri_2 ol_op_add (ri_vn dL_law_995 rfl) (ri_ic dL_law_996 (by unfold ol_inR; omega)) dL_law_997) dL_law_998) (ra_i (ri_s8 hX (rr_vn dL_law_999 rfl) (ri_2 ol_op_add (ri_vn dL_law_1000 rfl) (ri_ic dL_law_1001 (by unfold ol_inR; omega)) dL_law_1002) dL_law_1003) (ra_0))))))) dL_law_1004 cwL_110 tw_772 tw_773 (by decide) rfl rfl ⟨rfl, rfl, Nat.le_of_ble_eq_true rfl⟩ (by decide) (by decide) (al_r (al_i (al_i (al_i (al_i (al_i al_0))))))) (Or.inl rfl)) (ri_k (rk_v (Mc := mX11_clue) (conX11_clue _ K) (ra_r (rr_vn dL_law_1007 rfl) (ra_i (ri_s8 hX (rr_vn dL_law_1008 rfl) (ri_2 ol_op_add (ri_vn dL_law_1009 rfl) (ri_ic dL_law_1010 (by unfold ol_inR; omega)) dL_law_1011) dL_law_1012) (ra_i (ri_s8 hX (rr_vn dL_law_1013 rfl) (ri_2 ol_op_add (ri_vn dL_law_1014 rfl) (ri_ic dL_law_1015 (by unfold ol_inR; omega)) dL_law_1016) dL_law_1017) (ra_i (ri_s8 hX (rr_vn dL_law_1018 rfl) (ri_2 ol_op_add (ri_vn dL_law_1019 rfl) (ri_ic dL_law_1020 (by unfold ol_inR; omega)) dL_law_1021) dL_law_1022) (ra_i (ri_s8 hX (rr_vn dL_law_1023 rfl) (ri_2 ol_op_add (ri_vn dL_law_1024 rfl) (ri_ic dL_law_1025 (by unfold ol_inR; omega)) dL_law_1026) dL_law_1027) (ra_i (ri_s8 hX (rr_vn dL_law_1028 rfl) (ri_2 ol_op_add (ri_vn dL_law_1029 rfl) (ri_ic dL_law_1030 (by unfold ol_inR; omega)) dL_law_1031) dL_law_1032) (ra_0))))))) dL_law_1033 cwL_113 tw_1183 tw_1184 (by decide) rfl rfl ⟨rfl, rfl, Nat.le_of_ble_eq_true rfl⟩ (by decide) (by decide) (al_r (al_i (al_i (al_i (al_i (al_i al_0))))))) (Or.inl rfl)) dL_law_1036 (by decide)) (rs_retz (ri_ic dL_law_1039 (by unfold ol_inR; omega)) rfl dL_law_1040) rs_skip⟩, ⟨_, 1041, rfl, by decide, rs_if (pT := 1052) (pF := 1246) (pE := 1246) (rc_2F (pF := 1246) ol_j2_eq_F (ri_k (rk_v (Mc := mX10_fits) (conX10_fits _ K) (ra_r (rr_vn dL_law_1041 rfl) (ra_0)) dL_law_1042 cwL_114 tw_776 tw_777 (by decide) rfl rfl ⟨rfl, rfl, Nat.le_of_ble_eq_true rfl⟩ (by decide) (by decide) (al_r al_0)) (Or.inl rfl)) (ri_k (rk_v (Mc := mX11_fits) (conX11_fits _ K) (ra_r (rr_vn dL_law_1045 rfl) (ra_0)) dL_law_1046 cwL_117 tw_1187 tw_1188 (by decide) rfl rfl ⟨rfl, rfl, Nat.le_of_ble_eq_true rfl⟩ (by decide) (by decide) (al_r al_0)) (Or.inl rfl)) dL_law_1049 (by decide)) (rs_retz (ri_ic dL_law_1052 (by unfold ol_inR; omega)) rfl dL_law_1053) rs_skip⟩, ⟨_, 1054, rfl, by decide, rs_if (pT := 1095) (pF := 1246) (pE := 1246) (rc_2F (pF := 1246) ol_j2_eq_F (ri_k (rk_v (Mc := mX10_trunk) (conX10_trunk _ K) (ra_r (rr_vn dL_law_1054 rfl) (ra_i (ri_s8 hX (rr_vn dL_law_1055 rfl) (ri_2 ol_op_add (ri_vn dL_law_1056 rfl) (ri_ic dL_law_1057 (by unfold ol_inR; omega)) dL_law_1058) dL_law_1059) (ra_i (ri_s8 hX (rr_vn dL_law_1060 rfl) (ri_2 ol_op_add (ri_vn dL_law_1061 rfl) (ri_ic dL_law_1062 (by unfold ol_inR; omega)) dL_law_1063) dL_law_1064) (ra_i (ri_s8 hX (rr_vn dL_law_1065 rfl) (ri_2 ol_op_add (ri_vn dL_law_1066 rfl) (ri_ic dL_law_1067 (by unfold ol_inR; omega)) dL_law_1068) dL_law_1069) (ra_0))))) dL_law_1070 cwL_118 tw_784 tw_785 (by decide) rfl rfl ⟨rfl, rfl, Nat.le_of_ble_eq_true rfl⟩ (by decide) (by decide) (al_r (al_i (al_i (al_i al_0))))) (Or.inl rfl)) (ri_k (rk_v (Mc := mX11_trunk) (conX11_trunk _ K) (ra_r (rr_vn dL_law_1073 rfl) (ra_i (ri_s8 hX (rr_vn dL_law_1074 rfl) (ri_2 ol_op_add (ri_vn dL_law_1075 rfl) (ri_ic dL_law_1076 (by unfold ol_inR; omega)) dL_law_1077) dL_law_1078) (ra_i (ri_s8 hX (rr_vn dL_law_1079 rfl) (ri_2 ol_op_add (ri_vn dL_law_1080 rfl) (ri_ic dL_law_1081 (by unfold ol_inR; omega)) dL_law_1082) dL_law_1083) (ra_i (ri_s8 hX (rr_vn dL_law_1084 rfl) (ri_2 ol_op_add (ri_vn dL_law_1085 rfl) (ri_ic dL_law_1086 (by unfold ol_inR; omega)) dL_law_1087) dL_law_1088) (ra_0))))) dL_law_1089 cwL_121 tw_1191 tw_1192 (by decide) rfl rfl ⟨rfl, rfl, Nat.le_of_ble_eq_true rfl⟩ (by decide) (by decide) (al_r (al_i (al_i (al_i al_0))))) (Or.inl rfl)) dL_law_1092 (by decide)) (rs_retz (ri_ic dL_law_1095 (by unfold ol_inR; omega)) rfl dL_law_1096) rs_skip⟩, ⟨_, 1097, rfl, by decide, rs_if (pT := 1138) (pF := 1246) (pE := 1246) (rc_2F (pF := 1246) ol_j2_eq_F (ri_k (rk_v (Mc := mX10_spare) (conX10_spare _ K) (ra_r (rr_vn dL_law_1097 rfl) (ra_i (ri_s8 hX (rr_vn dL_law_1098 rfl) (ri_2 ol_op_add (ri_vn dL_law_1099 rfl) (ri_ic dL_law_1100 (by unfold ol_inR; omega)) dL_law_1101) dL_law_1102) (ra_i (ri_s8 hX (rr_vn dL_law_1103 rfl) (ri_2 ol_op_add (ri_vn dL_law_1104 rfl) (ri_ic dL_law_1105 (by unfold ol_inR; omega)) dL_law_1106) dL_law_1107) (ra_i (ri_s8 hX (rr_vn dL_law_1108 rfl) (ri_2 ol_op_add (ri_vn dL_law_1109 rfl) (ri_ic dL_law_1110 (by unfold ol_inR; omega)) dL_law_1111) dL_law_1112) (ra_0))))) dL_law_1113 cwL_122 tw_804 tw_805 (by decide) rfl rfl ⟨rfl, rfl, Nat.le_of_ble_eq_true rfl⟩ (by decide) (by decide) (al_r (al_i (al_i (al_i al_0))))) (Or.inl rfl)) (ri_k (rk_v (Mc := mX11_spare) (conX11_spare _ K) (ra_r (rr_vn dL_law_1116 rfl) (ra_i (ri_s8 hX (rr_vn dL_law_1117 rfl) (ri_2 ol_op_add (ri_vn dL_law_1118 rfl) (ri_ic dL_law_1119 (by unfold ol_inR; omega)) dL_law_1120) dL_law_1121) (ra_i (ri_s8 hX (rr_vn dL_law_1122 rfl) (ri_2 ol_op_add (ri_vn dL_law_1123 rfl) (ri_ic dL_law_1124 (by unfold ol_inR; omega)) dL_law_1125) dL_law_1126) (ra_i (ri_s8 hX (rr_vn dL_law_1127 rfl) (ri_2 ol_op_add (ri_vn dL_law_1128 rfl) (ri_ic dL_law_1129 (by unfold ol_inR; omega)) dL_law_1130) dL_law_1131) (ra_0))))) dL_law_1132 cwL_125 tw_1199 tw_1200 (by decide) rfl rfl ⟨rfl, rfl, Nat.le_of_ble_eq_true rfl⟩ (by decide) (by decide) (al_r (al_i (al_i (al_i al_0))))) (Or.inl rfl)) dL_law_1135 (by decide)) (rs_retz (ri_ic dL_law_1138 (by unfold ol_inR; omega)) rfl dL_law_1139) rs_skip⟩, ⟨_, 1140, rfl, by decide, rs_if (pT := 1161) (pF := 1246) (pE := 1246) (rc_2F (pF := 1246) ol_j2_eq_F (ri_k (rk_v (Mc := mX10_worth) (conX10_worth _ K) (ra_r (rr_vn dL_law_1140 rfl) (ra_i (ri_s8 hX (rr_vn dL_law_1141 rfl) (ri_2 ol_op_add (ri_vn dL_law_1142 rfl) (ri_ic dL_law_1143 (by unfold ol_inR; omega)) dL_law_1144) dL_law_1145) (ra_0))) dL_law_1146 cwL_126 tw_812 tw_813 (by decide) rfl rfl ⟨rfl, rfl, Nat.le_of_ble_eq_true rfl⟩ (by decide) (by decide) (al_r (al_i al_0))) (Or.inl rfl)) (ri_k (rk_v (Mc := mX11_worth) (conX11_worth _ K) (ra_r (rr_vn dL_law_1149 rfl) (ra_i (ri_s8 hX (rr_vn dL_law_1150 rfl) (ri_2 ol_op_add (ri_vn dL_law_1151 rfl) (ri_ic dL_law_1152 (by unfold ol_inR; omega)) dL_law_1153) dL_law_1154) (ra_0))) dL_law_1155 cwL_129 tw_1203 tw_1204 (by decide) rfl rfl ⟨rfl, rfl, Nat.le_of_ble_eq_true rfl⟩ (by decide) (by decide) (al_r (al_i al_0))) (Or.inl rfl)) dL_law_1158 (by decide)) (rs_retz (ri_ic dL_law_1161 (by unfold ol_inR; omega)) rfl dL_law_1162) rs_skip⟩, ⟨_, 1163, rfl, by decide, rs_if (pT := 1184) (pF := 1246) (pE := 1246) (rc_2F (pF := 1246) ol_j2_eq_F (ri_k (rk_v (Mc := mX10_keep) (conX10_keep _ K) (ra_r (rr_vn dL_law_1163 rfl) (ra_i (ri_s8 hX (rr_vn dL_law_1164 rfl) (ri_2 ol_op_add (ri_vn dL_law_1165 rfl) (ri_ic dL_law_1166 (by unfold ol_inR; omega)) dL_law_1167) dL_law_1168) (ra_0))) dL_law_1169 cwL_130 tw_824 tw_825 (by decide) rfl rfl ⟨rfl, rfl, Nat.le_of_ble_eq_true rfl⟩ (by decide) (by decide) (al_r (al_i al_0))) (Or.inl rfl)) (ri_k (rk_v (Mc := mX11_keep) (conX11_keep _ K) (ra_r (rr_vn dL_law_1172 rfl) (ra_i (ri_s8 hX (rr_vn dL_law_1173 rfl) (ri_2 ol_op_add (ri_vn dL_law_1174 rfl) (ri_ic dL_law_1175 (by unfold ol_inR; omega)) dL_law_1176) dL_law_1177) (ra_0))) dL_law_1178 cwL_133 tw_1212 tw_1213 (by decide) rfl rfl ⟨rfl, rfl, Nat.le_of_ble_eq_true rfl⟩ (by decide) (by decide) (al_r (al_i al_0))) (Or.inl rfl)) dL_law_1181 (by decide)) (rs_retz (ri_ic dL_law_1184 (by unfold ol_inR; omega)) rfl dL_law_1185) rs_skip⟩, ⟨_, 1186, rfl, by decide, rs_if (pT := 1207) (pF := 1246) (pE := 1246) (rc_2F (pF := 1246) ol_j2_eq_F (ri_k (rk_v (Mc := mX10_back) (conX10_back _ K) (ra_r (rr_vn dL_law_1186 rfl) (ra_i (ri_s8 hX (rr_vn dL_law_1187 rfl) (ri_2 ol_op_add (ri_vn dL_law_1188 rfl) (ri_ic dL_law_1189 (by unfold ol_inR; omega)) dL_law_1190) dL_law_1191) (ra_0))) dL_law_1192 cwL_134 tw_828 tw_829 (by decide) rfl rfl ⟨rfl, rfl, Nat.le_of_ble_eq_true rfl⟩ (by decide) (by decide) (al_r (al_i al_0))) (Or.inl rfl)) (ri_k (rk_v (Mc := mX11_back) (conX11_back _ K) (ra_r (rr_vn dL_law_1195 rfl) (ra_i (ri_s8 hX (rr_vn dL_law_1196 rfl) (ri_2 ol_op_add (ri_vn dL_law_1197 rfl) (ri_ic dL_law_1198 (by unfold ol_inR; omega)) dL_law_1199) dL_law_1200) (ra_0))) dL_law_1201 cwL_137 tw_1216 tw_1217 (by decide) rfl rfl ⟨rfl, rfl, Nat.le_of_ble_eq_true rfl⟩ (by decide) (by decide) (al_r (al_i al_0))) (Or.inl rfl)) dL_law_1204 (by decide)) (rs_retz (ri_ic dL_law_1207 (by unfold ol_inR; omega)) rfl dL_law_1208) rs_skip⟩, ⟨_, 1209, rfl, by decide, rs_if (pT := 1230) (pF := 1246) (pE := 1246) (rc_2F (pF := 1246) ol_j2_eq_F (ri_k (rk_v (Mc := mX10_count) (conX10_count _ K) (ra_r (rr_vn dL_law_1209 rfl) (ra_i (ri_s8 hX (rr_vn dL_law_1210 rfl) (ri_2 ol_op_add (ri_vn dL_law_1211 rfl) (ri_ic dL_law_1212 (by unfold ol_inR; omega)) dL_law_1213) dL_law_1214) (ra_0))) dL_law_1215 cwL_138 tw_832 tw_833 (by decide) rfl rfl ⟨rfl, rfl, Nat.le_of_ble_eq_true rfl⟩ (by decide) (by decide) (al_r (al_i al_0))) (Or.inl rfl)) (ri_k (rk_v (Mc := mX11_count) (conX11_count _ K) (ra_r (rr_vn dL_law_1218 rfl) (ra_i (ri_s8 hX (rr_vn dL_law_1219 rfl) (ri_2 ol_op_add (ri_vn dL_law_1220 rfl) (ri_ic dL_law_1221 (by unfold ol_inR; omega)) dL_law_1222) dL_law_1223) (ra_0))) dL_law_1224 cwL_141 tw_1220 tw_1221 (by decide) rfl rfl ⟨rfl, rfl, Nat.le_of_ble_eq_true rfl⟩ (by decide) (by decide) (al_r (al_i al_0))) (Or.inl rfl)) dL_law_1227 (by decide)) (rs_retz (ri_ic dL_law_1230 (by unfold ol_inR; omega)) rfl dL_law_1231) rs_skip⟩, ⟨_, 1232, rfl, by decide, rs_if (pT := 1244) (pF := 1246) (pE := 1246) (rc_j (pF := 1246) (rj_k (rk_v (Mc := mX10_trace) (conX10_trace _ K) (ra_r (rr_vn dL_law_1232 rfl) (ra_0)) dL_law_1233 cwL_142 tw_840 tw_841 (by decide) rfl rfl ⟨rfl, rfl, Nat.le_of_ble_eq_true rfl⟩ (by decide) (by decide) (al_r al_0))) (rj_k (rk_v (Mc := mX11_trace) (conX11_trace _ K) (ra_r (rr_vn dL_law_1236 rfl) (ra_0)) dL_law_1237 cwL_146 tw_1224 tw_1225 (by decide) rfl rfl ⟨rfl, rfl, Nat.le_of_ble_eq_true rfl⟩ (by decide) (by decide) (al_r al_0))) dL_law_1240 dL_law_1241 (by decide)) (rs_retz (ri_ic dL_law_1244 (by unfold ol_inR; omega)) rfl dL_law_1245) rs_skip⟩, trivial⟩ (by decide) (rs_skip)) (rs_inc dL_law_1246 (ol_ltn rfl))) dL_law_1249 (by decide))) (rs_retz (ri_ic dL_law_1252 (by unfold ol_inR; omega)) rfl dL_law_1253)))
