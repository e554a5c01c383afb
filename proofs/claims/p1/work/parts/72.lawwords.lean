theorem lm_171 : Cond.initialized "NestedChecker" ∈ lw_tbl := List.mem_of_getElem? (i := 171) (by decide +kernel)
theorem lm_185 : Cond.initialized "NestedCheckerModel" ∈ lw_tbl := List.mem_of_getElem? (i := 185) (by decide +kernel)
theorem lm_191 : Cond.classLink "NestedCheckerLaw" 7 "NestedChecker" ∈ lw_tbl := List.mem_of_getElem? (i := 191) (by decide +kernel)
theorem lm_192 : Cond.instantiable "NestedChecker" 15 ∈ lw_tbl := List.mem_of_getElem? (i := 192) (by decide +kernel)
theorem lm_193 : Cond.methodLink "NestedCheckerLaw" 9 ⟨"NestedChecker", "<init>", "()V"⟩ ∈ lw_tbl := List.mem_of_getElem? (i := 193) (by decide +kernel)
theorem lm_194 : Cond.instanceMethod ⟨"NestedChecker", "<init>", "()V"⟩ ∈ lw_tbl := List.mem_of_getElem? (i := 194) (by decide +kernel)
theorem lm_200 : Cond.instantiable "NestedChecker$Trays" 3 ∈ lw_tbl := List.mem_of_getElem? (i := 200) (by decide +kernel)
theorem lm_215 : Cond.arrayClass .long ∈ lw_tbl := List.mem_of_getElem? (i := 215) (by decide +kernel)
theorem lm_216 : Cond.arrayClass .int ∈ lw_tbl := List.mem_of_getElem? (i := 216) (by decide +kernel)
theorem lm_218 : Cond.instantiable "NestedChecker$Reader" 12 ∈ lw_tbl := List.mem_of_getElem? (i := 218) (by decide +kernel)
theorem lm_219 : Cond.methodLinkNest "NestedChecker" 18 ⟨"NestedChecker$Reader", "<init>", "()V"⟩ "NestedChecker" ∈ lw_tbl := List.mem_of_getElem? (i := 219) (by decide +kernel)
theorem lm_224 : Cond.instantiable "NestedChecker$Setting" 7 ∈ lw_tbl := List.mem_of_getElem? (i := 224) (by decide +kernel)
theorem lm_225 : Cond.methodLinkNest "NestedChecker$Reader" 11 ⟨"NestedChecker$Setting", "<init>", "()V"⟩ "NestedChecker" ∈ lw_tbl := List.mem_of_getElem? (i := 225) (by decide +kernel)
theorem lm_230 : Cond.instantiable "NestedChecker$Automaton" 12 ∈ lw_tbl := List.mem_of_getElem? (i := 230) (by decide +kernel)
theorem lm_231 : Cond.methodLinkNest "NestedChecker$Setting" 11 ⟨"NestedChecker$Automaton", "<init>", "()V"⟩ "NestedChecker" ∈ lw_tbl := List.mem_of_getElem? (i := 231) (by decide +kernel)
theorem lm_312 : Cond.instantiable "NestedChecker$Walk" 8 ∈ lw_tbl := List.mem_of_getElem? (i := 312) (by decide +kernel)
theorem lm_313 : Cond.methodLinkNest "NestedChecker$Setting" 23 ⟨"NestedChecker$Walk", "<init>", "()V"⟩ "NestedChecker" ∈ lw_tbl := List.mem_of_getElem? (i := 313) (by decide +kernel)
theorem lm_432 : Cond.arrayClass .byte ∈ lw_tbl := List.mem_of_getElem? (i := 432) (by decide +kernel)
theorem lm_434 : Cond.methodLinkNest "NestedChecker" 25 ⟨"NestedChecker$Setting", "<init>", "()V"⟩ "NestedChecker" ∈ lw_tbl := List.mem_of_getElem? (i := 434) (by decide +kernel)
theorem lm_435 : Cond.arrayOver (.object "NestedChecker$Setting") ∈ lw_tbl := List.mem_of_getElem? (i := 435) (by decide +kernel)
theorem lm_437 : Cond.instantiable "NestedChecker$SummaryTable" 6 ∈ lw_tbl := List.mem_of_getElem? (i := 437) (by decide +kernel)
theorem lm_438 : Cond.methodLinkNest "NestedChecker" 36 ⟨"NestedChecker$SummaryTable", "<init>", "()V"⟩ "NestedChecker" ∈ lw_tbl := List.mem_of_getElem? (i := 438) (by decide +kernel)
theorem lm_466 : Cond.instantiable "NestedChecker$Search" 17 ∈ lw_tbl := List.mem_of_getElem? (i := 466) (by decide +kernel)
theorem lm_472 : Cond.methodLinkNest "NestedChecker$Search" 20 ⟨"NestedChecker$Automaton", "<init>", "()V"⟩ "NestedChecker" ∈ lw_tbl := List.mem_of_getElem? (i := 472) (by decide +kernel)
theorem lm_474 : Cond.instantiable "NestedChecker$Shelf" 5 ∈ lw_tbl := List.mem_of_getElem? (i := 474) (by decide +kernel)
theorem lm_579 : Cond.instantiable "NestedChecker$Tally" 13 ∈ lw_tbl := List.mem_of_getElem? (i := 579) (by decide +kernel)
theorem lm_580 : Cond.methodLinkNest "NestedChecker" 53 ⟨"NestedChecker$Tally", "<init>", "()V"⟩ "NestedChecker" ∈ lw_tbl := List.mem_of_getElem? (i := 580) (by decide +kernel)
theorem lm_625 : Cond.methodLinkNest "NestedChecker" 60 ⟨"NestedChecker$Walk", "<init>", "()V"⟩ "NestedChecker" ∈ lw_tbl := List.mem_of_getElem? (i := 625) (by decide +kernel)
theorem lm_627 : Cond.instantiable "NestedChecker$RunCount" 7 ∈ lw_tbl := List.mem_of_getElem? (i := 627) (by decide +kernel)
theorem lm_628 : Cond.methodLinkNest "NestedChecker" 67 ⟨"NestedChecker$RunCount", "<init>", "()V"⟩ "NestedChecker" ∈ lw_tbl := List.mem_of_getElem? (i := 628) (by decide +kernel)
theorem lm_700 : Cond.methodLink "NestedCheckerLaw" 13 ⟨"NestedChecker", "status", "()I"⟩ ∈ lw_tbl := List.mem_of_getElem? (i := 700) (by decide +kernel)
theorem lm_701 : Cond.instanceMethod ⟨"NestedChecker", "status", "()I"⟩ ∈ lw_tbl := List.mem_of_getElem? (i := 701) (by decide +kernel)
theorem lm_702 : Cond.selects "NestedChecker" ⟨"NestedChecker", "status", "()I"⟩ ⟨"NestedChecker", "status", "()I"⟩ ∈ lw_tbl := List.mem_of_getElem? (i := 702) (by decide +kernel)
theorem lm_704 : Cond.methodLink "NestedCheckerLaw" 18 ⟨"NestedChecker", "top", "()J"⟩ ∈ lw_tbl := List.mem_of_getElem? (i := 704) (by decide +kernel)
theorem lm_705 : Cond.instanceMethod ⟨"NestedChecker", "top", "()J"⟩ ∈ lw_tbl := List.mem_of_getElem? (i := 705) (by decide +kernel)
theorem lm_706 : Cond.selects "NestedChecker" ⟨"NestedChecker", "top", "()J"⟩ ⟨"NestedChecker", "top", "()J"⟩ ∈ lw_tbl := List.mem_of_getElem? (i := 706) (by decide +kernel)
theorem lm_708 : Cond.methodLink "NestedCheckerLaw" 23 ⟨"NestedChecker", "bottom", "()J"⟩ ∈ lw_tbl := List.mem_of_getElem? (i := 708) (by decide +kernel)
theorem lm_709 : Cond.instanceMethod ⟨"NestedChecker", "bottom", "()J"⟩ ∈ lw_tbl := List.mem_of_getElem? (i := 709) (by decide +kernel)
theorem lm_710 : Cond.selects "NestedChecker" ⟨"NestedChecker", "bottom", "()J"⟩ ⟨"NestedChecker", "bottom", "()J"⟩ ∈ lw_tbl := List.mem_of_getElem? (i := 710) (by decide +kernel)
theorem lm_712 : Cond.methodLink "NestedCheckerLaw" 27 ⟨"NestedChecker", "tray", "(III)Z"⟩ ∈ lw_tbl := List.mem_of_getElem? (i := 712) (by decide +kernel)
theorem lm_713 : Cond.instanceMethod ⟨"NestedChecker", "tray", "(III)Z"⟩ ∈ lw_tbl := List.mem_of_getElem? (i := 713) (by decide +kernel)
theorem lm_714 : Cond.selects "NestedChecker" ⟨"NestedChecker", "tray", "(III)Z"⟩ ⟨"NestedChecker", "tray", "(III)Z"⟩ ∈ lw_tbl := List.mem_of_getElem? (i := 714) (by decide +kernel)
theorem lm_720 : Cond.methodLinkNest "NestedChecker$Trays" 22 ⟨"NestedChecker", "within", "(III)Z"⟩ "NestedChecker" ∈ lw_tbl := List.mem_of_getElem? (i := 720) (by decide +kernel)
theorem lm_736 : Cond.methodLink "NestedCheckerLaw" 34 ⟨"NestedChecker", "write", "(IIJ)Z"⟩ ∈ lw_tbl := List.mem_of_getElem? (i := 736) (by decide +kernel)
theorem lm_737 : Cond.instanceMethod ⟨"NestedChecker", "write", "(IIJ)Z"⟩ ∈ lw_tbl := List.mem_of_getElem? (i := 737) (by decide +kernel)
theorem lm_738 : Cond.selects "NestedChecker" ⟨"NestedChecker", "write", "(IIJ)Z"⟩ ⟨"NestedChecker", "write", "(IIJ)Z"⟩ ∈ lw_tbl := List.mem_of_getElem? (i := 738) (by decide +kernel)
theorem lm_756 : Cond.methodLink "NestedCheckerLaw" 39 ⟨"NestedChecker", "read", "(II)J"⟩ ∈ lw_tbl := List.mem_of_getElem? (i := 756) (by decide +kernel)
theorem lm_757 : Cond.instanceMethod ⟨"NestedChecker", "read", "(II)J"⟩ ∈ lw_tbl := List.mem_of_getElem? (i := 757) (by decide +kernel)
theorem lm_758 : Cond.selects "NestedChecker" ⟨"NestedChecker", "read", "(II)J"⟩ ⟨"NestedChecker", "read", "(II)J"⟩ ∈ lw_tbl := List.mem_of_getElem? (i := 758) (by decide +kernel)
theorem lm_768 : Cond.methodLink "NestedCheckerLaw" 44 ⟨"NestedChecker", "pour", "(IIIII)Z"⟩ ∈ lw_tbl := List.mem_of_getElem? (i := 768) (by decide +kernel)
theorem lm_769 : Cond.instanceMethod ⟨"NestedChecker", "pour", "(IIIII)Z"⟩ ∈ lw_tbl := List.mem_of_getElem? (i := 769) (by decide +kernel)
theorem lm_770 : Cond.selects "NestedChecker" ⟨"NestedChecker", "pour", "(IIIII)Z"⟩ ⟨"NestedChecker", "pour", "(IIIII)Z"⟩ ∈ lw_tbl := List.mem_of_getElem? (i := 770) (by decide +kernel)
theorem lm_783 : Cond.methodLink "NestedCheckerLaw" 49 ⟨"NestedChecker", "feed", "(IIIII)I"⟩ ∈ lw_tbl := List.mem_of_getElem? (i := 783) (by decide +kernel)
theorem lm_784 : Cond.instanceMethod ⟨"NestedChecker", "feed", "(IIIII)I"⟩ ∈ lw_tbl := List.mem_of_getElem? (i := 784) (by decide +kernel)
theorem lm_785 : Cond.selects "NestedChecker" ⟨"NestedChecker", "feed", "(IIIII)I"⟩ ⟨"NestedChecker", "feed", "(IIIII)I"⟩ ∈ lw_tbl := List.mem_of_getElem? (i := 785) (by decide +kernel)
theorem lm_791 : Cond.methodLink "NestedCheckerLaw" 54 ⟨"NestedChecker", "checker", "(I)I"⟩ ∈ lw_tbl := List.mem_of_getElem? (i := 791) (by decide +kernel)
theorem lm_792 : Cond.instanceMethod ⟨"NestedChecker", "checker", "(I)I"⟩ ∈ lw_tbl := List.mem_of_getElem? (i := 792) (by decide +kernel)
theorem lm_793 : Cond.selects "NestedChecker" ⟨"NestedChecker", "checker", "(I)I"⟩ ⟨"NestedChecker", "checker", "(I)I"⟩ ∈ lw_tbl := List.mem_of_getElem? (i := 793) (by decide +kernel)
theorem lm_937 : Cond.methodLinkNest "NestedChecker$Reader" 188 ⟨"NestedChecker", "within", "(III)Z"⟩ "NestedChecker" ∈ lw_tbl := List.mem_of_getElem? (i := 937) (by decide +kernel)
theorem lm_991 : Cond.methodLink "NestedCheckerLaw" 59 ⟨"NestedChecker", "fault", "(I)I"⟩ ∈ lw_tbl := List.mem_of_getElem? (i := 991) (by decide +kernel)
theorem lm_992 : Cond.instanceMethod ⟨"NestedChecker", "fault", "(I)I"⟩ ∈ lw_tbl := List.mem_of_getElem? (i := 992) (by decide +kernel)
theorem lm_993 : Cond.selects "NestedChecker" ⟨"NestedChecker", "fault", "(I)I"⟩ ⟨"NestedChecker", "fault", "(I)I"⟩ ∈ lw_tbl := List.mem_of_getElem? (i := 993) (by decide +kernel)
theorem lm_995 : Cond.methodLink "NestedCheckerLaw" 63 ⟨"NestedChecker", "told", "(I)I"⟩ ∈ lw_tbl := List.mem_of_getElem? (i := 995) (by decide +kernel)
theorem lm_996 : Cond.instanceMethod ⟨"NestedChecker", "told", "(I)I"⟩ ∈ lw_tbl := List.mem_of_getElem? (i := 996) (by decide +kernel)
theorem lm_997 : Cond.selects "NestedChecker" ⟨"NestedChecker", "told", "(I)I"⟩ ⟨"NestedChecker", "told", "(I)I"⟩ ∈ lw_tbl := List.mem_of_getElem? (i := 997) (by decide +kernel)
theorem lm_999 : Cond.methodLink "NestedCheckerLaw" 67 ⟨"NestedChecker", "automaton", "(II)I"⟩ ∈ lw_tbl := List.mem_of_getElem? (i := 999) (by decide +kernel)
theorem lm_1000 : Cond.instanceMethod ⟨"NestedChecker", "automaton", "(II)I"⟩ ∈ lw_tbl := List.mem_of_getElem? (i := 1000) (by decide +kernel)
theorem lm_1001 : Cond.selects "NestedChecker" ⟨"NestedChecker", "automaton", "(II)I"⟩ ⟨"NestedChecker", "automaton", "(II)I"⟩ ∈ lw_tbl := List.mem_of_getElem? (i := 1001) (by decide +kernel)
theorem lm_1008 : Cond.methodLink "NestedCheckerLaw" 72 ⟨"NestedChecker", "rule", "(III)I"⟩ ∈ lw_tbl := List.mem_of_getElem? (i := 1008) (by decide +kernel)
theorem lm_1009 : Cond.instanceMethod ⟨"NestedChecker", "rule", "(III)I"⟩ ∈ lw_tbl := List.mem_of_getElem? (i := 1009) (by decide +kernel)
theorem lm_1010 : Cond.selects "NestedChecker" ⟨"NestedChecker", "rule", "(III)I"⟩ ⟨"NestedChecker", "rule", "(III)I"⟩ ∈ lw_tbl := List.mem_of_getElem? (i := 1010) (by decide +kernel)
theorem lm_1016 : Cond.methodLink "NestedCheckerLaw" 77 ⟨"NestedChecker", "add", "(IIIII)I"⟩ ∈ lw_tbl := List.mem_of_getElem? (i := 1016) (by decide +kernel)
theorem lm_1017 : Cond.instanceMethod ⟨"NestedChecker", "add", "(IIIII)I"⟩ ∈ lw_tbl := List.mem_of_getElem? (i := 1017) (by decide +kernel)
theorem lm_1018 : Cond.selects "NestedChecker" ⟨"NestedChecker", "add", "(IIIII)I"⟩ ⟨"NestedChecker", "add", "(IIIII)I"⟩ ∈ lw_tbl := List.mem_of_getElem? (i := 1018) (by decide +kernel)
theorem lm_1035 : Cond.methodLink "NestedCheckerLaw" 81 ⟨"NestedChecker", "drop", "(II)I"⟩ ∈ lw_tbl := List.mem_of_getElem? (i := 1035) (by decide +kernel)
theorem lm_1036 : Cond.instanceMethod ⟨"NestedChecker", "drop", "(II)I"⟩ ∈ lw_tbl := List.mem_of_getElem? (i := 1036) (by decide +kernel)
theorem lm_1037 : Cond.selects "NestedChecker" ⟨"NestedChecker", "drop", "(II)I"⟩ ⟨"NestedChecker", "drop", "(II)I"⟩ ∈ lw_tbl := List.mem_of_getElem? (i := 1037) (by decide +kernel)
theorem lm_1043 : Cond.methodLink "NestedCheckerLaw" 85 ⟨"NestedChecker", "start", "(IIZ)I"⟩ ∈ lw_tbl := List.mem_of_getElem? (i := 1043) (by decide +kernel)
theorem lm_1044 : Cond.instanceMethod ⟨"NestedChecker", "start", "(IIZ)I"⟩ ∈ lw_tbl := List.mem_of_getElem? (i := 1044) (by decide +kernel)
theorem lm_1045 : Cond.selects "NestedChecker" ⟨"NestedChecker", "start", "(IIZ)I"⟩ ⟨"NestedChecker", "start", "(IIZ)I"⟩ ∈ lw_tbl := List.mem_of_getElem? (i := 1045) (by decide +kernel)
theorem lm_1052 : Cond.methodLink "NestedCheckerLaw" 90 ⟨"NestedChecker", "accept", "(IIZ)I"⟩ ∈ lw_tbl := List.mem_of_getElem? (i := 1052) (by decide +kernel)
theorem lm_1053 : Cond.instanceMethod ⟨"NestedChecker", "accept", "(IIZ)I"⟩ ∈ lw_tbl := List.mem_of_getElem? (i := 1053) (by decide +kernel)
theorem lm_1054 : Cond.selects "NestedChecker" ⟨"NestedChecker", "accept", "(IIZ)I"⟩ ⟨"NestedChecker", "accept", "(IIZ)I"⟩ ∈ lw_tbl := List.mem_of_getElem? (i := 1054) (by decide +kernel)
theorem lm_1056 : Cond.methodLink "NestedCheckerLaw" 94 ⟨"NestedChecker", "copy", "(II)Z"⟩ ∈ lw_tbl := List.mem_of_getElem? (i := 1056) (by decide +kernel)
theorem lm_1057 : Cond.instanceMethod ⟨"NestedChecker", "copy", "(II)Z"⟩ ∈ lw_tbl := List.mem_of_getElem? (i := 1057) (by decide +kernel)
theorem lm_1058 : Cond.selects "NestedChecker" ⟨"NestedChecker", "copy", "(II)Z"⟩ ⟨"NestedChecker", "copy", "(II)Z"⟩ ∈ lw_tbl := List.mem_of_getElem? (i := 1058) (by decide +kernel)
theorem lm_1069 : Cond.methodLink "NestedCheckerLaw" 99 ⟨"NestedChecker", "takes", "(III)I"⟩ ∈ lw_tbl := List.mem_of_getElem? (i := 1069) (by decide +kernel)
theorem lm_1070 : Cond.instanceMethod ⟨"NestedChecker", "takes", "(III)I"⟩ ∈ lw_tbl := List.mem_of_getElem? (i := 1070) (by decide +kernel)
theorem lm_1071 : Cond.selects "NestedChecker" ⟨"NestedChecker", "takes", "(III)I"⟩ ⟨"NestedChecker", "takes", "(III)I"⟩ ∈ lw_tbl := List.mem_of_getElem? (i := 1071) (by decide +kernel)
theorem lm_1113 : Cond.methodLink "NestedCheckerLaw" 103 ⟨"NestedChecker", "ends", "(III)I"⟩ ∈ lw_tbl := List.mem_of_getElem? (i := 1113) (by decide +kernel)
theorem lm_1114 : Cond.instanceMethod ⟨"NestedChecker", "ends", "(III)I"⟩ ∈ lw_tbl := List.mem_of_getElem? (i := 1114) (by decide +kernel)
theorem lm_1115 : Cond.selects "NestedChecker" ⟨"NestedChecker", "ends", "(III)I"⟩ ⟨"NestedChecker", "ends", "(III)I"⟩ ∈ lw_tbl := List.mem_of_getElem? (i := 1115) (by decide +kernel)
theorem lm_1117 : Cond.methodLink "NestedCheckerLaw" 107 ⟨"NestedChecker", "runs", "(III)Z"⟩ ∈ lw_tbl := List.mem_of_getElem? (i := 1117) (by decide +kernel)
theorem lm_1118 : Cond.instanceMethod ⟨"NestedChecker", "runs", "(III)Z"⟩ ∈ lw_tbl := List.mem_of_getElem? (i := 1118) (by decide +kernel)
theorem lm_1119 : Cond.selects "NestedChecker" ⟨"NestedChecker", "runs", "(III)Z"⟩ ⟨"NestedChecker", "runs", "(III)Z"⟩ ∈ lw_tbl := List.mem_of_getElem? (i := 1119) (by decide +kernel)
theorem lm_1176 : Cond.methodLink "NestedCheckerLaw" 111 ⟨"NestedChecker", "depth", "(III)I"⟩ ∈ lw_tbl := List.mem_of_getElem? (i := 1176) (by decide +kernel)
theorem lm_1177 : Cond.instanceMethod ⟨"NestedChecker", "depth", "(III)I"⟩ ∈ lw_tbl := List.mem_of_getElem? (i := 1177) (by decide +kernel)
theorem lm_1178 : Cond.selects "NestedChecker" ⟨"NestedChecker", "depth", "(III)I"⟩ ⟨"NestedChecker", "depth", "(III)I"⟩ ∈ lw_tbl := List.mem_of_getElem? (i := 1178) (by decide +kernel)
theorem lm_1185 : Cond.methodLink "NestedCheckerLaw" 115 ⟨"NestedChecker", "partner", "(III)I"⟩ ∈ lw_tbl := List.mem_of_getElem? (i := 1185) (by decide +kernel)
theorem lm_1186 : Cond.instanceMethod ⟨"NestedChecker", "partner", "(III)I"⟩ ∈ lw_tbl := List.mem_of_getElem? (i := 1186) (by decide +kernel)
theorem lm_1187 : Cond.selects "NestedChecker" ⟨"NestedChecker", "partner", "(III)I"⟩ ⟨"NestedChecker", "partner", "(III)I"⟩ ∈ lw_tbl := List.mem_of_getElem? (i := 1187) (by decide +kernel)
theorem lm_1193 : Cond.methodLink "NestedCheckerLaw" 119 ⟨"NestedChecker", "table", "(I)I"⟩ ∈ lw_tbl := List.mem_of_getElem? (i := 1193) (by decide +kernel)
theorem lm_1194 : Cond.instanceMethod ⟨"NestedChecker", "table", "(I)I"⟩ ∈ lw_tbl := List.mem_of_getElem? (i := 1194) (by decide +kernel)
theorem lm_1195 : Cond.selects "NestedChecker" ⟨"NestedChecker", "table", "(I)I"⟩ ⟨"NestedChecker", "table", "(I)I"⟩ ∈ lw_tbl := List.mem_of_getElem? (i := 1195) (by decide +kernel)
theorem lm_1241 : Cond.methodLink "NestedCheckerLaw" 123 ⟨"NestedChecker", "summary", "(III)I"⟩ ∈ lw_tbl := List.mem_of_getElem? (i := 1241) (by decide +kernel)
theorem lm_1242 : Cond.instanceMethod ⟨"NestedChecker", "summary", "(III)I"⟩ ∈ lw_tbl := List.mem_of_getElem? (i := 1242) (by decide +kernel)
theorem lm_1243 : Cond.selects "NestedChecker" ⟨"NestedChecker", "summary", "(III)I"⟩ ⟨"NestedChecker", "summary", "(III)I"⟩ ∈ lw_tbl := List.mem_of_getElem? (i := 1243) (by decide +kernel)
theorem lm_1249 : Cond.methodLink "NestedCheckerLaw" 127 ⟨"NestedChecker", "next", "(III)I"⟩ ∈ lw_tbl := List.mem_of_getElem? (i := 1249) (by decide +kernel)
theorem lm_1250 : Cond.instanceMethod ⟨"NestedChecker", "next", "(III)I"⟩ ∈ lw_tbl := List.mem_of_getElem? (i := 1250) (by decide +kernel)
theorem lm_1251 : Cond.selects "NestedChecker" ⟨"NestedChecker", "next", "(III)I"⟩ ⟨"NestedChecker", "next", "(III)I"⟩ ∈ lw_tbl := List.mem_of_getElem? (i := 1251) (by decide +kernel)
theorem lm_1262 : Cond.methodLink "NestedCheckerLaw" 131 ⟨"NestedChecker", "nextBack", "(IIIII)I"⟩ ∈ lw_tbl := List.mem_of_getElem? (i := 1262) (by decide +kernel)
theorem lm_1263 : Cond.instanceMethod ⟨"NestedChecker", "nextBack", "(IIIII)I"⟩ ∈ lw_tbl := List.mem_of_getElem? (i := 1263) (by decide +kernel)
theorem lm_1264 : Cond.selects "NestedChecker" ⟨"NestedChecker", "nextBack", "(IIIII)I"⟩ ⟨"NestedChecker", "nextBack", "(IIIII)I"⟩ ∈ lw_tbl := List.mem_of_getElem? (i := 1264) (by decide +kernel)
theorem lm_1270 : Cond.methodLink "NestedCheckerLaw" 135 ⟨"NestedChecker", "well", "(III)I"⟩ ∈ lw_tbl := List.mem_of_getElem? (i := 1270) (by decide +kernel)
theorem lm_1271 : Cond.instanceMethod ⟨"NestedChecker", "well", "(III)I"⟩ ∈ lw_tbl := List.mem_of_getElem? (i := 1271) (by decide +kernel)
theorem lm_1272 : Cond.selects "NestedChecker" ⟨"NestedChecker", "well", "(III)I"⟩ ⟨"NestedChecker", "well", "(III)I"⟩ ∈ lw_tbl := List.mem_of_getElem? (i := 1272) (by decide +kernel)
theorem lm_1349 : Cond.methodLink "NestedCheckerLaw" 139 ⟨"NestedChecker", "reaches", "(I)I"⟩ ∈ lw_tbl := List.mem_of_getElem? (i := 1349) (by decide +kernel)
theorem lm_1350 : Cond.instanceMethod ⟨"NestedChecker", "reaches", "(I)I"⟩ ∈ lw_tbl := List.mem_of_getElem? (i := 1350) (by decide +kernel)
theorem lm_1351 : Cond.selects "NestedChecker" ⟨"NestedChecker", "reaches", "(I)I"⟩ ⟨"NestedChecker", "reaches", "(I)I"⟩ ∈ lw_tbl := List.mem_of_getElem? (i := 1351) (by decide +kernel)
theorem lm_1369 : Cond.methodLink "NestedCheckerLaw" 143 ⟨"NestedChecker", "shortest", "(I)I"⟩ ∈ lw_tbl := List.mem_of_getElem? (i := 1369) (by decide +kernel)
theorem lm_1370 : Cond.instanceMethod ⟨"NestedChecker", "shortest", "(I)I"⟩ ∈ lw_tbl := List.mem_of_getElem? (i := 1370) (by decide +kernel)
theorem lm_1371 : Cond.selects "NestedChecker" ⟨"NestedChecker", "shortest", "(I)I"⟩ ⟨"NestedChecker", "shortest", "(I)I"⟩ ∈ lw_tbl := List.mem_of_getElem? (i := 1371) (by decide +kernel)
theorem lm_1414 : Cond.methodLink "NestedCheckerLaw" 147 ⟨"NestedChecker", "shortestAt", "(II)I"⟩ ∈ lw_tbl := List.mem_of_getElem? (i := 1414) (by decide +kernel)
theorem lm_1415 : Cond.instanceMethod ⟨"NestedChecker", "shortestAt", "(II)I"⟩ ∈ lw_tbl := List.mem_of_getElem? (i := 1415) (by decide +kernel)
theorem lm_1416 : Cond.selects "NestedChecker" ⟨"NestedChecker", "shortestAt", "(II)I"⟩ ⟨"NestedChecker", "shortestAt", "(II)I"⟩ ∈ lw_tbl := List.mem_of_getElem? (i := 1416) (by decide +kernel)
theorem lm_1426 : Cond.methodLink "NestedCheckerLaw" 151 ⟨"NestedChecker", "both", "(II)I"⟩ ∈ lw_tbl := List.mem_of_getElem? (i := 1426) (by decide +kernel)
theorem lm_1427 : Cond.instanceMethod ⟨"NestedChecker", "both", "(II)I"⟩ ∈ lw_tbl := List.mem_of_getElem? (i := 1427) (by decide +kernel)
theorem lm_1428 : Cond.selects "NestedChecker" ⟨"NestedChecker", "both", "(II)I"⟩ ⟨"NestedChecker", "both", "(II)I"⟩ ∈ lw_tbl := List.mem_of_getElem? (i := 1428) (by decide +kernel)
theorem lm_1430 : Cond.methodLink "NestedCheckerLaw" 155 ⟨"NestedChecker", "bothAt", "(III)I"⟩ ∈ lw_tbl := List.mem_of_getElem? (i := 1430) (by decide +kernel)
theorem lm_1431 : Cond.instanceMethod ⟨"NestedChecker", "bothAt", "(III)I"⟩ ∈ lw_tbl := List.mem_of_getElem? (i := 1431) (by decide +kernel)
theorem lm_1432 : Cond.selects "NestedChecker" ⟨"NestedChecker", "bothAt", "(III)I"⟩ ⟨"NestedChecker", "bothAt", "(III)I"⟩ ∈ lw_tbl := List.mem_of_getElem? (i := 1432) (by decide +kernel)
theorem lm_1434 : Cond.methodLink "NestedCheckerLaw" 159 ⟨"NestedChecker", "parting", "(II)I"⟩ ∈ lw_tbl := List.mem_of_getElem? (i := 1434) (by decide +kernel)
theorem lm_1435 : Cond.instanceMethod ⟨"NestedChecker", "parting", "(II)I"⟩ ∈ lw_tbl := List.mem_of_getElem? (i := 1435) (by decide +kernel)
theorem lm_1436 : Cond.selects "NestedChecker" ⟨"NestedChecker", "parting", "(II)I"⟩ ⟨"NestedChecker", "parting", "(II)I"⟩ ∈ lw_tbl := List.mem_of_getElem? (i := 1436) (by decide +kernel)
theorem lm_1442 : Cond.methodLink "NestedCheckerLaw" 163 ⟨"NestedChecker", "partingAt", "(III)I"⟩ ∈ lw_tbl := List.mem_of_getElem? (i := 1442) (by decide +kernel)
theorem lm_1443 : Cond.instanceMethod ⟨"NestedChecker", "partingAt", "(III)I"⟩ ∈ lw_tbl := List.mem_of_getElem? (i := 1443) (by decide +kernel)
theorem lm_1444 : Cond.selects "NestedChecker" ⟨"NestedChecker", "partingAt", "(III)I"⟩ ⟨"NestedChecker", "partingAt", "(III)I"⟩ ∈ lw_tbl := List.mem_of_getElem? (i := 1444) (by decide +kernel)
theorem lm_1446 : Cond.methodLink "NestedCheckerLaw" 167 ⟨"NestedChecker", "missing", "(I)I"⟩ ∈ lw_tbl := List.mem_of_getElem? (i := 1446) (by decide +kernel)
theorem lm_1447 : Cond.instanceMethod ⟨"NestedChecker", "missing", "(I)I"⟩ ∈ lw_tbl := List.mem_of_getElem? (i := 1447) (by decide +kernel)
theorem lm_1448 : Cond.selects "NestedChecker" ⟨"NestedChecker", "missing", "(I)I"⟩ ⟨"NestedChecker", "missing", "(I)I"⟩ ∈ lw_tbl := List.mem_of_getElem? (i := 1448) (by decide +kernel)
theorem lm_1450 : Cond.methodLink "NestedCheckerLaw" 171 ⟨"NestedChecker", "missingAt", "(II)I"⟩ ∈ lw_tbl := List.mem_of_getElem? (i := 1450) (by decide +kernel)
theorem lm_1451 : Cond.instanceMethod ⟨"NestedChecker", "missingAt", "(II)I"⟩ ∈ lw_tbl := List.mem_of_getElem? (i := 1451) (by decide +kernel)
theorem lm_1452 : Cond.selects "NestedChecker" ⟨"NestedChecker", "missingAt", "(II)I"⟩ ⟨"NestedChecker", "missingAt", "(II)I"⟩ ∈ lw_tbl := List.mem_of_getElem? (i := 1452) (by decide +kernel)
theorem lm_1454 : Cond.methodLink "NestedCheckerLaw" 175 ⟨"NestedChecker", "includes", "(II)I"⟩ ∈ lw_tbl := List.mem_of_getElem? (i := 1454) (by decide +kernel)
theorem lm_1455 : Cond.instanceMethod ⟨"NestedChecker", "includes", "(II)I"⟩ ∈ lw_tbl := List.mem_of_getElem? (i := 1455) (by decide +kernel)
theorem lm_1456 : Cond.selects "NestedChecker" ⟨"NestedChecker", "includes", "(II)I"⟩ ⟨"NestedChecker", "includes", "(II)I"⟩ ∈ lw_tbl := List.mem_of_getElem? (i := 1456) (by decide +kernel)
theorem lm_1458 : Cond.methodLink "NestedCheckerLaw" 179 ⟨"NestedChecker", "equal", "(II)I"⟩ ∈ lw_tbl := List.mem_of_getElem? (i := 1458) (by decide +kernel)
theorem lm_1459 : Cond.instanceMethod ⟨"NestedChecker", "equal", "(II)I"⟩ ∈ lw_tbl := List.mem_of_getElem? (i := 1459) (by decide +kernel)
theorem lm_1460 : Cond.selects "NestedChecker" ⟨"NestedChecker", "equal", "(II)I"⟩ ⟨"NestedChecker", "equal", "(II)I"⟩ ∈ lw_tbl := List.mem_of_getElem? (i := 1460) (by decide +kernel)
theorem lm_1462 : Cond.methodLink "NestedCheckerLaw" 183 ⟨"NestedChecker", "count", "(II)I"⟩ ∈ lw_tbl := List.mem_of_getElem? (i := 1462) (by decide +kernel)
theorem lm_1463 : Cond.instanceMethod ⟨"NestedChecker", "count", "(II)I"⟩ ∈ lw_tbl := List.mem_of_getElem? (i := 1463) (by decide +kernel)
theorem lm_1464 : Cond.selects "NestedChecker" ⟨"NestedChecker", "count", "(II)I"⟩ ⟨"NestedChecker", "count", "(II)I"⟩ ∈ lw_tbl := List.mem_of_getElem? (i := 1464) (by decide +kernel)
theorem lm_1520 : Cond.methodLink "NestedCheckerLaw" 187 ⟨"NestedChecker", "share", "(II)Z"⟩ ∈ lw_tbl := List.mem_of_getElem? (i := 1520) (by decide +kernel)
theorem lm_1521 : Cond.instanceMethod ⟨"NestedChecker", "share", "(II)Z"⟩ ∈ lw_tbl := List.mem_of_getElem? (i := 1521) (by decide +kernel)
theorem lm_1522 : Cond.selects "NestedChecker" ⟨"NestedChecker", "share", "(II)Z"⟩ ⟨"NestedChecker", "share", "(II)Z"⟩ ∈ lw_tbl := List.mem_of_getElem? (i := 1522) (by decide +kernel)
theorem lm_1525 : Cond.methodLink "NestedCheckerLaw" 191 ⟨"NestedChecker", "lastAt", "(III)I"⟩ ∈ lw_tbl := List.mem_of_getElem? (i := 1525) (by decide +kernel)
theorem lm_1526 : Cond.instanceMethod ⟨"NestedChecker", "lastAt", "(III)I"⟩ ∈ lw_tbl := List.mem_of_getElem? (i := 1526) (by decide +kernel)
theorem lm_1527 : Cond.selects "NestedChecker" ⟨"NestedChecker", "lastAt", "(III)I"⟩ ⟨"NestedChecker", "lastAt", "(III)I"⟩ ∈ lw_tbl := List.mem_of_getElem? (i := 1527) (by decide +kernel)
theorem lm_1533 : Cond.methodLink "NestedCheckerLaw" 195 ⟨"NestedChecker", "sample", "(III)Z"⟩ ∈ lw_tbl := List.mem_of_getElem? (i := 1533) (by decide +kernel)
theorem lm_1534 : Cond.instanceMethod ⟨"NestedChecker", "sample", "(III)Z"⟩ ∈ lw_tbl := List.mem_of_getElem? (i := 1534) (by decide +kernel)
theorem lm_1535 : Cond.selects "NestedChecker" ⟨"NestedChecker", "sample", "(III)Z"⟩ ⟨"NestedChecker", "sample", "(III)Z"⟩ ∈ lw_tbl := List.mem_of_getElem? (i := 1535) (by decide +kernel)
theorem lm_1542 : Cond.methodLink "NestedCheckerLaw" 199 ⟨"NestedChecker", "chance", "(IIII)Z"⟩ ∈ lw_tbl := List.mem_of_getElem? (i := 1542) (by decide +kernel)
theorem lm_1543 : Cond.instanceMethod ⟨"NestedChecker", "chance", "(IIII)Z"⟩ ∈ lw_tbl := List.mem_of_getElem? (i := 1543) (by decide +kernel)
theorem lm_1544 : Cond.selects "NestedChecker" ⟨"NestedChecker", "chance", "(IIII)Z"⟩ ⟨"NestedChecker", "chance", "(IIII)Z"⟩ ∈ lw_tbl := List.mem_of_getElem? (i := 1544) (by decide +kernel)
theorem lm_1550 : Cond.methodLink "NestedCheckerLaw" 204 ⟨"NestedChecker", "watch", "(I)I"⟩ ∈ lw_tbl := List.mem_of_getElem? (i := 1550) (by decide +kernel)
theorem lm_1551 : Cond.instanceMethod ⟨"NestedChecker", "watch", "(I)I"⟩ ∈ lw_tbl := List.mem_of_getElem? (i := 1551) (by decide +kernel)
theorem lm_1552 : Cond.selects "NestedChecker" ⟨"NestedChecker", "watch", "(I)I"⟩ ⟨"NestedChecker", "watch", "(I)I"⟩ ∈ lw_tbl := List.mem_of_getElem? (i := 1552) (by decide +kernel)
theorem lm_1554 : Cond.methodLink "NestedCheckerLaw" 208 ⟨"NestedChecker", "see", "(I)I"⟩ ∈ lw_tbl := List.mem_of_getElem? (i := 1554) (by decide +kernel)
theorem lm_1555 : Cond.instanceMethod ⟨"NestedChecker", "see", "(I)I"⟩ ∈ lw_tbl := List.mem_of_getElem? (i := 1555) (by decide +kernel)
theorem lm_1556 : Cond.selects "NestedChecker" ⟨"NestedChecker", "see", "(I)I"⟩ ⟨"NestedChecker", "see", "(I)I"⟩ ∈ lw_tbl := List.mem_of_getElem? (i := 1556) (by decide +kernel)
theorem lm_1558 : Cond.methodLink "NestedCheckerLaw" 212 ⟨"NestedChecker", "seen", "(I)I"⟩ ∈ lw_tbl := List.mem_of_getElem? (i := 1558) (by decide +kernel)
theorem lm_1559 : Cond.instanceMethod ⟨"NestedChecker", "seen", "(I)I"⟩ ∈ lw_tbl := List.mem_of_getElem? (i := 1559) (by decide +kernel)
theorem lm_1560 : Cond.selects "NestedChecker" ⟨"NestedChecker", "seen", "(I)I"⟩ ⟨"NestedChecker", "seen", "(I)I"⟩ ∈ lw_tbl := List.mem_of_getElem? (i := 1560) (by decide +kernel)
theorem lm_1562 : Cond.methodLink "NestedCheckerLaw" 216 ⟨"NestedChecker", "doomed", "()I"⟩ ∈ lw_tbl := List.mem_of_getElem? (i := 1562) (by decide +kernel)
theorem lm_1563 : Cond.instanceMethod ⟨"NestedChecker", "doomed", "()I"⟩ ∈ lw_tbl := List.mem_of_getElem? (i := 1563) (by decide +kernel)
theorem lm_1564 : Cond.selects "NestedChecker" ⟨"NestedChecker", "doomed", "()I"⟩ ⟨"NestedChecker", "doomed", "()I"⟩ ∈ lw_tbl := List.mem_of_getElem? (i := 1564) (by decide +kernel)
theorem lm_1573 : Cond.methodLink "NestedCheckerLaw" 220 ⟨"NestedChecker", "mark", "()I"⟩ ∈ lw_tbl := List.mem_of_getElem? (i := 1573) (by decide +kernel)
theorem lm_1574 : Cond.instanceMethod ⟨"NestedChecker", "mark", "()I"⟩ ∈ lw_tbl := List.mem_of_getElem? (i := 1574) (by decide +kernel)
theorem lm_1575 : Cond.selects "NestedChecker" ⟨"NestedChecker", "mark", "()I"⟩ ⟨"NestedChecker", "mark", "()I"⟩ ∈ lw_tbl := List.mem_of_getElem? (i := 1575) (by decide +kernel)
theorem lm_1587 : Cond.methodLink "NestedCheckerLaw" 224 ⟨"NestedChecker", "undo", "()I"⟩ ∈ lw_tbl := List.mem_of_getElem? (i := 1587) (by decide +kernel)
theorem lm_1588 : Cond.instanceMethod ⟨"NestedChecker", "undo", "()I"⟩ ∈ lw_tbl := List.mem_of_getElem? (i := 1588) (by decide +kernel)
theorem lm_1589 : Cond.selects "NestedChecker" ⟨"NestedChecker", "undo", "()I"⟩ ⟨"NestedChecker", "undo", "()I"⟩ ∈ lw_tbl := List.mem_of_getElem? (i := 1589) (by decide +kernel)
theorem lm_1591 : Cond.classLink "NestedCheckerLaw" 10 "NestedCheckerModel" ∈ lw_tbl := List.mem_of_getElem? (i := 1591) (by decide +kernel)
theorem lm_1592 : Cond.instantiable "NestedCheckerModel" 51 ∈ lw_tbl := List.mem_of_getElem? (i := 1592) (by decide +kernel)
theorem lm_1593 : Cond.methodLink "NestedCheckerLaw" 12 ⟨"NestedCheckerModel", "<init>", "()V"⟩ ∈ lw_tbl := List.mem_of_getElem? (i := 1593) (by decide +kernel)
theorem lm_1594 : Cond.instanceMethod ⟨"NestedCheckerModel", "<init>", "()V"⟩ ∈ lw_tbl := List.mem_of_getElem? (i := 1594) (by decide +kernel)
theorem lm_1755 : Cond.methodLink "NestedCheckerLaw" 17 ⟨"NestedCheckerModel", "status", "()I"⟩ ∈ lw_tbl := List.mem_of_getElem? (i := 1755) (by decide +kernel)
theorem lm_1756 : Cond.instanceMethod ⟨"NestedCheckerModel", "status", "()I"⟩ ∈ lw_tbl := List.mem_of_getElem? (i := 1756) (by decide +kernel)
theorem lm_1757 : Cond.selects "NestedCheckerModel" ⟨"NestedCheckerModel", "status", "()I"⟩ ⟨"NestedCheckerModel", "status", "()I"⟩ ∈ lw_tbl := List.mem_of_getElem? (i := 1757) (by decide +kernel)
theorem lm_1759 : Cond.methodLink "NestedCheckerLaw" 22 ⟨"NestedCheckerModel", "top", "()J"⟩ ∈ lw_tbl := List.mem_of_getElem? (i := 1759) (by decide +kernel)
theorem lm_1760 : Cond.instanceMethod ⟨"NestedCheckerModel", "top", "()J"⟩ ∈ lw_tbl := List.mem_of_getElem? (i := 1760) (by decide +kernel)
theorem lm_1761 : Cond.selects "NestedCheckerModel" ⟨"NestedCheckerModel", "top", "()J"⟩ ⟨"NestedCheckerModel", "top", "()J"⟩ ∈ lw_tbl := List.mem_of_getElem? (i := 1761) (by decide +kernel)
theorem lm_1763 : Cond.methodLink "NestedCheckerLaw" 26 ⟨"NestedCheckerModel", "bottom", "()J"⟩ ∈ lw_tbl := List.mem_of_getElem? (i := 1763) (by decide +kernel)
theorem lm_1764 : Cond.instanceMethod ⟨"NestedCheckerModel", "bottom", "()J"⟩ ∈ lw_tbl := List.mem_of_getElem? (i := 1764) (by decide +kernel)
theorem lm_1765 : Cond.selects "NestedCheckerModel" ⟨"NestedCheckerModel", "bottom", "()J"⟩ ⟨"NestedCheckerModel", "bottom", "()J"⟩ ∈ lw_tbl := List.mem_of_getElem? (i := 1765) (by decide +kernel)
theorem lm_1767 : Cond.methodLink "NestedCheckerLaw" 31 ⟨"NestedCheckerModel", "tray", "(III)Z"⟩ ∈ lw_tbl := List.mem_of_getElem? (i := 1767) (by decide +kernel)
theorem lm_1768 : Cond.instanceMethod ⟨"NestedCheckerModel", "tray", "(III)Z"⟩ ∈ lw_tbl := List.mem_of_getElem? (i := 1768) (by decide +kernel)
theorem lm_1769 : Cond.selects "NestedCheckerModel" ⟨"NestedCheckerModel", "tray", "(III)Z"⟩ ⟨"NestedCheckerModel", "tray", "(III)Z"⟩ ∈ lw_tbl := List.mem_of_getElem? (i := 1769) (by decide +kernel)
theorem lm_1778 : Cond.methodLink "NestedCheckerLaw" 38 ⟨"NestedCheckerModel", "write", "(IIJ)Z"⟩ ∈ lw_tbl := List.mem_of_getElem? (i := 1778) (by decide +kernel)
theorem lm_1779 : Cond.instanceMethod ⟨"NestedCheckerModel", "write", "(IIJ)Z"⟩ ∈ lw_tbl := List.mem_of_getElem? (i := 1779) (by decide +kernel)
theorem lm_1780 : Cond.selects "NestedCheckerModel" ⟨"NestedCheckerModel", "write", "(IIJ)Z"⟩ ⟨"NestedCheckerModel", "write", "(IIJ)Z"⟩ ∈ lw_tbl := List.mem_of_getElem? (i := 1780) (by decide +kernel)
theorem lm_1789 : Cond.methodLink "NestedCheckerLaw" 43 ⟨"NestedCheckerModel", "read", "(II)J"⟩ ∈ lw_tbl := List.mem_of_getElem? (i := 1789) (by decide +kernel)
theorem lm_1790 : Cond.instanceMethod ⟨"NestedCheckerModel", "read", "(II)J"⟩ ∈ lw_tbl := List.mem_of_getElem? (i := 1790) (by decide +kernel)
theorem lm_1791 : Cond.selects "NestedCheckerModel" ⟨"NestedCheckerModel", "read", "(II)J"⟩ ⟨"NestedCheckerModel", "read", "(II)J"⟩ ∈ lw_tbl := List.mem_of_getElem? (i := 1791) (by decide +kernel)
theorem lm_1794 : Cond.methodLink "NestedCheckerLaw" 48 ⟨"NestedCheckerModel", "pour", "(IIIII)Z"⟩ ∈ lw_tbl := List.mem_of_getElem? (i := 1794) (by decide +kernel)
theorem lm_1795 : Cond.instanceMethod ⟨"NestedCheckerModel", "pour", "(IIIII)Z"⟩ ∈ lw_tbl := List.mem_of_getElem? (i := 1795) (by decide +kernel)
theorem lm_1796 : Cond.selects "NestedCheckerModel" ⟨"NestedCheckerModel", "pour", "(IIIII)Z"⟩ ⟨"NestedCheckerModel", "pour", "(IIIII)Z"⟩ ∈ lw_tbl := List.mem_of_getElem? (i := 1796) (by decide +kernel)
theorem lm_1798 : Cond.methodLink "NestedCheckerLaw" 53 ⟨"NestedCheckerModel", "feed", "(IIIII)I"⟩ ∈ lw_tbl := List.mem_of_getElem? (i := 1798) (by decide +kernel)
theorem lm_1799 : Cond.instanceMethod ⟨"NestedCheckerModel", "feed", "(IIIII)I"⟩ ∈ lw_tbl := List.mem_of_getElem? (i := 1799) (by decide +kernel)
theorem lm_1800 : Cond.selects "NestedCheckerModel" ⟨"NestedCheckerModel", "feed", "(IIIII)I"⟩ ⟨"NestedCheckerModel", "feed", "(IIIII)I"⟩ ∈ lw_tbl := List.mem_of_getElem? (i := 1800) (by decide +kernel)
theorem lm_1806 : Cond.methodLink "NestedCheckerLaw" 62 ⟨"NestedCheckerModel", "fault", "(I)I"⟩ ∈ lw_tbl := List.mem_of_getElem? (i := 1806) (by decide +kernel)
theorem lm_1807 : Cond.instanceMethod ⟨"NestedCheckerModel", "fault", "(I)I"⟩ ∈ lw_tbl := List.mem_of_getElem? (i := 1807) (by decide +kernel)
theorem lm_1808 : Cond.selects "NestedCheckerModel" ⟨"NestedCheckerModel", "fault", "(I)I"⟩ ⟨"NestedCheckerModel", "fault", "(I)I"⟩ ∈ lw_tbl := List.mem_of_getElem? (i := 1808) (by decide +kernel)
theorem lm_1810 : Cond.methodLink "NestedCheckerLaw" 58 ⟨"NestedCheckerModel", "checker", "(I)I"⟩ ∈ lw_tbl := List.mem_of_getElem? (i := 1810) (by decide +kernel)
theorem lm_1811 : Cond.instanceMethod ⟨"NestedCheckerModel", "checker", "(I)I"⟩ ∈ lw_tbl := List.mem_of_getElem? (i := 1811) (by decide +kernel)
theorem lm_1812 : Cond.selects "NestedCheckerModel" ⟨"NestedCheckerModel", "checker", "(I)I"⟩ ⟨"NestedCheckerModel", "checker", "(I)I"⟩ ∈ lw_tbl := List.mem_of_getElem? (i := 1812) (by decide +kernel)
theorem lm_1931 : Cond.methodLink "NestedCheckerLaw" 66 ⟨"NestedCheckerModel", "told", "(I)I"⟩ ∈ lw_tbl := List.mem_of_getElem? (i := 1931) (by decide +kernel)
theorem lm_1932 : Cond.instanceMethod ⟨"NestedCheckerModel", "told", "(I)I"⟩ ∈ lw_tbl := List.mem_of_getElem? (i := 1932) (by decide +kernel)
theorem lm_1933 : Cond.selects "NestedCheckerModel" ⟨"NestedCheckerModel", "told", "(I)I"⟩ ⟨"NestedCheckerModel", "told", "(I)I"⟩ ∈ lw_tbl := List.mem_of_getElem? (i := 1933) (by decide +kernel)
theorem lm_1935 : Cond.methodLink "NestedCheckerLaw" 71 ⟨"NestedCheckerModel", "automaton", "(II)I"⟩ ∈ lw_tbl := List.mem_of_getElem? (i := 1935) (by decide +kernel)
theorem lm_1936 : Cond.instanceMethod ⟨"NestedCheckerModel", "automaton", "(II)I"⟩ ∈ lw_tbl := List.mem_of_getElem? (i := 1936) (by decide +kernel)
theorem lm_1937 : Cond.selects "NestedCheckerModel" ⟨"NestedCheckerModel", "automaton", "(II)I"⟩ ⟨"NestedCheckerModel", "automaton", "(II)I"⟩ ∈ lw_tbl := List.mem_of_getElem? (i := 1937) (by decide +kernel)
theorem lm_1947 : Cond.methodLink "NestedCheckerLaw" 76 ⟨"NestedCheckerModel", "rule", "(III)I"⟩ ∈ lw_tbl := List.mem_of_getElem? (i := 1947) (by decide +kernel)
theorem lm_1948 : Cond.instanceMethod ⟨"NestedCheckerModel", "rule", "(III)I"⟩ ∈ lw_tbl := List.mem_of_getElem? (i := 1948) (by decide +kernel)
theorem lm_1949 : Cond.selects "NestedCheckerModel" ⟨"NestedCheckerModel", "rule", "(III)I"⟩ ⟨"NestedCheckerModel", "rule", "(III)I"⟩ ∈ lw_tbl := List.mem_of_getElem? (i := 1949) (by decide +kernel)
theorem lm_1959 : Cond.methodLink "NestedCheckerLaw" 80 ⟨"NestedCheckerModel", "add", "(IIIII)I"⟩ ∈ lw_tbl := List.mem_of_getElem? (i := 1959) (by decide +kernel)
theorem lm_1960 : Cond.instanceMethod ⟨"NestedCheckerModel", "add", "(IIIII)I"⟩ ∈ lw_tbl := List.mem_of_getElem? (i := 1960) (by decide +kernel)
theorem lm_1961 : Cond.selects "NestedCheckerModel" ⟨"NestedCheckerModel", "add", "(IIIII)I"⟩ ⟨"NestedCheckerModel", "add", "(IIIII)I"⟩ ∈ lw_tbl := List.mem_of_getElem? (i := 1961) (by decide +kernel)
theorem lm_1983 : Cond.methodLink "NestedCheckerLaw" 84 ⟨"NestedCheckerModel", "drop", "(II)I"⟩ ∈ lw_tbl := List.mem_of_getElem? (i := 1983) (by decide +kernel)
theorem lm_1984 : Cond.instanceMethod ⟨"NestedCheckerModel", "drop", "(II)I"⟩ ∈ lw_tbl := List.mem_of_getElem? (i := 1984) (by decide +kernel)
theorem lm_1985 : Cond.selects "NestedCheckerModel" ⟨"NestedCheckerModel", "drop", "(II)I"⟩ ⟨"NestedCheckerModel", "drop", "(II)I"⟩ ∈ lw_tbl := List.mem_of_getElem? (i := 1985) (by decide +kernel)
theorem lm_1987 : Cond.methodLink "NestedCheckerLaw" 89 ⟨"NestedCheckerModel", "start", "(IIZ)I"⟩ ∈ lw_tbl := List.mem_of_getElem? (i := 1987) (by decide +kernel)
theorem lm_1988 : Cond.instanceMethod ⟨"NestedCheckerModel", "start", "(IIZ)I"⟩ ∈ lw_tbl := List.mem_of_getElem? (i := 1988) (by decide +kernel)
theorem lm_1989 : Cond.selects "NestedCheckerModel" ⟨"NestedCheckerModel", "start", "(IIZ)I"⟩ ⟨"NestedCheckerModel", "start", "(IIZ)I"⟩ ∈ lw_tbl := List.mem_of_getElem? (i := 1989) (by decide +kernel)
theorem lm_1995 : Cond.methodLink "NestedCheckerLaw" 93 ⟨"NestedCheckerModel", "accept", "(IIZ)I"⟩ ∈ lw_tbl := List.mem_of_getElem? (i := 1995) (by decide +kernel)
theorem lm_1996 : Cond.instanceMethod ⟨"NestedCheckerModel", "accept", "(IIZ)I"⟩ ∈ lw_tbl := List.mem_of_getElem? (i := 1996) (by decide +kernel)
theorem lm_1997 : Cond.selects "NestedCheckerModel" ⟨"NestedCheckerModel", "accept", "(IIZ)I"⟩ ⟨"NestedCheckerModel", "accept", "(IIZ)I"⟩ ∈ lw_tbl := List.mem_of_getElem? (i := 1997) (by decide +kernel)
theorem lm_1999 : Cond.methodLink "NestedCheckerLaw" 98 ⟨"NestedCheckerModel", "copy", "(II)Z"⟩ ∈ lw_tbl := List.mem_of_getElem? (i := 1999) (by decide +kernel)
theorem lm_2000 : Cond.instanceMethod ⟨"NestedCheckerModel", "copy", "(II)Z"⟩ ∈ lw_tbl := List.mem_of_getElem? (i := 2000) (by decide +kernel)
theorem lm_2001 : Cond.selects "NestedCheckerModel" ⟨"NestedCheckerModel", "copy", "(II)Z"⟩ ⟨"NestedCheckerModel", "copy", "(II)Z"⟩ ∈ lw_tbl := List.mem_of_getElem? (i := 2001) (by decide +kernel)
theorem lm_2007 : Cond.methodLink "NestedCheckerLaw" 102 ⟨"NestedCheckerModel", "takes", "(III)I"⟩ ∈ lw_tbl := List.mem_of_getElem? (i := 2007) (by decide +kernel)
theorem lm_2008 : Cond.instanceMethod ⟨"NestedCheckerModel", "takes", "(III)I"⟩ ∈ lw_tbl := List.mem_of_getElem? (i := 2008) (by decide +kernel)
theorem lm_2009 : Cond.selects "NestedCheckerModel" ⟨"NestedCheckerModel", "takes", "(III)I"⟩ ⟨"NestedCheckerModel", "takes", "(III)I"⟩ ∈ lw_tbl := List.mem_of_getElem? (i := 2009) (by decide +kernel)
theorem lm_2067 : Cond.methodLink "NestedCheckerLaw" 106 ⟨"NestedCheckerModel", "ends", "(III)I"⟩ ∈ lw_tbl := List.mem_of_getElem? (i := 2067) (by decide +kernel)
theorem lm_2068 : Cond.instanceMethod ⟨"NestedCheckerModel", "ends", "(III)I"⟩ ∈ lw_tbl := List.mem_of_getElem? (i := 2068) (by decide +kernel)
theorem lm_2069 : Cond.selects "NestedCheckerModel" ⟨"NestedCheckerModel", "ends", "(III)I"⟩ ⟨"NestedCheckerModel", "ends", "(III)I"⟩ ∈ lw_tbl := List.mem_of_getElem? (i := 2069) (by decide +kernel)
theorem lm_2071 : Cond.methodLink "NestedCheckerLaw" 110 ⟨"NestedCheckerModel", "runs", "(III)Z"⟩ ∈ lw_tbl := List.mem_of_getElem? (i := 2071) (by decide +kernel)
theorem lm_2072 : Cond.instanceMethod ⟨"NestedCheckerModel", "runs", "(III)Z"⟩ ∈ lw_tbl := List.mem_of_getElem? (i := 2072) (by decide +kernel)
theorem lm_2073 : Cond.selects "NestedCheckerModel" ⟨"NestedCheckerModel", "runs", "(III)Z"⟩ ⟨"NestedCheckerModel", "runs", "(III)Z"⟩ ∈ lw_tbl := List.mem_of_getElem? (i := 2073) (by decide +kernel)
theorem lm_2098 : Cond.methodLink "NestedCheckerLaw" 114 ⟨"NestedCheckerModel", "depth", "(III)I"⟩ ∈ lw_tbl := List.mem_of_getElem? (i := 2098) (by decide +kernel)
theorem lm_2099 : Cond.instanceMethod ⟨"NestedCheckerModel", "depth", "(III)I"⟩ ∈ lw_tbl := List.mem_of_getElem? (i := 2099) (by decide +kernel)
theorem lm_2100 : Cond.selects "NestedCheckerModel" ⟨"NestedCheckerModel", "depth", "(III)I"⟩ ⟨"NestedCheckerModel", "depth", "(III)I"⟩ ∈ lw_tbl := List.mem_of_getElem? (i := 2100) (by decide +kernel)
theorem lm_2107 : Cond.methodLink "NestedCheckerLaw" 118 ⟨"NestedCheckerModel", "partner", "(III)I"⟩ ∈ lw_tbl := List.mem_of_getElem? (i := 2107) (by decide +kernel)
theorem lm_2108 : Cond.instanceMethod ⟨"NestedCheckerModel", "partner", "(III)I"⟩ ∈ lw_tbl := List.mem_of_getElem? (i := 2108) (by decide +kernel)
theorem lm_2109 : Cond.selects "NestedCheckerModel" ⟨"NestedCheckerModel", "partner", "(III)I"⟩ ⟨"NestedCheckerModel", "partner", "(III)I"⟩ ∈ lw_tbl := List.mem_of_getElem? (i := 2109) (by decide +kernel)
theorem lm_2111 : Cond.methodLink "NestedCheckerLaw" 122 ⟨"NestedCheckerModel", "table", "(I)I"⟩ ∈ lw_tbl := List.mem_of_getElem? (i := 2111) (by decide +kernel)
theorem lm_2112 : Cond.instanceMethod ⟨"NestedCheckerModel", "table", "(I)I"⟩ ∈ lw_tbl := List.mem_of_getElem? (i := 2112) (by decide +kernel)
theorem lm_2113 : Cond.selects "NestedCheckerModel" ⟨"NestedCheckerModel", "table", "(I)I"⟩ ⟨"NestedCheckerModel", "table", "(I)I"⟩ ∈ lw_tbl := List.mem_of_getElem? (i := 2113) (by decide +kernel)
theorem lm_2139 : Cond.methodLink "NestedCheckerLaw" 126 ⟨"NestedCheckerModel", "summary", "(III)I"⟩ ∈ lw_tbl := List.mem_of_getElem? (i := 2139) (by decide +kernel)
theorem lm_2140 : Cond.instanceMethod ⟨"NestedCheckerModel", "summary", "(III)I"⟩ ∈ lw_tbl := List.mem_of_getElem? (i := 2140) (by decide +kernel)
theorem lm_2141 : Cond.selects "NestedCheckerModel" ⟨"NestedCheckerModel", "summary", "(III)I"⟩ ⟨"NestedCheckerModel", "summary", "(III)I"⟩ ∈ lw_tbl := List.mem_of_getElem? (i := 2141) (by decide +kernel)
theorem lm_2147 : Cond.methodLink "NestedCheckerLaw" 130 ⟨"NestedCheckerModel", "next", "(III)I"⟩ ∈ lw_tbl := List.mem_of_getElem? (i := 2147) (by decide +kernel)
theorem lm_2148 : Cond.instanceMethod ⟨"NestedCheckerModel", "next", "(III)I"⟩ ∈ lw_tbl := List.mem_of_getElem? (i := 2148) (by decide +kernel)
theorem lm_2149 : Cond.selects "NestedCheckerModel" ⟨"NestedCheckerModel", "next", "(III)I"⟩ ⟨"NestedCheckerModel", "next", "(III)I"⟩ ∈ lw_tbl := List.mem_of_getElem? (i := 2149) (by decide +kernel)
theorem lm_2151 : Cond.methodLink "NestedCheckerLaw" 134 ⟨"NestedCheckerModel", "nextBack", "(IIIII)I"⟩ ∈ lw_tbl := List.mem_of_getElem? (i := 2151) (by decide +kernel)
theorem lm_2152 : Cond.instanceMethod ⟨"NestedCheckerModel", "nextBack", "(IIIII)I"⟩ ∈ lw_tbl := List.mem_of_getElem? (i := 2152) (by decide +kernel)
theorem lm_2153 : Cond.selects "NestedCheckerModel" ⟨"NestedCheckerModel", "nextBack", "(IIIII)I"⟩ ⟨"NestedCheckerModel", "nextBack", "(IIIII)I"⟩ ∈ lw_tbl := List.mem_of_getElem? (i := 2153) (by decide +kernel)
theorem lm_2155 : Cond.methodLink "NestedCheckerLaw" 138 ⟨"NestedCheckerModel", "well", "(III)I"⟩ ∈ lw_tbl := List.mem_of_getElem? (i := 2155) (by decide +kernel)
theorem lm_2156 : Cond.instanceMethod ⟨"NestedCheckerModel", "well", "(III)I"⟩ ∈ lw_tbl := List.mem_of_getElem? (i := 2156) (by decide +kernel)
theorem lm_2157 : Cond.selects "NestedCheckerModel" ⟨"NestedCheckerModel", "well", "(III)I"⟩ ⟨"NestedCheckerModel", "well", "(III)I"⟩ ∈ lw_tbl := List.mem_of_getElem? (i := 2157) (by decide +kernel)
theorem lm_2184 : Cond.methodLink "NestedCheckerLaw" 142 ⟨"NestedCheckerModel", "reaches", "(I)I"⟩ ∈ lw_tbl := List.mem_of_getElem? (i := 2184) (by decide +kernel)
theorem lm_2185 : Cond.instanceMethod ⟨"NestedCheckerModel", "reaches", "(I)I"⟩ ∈ lw_tbl := List.mem_of_getElem? (i := 2185) (by decide +kernel)
theorem lm_2186 : Cond.selects "NestedCheckerModel" ⟨"NestedCheckerModel", "reaches", "(I)I"⟩ ⟨"NestedCheckerModel", "reaches", "(I)I"⟩ ∈ lw_tbl := List.mem_of_getElem? (i := 2186) (by decide +kernel)
theorem lm_2200 : Cond.methodLink "NestedCheckerLaw" 146 ⟨"NestedCheckerModel", "shortest", "(I)I"⟩ ∈ lw_tbl := List.mem_of_getElem? (i := 2200) (by decide +kernel)
theorem lm_2201 : Cond.instanceMethod ⟨"NestedCheckerModel", "shortest", "(I)I"⟩ ∈ lw_tbl := List.mem_of_getElem? (i := 2201) (by decide +kernel)
theorem lm_2202 : Cond.selects "NestedCheckerModel" ⟨"NestedCheckerModel", "shortest", "(I)I"⟩ ⟨"NestedCheckerModel", "shortest", "(I)I"⟩ ∈ lw_tbl := List.mem_of_getElem? (i := 2202) (by decide +kernel)
theorem lm_2208 : Cond.methodLink "NestedCheckerLaw" 150 ⟨"NestedCheckerModel", "shortestAt", "(II)I"⟩ ∈ lw_tbl := List.mem_of_getElem? (i := 2208) (by decide +kernel)
theorem lm_2209 : Cond.instanceMethod ⟨"NestedCheckerModel", "shortestAt", "(II)I"⟩ ∈ lw_tbl := List.mem_of_getElem? (i := 2209) (by decide +kernel)
theorem lm_2210 : Cond.selects "NestedCheckerModel" ⟨"NestedCheckerModel", "shortestAt", "(II)I"⟩ ⟨"NestedCheckerModel", "shortestAt", "(II)I"⟩ ∈ lw_tbl := List.mem_of_getElem? (i := 2210) (by decide +kernel)
theorem lm_2224 : Cond.methodLink "NestedCheckerLaw" 154 ⟨"NestedCheckerModel", "both", "(II)I"⟩ ∈ lw_tbl := List.mem_of_getElem? (i := 2224) (by decide +kernel)
theorem lm_2225 : Cond.instanceMethod ⟨"NestedCheckerModel", "both", "(II)I"⟩ ∈ lw_tbl := List.mem_of_getElem? (i := 2225) (by decide +kernel)
theorem lm_2226 : Cond.selects "NestedCheckerModel" ⟨"NestedCheckerModel", "both", "(II)I"⟩ ⟨"NestedCheckerModel", "both", "(II)I"⟩ ∈ lw_tbl := List.mem_of_getElem? (i := 2226) (by decide +kernel)
theorem lm_2228 : Cond.methodLink "NestedCheckerLaw" 158 ⟨"NestedCheckerModel", "bothAt", "(III)I"⟩ ∈ lw_tbl := List.mem_of_getElem? (i := 2228) (by decide +kernel)
theorem lm_2229 : Cond.instanceMethod ⟨"NestedCheckerModel", "bothAt", "(III)I"⟩ ∈ lw_tbl := List.mem_of_getElem? (i := 2229) (by decide +kernel)
theorem lm_2230 : Cond.selects "NestedCheckerModel" ⟨"NestedCheckerModel", "bothAt", "(III)I"⟩ ⟨"NestedCheckerModel", "bothAt", "(III)I"⟩ ∈ lw_tbl := List.mem_of_getElem? (i := 2230) (by decide +kernel)
theorem lm_2232 : Cond.methodLink "NestedCheckerLaw" 162 ⟨"NestedCheckerModel", "parting", "(II)I"⟩ ∈ lw_tbl := List.mem_of_getElem? (i := 2232) (by decide +kernel)
theorem lm_2233 : Cond.instanceMethod ⟨"NestedCheckerModel", "parting", "(II)I"⟩ ∈ lw_tbl := List.mem_of_getElem? (i := 2233) (by decide +kernel)
theorem lm_2234 : Cond.selects "NestedCheckerModel" ⟨"NestedCheckerModel", "parting", "(II)I"⟩ ⟨"NestedCheckerModel", "parting", "(II)I"⟩ ∈ lw_tbl := List.mem_of_getElem? (i := 2234) (by decide +kernel)
theorem lm_2268 : Cond.methodLink "NestedCheckerLaw" 166 ⟨"NestedCheckerModel", "partingAt", "(III)I"⟩ ∈ lw_tbl := List.mem_of_getElem? (i := 2268) (by decide +kernel)
theorem lm_2269 : Cond.instanceMethod ⟨"NestedCheckerModel", "partingAt", "(III)I"⟩ ∈ lw_tbl := List.mem_of_getElem? (i := 2269) (by decide +kernel)
theorem lm_2270 : Cond.selects "NestedCheckerModel" ⟨"NestedCheckerModel", "partingAt", "(III)I"⟩ ⟨"NestedCheckerModel", "partingAt", "(III)I"⟩ ∈ lw_tbl := List.mem_of_getElem? (i := 2270) (by decide +kernel)
theorem lm_2272 : Cond.methodLink "NestedCheckerLaw" 170 ⟨"NestedCheckerModel", "missing", "(I)I"⟩ ∈ lw_tbl := List.mem_of_getElem? (i := 2272) (by decide +kernel)
theorem lm_2273 : Cond.instanceMethod ⟨"NestedCheckerModel", "missing", "(I)I"⟩ ∈ lw_tbl := List.mem_of_getElem? (i := 2273) (by decide +kernel)
theorem lm_2274 : Cond.selects "NestedCheckerModel" ⟨"NestedCheckerModel", "missing", "(I)I"⟩ ⟨"NestedCheckerModel", "missing", "(I)I"⟩ ∈ lw_tbl := List.mem_of_getElem? (i := 2274) (by decide +kernel)
theorem lm_2276 : Cond.methodLink "NestedCheckerLaw" 174 ⟨"NestedCheckerModel", "missingAt", "(II)I"⟩ ∈ lw_tbl := List.mem_of_getElem? (i := 2276) (by decide +kernel)
theorem lm_2277 : Cond.instanceMethod ⟨"NestedCheckerModel", "missingAt", "(II)I"⟩ ∈ lw_tbl := List.mem_of_getElem? (i := 2277) (by decide +kernel)
theorem lm_2278 : Cond.selects "NestedCheckerModel" ⟨"NestedCheckerModel", "missingAt", "(II)I"⟩ ⟨"NestedCheckerModel", "missingAt", "(II)I"⟩ ∈ lw_tbl := List.mem_of_getElem? (i := 2278) (by decide +kernel)
theorem lm_2280 : Cond.methodLink "NestedCheckerLaw" 178 ⟨"NestedCheckerModel", "includes", "(II)I"⟩ ∈ lw_tbl := List.mem_of_getElem? (i := 2280) (by decide +kernel)
theorem lm_2281 : Cond.instanceMethod ⟨"NestedCheckerModel", "includes", "(II)I"⟩ ∈ lw_tbl := List.mem_of_getElem? (i := 2281) (by decide +kernel)
theorem lm_2282 : Cond.selects "NestedCheckerModel" ⟨"NestedCheckerModel", "includes", "(II)I"⟩ ⟨"NestedCheckerModel", "includes", "(II)I"⟩ ∈ lw_tbl := List.mem_of_getElem? (i := 2282) (by decide +kernel)
theorem lm_2284 : Cond.methodLink "NestedCheckerLaw" 182 ⟨"NestedCheckerModel", "equal", "(II)I"⟩ ∈ lw_tbl := List.mem_of_getElem? (i := 2284) (by decide +kernel)
theorem lm_2285 : Cond.instanceMethod ⟨"NestedCheckerModel", "equal", "(II)I"⟩ ∈ lw_tbl := List.mem_of_getElem? (i := 2285) (by decide +kernel)
theorem lm_2286 : Cond.selects "NestedCheckerModel" ⟨"NestedCheckerModel", "equal", "(II)I"⟩ ⟨"NestedCheckerModel", "equal", "(II)I"⟩ ∈ lw_tbl := List.mem_of_getElem? (i := 2286) (by decide +kernel)
theorem lm_2288 : Cond.methodLink "NestedCheckerLaw" 186 ⟨"NestedCheckerModel", "count", "(II)I"⟩ ∈ lw_tbl := List.mem_of_getElem? (i := 2288) (by decide +kernel)
theorem lm_2289 : Cond.instanceMethod ⟨"NestedCheckerModel", "count", "(II)I"⟩ ∈ lw_tbl := List.mem_of_getElem? (i := 2289) (by decide +kernel)
theorem lm_2290 : Cond.selects "NestedCheckerModel" ⟨"NestedCheckerModel", "count", "(II)I"⟩ ⟨"NestedCheckerModel", "count", "(II)I"⟩ ∈ lw_tbl := List.mem_of_getElem? (i := 2290) (by decide +kernel)
theorem lm_2297 : Cond.methodLink "NestedCheckerLaw" 190 ⟨"NestedCheckerModel", "share", "(II)Z"⟩ ∈ lw_tbl := List.mem_of_getElem? (i := 2297) (by decide +kernel)
theorem lm_2298 : Cond.instanceMethod ⟨"NestedCheckerModel", "share", "(II)Z"⟩ ∈ lw_tbl := List.mem_of_getElem? (i := 2298) (by decide +kernel)
theorem lm_2299 : Cond.selects "NestedCheckerModel" ⟨"NestedCheckerModel", "share", "(II)Z"⟩ ⟨"NestedCheckerModel", "share", "(II)Z"⟩ ∈ lw_tbl := List.mem_of_getElem? (i := 2299) (by decide +kernel)
theorem lm_2301 : Cond.methodLink "NestedCheckerLaw" 194 ⟨"NestedCheckerModel", "lastAt", "(III)I"⟩ ∈ lw_tbl := List.mem_of_getElem? (i := 2301) (by decide +kernel)
theorem lm_2302 : Cond.instanceMethod ⟨"NestedCheckerModel", "lastAt", "(III)I"⟩ ∈ lw_tbl := List.mem_of_getElem? (i := 2302) (by decide +kernel)
theorem lm_2303 : Cond.selects "NestedCheckerModel" ⟨"NestedCheckerModel", "lastAt", "(III)I"⟩ ⟨"NestedCheckerModel", "lastAt", "(III)I"⟩ ∈ lw_tbl := List.mem_of_getElem? (i := 2303) (by decide +kernel)
theorem lm_2305 : Cond.methodLink "NestedCheckerLaw" 198 ⟨"NestedCheckerModel", "sample", "(III)Z"⟩ ∈ lw_tbl := List.mem_of_getElem? (i := 2305) (by decide +kernel)
theorem lm_2306 : Cond.instanceMethod ⟨"NestedCheckerModel", "sample", "(III)Z"⟩ ∈ lw_tbl := List.mem_of_getElem? (i := 2306) (by decide +kernel)
theorem lm_2307 : Cond.selects "NestedCheckerModel" ⟨"NestedCheckerModel", "sample", "(III)Z"⟩ ⟨"NestedCheckerModel", "sample", "(III)Z"⟩ ∈ lw_tbl := List.mem_of_getElem? (i := 2307) (by decide +kernel)
theorem lm_2315 : Cond.methodLink "NestedCheckerLaw" 203 ⟨"NestedCheckerModel", "chance", "(IIII)Z"⟩ ∈ lw_tbl := List.mem_of_getElem? (i := 2315) (by decide +kernel)
theorem lm_2316 : Cond.instanceMethod ⟨"NestedCheckerModel", "chance", "(IIII)Z"⟩ ∈ lw_tbl := List.mem_of_getElem? (i := 2316) (by decide +kernel)
theorem lm_2317 : Cond.selects "NestedCheckerModel" ⟨"NestedCheckerModel", "chance", "(IIII)Z"⟩ ⟨"NestedCheckerModel", "chance", "(IIII)Z"⟩ ∈ lw_tbl := List.mem_of_getElem? (i := 2317) (by decide +kernel)
theorem lm_2320 : Cond.methodLink "NestedCheckerLaw" 207 ⟨"NestedCheckerModel", "watch", "(I)I"⟩ ∈ lw_tbl := List.mem_of_getElem? (i := 2320) (by decide +kernel)
theorem lm_2321 : Cond.instanceMethod ⟨"NestedCheckerModel", "watch", "(I)I"⟩ ∈ lw_tbl := List.mem_of_getElem? (i := 2321) (by decide +kernel)
theorem lm_2322 : Cond.selects "NestedCheckerModel" ⟨"NestedCheckerModel", "watch", "(I)I"⟩ ⟨"NestedCheckerModel", "watch", "(I)I"⟩ ∈ lw_tbl := List.mem_of_getElem? (i := 2322) (by decide +kernel)
theorem lm_2328 : Cond.methodLink "NestedCheckerLaw" 211 ⟨"NestedCheckerModel", "see", "(I)I"⟩ ∈ lw_tbl := List.mem_of_getElem? (i := 2328) (by decide +kernel)
theorem lm_2329 : Cond.instanceMethod ⟨"NestedCheckerModel", "see", "(I)I"⟩ ∈ lw_tbl := List.mem_of_getElem? (i := 2329) (by decide +kernel)
theorem lm_2330 : Cond.selects "NestedCheckerModel" ⟨"NestedCheckerModel", "see", "(I)I"⟩ ⟨"NestedCheckerModel", "see", "(I)I"⟩ ∈ lw_tbl := List.mem_of_getElem? (i := 2330) (by decide +kernel)
theorem lm_2340 : Cond.methodLink "NestedCheckerLaw" 215 ⟨"NestedCheckerModel", "seen", "(I)I"⟩ ∈ lw_tbl := List.mem_of_getElem? (i := 2340) (by decide +kernel)
theorem lm_2341 : Cond.instanceMethod ⟨"NestedCheckerModel", "seen", "(I)I"⟩ ∈ lw_tbl := List.mem_of_getElem? (i := 2341) (by decide +kernel)
theorem lm_2342 : Cond.selects "NestedCheckerModel" ⟨"NestedCheckerModel", "seen", "(I)I"⟩ ⟨"NestedCheckerModel", "seen", "(I)I"⟩ ∈ lw_tbl := List.mem_of_getElem? (i := 2342) (by decide +kernel)
theorem lm_2344 : Cond.methodLink "NestedCheckerLaw" 219 ⟨"NestedCheckerModel", "doomed", "()I"⟩ ∈ lw_tbl := List.mem_of_getElem? (i := 2344) (by decide +kernel)
theorem lm_2345 : Cond.instanceMethod ⟨"NestedCheckerModel", "doomed", "()I"⟩ ∈ lw_tbl := List.mem_of_getElem? (i := 2345) (by decide +kernel)
theorem lm_2346 : Cond.selects "NestedCheckerModel" ⟨"NestedCheckerModel", "doomed", "()I"⟩ ⟨"NestedCheckerModel", "doomed", "()I"⟩ ∈ lw_tbl := List.mem_of_getElem? (i := 2346) (by decide +kernel)
theorem lm_2352 : Cond.methodLink "NestedCheckerLaw" 223 ⟨"NestedCheckerModel", "mark", "()I"⟩ ∈ lw_tbl := List.mem_of_getElem? (i := 2352) (by decide +kernel)
theorem lm_2353 : Cond.instanceMethod ⟨"NestedCheckerModel", "mark", "()I"⟩ ∈ lw_tbl := List.mem_of_getElem? (i := 2353) (by decide +kernel)
theorem lm_2354 : Cond.selects "NestedCheckerModel" ⟨"NestedCheckerModel", "mark", "()I"⟩ ⟨"NestedCheckerModel", "mark", "()I"⟩ ∈ lw_tbl := List.mem_of_getElem? (i := 2354) (by decide +kernel)
theorem lm_2360 : Cond.methodLink "NestedCheckerLaw" 227 ⟨"NestedCheckerModel", "undo", "()I"⟩ ∈ lw_tbl := List.mem_of_getElem? (i := 2360) (by decide +kernel)
theorem lm_2361 : Cond.instanceMethod ⟨"NestedCheckerModel", "undo", "()I"⟩ ∈ lw_tbl := List.mem_of_getElem? (i := 2361) (by decide +kernel)
theorem lm_2362 : Cond.selects "NestedCheckerModel" ⟨"NestedCheckerModel", "undo", "()I"⟩ ⟨"NestedCheckerModel", "undo", "()I"⟩ ∈ lw_tbl := List.mem_of_getElem? (i := 2362) (by decide +kernel)
theorem lm_2364 : Cond.constantLong "NestedCheckerLaw" 32 (4294967295 : Int64) ∈ lw_tbl := List.mem_of_getElem? (i := 2364) (by decide +kernel)
theorem iL_X0 : ∀ w ∈ u_ws RX0 TX0 12, w ∈ lw_tbl := fun w h => (goodIn_r (big := lw_tbl) (u_ws RX0 TX0 12) [286, 288, 290, 292, 294, 296, 298, 300, 302, 304, 306, 308] (by decide +kernel) (by decide +kernel) w h).1
theorem iL_X1 : ∀ w ∈ u_ws RX1 TX1 12, w ∈ lw_tbl := fun w h => (goodIn_r (big := lw_tbl) (u_ws RX1 TX1 12) [407, 409, 411, 413, 415, 417, 419, 421, 423, 425, 427, 429] (by decide +kernel) (by decide +kernel) w h).1
theorem iL_X3 : ∀ w ∈ u_ws RX3 TX3 7, w ∈ lw_tbl := fun w h => (goodIn_r (big := lw_tbl) (u_ws RX3 TX3 7) [639, 641, 643, 645, 647, 649, 651] (by decide +kernel) (by decide +kernel) w h).1
theorem iL_X4 : ∀ w ∈ u_ws RX4 TX4 17, w ∈ lw_tbl := fun w h => (goodIn_r (big := lw_tbl) (u_ws RX4 TX4 17) [543, 545, 547, 549, 551, 553, 555, 557, 559, 561, 563, 565, 567, 569, 571, 573, 575] (by decide +kernel) (by decide +kernel) w h).1
theorem iL_X5 : ∀ w ∈ u_ws RX5 TX5 7, w ∈ lw_tbl := fun w h => (goodIn_r (big := lw_tbl) (u_ws RX5 TX5 7) [376, 378, 380, 382, 384, 386, 388] (by decide +kernel) (by decide +kernel) w h).1
theorem iL_X6 : ∀ w ∈ u_ws RX6 TX6 5, w ∈ lw_tbl := fun w h => (goodIn_r (big := lw_tbl) (u_ws RX6 TX6 5) [491, 493, 495, 497, 499] (by decide +kernel) (by decide +kernel) w h).1
theorem iL_X7 : ∀ w ∈ u_ws RX7 TX7 6, w ∈ lw_tbl := fun w h => (goodIn_r (big := lw_tbl) (u_ws RX7 TX7 6) [452, 454, 456, 458, 460, 462] (by decide +kernel) (by decide +kernel) w h).1
theorem iL_X8 : ∀ w ∈ u_ws RX8 TX8 13, w ∈ lw_tbl := fun w h => (goodIn_r (big := lw_tbl) (u_ws RX8 TX8 13) [597, 599, 601, 603, 605, 607, 609, 611, 613, 615, 617, 619, 621] (by decide +kernel) (by decide +kernel) w h).1
theorem iL_X9 : ∀ w ∈ u_ws RX9 TX9 3, w ∈ lw_tbl := fun w h => (goodIn_r (big := lw_tbl) (u_ws RX9 TX9 3) [208, 210, 212] (by decide +kernel) (by decide +kernel) w h).1
theorem iL_X10 : ∀ w ∈ u_ws RX10 TX10 8, w ∈ lw_tbl := fun w h => (goodIn_r (big := lw_tbl) (u_ws RX10 TX10 8) [336, 338, 340, 342, 344, 346, 348, 350] (by decide +kernel) (by decide +kernel) w h).1
theorem iL_X11 : ∀ w ∈ u_ws RX11 TX11 15, w ∈ lw_tbl := fun w h => (goodIn_r (big := lw_tbl) (u_ws RX11 TX11 15) [669, 671, 673, 675, 677, 679, 681, 683, 685, 687, 689, 691, 693, 695, 697] (by decide +kernel) (by decide +kernel) w h).1
theorem iL_X12 : ∀ w ∈ u_ws RX12 TX12 51, w ∈ lw_tbl := fun w h => (goodIn_r (big := lw_tbl) (u_ws RX12 TX12 51) [1652, 1654, 1656, 1658, 1660, 1662, 1664, 1666, 1668, 1670, 1672, 1674, 1676, 1678, 1680, 1682, 1684, 1686, 1688, 1690, 1692, 1694, 1696, 1698, 1700, 1702, 1704, 1706, 1708, 1710, 1712, 1714, 1716, 1718, 1720, 1722, 1724, 1726, 1728, 1730, 1732, 1734, 1736, 1738, 1740, 1742, 1744, 1746, 1748, 1750, 1752] (by decide +kernel) (by decide +kernel) w h).1
set_option maxRecDepth 20000 in
theorem gl_c_X11_status : GoodIn lw_tbl ws_c_X11_status := goodIn_r _ [703, 654, 669, 671, 673, 675, 677, 679, 681, 683, 685, 687, 689, 691, 693, 695, 697] (by decide +kernel) (by decide +kernel)
set_option maxRecDepth 20000 in
theorem gl_c_X12_status : GoodIn lw_tbl ws_c_X12_status := goodIn_r _ [1758, 1603, 1652, 1654, 1656, 1658, 1660, 1662, 1664, 1666, 1668, 1670, 1672, 1674, 1676, 1678, 1680, 1682, 1684, 1686, 1688, 1690, 1692, 1694, 1696, 1698, 1700, 1702, 1704, 1706, 1708, 1710, 1712, 1714, 1716, 1718, 1720, 1722, 1724, 1726, 1728, 1730, 1732, 1734, 1736, 1738, 1740, 1742, 1744, 1746, 1748, 1750, 1752] (by decide +kernel) (by decide +kernel)
set_option maxRecDepth 20000 in
theorem gl_c_X11_top : GoodIn lw_tbl ws_c_X11_top := goodIn_r _ [707, 655, 669, 671, 673, 675, 677, 679, 681, 683, 685, 687, 689, 691, 693, 695, 697] (by decide +kernel) (by decide +kernel)
set_option maxRecDepth 20000 in
theorem gl_c_X12_top : GoodIn lw_tbl ws_c_X12_top := goodIn_r _ [1762, 1604, 1652, 1654, 1656, 1658, 1660, 1662, 1664, 1666, 1668, 1670, 1672, 1674, 1676, 1678, 1680, 1682, 1684, 1686, 1688, 1690, 1692, 1694, 1696, 1698, 1700, 1702, 1704, 1706, 1708, 1710, 1712, 1714, 1716, 1718, 1720, 1722, 1724, 1726, 1728, 1730, 1732, 1734, 1736, 1738, 1740, 1742, 1744, 1746, 1748, 1750, 1752] (by decide +kernel) (by decide +kernel)
set_option maxRecDepth 20000 in
theorem gl_c_X11_bottom : GoodIn lw_tbl ws_c_X11_bottom := goodIn_r _ [711, 656, 669, 671, 673, 675, 677, 679, 681, 683, 685, 687, 689, 691, 693, 695, 697] (by decide +kernel) (by decide +kernel)
set_option maxRecDepth 20000 in
theorem gl_c_X12_bottom : GoodIn lw_tbl ws_c_X12_bottom := goodIn_r _ [1766, 1605, 1652, 1654, 1656, 1658, 1660, 1662, 1664, 1666, 1668, 1670, 1672, 1674, 1676, 1678, 1680, 1682, 1684, 1686, 1688, 1690, 1692, 1694, 1696, 1698, 1700, 1702, 1704, 1706, 1708, 1710, 1712, 1714, 1716, 1718, 1720, 1722, 1724, 1726, 1728, 1730, 1732, 1734, 1736, 1738, 1740, 1742, 1744, 1746, 1748, 1750, 1752] (by decide +kernel) (by decide +kernel)
set_option maxRecDepth 20000 in
theorem gl_c_X11_tray : GoodIn lw_tbl ws_c_X11_tray := goodIn_r _ [715, 657, 719, 722, 171, 721, 172, 717, 718, 716, 723, 731, 206, 207, 205, 729, 730, 728, 735, 654, 734, 3, 732, 727, 726, 2, 724, 669, 671, 673, 675, 677, 679, 681, 683, 685, 687, 689, 691, 693, 695, 697, 208, 210, 212] (by decide +kernel) (by decide +kernel)
set_option maxRecDepth 20000 in
theorem gl_c_X12_tray : GoodIn lw_tbl ws_c_X12_tray := goodIn_r _ [1770, 1773, 185, 1772, 1771, 1777, 1603, 1776, 80, 1774, 1606, 1607, 1608, 1652, 1654, 1656, 1658, 1660, 1662, 1664, 1666, 1668, 1670, 1672, 1674, 1676, 1678, 1680, 1682, 1684, 1686, 1688, 1690, 1692, 1694, 1696, 1698, 1700, 1702, 1704, 1706, 1708, 1710, 1712, 1714, 1716, 1718, 1720, 1722, 1724, 1726, 1728, 1730, 1732, 1734, 1736, 1738, 1740, 1742, 1744, 1746, 1748, 1750, 1752] (by decide +kernel) (by decide +kernel)
set_option maxRecDepth 20000 in
theorem gl_c_X11_write : GoodIn lw_tbl ws_c_X11_write := goodIn_r _ [739, 657, 743, 719, 722, 171, 721, 172, 717, 718, 744, 748, 207, 746, 747, 745, 741, 742, 740, 727, 654, 726, 2, 724, 669, 671, 673, 675, 677, 679, 681, 683, 685, 687, 689, 691, 693, 695, 697, 208, 210, 212] (by decide +kernel) (by decide +kernel)
set_option maxRecDepth 20000 in
theorem gl_c_X12_write : GoodIn lw_tbl ws_c_X12_write := goodIn_r _ [1781, 1785, 1773, 185, 1772, 1771, 1607, 1784, 81, 1782, 1777, 1603, 1776, 80, 1774, 1652, 1654, 1656, 1658, 1660, 1662, 1664, 1666, 1668, 1670, 1672, 1674, 1676, 1678, 1680, 1682, 1684, 1686, 1688, 1690, 1692, 1694, 1696, 1698, 1700, 1702, 1704, 1706, 1708, 1710, 1712, 1714, 1716, 1718, 1720, 1722, 1724, 1726, 1728, 1730, 1732, 1734, 1736, 1738, 1740, 1742, 1744, 1746, 1748, 1750, 1752] (by decide +kernel) (by decide +kernel)
set_option maxRecDepth 20000 in
theorem gl_c_X11_read : GoodIn lw_tbl ws_c_X11_read := goodIn_r _ [759, 657, 743, 719, 722, 171, 721, 172, 717, 718, 744, 748, 207, 746, 747, 745, 741, 742, 740, 763, 654, 762, 4, 760, 669, 671, 673, 675, 677, 679, 681, 683, 685, 687, 689, 691, 693, 695, 697, 208, 210, 212] (by decide +kernel) (by decide +kernel)
set_option maxRecDepth 20000 in
theorem gl_c_X12_read : GoodIn lw_tbl ws_c_X12_read := goodIn_r _ [1792, 1785, 1773, 185, 1772, 1771, 1607, 1784, 81, 1782, 1603, 1793, 1652, 1654, 1656, 1658, 1660, 1662, 1664, 1666, 1668, 1670, 1672, 1674, 1676, 1678, 1680, 1682, 1684, 1686, 1688, 1690, 1692, 1694, 1696, 1698, 1700, 1702, 1704, 1706, 1708, 1710, 1712, 1714, 1716, 1718, 1720, 1722, 1724, 1726, 1728, 1730, 1732, 1734, 1736, 1738, 1740, 1742, 1744, 1746, 1748, 1750, 1752] (by decide +kernel) (by decide +kernel)
set_option maxRecDepth 20000 in
theorem gl_c_X11_pour : GoodIn lw_tbl ws_c_X11_pour := goodIn_r _ [771, 657, 775, 719, 722, 171, 721, 172, 717, 718, 744, 748, 207, 746, 747, 745, 773, 774, 772, 727, 654, 726, 2, 724, 669, 671, 673, 675, 677, 679, 681, 683, 685, 687, 689, 691, 693, 695, 697, 208, 210, 212] (by decide +kernel) (by decide +kernel)
set_option maxRecDepth 20000 in
theorem gl_c_X12_pour : GoodIn lw_tbl ws_c_X12_pour := goodIn_r _ [1797, 1773, 185, 1772, 1771, 1777, 1603, 1776, 80, 1774, 1607, 1652, 1654, 1656, 1658, 1660, 1662, 1664, 1666, 1668, 1670, 1672, 1674, 1676, 1678, 1680, 1682, 1684, 1686, 1688, 1690, 1692, 1694, 1696, 1698, 1700, 1702, 1704, 1706, 1708, 1710, 1712, 1714, 1716, 1718, 1720, 1722, 1724, 1726, 1728, 1730, 1732, 1734, 1736, 1738, 1740, 1742, 1744, 1746, 1748, 1750, 1752] (by decide +kernel) (by decide +kernel)
set_option maxRecDepth 20000 in
theorem gl_c_X11_feed : GoodIn lw_tbl ws_c_X11_feed := goodIn_r _ [786, 658, 394, 790, 393, 399, 173, 788, 789, 787, 669, 671, 673, 675, 677, 679, 681, 683, 685, 687, 689, 691, 693, 695, 697, 407, 409, 411, 413, 415, 417, 419, 421, 423, 425, 427, 429] (by decide +kernel) (by decide +kernel)
set_option maxRecDepth 20000 in
theorem gl_c_X12_feed : GoodIn lw_tbl ws_c_X12_feed := goodIn_r _ [1801, 1611, 1805, 1609, 185, 1804, 82, 1802, 1652, 1654, 1656, 1658, 1660, 1662, 1664, 1666, 1668, 1670, 1672, 1674, 1676, 1678, 1680, 1682, 1684, 1686, 1688, 1690, 1692, 1694, 1696, 1698, 1700, 1702, 1704, 1706, 1708, 1710, 1712, 1714, 1716, 1718, 1720, 1722, 1724, 1726, 1728, 1730, 1732, 1734, 1736, 1738, 1740, 1742, 1744, 1746, 1748, 1750, 1752] (by decide +kernel) (by decide +kernel)
set_option maxRecDepth 20000 in
theorem gl_c_X11_checker : GoodIn lw_tbl ws_c_X11_checker := goodIn_r _ [794, 763, 654, 171, 762, 4, 760, 658, 394, 798, 799, 800, 180, 801, 400, 393, 391, 805, 353, 359, 364, 369, 374, 318, 174, 803, 804, 802, 395, 397, 402, 403, 809, 813, 173, 812, 6, 810, 401, 808, 5, 806, 796, 797, 795, 659, 392, 982, 662, 443, 663, 664, 986, 528, 178, 984, 985, 983, 981, 25, 979, 371, 990, 989, 26, 987, 669, 671, 673, 675, 677, 679, 681, 683, 685, 687, 689, 691, 693, 695, 697, 407, 409, 411, 413, 415, 417, 419, 421, 423, 425, 427, 429, 376, 378, 380, 382, 384, 386, 388, 336, 338, 340, 342, 344, 346, 348, 350, 452, 454, 456, 458, 460, 462, 543, 545, 547, 549, 551, 553, 555, 557, 559, 561, 563, 565, 567, 569, 571, 573, 575] (by decide +kernel) (by decide +kernel)
set_option maxRecDepth 20000 in
theorem gl_c_X12_checker : GoodIn lw_tbl ws_c_X12_checker := goodIn_r _ [1813, 1817, 1611, 1612, 1619, 1618, 1615, 1620, 1821, 1825, 185, 1824, 85, 1822, 1614, 1616, 1613, 1820, 84, 1818, 1816, 83, 1814, 1600, 1601, 1599, 79, 1597, 1602, 1926, 1617, 1930, 1603, 1929, 107, 1927, 1925, 106, 1923, 1837, 1836, 86, 1834, 1652, 1654, 1656, 1658, 1660, 1662, 1664, 1666, 1668, 1670, 1672, 1674, 1676, 1678, 1680, 1682, 1684, 1686, 1688, 1690, 1692, 1694, 1696, 1698, 1700, 1702, 1704, 1706, 1708, 1710, 1712, 1714, 1716, 1718, 1720, 1722, 1724, 1726, 1728, 1730, 1732, 1734, 1736, 1738, 1740, 1742, 1744, 1746, 1748, 1750, 1752] (by decide +kernel) (by decide +kernel)
set_option maxRecDepth 20000 in
theorem gl_c_X11_fault : GoodIn lw_tbl ws_c_X11_fault := goodIn_r _ [994, 658, 398, 396, 669, 671, 673, 675, 677, 679, 681, 683, 685, 687, 689, 691, 693, 695, 697, 407, 409, 411, 413, 415, 417, 419, 421, 423, 425, 427, 429] (by decide +kernel) (by decide +kernel)
set_option maxRecDepth 20000 in
theorem gl_c_X12_fault : GoodIn lw_tbl ws_c_X12_fault := goodIn_r _ [1809, 1618, 1617, 1652, 1654, 1656, 1658, 1660, 1662, 1664, 1666, 1668, 1670, 1672, 1674, 1676, 1678, 1680, 1682, 1684, 1686, 1688, 1690, 1692, 1694, 1696, 1698, 1700, 1702, 1704, 1706, 1708, 1710, 1712, 1714, 1716, 1718, 1720, 1722, 1724, 1726, 1728, 1730, 1732, 1734, 1736, 1738, 1740, 1742, 1744, 1746, 1748, 1750, 1752] (by decide +kernel) (by decide +kernel)
set_option maxRecDepth 20000 in
theorem gl_c_X11_told : GoodIn lw_tbl ws_c_X11_told := goodIn_r _ [998, 659, 358, 990, 654, 171, 989, 26, 987, 363, 368, 371, 763, 762, 4, 760, 669, 671, 673, 675, 677, 679, 681, 683, 685, 687, 689, 691, 693, 695, 697, 376, 378, 380, 382, 384, 386, 388] (by decide +kernel) (by decide +kernel)
set_option maxRecDepth 20000 in
theorem gl_c_X12_told : GoodIn lw_tbl ws_c_X12_told := goodIn_r _ [1934, 1837, 1603, 185, 1836, 86, 1834, 1601, 1930, 1929, 107, 1927, 1652, 1654, 1656, 1658, 1660, 1662, 1664, 1666, 1668, 1670, 1672, 1674, 1676, 1678, 1680, 1682, 1684, 1686, 1688, 1690, 1692, 1694, 1696, 1698, 1700, 1702, 1704, 1706, 1708, 1710, 1712, 1714, 1716, 1718, 1720, 1722, 1724, 1726, 1728, 1730, 1732, 1734, 1736, 1738, 1740, 1742, 1744, 1746, 1748, 1750, 1752] (by decide +kernel) (by decide +kernel)
set_option maxRecDepth 20000 in
theorem gl_c_X11_automaton : GoodIn lw_tbl ws_c_X11_automaton := goodIn_r _ [1002, 659, 1006, 369, 174, 1004, 1005, 1003, 763, 654, 171, 762, 4, 760, 669, 671, 673, 675, 677, 679, 681, 683, 685, 687, 689, 691, 693, 695, 697, 376, 378, 380, 382, 384, 386, 388] (by decide +kernel) (by decide +kernel)
set_option maxRecDepth 20000 in
theorem gl_c_X12_automaton : GoodIn lw_tbl ws_c_X12_automaton := goodIn_r _ [1938, 1942, 1601, 185, 1941, 108, 1939, 1837, 1603, 1836, 86, 1834, 1652, 1654, 1656, 1658, 1660, 1662, 1664, 1666, 1668, 1670, 1672, 1674, 1676, 1678, 1680, 1682, 1684, 1686, 1688, 1690, 1692, 1694, 1696, 1698, 1700, 1702, 1704, 1706, 1708, 1710, 1712, 1714, 1716, 1718, 1720, 1722, 1724, 1726, 1728, 1730, 1732, 1734, 1736, 1738, 1740, 1742, 1744, 1746, 1748, 1750, 1752] (by decide +kernel) (by decide +kernel)
set_option maxRecDepth 20000 in
theorem gl_c_X11_rule : GoodIn lw_tbl ws_c_X11_rule := goodIn_r _ [1011, 659, 1006, 369, 174, 1004, 1005, 1003, 763, 654, 171, 762, 4, 760, 669, 671, 673, 675, 677, 679, 681, 683, 685, 687, 689, 691, 693, 695, 697, 376, 378, 380, 382, 384, 386, 388] (by decide +kernel) (by decide +kernel)
set_option maxRecDepth 20000 in
theorem gl_c_X12_rule : GoodIn lw_tbl ws_c_X12_rule := goodIn_r _ [1950, 1954, 1942, 1601, 185, 1941, 108, 1939, 1953, 110, 1951, 1837, 1603, 1836, 86, 1834, 1652, 1654, 1656, 1658, 1660, 1662, 1664, 1666, 1668, 1670, 1672, 1674, 1676, 1678, 1680, 1682, 1684, 1686, 1688, 1690, 1692, 1694, 1696, 1698, 1700, 1702, 1704, 1706, 1708, 1710, 1712, 1714, 1716, 1718, 1720, 1722, 1724, 1726, 1728, 1730, 1732, 1734, 1736, 1738, 1740, 1742, 1744, 1746, 1748, 1750, 1752] (by decide +kernel) (by decide +kernel)
set_option maxRecDepth 20000 in
theorem gl_c_X11_add : GoodIn lw_tbl ws_c_X11_add := goodIn_r _ [1019, 659, 1006, 369, 174, 1004, 1005, 1003, 763, 654, 171, 762, 4, 760, 669, 671, 673, 675, 677, 679, 681, 683, 685, 687, 689, 691, 693, 695, 697, 376, 378, 380, 382, 384, 386, 388] (by decide +kernel) (by decide +kernel)
set_option maxRecDepth 20000 in
theorem gl_c_X12_add : GoodIn lw_tbl ws_c_X12_add := goodIn_r _ [1962, 1942, 1601, 185, 1941, 108, 1939, 1837, 1603, 1836, 86, 1834, 1652, 1654, 1656, 1658, 1660, 1662, 1664, 1666, 1668, 1670, 1672, 1674, 1676, 1678, 1680, 1682, 1684, 1686, 1688, 1690, 1692, 1694, 1696, 1698, 1700, 1702, 1704, 1706, 1708, 1710, 1712, 1714, 1716, 1718, 1720, 1722, 1724, 1726, 1728, 1730, 1732, 1734, 1736, 1738, 1740, 1742, 1744, 1746, 1748, 1750, 1752] (by decide +kernel) (by decide +kernel)
set_option maxRecDepth 20000 in
theorem gl_c_X11_drop : GoodIn lw_tbl ws_c_X11_drop := goodIn_r _ [1038, 659, 1006, 369, 174, 1004, 1005, 1003, 763, 654, 171, 762, 4, 760, 669, 671, 673, 675, 677, 679, 681, 683, 685, 687, 689, 691, 693, 695, 697, 376, 378, 380, 382, 384, 386, 388] (by decide +kernel) (by decide +kernel)
set_option maxRecDepth 20000 in
theorem gl_c_X12_drop : GoodIn lw_tbl ws_c_X12_drop := goodIn_r _ [1986, 1954, 1942, 1601, 185, 1941, 108, 1939, 1953, 110, 1951, 1837, 1603, 1836, 86, 1834, 1652, 1654, 1656, 1658, 1660, 1662, 1664, 1666, 1668, 1670, 1672, 1674, 1676, 1678, 1680, 1682, 1684, 1686, 1688, 1690, 1692, 1694, 1696, 1698, 1700, 1702, 1704, 1706, 1708, 1710, 1712, 1714, 1716, 1718, 1720, 1722, 1724, 1726, 1728, 1730, 1732, 1734, 1736, 1738, 1740, 1742, 1744, 1746, 1748, 1750, 1752] (by decide +kernel) (by decide +kernel)
set_option maxRecDepth 20000 in
theorem gl_c_X11_start : GoodIn lw_tbl ws_c_X11_start := goodIn_r _ [1046, 1050, 659, 1006, 369, 174, 1004, 1005, 1003, 171, 1049, 27, 1047, 763, 654, 762, 4, 760, 669, 671, 673, 675, 677, 679, 681, 683, 685, 687, 689, 691, 693, 695, 697, 376, 378, 380, 382, 384, 386, 388] (by decide +kernel) (by decide +kernel)
set_option maxRecDepth 20000 in
theorem gl_c_X12_start : GoodIn lw_tbl ws_c_X12_start := goodIn_r _ [1990, 1994, 1942, 1601, 185, 1941, 108, 1939, 1837, 1603, 1836, 86, 1834, 1993, 117, 1991, 1652, 1654, 1656, 1658, 1660, 1662, 1664, 1666, 1668, 1670, 1672, 1674, 1676, 1678, 1680, 1682, 1684, 1686, 1688, 1690, 1692, 1694, 1696, 1698, 1700, 1702, 1704, 1706, 1708, 1710, 1712, 1714, 1716, 1718, 1720, 1722, 1724, 1726, 1728, 1730, 1732, 1734, 1736, 1738, 1740, 1742, 1744, 1746, 1748, 1750, 1752] (by decide +kernel) (by decide +kernel)
set_option maxRecDepth 20000 in
theorem gl_c_X11_accept : GoodIn lw_tbl ws_c_X11_accept := goodIn_r _ [1055, 1050, 659, 1006, 369, 174, 1004, 1005, 1003, 171, 1049, 27, 1047, 763, 654, 762, 4, 760, 669, 671, 673, 675, 677, 679, 681, 683, 685, 687, 689, 691, 693, 695, 697, 376, 378, 380, 382, 384, 386, 388] (by decide +kernel) (by decide +kernel)
set_option maxRecDepth 20000 in
theorem gl_c_X12_accept : GoodIn lw_tbl ws_c_X12_accept := goodIn_r _ [1998, 1994, 1942, 1601, 185, 1941, 108, 1939, 1837, 1603, 1836, 86, 1834, 1993, 117, 1991, 1652, 1654, 1656, 1658, 1660, 1662, 1664, 1666, 1668, 1670, 1672, 1674, 1676, 1678, 1680, 1682, 1684, 1686, 1688, 1690, 1692, 1694, 1696, 1698, 1700, 1702, 1704, 1706, 1708, 1710, 1712, 1714, 1716, 1718, 1720, 1722, 1724, 1726, 1728, 1730, 1732, 1734, 1736, 1738, 1740, 1742, 1744, 1746, 1748, 1750, 1752] (by decide +kernel) (by decide +kernel)
set_option maxRecDepth 20000 in
theorem gl_c_X11_copy : GoodIn lw_tbl ws_c_X11_copy := goodIn_r _ [1059, 1063, 659, 1006, 369, 174, 1004, 1005, 1003, 171, 1062, 28, 1060, 727, 654, 726, 2, 724, 669, 671, 673, 675, 677, 679, 681, 683, 685, 687, 689, 691, 693, 695, 697, 376, 378, 380, 382, 384, 386, 388] (by decide +kernel) (by decide +kernel)
set_option maxRecDepth 20000 in
theorem gl_c_X12_copy : GoodIn lw_tbl ws_c_X12_copy := goodIn_r _ [2002, 2006, 1942, 1601, 185, 1941, 108, 1939, 2005, 118, 2003, 1777, 1603, 1776, 80, 1774, 1652, 1654, 1656, 1658, 1660, 1662, 1664, 1666, 1668, 1670, 1672, 1674, 1676, 1678, 1680, 1682, 1684, 1686, 1688, 1690, 1692, 1694, 1696, 1698, 1700, 1702, 1704, 1706, 1708, 1710, 1712, 1714, 1716, 1718, 1720, 1722, 1724, 1726, 1728, 1730, 1732, 1734, 1736, 1738, 1740, 1742, 1744, 1746, 1748, 1750, 1752] (by decide +kernel) (by decide +kernel)
set_option maxRecDepth 20000 in
theorem gl_c_X11_takes : GoodIn lw_tbl ws_c_X11_takes := goodIn_r _ [1072, 659, 1006, 369, 174, 1004, 1005, 1003, 1076, 657, 719, 722, 171, 721, 172, 717, 718, 716, 723, 748, 207, 746, 747, 1077, 1075, 29, 1073, 763, 654, 762, 4, 760, 669, 671, 673, 675, 677, 679, 681, 683, 685, 687, 689, 691, 693, 695, 697, 376, 378, 380, 382, 384, 386, 388, 208, 210, 212] (by decide +kernel) (by decide +kernel)
set_option maxRecDepth 20000 in
theorem gl_c_X12_takes : GoodIn lw_tbl ws_c_X12_takes := goodIn_r _ [2010, 1942, 1601, 185, 1941, 108, 1939, 1837, 1603, 1836, 86, 1834, 1652, 1654, 1656, 1658, 1660, 1662, 1664, 1666, 1668, 1670, 1672, 1674, 1676, 1678, 1680, 1682, 1684, 1686, 1688, 1690, 1692, 1694, 1696, 1698, 1700, 1702, 1704, 1706, 1708, 1710, 1712, 1714, 1716, 1718, 1720, 1722, 1724, 1726, 1728, 1730, 1732, 1734, 1736, 1738, 1740, 1742, 1744, 1746, 1748, 1750, 1752] (by decide +kernel) (by decide +kernel)
set_option maxRecDepth 20000 in
theorem gl_c_X11_ends : GoodIn lw_tbl ws_c_X11_ends := goodIn_r _ [1116, 659, 1006, 369, 174, 1004, 1005, 1003, 1076, 657, 719, 722, 171, 721, 172, 717, 718, 716, 723, 748, 207, 746, 747, 1077, 1075, 29, 1073, 763, 654, 762, 4, 760, 669, 671, 673, 675, 677, 679, 681, 683, 685, 687, 689, 691, 693, 695, 697, 376, 378, 380, 382, 384, 386, 388, 208, 210, 212] (by decide +kernel) (by decide +kernel)
set_option maxRecDepth 20000 in
theorem gl_c_X12_ends : GoodIn lw_tbl ws_c_X12_ends := goodIn_r _ [2070, 1942, 1601, 185, 1941, 108, 1939, 1837, 1603, 1836, 86, 1834, 1652, 1654, 1656, 1658, 1660, 1662, 1664, 1666, 1668, 1670, 1672, 1674, 1676, 1678, 1680, 1682, 1684, 1686, 1688, 1690, 1692, 1694, 1696, 1698, 1700, 1702, 1704, 1706, 1708, 1710, 1712, 1714, 1716, 1718, 1720, 1722, 1724, 1726, 1728, 1730, 1732, 1734, 1736, 1738, 1740, 1742, 1744, 1746, 1748, 1750, 1752] (by decide +kernel) (by decide +kernel)
set_option maxRecDepth 20000 in
theorem gl_c_X11_runs : GoodIn lw_tbl ws_c_X11_runs := goodIn_r _ [1120, 659, 1006, 369, 174, 1004, 1005, 1003, 1076, 657, 719, 722, 171, 721, 172, 717, 718, 716, 723, 748, 207, 746, 747, 1077, 1075, 29, 1073, 727, 654, 726, 2, 724, 669, 671, 673, 675, 677, 679, 681, 683, 685, 687, 689, 691, 693, 695, 697, 376, 378, 380, 382, 384, 386, 388, 208, 210, 212] (by decide +kernel) (by decide +kernel)
set_option maxRecDepth 20000 in
theorem gl_c_X12_runs : GoodIn lw_tbl ws_c_X12_runs := goodIn_r _ [2074, 1942, 1601, 185, 1941, 108, 1939, 1777, 1603, 1776, 80, 1774, 1652, 1654, 1656, 1658, 1660, 1662, 1664, 1666, 1668, 1670, 1672, 1674, 1676, 1678, 1680, 1682, 1684, 1686, 1688, 1690, 1692, 1694, 1696, 1698, 1700, 1702, 1704, 1706, 1708, 1710, 1712, 1714, 1716, 1718, 1720, 1722, 1724, 1726, 1728, 1730, 1732, 1734, 1736, 1738, 1740, 1742, 1744, 1746, 1748, 1750, 1752] (by decide +kernel) (by decide +kernel)
set_option maxRecDepth 20000 in
theorem gl_c_X11_depth : GoodIn lw_tbl ws_c_X11_depth := goodIn_r _ [1179, 722, 171, 721, 723, 1076, 657, 719, 172, 717, 718, 716, 748, 207, 746, 747, 1077, 1075, 29, 1073, 763, 654, 762, 4, 760, 669, 671, 673, 675, 677, 679, 681, 683, 685, 687, 689, 691, 693, 695, 697, 208, 210, 212] (by decide +kernel) (by decide +kernel)
set_option maxRecDepth 20000 in
theorem gl_c_X12_depth : GoodIn lw_tbl ws_c_X12_depth := goodIn_r _ [2101, 2014, 1773, 185, 1772, 1771, 2015, 2018, 2017, 2016, 2013, 119, 2011, 1837, 1603, 1836, 86, 1834, 2022, 1607, 2021, 120, 2019, 1652, 1654, 1656, 1658, 1660, 1662, 1664, 1666, 1668, 1670, 1672, 1674, 1676, 1678, 1680, 1682, 1684, 1686, 1688, 1690, 1692, 1694, 1696, 1698, 1700, 1702, 1704, 1706, 1708, 1710, 1712, 1714, 1716, 1718, 1720, 1722, 1724, 1726, 1728, 1730, 1732, 1734, 1736, 1738, 1740, 1742, 1744, 1746, 1748, 1750, 1752] (by decide +kernel) (by decide +kernel)
set_option maxRecDepth 20000 in
theorem gl_c_X11_partner : GoodIn lw_tbl ws_c_X11_partner := goodIn_r _ [1188, 1076, 657, 719, 722, 171, 721, 172, 717, 718, 716, 723, 748, 207, 746, 747, 1077, 1075, 29, 1073, 763, 654, 762, 4, 760, 669, 671, 673, 675, 677, 679, 681, 683, 685, 687, 689, 691, 693, 695, 697, 208, 210, 212] (by decide +kernel) (by decide +kernel)
set_option maxRecDepth 20000 in
theorem gl_c_X12_partner : GoodIn lw_tbl ws_c_X12_partner := goodIn_r _ [2110, 2014, 1773, 185, 1772, 1771, 2015, 2018, 2017, 2016, 2013, 119, 2011, 1837, 1603, 1836, 86, 1834, 2022, 1607, 2021, 120, 2019, 1652, 1654, 1656, 1658, 1660, 1662, 1664, 1666, 1668, 1670, 1672, 1674, 1676, 1678, 1680, 1682, 1684, 1686, 1688, 1690, 1692, 1694, 1696, 1698, 1700, 1702, 1704, 1706, 1708, 1710, 1712, 1714, 1716, 1718, 1720, 1722, 1724, 1726, 1728, 1730, 1732, 1734, 1736, 1738, 1740, 1742, 1744, 1746, 1748, 1750, 1752] (by decide +kernel) (by decide +kernel)
set_option maxRecDepth 20000 in
theorem gl_c_X11_table : GoodIn lw_tbl ws_c_X11_table := goodIn_r _ [1196, 659, 1006, 369, 174, 1004, 1005, 1003, 763, 654, 171, 762, 4, 760, 669, 671, 673, 675, 677, 679, 681, 683, 685, 687, 689, 691, 693, 695, 697, 376, 378, 380, 382, 384, 386, 388] (by decide +kernel) (by decide +kernel)
set_option maxRecDepth 20000 in
theorem gl_c_X12_table : GoodIn lw_tbl ws_c_X12_table := goodIn_r _ [2114, 1942, 1601, 185, 1941, 108, 1939, 1837, 1603, 1836, 86, 1834, 1652, 1654, 1656, 1658, 1660, 1662, 1664, 1666, 1668, 1670, 1672, 1674, 1676, 1678, 1680, 1682, 1684, 1686, 1688, 1690, 1692, 1694, 1696, 1698, 1700, 1702, 1704, 1706, 1708, 1710, 1712, 1714, 1716, 1718, 1720, 1722, 1724, 1726, 1728, 1730, 1732, 1734, 1736, 1738, 1740, 1742, 1744, 1746, 1748, 1750, 1752] (by decide +kernel) (by decide +kernel)
set_option maxRecDepth 20000 in
theorem gl_c_X11_summary : GoodIn lw_tbl ws_c_X11_summary := goodIn_r _ [1244, 659, 1006, 369, 174, 1004, 1005, 1003, 1248, 171, 1247, 48, 1245, 763, 654, 762, 4, 760, 669, 671, 673, 675, 677, 679, 681, 683, 685, 687, 689, 691, 693, 695, 697, 376, 378, 380, 382, 384, 386, 388] (by decide +kernel) (by decide +kernel)
set_option maxRecDepth 20000 in
theorem gl_c_X12_summary : GoodIn lw_tbl ws_c_X12_summary := goodIn_r _ [2142, 1942, 1601, 185, 1941, 108, 1939, 1837, 1603, 1836, 86, 1834, 1652, 1654, 1656, 1658, 1660, 1662, 1664, 1666, 1668, 1670, 1672, 1674, 1676, 1678, 1680, 1682, 1684, 1686, 1688, 1690, 1692, 1694, 1696, 1698, 1700, 1702, 1704, 1706, 1708, 1710, 1712, 1714, 1716, 1718, 1720, 1722, 1724, 1726, 1728, 1730, 1732, 1734, 1736, 1738, 1740, 1742, 1744, 1746, 1748, 1750, 1752] (by decide +kernel) (by decide +kernel)
set_option maxRecDepth 20000 in
theorem gl_c_X11_next : GoodIn lw_tbl ws_c_X11_next := goodIn_r _ [1252, 659, 1006, 369, 174, 1004, 1005, 1003, 1248, 171, 1247, 48, 1245, 763, 654, 762, 4, 760, 669, 671, 673, 675, 677, 679, 681, 683, 685, 687, 689, 691, 693, 695, 697, 376, 378, 380, 382, 384, 386, 388] (by decide +kernel) (by decide +kernel)
set_option maxRecDepth 20000 in
theorem gl_c_X12_next : GoodIn lw_tbl ws_c_X12_next := goodIn_r _ [2150, 1942, 1601, 185, 1941, 108, 1939, 1837, 1603, 1836, 86, 1834, 1652, 1654, 1656, 1658, 1660, 1662, 1664, 1666, 1668, 1670, 1672, 1674, 1676, 1678, 1680, 1682, 1684, 1686, 1688, 1690, 1692, 1694, 1696, 1698, 1700, 1702, 1704, 1706, 1708, 1710, 1712, 1714, 1716, 1718, 1720, 1722, 1724, 1726, 1728, 1730, 1732, 1734, 1736, 1738, 1740, 1742, 1744, 1746, 1748, 1750, 1752] (by decide +kernel) (by decide +kernel)
set_option maxRecDepth 20000 in
theorem gl_c_X11_nextBack : GoodIn lw_tbl ws_c_X11_nextBack := goodIn_r _ [1265, 659, 1006, 369, 174, 1004, 1005, 1003, 1248, 171, 1247, 48, 1245, 763, 654, 762, 4, 760, 669, 671, 673, 675, 677, 679, 681, 683, 685, 687, 689, 691, 693, 695, 697, 376, 378, 380, 382, 384, 386, 388] (by decide +kernel) (by decide +kernel)
set_option maxRecDepth 20000 in
theorem gl_c_X12_nextBack : GoodIn lw_tbl ws_c_X12_nextBack := goodIn_r _ [2154, 1942, 1601, 185, 1941, 108, 1939, 1837, 1603, 1836, 86, 1834, 1652, 1654, 1656, 1658, 1660, 1662, 1664, 1666, 1668, 1670, 1672, 1674, 1676, 1678, 1680, 1682, 1684, 1686, 1688, 1690, 1692, 1694, 1696, 1698, 1700, 1702, 1704, 1706, 1708, 1710, 1712, 1714, 1716, 1718, 1720, 1722, 1724, 1726, 1728, 1730, 1732, 1734, 1736, 1738, 1740, 1742, 1744, 1746, 1748, 1750, 1752] (by decide +kernel) (by decide +kernel)
set_option maxRecDepth 20000 in
theorem gl_c_X11_well : GoodIn lw_tbl ws_c_X11_well := goodIn_r _ [1273, 1050, 659, 1006, 369, 174, 1004, 1005, 1003, 171, 1049, 27, 1047, 763, 654, 762, 4, 760, 669, 671, 673, 675, 677, 679, 681, 683, 685, 687, 689, 691, 693, 695, 697, 376, 378, 380, 382, 384, 386, 388] (by decide +kernel) (by decide +kernel)
set_option maxRecDepth 20000 in
theorem gl_c_X12_well : GoodIn lw_tbl ws_c_X12_well := goodIn_r _ [2158, 1942, 1601, 185, 1941, 108, 1939, 1837, 1603, 1836, 86, 1834, 1652, 1654, 1656, 1658, 1660, 1662, 1664, 1666, 1668, 1670, 1672, 1674, 1676, 1678, 1680, 1682, 1684, 1686, 1688, 1690, 1692, 1694, 1696, 1698, 1700, 1702, 1704, 1706, 1708, 1710, 1712, 1714, 1716, 1718, 1720, 1722, 1724, 1726, 1728, 1730, 1732, 1734, 1736, 1738, 1740, 1742, 1744, 1746, 1748, 1750, 1752] (by decide +kernel) (by decide +kernel)
set_option maxRecDepth 20000 in
theorem gl_c_X11_reaches : GoodIn lw_tbl ws_c_X11_reaches := goodIn_r _ [1352, 659, 1006, 369, 174, 1004, 1005, 1003, 763, 654, 171, 762, 4, 760, 669, 671, 673, 675, 677, 679, 681, 683, 685, 687, 689, 691, 693, 695, 697, 376, 378, 380, 382, 384, 386, 388] (by decide +kernel) (by decide +kernel)
set_option maxRecDepth 20000 in
theorem gl_c_X12_reaches : GoodIn lw_tbl ws_c_X12_reaches := goodIn_r _ [2187, 1942, 1601, 185, 1941, 108, 1939, 1837, 1603, 1836, 86, 1834, 1652, 1654, 1656, 1658, 1660, 1662, 1664, 1666, 1668, 1670, 1672, 1674, 1676, 1678, 1680, 1682, 1684, 1686, 1688, 1690, 1692, 1694, 1696, 1698, 1700, 1702, 1704, 1706, 1708, 1710, 1712, 1714, 1716, 1718, 1720, 1722, 1724, 1726, 1728, 1730, 1732, 1734, 1736, 1738, 1740, 1742, 1744, 1746, 1748, 1750, 1752] (by decide +kernel) (by decide +kernel)
set_option maxRecDepth 20000 in
theorem gl_c_X11_shortest : GoodIn lw_tbl ws_c_X11_shortest := goodIn_r _ [1372, 659, 1006, 369, 174, 1004, 1005, 1003, 763, 654, 171, 762, 4, 760, 669, 671, 673, 675, 677, 679, 681, 683, 685, 687, 689, 691, 693, 695, 697, 376, 378, 380, 382, 384, 386, 388] (by decide +kernel) (by decide +kernel)
set_option maxRecDepth 20000 in
theorem gl_c_X12_shortest : GoodIn lw_tbl ws_c_X12_shortest := goodIn_r _ [2203, 1942, 1601, 185, 1941, 108, 1939, 1837, 1603, 1836, 86, 1834, 1652, 1654, 1656, 1658, 1660, 1662, 1664, 1666, 1668, 1670, 1672, 1674, 1676, 1678, 1680, 1682, 1684, 1686, 1688, 1690, 1692, 1694, 1696, 1698, 1700, 1702, 1704, 1706, 1708, 1710, 1712, 1714, 1716, 1718, 1720, 1722, 1724, 1726, 1728, 1730, 1732, 1734, 1736, 1738, 1740, 1742, 1744, 1746, 1748, 1750, 1752] (by decide +kernel) (by decide +kernel)
set_option maxRecDepth 20000 in
theorem gl_c_X11_shortestAt : GoodIn lw_tbl ws_c_X11_shortestAt := goodIn_r _ [1417, 659, 1006, 369, 174, 1004, 1005, 1003, 763, 654, 171, 762, 4, 760, 669, 671, 673, 675, 677, 679, 681, 683, 685, 687, 689, 691, 693, 695, 697, 376, 378, 380, 382, 384, 386, 388] (by decide +kernel) (by decide +kernel)
set_option maxRecDepth 20000 in
theorem gl_c_X12_shortestAt : GoodIn lw_tbl ws_c_X12_shortestAt := goodIn_r _ [2211, 1942, 1601, 185, 1941, 108, 1939, 1837, 1603, 1836, 86, 1834, 1652, 1654, 1656, 1658, 1660, 1662, 1664, 1666, 1668, 1670, 1672, 1674, 1676, 1678, 1680, 1682, 1684, 1686, 1688, 1690, 1692, 1694, 1696, 1698, 1700, 1702, 1704, 1706, 1708, 1710, 1712, 1714, 1716, 1718, 1720, 1722, 1724, 1726, 1728, 1730, 1732, 1734, 1736, 1738, 1740, 1742, 1744, 1746, 1748, 1750, 1752] (by decide +kernel) (by decide +kernel)
set_option maxRecDepth 20000 in
theorem gl_c_X11_both : GoodIn lw_tbl ws_c_X11_both := goodIn_r _ [1429, 1063, 659, 1006, 369, 174, 1004, 1005, 1003, 171, 1062, 28, 1060, 763, 654, 762, 4, 760, 669, 671, 673, 675, 677, 679, 681, 683, 685, 687, 689, 691, 693, 695, 697, 376, 378, 380, 382, 384, 386, 388] (by decide +kernel) (by decide +kernel)
set_option maxRecDepth 20000 in
theorem gl_c_X12_both : GoodIn lw_tbl ws_c_X12_both := goodIn_r _ [2227, 2006, 1942, 1601, 185, 1941, 108, 1939, 2005, 118, 2003, 1837, 1603, 1836, 86, 1834, 1652, 1654, 1656, 1658, 1660, 1662, 1664, 1666, 1668, 1670, 1672, 1674, 1676, 1678, 1680, 1682, 1684, 1686, 1688, 1690, 1692, 1694, 1696, 1698, 1700, 1702, 1704, 1706, 1708, 1710, 1712, 1714, 1716, 1718, 1720, 1722, 1724, 1726, 1728, 1730, 1732, 1734, 1736, 1738, 1740, 1742, 1744, 1746, 1748, 1750, 1752] (by decide +kernel) (by decide +kernel)
set_option maxRecDepth 20000 in
theorem gl_c_X11_bothAt : GoodIn lw_tbl ws_c_X11_bothAt := goodIn_r _ [1433, 1063, 659, 1006, 369, 174, 1004, 1005, 1003, 171, 1062, 28, 1060, 763, 654, 762, 4, 760, 669, 671, 673, 675, 677, 679, 681, 683, 685, 687, 689, 691, 693, 695, 697, 376, 378, 380, 382, 384, 386, 388] (by decide +kernel) (by decide +kernel)
set_option maxRecDepth 20000 in
theorem gl_c_X12_bothAt : GoodIn lw_tbl ws_c_X12_bothAt := goodIn_r _ [2231, 2006, 1942, 1601, 185, 1941, 108, 1939, 2005, 118, 2003, 1837, 1603, 1836, 86, 1834, 1652, 1654, 1656, 1658, 1660, 1662, 1664, 1666, 1668, 1670, 1672, 1674, 1676, 1678, 1680, 1682, 1684, 1686, 1688, 1690, 1692, 1694, 1696, 1698, 1700, 1702, 1704, 1706, 1708, 1710, 1712, 1714, 1716, 1718, 1720, 1722, 1724, 1726, 1728, 1730, 1732, 1734, 1736, 1738, 1740, 1742, 1744, 1746, 1748, 1750, 1752] (by decide +kernel) (by decide +kernel)
set_option maxRecDepth 20000 in
theorem gl_c_X11_parting : GoodIn lw_tbl ws_c_X11_parting := goodIn_r _ [1437, 1063, 659, 1006, 369, 174, 1004, 1005, 1003, 171, 1062, 28, 1060, 1441, 1440, 67, 1438, 763, 654, 762, 4, 760, 669, 671, 673, 675, 677, 679, 681, 683, 685, 687, 689, 691, 693, 695, 697, 376, 378, 380, 382, 384, 386, 388] (by decide +kernel) (by decide +kernel)
set_option maxRecDepth 20000 in
theorem gl_c_X12_parting : GoodIn lw_tbl ws_c_X12_parting := goodIn_r _ [2235, 2006, 1942, 1601, 185, 1941, 108, 1939, 2005, 118, 2003, 1837, 1603, 1836, 86, 1834, 1652, 1654, 1656, 1658, 1660, 1662, 1664, 1666, 1668, 1670, 1672, 1674, 1676, 1678, 1680, 1682, 1684, 1686, 1688, 1690, 1692, 1694, 1696, 1698, 1700, 1702, 1704, 1706, 1708, 1710, 1712, 1714, 1716, 1718, 1720, 1722, 1724, 1726, 1728, 1730, 1732, 1734, 1736, 1738, 1740, 1742, 1744, 1746, 1748, 1750, 1752] (by decide +kernel) (by decide +kernel)
set_option maxRecDepth 20000 in
theorem gl_c_X11_partingAt : GoodIn lw_tbl ws_c_X11_partingAt := goodIn_r _ [1445, 1063, 659, 1006, 369, 174, 1004, 1005, 1003, 171, 1062, 28, 1060, 1441, 1440, 67, 1438, 763, 654, 762, 4, 760, 669, 671, 673, 675, 677, 679, 681, 683, 685, 687, 689, 691, 693, 695, 697, 376, 378, 380, 382, 384, 386, 388] (by decide +kernel) (by decide +kernel)
set_option maxRecDepth 20000 in
theorem gl_c_X12_partingAt : GoodIn lw_tbl ws_c_X12_partingAt := goodIn_r _ [2271, 2006, 1942, 1601, 185, 1941, 108, 1939, 2005, 118, 2003, 1837, 1603, 1836, 86, 1834, 1652, 1654, 1656, 1658, 1660, 1662, 1664, 1666, 1668, 1670, 1672, 1674, 1676, 1678, 1680, 1682, 1684, 1686, 1688, 1690, 1692, 1694, 1696, 1698, 1700, 1702, 1704, 1706, 1708, 1710, 1712, 1714, 1716, 1718, 1720, 1722, 1724, 1726, 1728, 1730, 1732, 1734, 1736, 1738, 1740, 1742, 1744, 1746, 1748, 1750, 1752] (by decide +kernel) (by decide +kernel)
set_option maxRecDepth 20000 in
theorem gl_c_X11_missing : GoodIn lw_tbl ws_c_X11_missing := goodIn_r _ [1449, 659, 1006, 369, 174, 1004, 1005, 1003, 1441, 171, 1440, 67, 1438, 763, 654, 762, 4, 760, 669, 671, 673, 675, 677, 679, 681, 683, 685, 687, 689, 691, 693, 695, 697, 376, 378, 380, 382, 384, 386, 388] (by decide +kernel) (by decide +kernel)
set_option maxRecDepth 20000 in
theorem gl_c_X12_missing : GoodIn lw_tbl ws_c_X12_missing := goodIn_r _ [2275, 1942, 1601, 185, 1941, 108, 1939, 1837, 1603, 1836, 86, 1834, 1652, 1654, 1656, 1658, 1660, 1662, 1664, 1666, 1668, 1670, 1672, 1674, 1676, 1678, 1680, 1682, 1684, 1686, 1688, 1690, 1692, 1694, 1696, 1698, 1700, 1702, 1704, 1706, 1708, 1710, 1712, 1714, 1716, 1718, 1720, 1722, 1724, 1726, 1728, 1730, 1732, 1734, 1736, 1738, 1740, 1742, 1744, 1746, 1748, 1750, 1752] (by decide +kernel) (by decide +kernel)
set_option maxRecDepth 20000 in
theorem gl_c_X11_missingAt : GoodIn lw_tbl ws_c_X11_missingAt := goodIn_r _ [1453, 659, 1006, 369, 174, 1004, 1005, 1003, 1441, 171, 1440, 67, 1438, 763, 654, 762, 4, 760, 669, 671, 673, 675, 677, 679, 681, 683, 685, 687, 689, 691, 693, 695, 697, 376, 378, 380, 382, 384, 386, 388] (by decide +kernel) (by decide +kernel)
set_option maxRecDepth 20000 in
theorem gl_c_X12_missingAt : GoodIn lw_tbl ws_c_X12_missingAt := goodIn_r _ [2279, 1942, 1601, 185, 1941, 108, 1939, 1837, 1603, 1836, 86, 1834, 1652, 1654, 1656, 1658, 1660, 1662, 1664, 1666, 1668, 1670, 1672, 1674, 1676, 1678, 1680, 1682, 1684, 1686, 1688, 1690, 1692, 1694, 1696, 1698, 1700, 1702, 1704, 1706, 1708, 1710, 1712, 1714, 1716, 1718, 1720, 1722, 1724, 1726, 1728, 1730, 1732, 1734, 1736, 1738, 1740, 1742, 1744, 1746, 1748, 1750, 1752] (by decide +kernel) (by decide +kernel)
set_option maxRecDepth 20000 in
theorem gl_c_X11_includes : GoodIn lw_tbl ws_c_X11_includes := goodIn_r _ [1457, 1063, 659, 1006, 369, 174, 1004, 1005, 1003, 171, 1062, 28, 1060, 1441, 1440, 67, 1438, 763, 654, 762, 4, 760, 669, 671, 673, 675, 677, 679, 681, 683, 685, 687, 689, 691, 693, 695, 697, 376, 378, 380, 382, 384, 386, 388] (by decide +kernel) (by decide +kernel)
set_option maxRecDepth 20000 in
theorem gl_c_X12_includes : GoodIn lw_tbl ws_c_X12_includes := goodIn_r _ [2283, 2006, 1942, 1601, 185, 1941, 108, 1939, 2005, 118, 2003, 1837, 1603, 1836, 86, 1834, 1652, 1654, 1656, 1658, 1660, 1662, 1664, 1666, 1668, 1670, 1672, 1674, 1676, 1678, 1680, 1682, 1684, 1686, 1688, 1690, 1692, 1694, 1696, 1698, 1700, 1702, 1704, 1706, 1708, 1710, 1712, 1714, 1716, 1718, 1720, 1722, 1724, 1726, 1728, 1730, 1732, 1734, 1736, 1738, 1740, 1742, 1744, 1746, 1748, 1750, 1752] (by decide +kernel) (by decide +kernel)
set_option maxRecDepth 20000 in
theorem gl_c_X11_equal : GoodIn lw_tbl ws_c_X11_equal := goodIn_r _ [1461, 1063, 659, 1006, 369, 174, 1004, 1005, 1003, 171, 1062, 28, 1060, 1441, 1440, 67, 1438, 763, 654, 762, 4, 760, 669, 671, 673, 675, 677, 679, 681, 683, 685, 687, 689, 691, 693, 695, 697, 376, 378, 380, 382, 384, 386, 388] (by decide +kernel) (by decide +kernel)
set_option maxRecDepth 20000 in
theorem gl_c_X12_equal : GoodIn lw_tbl ws_c_X12_equal := goodIn_r _ [2287, 2006, 1942, 1601, 185, 1941, 108, 1939, 2005, 118, 2003, 1837, 1603, 1836, 86, 1834, 1652, 1654, 1656, 1658, 1660, 1662, 1664, 1666, 1668, 1670, 1672, 1674, 1676, 1678, 1680, 1682, 1684, 1686, 1688, 1690, 1692, 1694, 1696, 1698, 1700, 1702, 1704, 1706, 1708, 1710, 1712, 1714, 1716, 1718, 1720, 1722, 1724, 1726, 1728, 1730, 1732, 1734, 1736, 1738, 1740, 1742, 1744, 1746, 1748, 1750, 1752] (by decide +kernel) (by decide +kernel)
set_option maxRecDepth 20000 in
theorem gl_c_X11_count : GoodIn lw_tbl ws_c_X11_count := goodIn_r _ [1465, 659, 1006, 369, 174, 1004, 1005, 1003, 763, 654, 171, 762, 4, 760, 669, 671, 673, 675, 677, 679, 681, 683, 685, 687, 689, 691, 693, 695, 697, 376, 378, 380, 382, 384, 386, 388] (by decide +kernel) (by decide +kernel)
set_option maxRecDepth 20000 in
theorem gl_c_X12_count : GoodIn lw_tbl ws_c_X12_count := goodIn_r _ [2291, 2295, 1942, 1601, 185, 1941, 108, 1939, 2294, 163, 2292, 1837, 1603, 1836, 86, 1834, 1652, 1654, 1656, 1658, 1660, 1662, 1664, 1666, 1668, 1670, 1672, 1674, 1676, 1678, 1680, 1682, 1684, 1686, 1688, 1690, 1692, 1694, 1696, 1698, 1700, 1702, 1704, 1706, 1708, 1710, 1712, 1714, 1716, 1718, 1720, 1722, 1724, 1726, 1728, 1730, 1732, 1734, 1736, 1738, 1740, 1742, 1744, 1746, 1748, 1750, 1752] (by decide +kernel) (by decide +kernel)
set_option maxRecDepth 20000 in
theorem gl_c_X11_share : GoodIn lw_tbl ws_c_X11_share := goodIn_r _ [1523, 659, 1006, 369, 174, 1004, 1005, 1003, 727, 654, 171, 726, 2, 724, 669, 671, 673, 675, 677, 679, 681, 683, 685, 687, 689, 691, 693, 695, 697, 376, 378, 380, 382, 384, 386, 388] (by decide +kernel) (by decide +kernel)
set_option maxRecDepth 20000 in
theorem gl_c_X12_share : GoodIn lw_tbl ws_c_X12_share := goodIn_r _ [2300, 2295, 1942, 1601, 185, 1941, 108, 1939, 2294, 163, 2292, 1777, 1603, 1776, 80, 1774, 1652, 1654, 1656, 1658, 1660, 1662, 1664, 1666, 1668, 1670, 1672, 1674, 1676, 1678, 1680, 1682, 1684, 1686, 1688, 1690, 1692, 1694, 1696, 1698, 1700, 1702, 1704, 1706, 1708, 1710, 1712, 1714, 1716, 1718, 1720, 1722, 1724, 1726, 1728, 1730, 1732, 1734, 1736, 1738, 1740, 1742, 1744, 1746, 1748, 1750, 1752] (by decide +kernel) (by decide +kernel)
set_option maxRecDepth 20000 in
theorem gl_c_X11_lastAt : GoodIn lw_tbl ws_c_X11_lastAt := goodIn_r _ [1528, 659, 1006, 369, 174, 1004, 1005, 1003, 763, 654, 171, 762, 4, 760, 669, 671, 673, 675, 677, 679, 681, 683, 685, 687, 689, 691, 693, 695, 697, 376, 378, 380, 382, 384, 386, 388] (by decide +kernel) (by decide +kernel)
set_option maxRecDepth 20000 in
theorem gl_c_X12_lastAt : GoodIn lw_tbl ws_c_X12_lastAt := goodIn_r _ [2304, 2295, 1942, 1601, 185, 1941, 108, 1939, 2294, 163, 2292, 1837, 1603, 1836, 86, 1834, 1652, 1654, 1656, 1658, 1660, 1662, 1664, 1666, 1668, 1670, 1672, 1674, 1676, 1678, 1680, 1682, 1684, 1686, 1688, 1690, 1692, 1694, 1696, 1698, 1700, 1702, 1704, 1706, 1708, 1710, 1712, 1714, 1716, 1718, 1720, 1722, 1724, 1726, 1728, 1730, 1732, 1734, 1736, 1738, 1740, 1742, 1744, 1746, 1748, 1750, 1752] (by decide +kernel) (by decide +kernel)
set_option maxRecDepth 20000 in
theorem gl_c_X11_sample : GoodIn lw_tbl ws_c_X11_sample := goodIn_r _ [1536, 657, 719, 722, 171, 721, 172, 717, 718, 716, 723, 748, 207, 746, 747, 1077, 727, 654, 726, 2, 724, 669, 671, 673, 675, 677, 679, 681, 683, 685, 687, 689, 691, 693, 695, 697, 208, 210, 212] (by decide +kernel) (by decide +kernel)
set_option maxRecDepth 20000 in
theorem gl_c_X12_sample : GoodIn lw_tbl ws_c_X12_sample := goodIn_r _ [2308, 2014, 1773, 185, 1772, 1771, 2015, 2018, 2017, 2016, 2013, 119, 2011, 2309, 1607, 1777, 1603, 1776, 80, 1774, 1652, 1654, 1656, 1658, 1660, 1662, 1664, 1666, 1668, 1670, 1672, 1674, 1676, 1678, 1680, 1682, 1684, 1686, 1688, 1690, 1692, 1694, 1696, 1698, 1700, 1702, 1704, 1706, 1708, 1710, 1712, 1714, 1716, 1718, 1720, 1722, 1724, 1726, 1728, 1730, 1732, 1734, 1736, 1738, 1740, 1742, 1744, 1746, 1748, 1750, 1752] (by decide +kernel) (by decide +kernel)
set_option maxRecDepth 20000 in
theorem gl_c_X11_chance : GoodIn lw_tbl ws_c_X11_chance := goodIn_r _ [1545, 659, 1006, 369, 174, 1004, 1005, 1003, 727, 654, 171, 726, 2, 724, 669, 671, 673, 675, 677, 679, 681, 683, 685, 687, 689, 691, 693, 695, 697, 376, 378, 380, 382, 384, 386, 388] (by decide +kernel) (by decide +kernel)
set_option maxRecDepth 20000 in
theorem gl_c_X12_chance : GoodIn lw_tbl ws_c_X12_chance := goodIn_r _ [2318, 1942, 1601, 185, 1941, 108, 1939, 1777, 1603, 1776, 80, 1774, 1652, 1654, 1656, 1658, 1660, 1662, 1664, 1666, 1668, 1670, 1672, 1674, 1676, 1678, 1680, 1682, 1684, 1686, 1688, 1690, 1692, 1694, 1696, 1698, 1700, 1702, 1704, 1706, 1708, 1710, 1712, 1714, 1716, 1718, 1720, 1722, 1724, 1726, 1728, 1730, 1732, 1734, 1736, 1738, 1740, 1742, 1744, 1746, 1748, 1750, 1752] (by decide +kernel) (by decide +kernel)
set_option maxRecDepth 20000 in
theorem gl_c_X11_watch : GoodIn lw_tbl ws_c_X11_watch := goodIn_r _ [1553, 659, 1006, 369, 174, 1004, 1005, 1003, 763, 654, 171, 762, 4, 760, 669, 671, 673, 675, 677, 679, 681, 683, 685, 687, 689, 691, 693, 695, 697, 376, 378, 380, 382, 384, 386, 388] (by decide +kernel) (by decide +kernel)
set_option maxRecDepth 20000 in
theorem gl_c_X12_watch : GoodIn lw_tbl ws_c_X12_watch := goodIn_r _ [2323, 1942, 1601, 185, 1941, 108, 1939, 1837, 1603, 1836, 86, 1834, 1652, 1654, 1656, 1658, 1660, 1662, 1664, 1666, 1668, 1670, 1672, 1674, 1676, 1678, 1680, 1682, 1684, 1686, 1688, 1690, 1692, 1694, 1696, 1698, 1700, 1702, 1704, 1706, 1708, 1710, 1712, 1714, 1716, 1718, 1720, 1722, 1724, 1726, 1728, 1730, 1732, 1734, 1736, 1738, 1740, 1742, 1744, 1746, 1748, 1750, 1752] (by decide +kernel) (by decide +kernel)
set_option maxRecDepth 20000 in
theorem gl_c_X11_see : GoodIn lw_tbl ws_c_X11_see := goodIn_r _ [1557, 659, 966, 364, 174, 964, 965, 1253, 763, 654, 171, 762, 4, 760, 669, 671, 673, 675, 677, 679, 681, 683, 685, 687, 689, 691, 693, 695, 697, 376, 378, 380, 382, 384, 386, 388] (by decide +kernel) (by decide +kernel)
set_option maxRecDepth 20000 in
theorem gl_c_X12_see : GoodIn lw_tbl ws_c_X12_see := goodIn_r _ [2331, 1601, 1966, 1970, 185, 1969, 113, 1967, 1965, 112, 1963, 1837, 1603, 1836, 86, 1834, 1652, 1654, 1656, 1658, 1660, 1662, 1664, 1666, 1668, 1670, 1672, 1674, 1676, 1678, 1680, 1682, 1684, 1686, 1688, 1690, 1692, 1694, 1696, 1698, 1700, 1702, 1704, 1706, 1708, 1710, 1712, 1714, 1716, 1718, 1720, 1722, 1724, 1726, 1728, 1730, 1732, 1734, 1736, 1738, 1740, 1742, 1744, 1746, 1748, 1750, 1752] (by decide +kernel) (by decide +kernel)
set_option maxRecDepth 20000 in
theorem gl_c_X11_seen : GoodIn lw_tbl ws_c_X11_seen := goodIn_r _ [1561, 722, 171, 721, 723, 659, 375, 319, 763, 654, 762, 4, 760, 669, 671, 673, 675, 677, 679, 681, 683, 685, 687, 689, 691, 693, 695, 697, 376, 378, 380, 382, 384, 386, 388, 336, 338, 340, 342, 344, 346, 348, 350] (by decide +kernel) (by decide +kernel)
set_option maxRecDepth 20000 in
theorem gl_c_X12_seen : GoodIn lw_tbl ws_c_X12_seen := goodIn_r _ [2343, 1837, 1603, 185, 1836, 86, 1834, 1601, 1652, 1654, 1656, 1658, 1660, 1662, 1664, 1666, 1668, 1670, 1672, 1674, 1676, 1678, 1680, 1682, 1684, 1686, 1688, 1690, 1692, 1694, 1696, 1698, 1700, 1702, 1704, 1706, 1708, 1710, 1712, 1714, 1716, 1718, 1720, 1722, 1724, 1726, 1728, 1730, 1732, 1734, 1736, 1738, 1740, 1742, 1744, 1746, 1748, 1750, 1752] (by decide +kernel) (by decide +kernel)
set_option maxRecDepth 20000 in
theorem gl_c_X11_doomed : GoodIn lw_tbl ws_c_X11_doomed := goodIn_r _ [1565, 659, 375, 319, 763, 654, 171, 762, 4, 760, 669, 671, 673, 675, 677, 679, 681, 683, 685, 687, 689, 691, 693, 695, 697, 376, 378, 380, 382, 384, 386, 388, 336, 338, 340, 342, 344, 346, 348, 350] (by decide +kernel) (by decide +kernel)
set_option maxRecDepth 20000 in
theorem gl_c_X12_doomed : GoodIn lw_tbl ws_c_X12_doomed := goodIn_r _ [2347, 1601, 1837, 1603, 185, 1836, 86, 1834, 1652, 1654, 1656, 1658, 1660, 1662, 1664, 1666, 1668, 1670, 1672, 1674, 1676, 1678, 1680, 1682, 1684, 1686, 1688, 1690, 1692, 1694, 1696, 1698, 1700, 1702, 1704, 1706, 1708, 1710, 1712, 1714, 1716, 1718, 1720, 1722, 1724, 1726, 1728, 1730, 1732, 1734, 1736, 1738, 1740, 1742, 1744, 1746, 1748, 1750, 1752] (by decide +kernel) (by decide +kernel)
set_option maxRecDepth 20000 in
theorem gl_c_X11_mark : GoodIn lw_tbl ws_c_X11_mark := goodIn_r _ [1576, 661, 660, 659, 1580, 353, 359, 364, 369, 372, 1067, 266, 235, 243, 247, 254, 262, 267, 1068, 782, 781, 186, 270, 273, 276, 279, 285, 175, 1065, 1066, 1581, 373, 374, 1585, 317, 320, 322, 325, 328, 330, 1586, 332, 334, 176, 1583, 1584, 1582, 174, 1578, 1579, 1577, 990, 654, 171, 989, 26, 987, 669, 671, 673, 675, 677, 679, 681, 683, 685, 687, 689, 691, 693, 695, 697, 376, 378, 380, 382, 384, 386, 388, 286, 288, 290, 292, 294, 296, 298, 300, 302, 304, 306, 308, 336, 338, 340, 342, 344, 346, 348, 350] (by decide +kernel) (by decide +kernel)
set_option maxRecDepth 20000 in
theorem gl_c_X12_mark : GoodIn lw_tbl ws_c_X12_mark := goodIn_r _ [2355, 1651, 2359, 1601, 1602, 185, 2358, 169, 2356, 1930, 1603, 1929, 107, 1927, 1652, 1654, 1656, 1658, 1660, 1662, 1664, 1666, 1668, 1670, 1672, 1674, 1676, 1678, 1680, 1682, 1684, 1686, 1688, 1690, 1692, 1694, 1696, 1698, 1700, 1702, 1704, 1706, 1708, 1710, 1712, 1714, 1716, 1718, 1720, 1722, 1724, 1726, 1728, 1730, 1732, 1734, 1736, 1738, 1740, 1742, 1744, 1746, 1748, 1750, 1752] (by decide +kernel) (by decide +kernel)
set_option maxRecDepth 20000 in
theorem gl_c_X11_undo : GoodIn lw_tbl ws_c_X11_undo := goodIn_r _ [1590, 661, 763, 654, 171, 762, 4, 760, 669, 671, 673, 675, 677, 679, 681, 683, 685, 687, 689, 691, 693, 695, 697] (by decide +kernel) (by decide +kernel)
set_option maxRecDepth 20000 in
theorem gl_c_X12_undo : GoodIn lw_tbl ws_c_X12_undo := goodIn_r _ [2363, 1651, 1837, 1603, 185, 1836, 86, 1834, 1652, 1654, 1656, 1658, 1660, 1662, 1664, 1666, 1668, 1670, 1672, 1674, 1676, 1678, 1680, 1682, 1684, 1686, 1688, 1690, 1692, 1694, 1696, 1698, 1700, 1702, 1704, 1706, 1708, 1710, 1712, 1714, 1716, 1718, 1720, 1722, 1724, 1726, 1728, 1730, 1732, 1734, 1736, 1738, 1740, 1742, 1744, 1746, 1748, 1750, 1752] (by decide +kernel) (by decide +kernel)
set_option maxRecDepth 20000 in
theorem gl_c_X11_init : GoodIn lw_tbl ws_c_X11_init := goodIn_r _ [195, 196, 197, 198, 199, 200, 172, 203, 204, 215, 205, 216, 206, 207, 202, 201, 657, 217, 218, 173, 221, 222, 223, 224, 174, 227, 228, 229, 230, 175, 233, 234, 267, 270, 273, 276, 279, 285, 232, 372, 373, 311, 312, 176, 315, 316, 317, 330, 332, 334, 314, 374, 226, 391, 395, 397, 432, 399, 405, 406, 220, 658, 433, 659, 660, 436, 437, 177, 440, 441, 446, 448, 450, 451, 439, 662, 663, 465, 466, 178, 469, 470, 524, 526, 471, 532, 533, 534, 473, 474, 179, 477, 478, 479, 480, 180, 481, 484, 486, 488, 490, 476, 475, 536, 537, 538, 540, 541, 542, 505, 509, 266, 235, 243, 247, 254, 262, 513, 516, 181, 515, 514, 512, 0, 510, 507, 508, 506, 503, 504, 502, 468, 467, 664, 578, 579, 183, 582, 583, 588, 589, 590, 592, 593, 594, 595, 596, 581, 665, 624, 666, 626, 627, 184, 630, 631, 633, 634, 635, 636, 637, 638, 629, 667, 654, 655, 656, 208, 210, 212, 669, 671, 673, 675, 677, 679, 681, 683, 685, 687, 689, 691, 693, 695, 697, 407, 409, 411, 413, 415, 417, 419, 421, 423, 425, 427, 429, 376, 378, 380, 382, 384, 386, 388, 286, 288, 290, 292, 294, 296, 298, 300, 302, 304, 306, 308, 336, 338, 340, 342, 344, 346, 348, 350, 452, 454, 456, 458, 460, 462, 543, 545, 547, 549, 551, 553, 555, 557, 559, 561, 563, 565, 567, 569, 571, 573, 575, 491, 493, 495, 497, 499, 597, 599, 601, 603, 605, 607, 609, 611, 613, 615, 617, 619, 621, 639, 641, 643, 645, 647, 649, 651] (by decide +kernel) (by decide +kernel)
set_option maxRecDepth 20000 in
theorem gl_c_X12_init : GoodIn lw_tbl ws_c_X12_init := goodIn_r _ [1595, 1596, 197, 198, 216, 1601, 215, 1602, 1605, 1606, 1607, 1608, 432, 1609, 1610, 1617, 1618, 1621, 1622, 1623, 1624, 1625, 1626, 1627, 1628, 1629, 1630, 1634, 1635, 1637, 1638, 1639, 1640, 1641, 1642, 1643, 1644, 1645, 1647, 1648, 1600, 185, 1599, 79, 1597, 1652, 1654, 1656, 1658, 1660, 1662, 1664, 1666, 1668, 1670, 1672, 1674, 1676, 1678, 1680, 1682, 1684, 1686, 1688, 1690, 1692, 1694, 1696, 1698, 1700, 1702, 1704, 1706, 1708, 1710, 1712, 1714, 1716, 1718, 1720, 1722, 1724, 1726, 1728, 1730, 1732, 1734, 1736, 1738, 1740, 1742, 1744, 1746, 1748, 1750, 1752] (by decide +kernel) (by decide +kernel)
