set_option maxRecDepth 100000 in
theorem mw_631 : Cond.code y_Di_defect b_Di_defect 2 (some .boolean) ∈ lw_g := lw_gin (List.mem_append_right _ (List.mem_of_getElem? (i := 267) rfl)) (by decide +kernel)
set_option maxRecDepth 100000 in
theorem mw_632 : Cond.methodLink R_La 40 y_Di_defect ∈ lw_g := lw_gin (List.mem_append_right _ (List.mem_of_getElem? (i := 264) rfl)) (by decide +kernel)
set_option maxRecDepth 100000 in
theorem mw_633 : Cond.instanceMethod y_Di_defect ∈ lw_g := lw_gin (List.mem_append_right _ (List.mem_of_getElem? (i := 265) rfl)) (by decide +kernel)
set_option maxRecDepth 100000 in
theorem mw_634 : Cond.selects R_Di y_Di_defect y_Di_defect ∈ lw_g := lw_gin (List.mem_append_right _ (List.mem_of_getElem? (i := 266) rfl)) (by decide +kernel)
set_option maxRecDepth 100000 in
theorem mw_635 : Cond.code y_Mo_defect b_Mo_defect 2 (some .boolean) ∈ lw_g := lw_gin (List.mem_append_right _ (List.mem_of_getElem? (i := 1050) rfl)) (by decide +kernel)
set_option maxRecDepth 100000 in
theorem mw_636 : Cond.methodLink R_La 44 y_Mo_defect ∈ lw_g := lw_gin (List.mem_append_right _ (List.mem_of_getElem? (i := 1047) rfl)) (by decide +kernel)
set_option maxRecDepth 100000 in
theorem mw_637 : Cond.instanceMethod y_Mo_defect ∈ lw_g := lw_gin (List.mem_append_right _ (List.mem_of_getElem? (i := 1048) rfl)) (by decide +kernel)
set_option maxRecDepth 100000 in
theorem mw_638 : Cond.selects R_Mo y_Mo_defect y_Mo_defect ∈ lw_g := lw_gin (List.mem_append_right _ (List.mem_of_getElem? (i := 1049) rfl)) (by decide +kernel)
set_option maxRecDepth 100000 in
theorem mw_639 : Cond.code y_Di_power b_Di_power 2 none ∈ lw_g := lw_gin (List.mem_append_right _ (List.mem_of_getElem? (i := 279) rfl)) (by decide +kernel)
set_option maxRecDepth 100000 in
theorem mw_640 : Cond.methodLink R_La 45 y_Di_power ∈ lw_g := lw_gin (List.mem_append_right _ (List.mem_of_getElem? (i := 276) rfl)) (by decide +kernel)
set_option maxRecDepth 100000 in
theorem mw_641 : Cond.instanceMethod y_Di_power ∈ lw_g := lw_gin (List.mem_append_right _ (List.mem_of_getElem? (i := 277) rfl)) (by decide +kernel)
set_option maxRecDepth 100000 in
theorem mw_642 : Cond.selects R_Di y_Di_power y_Di_power ∈ lw_g := lw_gin (List.mem_append_right _ (List.mem_of_getElem? (i := 278) rfl)) (by decide +kernel)
set_option maxRecDepth 100000 in
theorem mw_643 : Cond.code y_Mo_power b_Mo_power 2 none ∈ lw_g := lw_gin (List.mem_append_right _ (List.mem_of_getElem? (i := 1057) rfl)) (by decide +kernel)
set_option maxRecDepth 100000 in
theorem mw_644 : Cond.methodLink R_La 48 y_Mo_power ∈ lw_g := lw_gin (List.mem_append_right _ (List.mem_of_getElem? (i := 1054) rfl)) (by decide +kernel)
set_option maxRecDepth 100000 in
theorem mw_645 : Cond.instanceMethod y_Mo_power ∈ lw_g := lw_gin (List.mem_append_right _ (List.mem_of_getElem? (i := 1055) rfl)) (by decide +kernel)
set_option maxRecDepth 100000 in
theorem mw_646 : Cond.selects R_Mo y_Mo_power y_Mo_power ∈ lw_g := lw_gin (List.mem_append_right _ (List.mem_of_getElem? (i := 1056) rfl)) (by decide +kernel)
set_option maxRecDepth 100000 in
theorem mw_647 : Cond.constantLong R_La 49 (4294967295) ∈ lw_g := lw_gin (List.mem_append_right _ (List.mem_of_getElem? (i := 1326) rfl)) (by decide +kernel)
set_option maxRecDepth 100000 in
theorem mw_648 : Cond.code y_Di_directory b_Di_directory 5 (some .int) ∈ lw_g := lw_gin (List.mem_append_right _ (List.mem_of_getElem? (i := 283) rfl)) (by decide +kernel)
set_option maxRecDepth 100000 in
theorem mw_649 : Cond.methodLink R_La 51 y_Di_directory ∈ lw_g := lw_gin (List.mem_append_right _ (List.mem_of_getElem? (i := 280) rfl)) (by decide +kernel)
set_option maxRecDepth 100000 in
theorem mw_650 : Cond.instanceMethod y_Di_directory ∈ lw_g := lw_gin (List.mem_append_right _ (List.mem_of_getElem? (i := 281) rfl)) (by decide +kernel)
set_option maxRecDepth 100000 in
theorem mw_651 : Cond.selects R_Di y_Di_directory y_Di_directory ∈ lw_g := lw_gin (List.mem_append_right _ (List.mem_of_getElem? (i := 282) rfl)) (by decide +kernel)
set_option maxRecDepth 100000 in
theorem mw_652 : Cond.code y_Mo_directory b_Mo_directory 4 (some .int) ∈ lw_g := lw_gin (List.mem_append_right _ (List.mem_of_getElem? (i := 1061) rfl)) (by decide +kernel)
set_option maxRecDepth 100000 in
theorem mw_653 : Cond.methodLink R_La 55 y_Mo_directory ∈ lw_g := lw_gin (List.mem_append_right _ (List.mem_of_getElem? (i := 1058) rfl)) (by decide +kernel)
set_option maxRecDepth 100000 in
theorem mw_654 : Cond.instanceMethod y_Mo_directory ∈ lw_g := lw_gin (List.mem_append_right _ (List.mem_of_getElem? (i := 1059) rfl)) (by decide +kernel)
set_option maxRecDepth 100000 in
theorem mw_655 : Cond.selects R_Mo y_Mo_directory y_Mo_directory ∈ lw_g := lw_gin (List.mem_append_right _ (List.mem_of_getElem? (i := 1060) rfl)) (by decide +kernel)
set_option maxRecDepth 100000 in
theorem mw_656 : Cond.code y_Di_file b_Di_file 9 (some .int) ∈ lw_g := lw_gin (List.mem_append_right _ (List.mem_of_getElem? (i := 329) rfl)) (by decide +kernel)
set_option maxRecDepth 100000 in
theorem mw_657 : Cond.methodLink R_La 56 y_Di_file ∈ lw_g := lw_gin (List.mem_append_right _ (List.mem_of_getElem? (i := 326) rfl)) (by decide +kernel)
set_option maxRecDepth 100000 in
theorem mw_658 : Cond.instanceMethod y_Di_file ∈ lw_g := lw_gin (List.mem_append_right _ (List.mem_of_getElem? (i := 327) rfl)) (by decide +kernel)
set_option maxRecDepth 100000 in
theorem mw_659 : Cond.selects R_Di y_Di_file y_Di_file ∈ lw_g := lw_gin (List.mem_append_right _ (List.mem_of_getElem? (i := 328) rfl)) (by decide +kernel)
set_option maxRecDepth 100000 in
theorem mw_660 : Cond.code y_Mo_file b_Mo_file 6 (some .int) ∈ lw_g := lw_gin (List.mem_append_right _ (List.mem_of_getElem? (i := 1092) rfl)) (by decide +kernel)
set_option maxRecDepth 100000 in
theorem mw_661 : Cond.methodLink R_La 60 y_Mo_file ∈ lw_g := lw_gin (List.mem_append_right _ (List.mem_of_getElem? (i := 1089) rfl)) (by decide +kernel)
set_option maxRecDepth 100000 in
theorem mw_662 : Cond.instanceMethod y_Mo_file ∈ lw_g := lw_gin (List.mem_append_right _ (List.mem_of_getElem? (i := 1090) rfl)) (by decide +kernel)
set_option maxRecDepth 100000 in
theorem mw_663 : Cond.selects R_Mo y_Mo_file y_Mo_file ∈ lw_g := lw_gin (List.mem_append_right _ (List.mem_of_getElem? (i := 1091) rfl)) (by decide +kernel)
set_option maxRecDepth 100000 in
theorem mw_664 : Cond.code y_Di_replace b_Di_replace 5 (some .int) ∈ lw_g := lw_gin (List.mem_append_right _ (List.mem_of_getElem? (i := 338) rfl)) (by decide +kernel)
set_option maxRecDepth 100000 in
theorem mw_665 : Cond.methodLink R_La 61 y_Di_replace ∈ lw_g := lw_gin (List.mem_append_right _ (List.mem_of_getElem? (i := 335) rfl)) (by decide +kernel)
set_option maxRecDepth 100000 in
theorem mw_666 : Cond.instanceMethod y_Di_replace ∈ lw_g := lw_gin (List.mem_append_right _ (List.mem_of_getElem? (i := 336) rfl)) (by decide +kernel)
set_option maxRecDepth 100000 in
theorem mw_667 : Cond.selects R_Di y_Di_replace y_Di_replace ∈ lw_g := lw_gin (List.mem_append_right _ (List.mem_of_getElem? (i := 337) rfl)) (by decide +kernel)
set_option maxRecDepth 100000 in
theorem mw_668 : Cond.code y_Mo_replace b_Mo_replace 4 (some .int) ∈ lw_g := lw_gin (List.mem_append_right _ (List.mem_of_getElem? (i := 1099) rfl)) (by decide +kernel)
set_option maxRecDepth 100000 in
theorem mw_669 : Cond.methodLink R_La 65 y_Mo_replace ∈ lw_g := lw_gin (List.mem_append_right _ (List.mem_of_getElem? (i := 1096) rfl)) (by decide +kernel)
set_option maxRecDepth 100000 in
theorem mw_670 : Cond.instanceMethod y_Mo_replace ∈ lw_g := lw_gin (List.mem_append_right _ (List.mem_of_getElem? (i := 1097) rfl)) (by decide +kernel)
set_option maxRecDepth 100000 in
theorem mw_671 : Cond.selects R_Mo y_Mo_replace y_Mo_replace ∈ lw_g := lw_gin (List.mem_append_right _ (List.mem_of_getElem? (i := 1098) rfl)) (by decide +kernel)
set_option maxRecDepth 100000 in
theorem mw_672 : Cond.code y_Di_remove b_Di_remove 3 (some .int) ∈ lw_g := lw_gin (List.mem_append_right _ (List.mem_of_getElem? (i := 342) rfl)) (by decide +kernel)
set_option maxRecDepth 100000 in
theorem mw_673 : Cond.methodLink R_La 66 y_Di_remove ∈ lw_g := lw_gin (List.mem_append_right _ (List.mem_of_getElem? (i := 339) rfl)) (by decide +kernel)
set_option maxRecDepth 100000 in
theorem mw_674 : Cond.instanceMethod y_Di_remove ∈ lw_g := lw_gin (List.mem_append_right _ (List.mem_of_getElem? (i := 340) rfl)) (by decide +kernel)
set_option maxRecDepth 100000 in
theorem mw_675 : Cond.selects R_Di y_Di_remove y_Di_remove ∈ lw_g := lw_gin (List.mem_append_right _ (List.mem_of_getElem? (i := 341) rfl)) (by decide +kernel)
set_option maxRecDepth 100000 in
theorem mw_676 : Cond.code y_Mo_remove b_Mo_remove 3 (some .int) ∈ lw_g := lw_gin (List.mem_append_right _ (List.mem_of_getElem? (i := 1103) rfl)) (by decide +kernel)
set_option maxRecDepth 100000 in
theorem mw_677 : Cond.methodLink R_La 70 y_Mo_remove ∈ lw_g := lw_gin (List.mem_append_right _ (List.mem_of_getElem? (i := 1100) rfl)) (by decide +kernel)
set_option maxRecDepth 100000 in
theorem mw_678 : Cond.instanceMethod y_Mo_remove ∈ lw_g := lw_gin (List.mem_append_right _ (List.mem_of_getElem? (i := 1101) rfl)) (by decide +kernel)
set_option maxRecDepth 100000 in
theorem mw_679 : Cond.selects R_Mo y_Mo_remove y_Mo_remove ∈ lw_g := lw_gin (List.mem_append_right _ (List.mem_of_getElem? (i := 1102) rfl)) (by decide +kernel)
set_option maxRecDepth 100000 in
theorem mw_680 : Cond.code y_Di_rename b_Di_rename 9 (some .int) ∈ lw_g := lw_gin (List.mem_append_right _ (List.mem_of_getElem? (i := 354) rfl)) (by decide +kernel)
set_option maxRecDepth 100000 in
theorem mw_681 : Cond.methodLink R_La 71 y_Di_rename ∈ lw_g := lw_gin (List.mem_append_right _ (List.mem_of_getElem? (i := 351) rfl)) (by decide +kernel)
set_option maxRecDepth 100000 in
theorem mw_682 : Cond.instanceMethod y_Di_rename ∈ lw_g := lw_gin (List.mem_append_right _ (List.mem_of_getElem? (i := 352) rfl)) (by decide +kernel)
set_option maxRecDepth 100000 in
theorem mw_683 : Cond.selects R_Di y_Di_rename y_Di_rename ∈ lw_g := lw_gin (List.mem_append_right _ (List.mem_of_getElem? (i := 353) rfl)) (by decide +kernel)
set_option maxRecDepth 100000 in
theorem mw_684 : Cond.code y_Mo_rename b_Mo_rename 9 (some .int) ∈ lw_g := lw_gin (List.mem_append_right _ (List.mem_of_getElem? (i := 1107) rfl)) (by decide +kernel)
set_option maxRecDepth 100000 in
theorem mw_685 : Cond.methodLink R_La 75 y_Mo_rename ∈ lw_g := lw_gin (List.mem_append_right _ (List.mem_of_getElem? (i := 1104) rfl)) (by decide +kernel)
set_option maxRecDepth 100000 in
theorem mw_686 : Cond.instanceMethod y_Mo_rename ∈ lw_g := lw_gin (List.mem_append_right _ (List.mem_of_getElem? (i := 1105) rfl)) (by decide +kernel)
set_option maxRecDepth 100000 in
theorem mw_687 : Cond.selects R_Mo y_Mo_rename y_Mo_rename ∈ lw_g := lw_gin (List.mem_append_right _ (List.mem_of_getElem? (i := 1106) rfl)) (by decide +kernel)
set_option maxRecDepth 100000 in
theorem mw_688 : Cond.code y_Di_commit b_Di_commit 2 (some .int) ∈ lw_g := lw_gin (List.mem_append_right _ (List.mem_of_getElem? (i := 372) rfl)) (by decide +kernel)
set_option maxRecDepth 100000 in
theorem mw_689 : Cond.methodLink R_La 76 y_Di_commit ∈ lw_g := lw_gin (List.mem_append_right _ (List.mem_of_getElem? (i := 369) rfl)) (by decide +kernel)
set_option maxRecDepth 100000 in
theorem mw_690 : Cond.instanceMethod y_Di_commit ∈ lw_g := lw_gin (List.mem_append_right _ (List.mem_of_getElem? (i := 370) rfl)) (by decide +kernel)
set_option maxRecDepth 100000 in
theorem mw_691 : Cond.selects R_Di y_Di_commit y_Di_commit ∈ lw_g := lw_gin (List.mem_append_right _ (List.mem_of_getElem? (i := 371) rfl)) (by decide +kernel)
set_option maxRecDepth 100000 in
theorem mw_692 : Cond.code y_Mo_commit b_Mo_commit 3 (some .int) ∈ lw_g := lw_gin (List.mem_append_right _ (List.mem_of_getElem? (i := 1119) rfl)) (by decide +kernel)
set_option maxRecDepth 100000 in
theorem mw_693 : Cond.methodLink R_La 80 y_Mo_commit ∈ lw_g := lw_gin (List.mem_append_right _ (List.mem_of_getElem? (i := 1116) rfl)) (by decide +kernel)
set_option maxRecDepth 100000 in
theorem mw_694 : Cond.instanceMethod y_Mo_commit ∈ lw_g := lw_gin (List.mem_append_right _ (List.mem_of_getElem? (i := 1117) rfl)) (by decide +kernel)
set_option maxRecDepth 100000 in
theorem mw_695 : Cond.selects R_Mo y_Mo_commit y_Mo_commit ∈ lw_g := lw_gin (List.mem_append_right _ (List.mem_of_getElem? (i := 1118) rfl)) (by decide +kernel)
set_option maxRecDepth 100000 in
theorem mw_696 : Cond.code y_Di_discover b_Di_discover 3 (some .int) ∈ lw_g := lw_gin (List.mem_append_right _ (List.mem_of_getElem? (i := 598) rfl)) (by decide +kernel)
set_option maxRecDepth 100000 in
theorem mw_697 : Cond.methodLink R_La 81 y_Di_discover ∈ lw_g := lw_gin (List.mem_append_right _ (List.mem_of_getElem? (i := 595) rfl)) (by decide +kernel)
set_option maxRecDepth 100000 in
theorem mw_698 : Cond.instanceMethod y_Di_discover ∈ lw_g := lw_gin (List.mem_append_right _ (List.mem_of_getElem? (i := 596) rfl)) (by decide +kernel)
set_option maxRecDepth 100000 in
theorem mw_699 : Cond.selects R_Di y_Di_discover y_Di_discover ∈ lw_g := lw_gin (List.mem_append_right _ (List.mem_of_getElem? (i := 597) rfl)) (by decide +kernel)
set_option maxRecDepth 100000 in
theorem mw_700 : Cond.code y_Mo_discover b_Mo_discover 4 (some .int) ∈ lw_g := lw_gin (List.mem_append_right _ (List.mem_of_getElem? (i := 1292) rfl)) (by decide +kernel)
set_option maxRecDepth 100000 in
theorem mw_701 : Cond.methodLink R_La 84 y_Mo_discover ∈ lw_g := lw_gin (List.mem_append_right _ (List.mem_of_getElem? (i := 1289) rfl)) (by decide +kernel)
set_option maxRecDepth 100000 in
theorem mw_702 : Cond.instanceMethod y_Mo_discover ∈ lw_g := lw_gin (List.mem_append_right _ (List.mem_of_getElem? (i := 1290) rfl)) (by decide +kernel)
set_option maxRecDepth 100000 in
theorem mw_703 : Cond.selects R_Mo y_Mo_discover y_Mo_discover ∈ lw_g := lw_gin (List.mem_append_right _ (List.mem_of_getElem? (i := 1291) rfl)) (by decide +kernel)
set_option maxRecDepth 100000 in
theorem mw_704 : Cond.code y_Di_compact b_Di_compact 3 (some .int) ∈ lw_g := lw_gin (List.mem_append_right _ (List.mem_of_getElem? (i := 746) rfl)) (by decide +kernel)
set_option maxRecDepth 100000 in
theorem mw_705 : Cond.methodLink R_La 85 y_Di_compact ∈ lw_g := lw_gin (List.mem_append_right _ (List.mem_of_getElem? (i := 743) rfl)) (by decide +kernel)
set_option maxRecDepth 100000 in
theorem mw_706 : Cond.instanceMethod y_Di_compact ∈ lw_g := lw_gin (List.mem_append_right _ (List.mem_of_getElem? (i := 744) rfl)) (by decide +kernel)
set_option maxRecDepth 100000 in
theorem mw_707 : Cond.selects R_Di y_Di_compact y_Di_compact ∈ lw_g := lw_gin (List.mem_append_right _ (List.mem_of_getElem? (i := 745) rfl)) (by decide +kernel)
set_option maxRecDepth 100000 in
theorem mw_708 : Cond.code y_Mo_compact b_Mo_compact 4 (some .int) ∈ lw_g := lw_gin (List.mem_append_right _ (List.mem_of_getElem? (i := 1213) rfl)) (by decide +kernel)
set_option maxRecDepth 100000 in
theorem mw_709 : Cond.methodLink R_La 88 y_Mo_compact ∈ lw_g := lw_gin (List.mem_append_right _ (List.mem_of_getElem? (i := 1210) rfl)) (by decide +kernel)
set_option maxRecDepth 100000 in
theorem mw_710 : Cond.instanceMethod y_Mo_compact ∈ lw_g := lw_gin (List.mem_append_right _ (List.mem_of_getElem? (i := 1211) rfl)) (by decide +kernel)
set_option maxRecDepth 100000 in
theorem mw_711 : Cond.selects R_Mo y_Mo_compact y_Mo_compact ∈ lw_g := lw_gin (List.mem_append_right _ (List.mem_of_getElem? (i := 1212) rfl)) (by decide +kernel)
set_option maxRecDepth 100000 in
theorem mw_712 : Cond.code y_Di_state b_Di_state 2 (some .int) ∈ lw_g := lw_gin (List.mem_append_right _ (List.mem_of_getElem? (i := 767) rfl)) (by decide +kernel)
set_option maxRecDepth 100000 in
theorem mw_713 : Cond.methodLink R_La 89 y_Di_state ∈ lw_g := lw_gin (List.mem_append_right _ (List.mem_of_getElem? (i := 764) rfl)) (by decide +kernel)
set_option maxRecDepth 100000 in
theorem mw_714 : Cond.instanceMethod y_Di_state ∈ lw_g := lw_gin (List.mem_append_right _ (List.mem_of_getElem? (i := 765) rfl)) (by decide +kernel)
set_option maxRecDepth 100000 in
theorem mw_715 : Cond.selects R_Di y_Di_state y_Di_state ∈ lw_g := lw_gin (List.mem_append_right _ (List.mem_of_getElem? (i := 766) rfl)) (by decide +kernel)
set_option maxRecDepth 100000 in
theorem mw_716 : Cond.code y_Mo_state b_Mo_state 2 (some .int) ∈ lw_g := lw_gin (List.mem_append_right _ (List.mem_of_getElem? (i := 1313) rfl)) (by decide +kernel)
set_option maxRecDepth 100000 in
theorem mw_717 : Cond.methodLink R_La 92 y_Mo_state ∈ lw_g := lw_gin (List.mem_append_right _ (List.mem_of_getElem? (i := 1310) rfl)) (by decide +kernel)
set_option maxRecDepth 100000 in
theorem mw_718 : Cond.instanceMethod y_Mo_state ∈ lw_g := lw_gin (List.mem_append_right _ (List.mem_of_getElem? (i := 1311) rfl)) (by decide +kernel)
set_option maxRecDepth 100000 in
theorem mw_719 : Cond.selects R_Mo y_Mo_state y_Mo_state ∈ lw_g := lw_gin (List.mem_append_right _ (List.mem_of_getElem? (i := 1312) rfl)) (by decide +kernel)
set_option maxRecDepth 100000 in
theorem mw_720 : Cond.code y_Di_byteAt b_Di_byteAt 2 (some .int) ∈ lw_g := lw_gin (List.mem_append_right _ (List.mem_of_getElem? (i := 772) rfl)) (by decide +kernel)
set_option maxRecDepth 100000 in
theorem mw_721 : Cond.methodLink R_La 93 y_Di_byteAt ∈ lw_g := lw_gin (List.mem_append_right _ (List.mem_of_getElem? (i := 769) rfl)) (by decide +kernel)
set_option maxRecDepth 100000 in
theorem mw_722 : Cond.instanceMethod y_Di_byteAt ∈ lw_g := lw_gin (List.mem_append_right _ (List.mem_of_getElem? (i := 770) rfl)) (by decide +kernel)
set_option maxRecDepth 100000 in
theorem mw_723 : Cond.selects R_Di y_Di_byteAt y_Di_byteAt ∈ lw_g := lw_gin (List.mem_append_right _ (List.mem_of_getElem? (i := 771) rfl)) (by decide +kernel)
set_option maxRecDepth 100000 in
theorem mw_724 : Cond.code y_Mo_byteAt b_Mo_byteAt 2 (some .int) ∈ lw_g := lw_gin (List.mem_append_right _ (List.mem_of_getElem? (i := 1317) rfl)) (by decide +kernel)
set_option maxRecDepth 100000 in
theorem mw_725 : Cond.methodLink R_La 96 y_Mo_byteAt ∈ lw_g := lw_gin (List.mem_append_right _ (List.mem_of_getElem? (i := 1314) rfl)) (by decide +kernel)
set_option maxRecDepth 100000 in
theorem mw_726 : Cond.instanceMethod y_Mo_byteAt ∈ lw_g := lw_gin (List.mem_append_right _ (List.mem_of_getElem? (i := 1315) rfl)) (by decide +kernel)
set_option maxRecDepth 100000 in
theorem mw_727 : Cond.selects R_Mo y_Mo_byteAt y_Mo_byteAt ∈ lw_g := lw_gin (List.mem_append_right _ (List.mem_of_getElem? (i := 1316) rfl)) (by decide +kernel)
set_option maxRecDepth 100000 in
theorem mw_728 : Cond.code y_Di_spoil b_Di_spoil 3 (some .int) ∈ lw_g := lw_gin (List.mem_append_right _ (List.mem_of_getElem? (i := 777) rfl)) (by decide +kernel)
set_option maxRecDepth 100000 in
theorem mw_729 : Cond.methodLink R_La 97 y_Di_spoil ∈ lw_g := lw_gin (List.mem_append_right _ (List.mem_of_getElem? (i := 774) rfl)) (by decide +kernel)
set_option maxRecDepth 100000 in
theorem mw_730 : Cond.instanceMethod y_Di_spoil ∈ lw_g := lw_gin (List.mem_append_right _ (List.mem_of_getElem? (i := 775) rfl)) (by decide +kernel)
set_option maxRecDepth 100000 in
theorem mw_731 : Cond.selects R_Di y_Di_spoil y_Di_spoil ∈ lw_g := lw_gin (List.mem_append_right _ (List.mem_of_getElem? (i := 776) rfl)) (by decide +kernel)
set_option maxRecDepth 100000 in
theorem mw_732 : Cond.code y_Mo_spoil b_Mo_spoil 4 (some .int) ∈ lw_g := lw_gin (List.mem_append_right _ (List.mem_of_getElem? (i := 1321) rfl)) (by decide +kernel)
set_option maxRecDepth 100000 in
theorem mw_733 : Cond.methodLink R_La 100 y_Mo_spoil ∈ lw_g := lw_gin (List.mem_append_right _ (List.mem_of_getElem? (i := 1318) rfl)) (by decide +kernel)
set_option maxRecDepth 100000 in
theorem mw_734 : Cond.instanceMethod y_Mo_spoil ∈ lw_g := lw_gin (List.mem_append_right _ (List.mem_of_getElem? (i := 1319) rfl)) (by decide +kernel)
set_option maxRecDepth 100000 in
theorem mw_735 : Cond.selects R_Mo y_Mo_spoil y_Mo_spoil ∈ lw_g := lw_gin (List.mem_append_right _ (List.mem_of_getElem? (i := 1320) rfl)) (by decide +kernel)
set_option maxRecDepth 100000 in
theorem mw_736 : Cond.code y_Di_writes b_Di_writes 1 (some .int) ∈ lw_g := lw_gin (List.mem_append_right _ (List.mem_of_getElem? (i := 785) rfl)) (by decide +kernel)
set_option maxRecDepth 100000 in
theorem mw_737 : Cond.methodLink R_La 101 y_Di_writes ∈ lw_g := lw_gin (List.mem_append_right _ (List.mem_of_getElem? (i := 782) rfl)) (by decide +kernel)
set_option maxRecDepth 100000 in
theorem mw_738 : Cond.instanceMethod y_Di_writes ∈ lw_g := lw_gin (List.mem_append_right _ (List.mem_of_getElem? (i := 783) rfl)) (by decide +kernel)
set_option maxRecDepth 100000 in
theorem mw_739 : Cond.selects R_Di y_Di_writes y_Di_writes ∈ lw_g := lw_gin (List.mem_append_right _ (List.mem_of_getElem? (i := 784) rfl)) (by decide +kernel)
set_option maxRecDepth 100000 in
theorem mw_740 : Cond.code y_Mo_writes b_Mo_writes 1 (some .int) ∈ lw_g := lw_gin (List.mem_append_right _ (List.mem_of_getElem? (i := 1325) rfl)) (by decide +kernel)
set_option maxRecDepth 100000 in
theorem mw_741 : Cond.methodLink R_La 104 y_Mo_writes ∈ lw_g := lw_gin (List.mem_append_right _ (List.mem_of_getElem? (i := 1322) rfl)) (by decide +kernel)
set_option maxRecDepth 100000 in
theorem mw_742 : Cond.instanceMethod y_Mo_writes ∈ lw_g := lw_gin (List.mem_append_right _ (List.mem_of_getElem? (i := 1323) rfl)) (by decide +kernel)
set_option maxRecDepth 100000 in
theorem mw_743 : Cond.selects R_Mo y_Mo_writes y_Mo_writes ∈ lw_g := lw_gin (List.mem_append_right _ (List.mem_of_getElem? (i := 1324) rfl)) (by decide +kernel)
set_option maxRecDepth 100000 in
theorem mw_744 : Cond.code y_Di_open b_Di_open 5 (some .int) ∈ lw_g := lw_gin (List.mem_append_right _ (List.mem_of_getElem? (i := 789) rfl)) (by decide +kernel)
set_option maxRecDepth 100000 in
theorem mw_745 : Cond.methodLink R_La 112 y_Di_open ∈ lw_g := lw_gin (List.mem_append_right _ (List.mem_of_getElem? (i := 786) rfl)) (by decide +kernel)
set_option maxRecDepth 100000 in
theorem mw_746 : Cond.instanceMethod y_Di_open ∈ lw_g := lw_gin (List.mem_append_right _ (List.mem_of_getElem? (i := 787) rfl)) (by decide +kernel)
set_option maxRecDepth 100000 in
theorem mw_747 : Cond.selects R_Di y_Di_open y_Di_open ∈ lw_g := lw_gin (List.mem_append_right _ (List.mem_of_getElem? (i := 788) rfl)) (by decide +kernel)
set_option maxRecDepth 100000 in
theorem mw_748 : Cond.code y_Mo_open b_Mo_open 5 (some .int) ∈ lw_g := lw_gin (List.mem_append_right _ (List.mem_of_getElem? (i := 1296) rfl)) (by decide +kernel)
set_option maxRecDepth 100000 in
theorem mw_749 : Cond.methodLink R_La 115 y_Mo_open ∈ lw_g := lw_gin (List.mem_append_right _ (List.mem_of_getElem? (i := 1293) rfl)) (by decide +kernel)
set_option maxRecDepth 100000 in
theorem mw_750 : Cond.instanceMethod y_Mo_open ∈ lw_g := lw_gin (List.mem_append_right _ (List.mem_of_getElem? (i := 1294) rfl)) (by decide +kernel)
set_option maxRecDepth 100000 in
theorem mw_751 : Cond.selects R_Mo y_Mo_open y_Mo_open ∈ lw_g := lw_gin (List.mem_append_right _ (List.mem_of_getElem? (i := 1295) rfl)) (by decide +kernel)
theorem d_La_law_144 : decode b_La_law 144 = .ok (.aload_n 1, 1) := by decide +kernel
theorem d_La_law_145 : decode b_La_law 145 = .ok (.aload_n 0, 1) := by decide +kernel
theorem d_La_law_146 : decode b_La_law 146 = .ok (.iload 4, 2) := by decide +kernel
theorem d_La_law_148 : decode b_La_law 148 = .ok (.iconst 1, 1) := by decide +kernel
theorem d_La_law_149 : decode b_La_law 149 = .ok (.iadd, 1) := by decide +kernel
theorem d_La_law_150 : decode b_La_law 150 = .ok (.iaload, 1) := by decide +kernel
theorem d_La_law_151 : decode b_La_law 151 = .ok (.invokevirtual 40, 3) := by decide +kernel
theorem d_La_law_154 : decode b_La_law 154 = .ok (.aload_n 2, 1) := by decide +kernel
theorem d_La_law_155 : decode b_La_law 155 = .ok (.aload_n 0, 1) := by decide +kernel
theorem d_La_law_156 : decode b_La_law 156 = .ok (.iload 4, 2) := by decide +kernel
theorem d_La_law_158 : decode b_La_law 158 = .ok (.iconst 1, 1) := by decide +kernel
theorem d_La_law_159 : decode b_La_law 159 = .ok (.iadd, 1) := by decide +kernel
theorem d_La_law_160 : decode b_La_law 160 = .ok (.iaload, 1) := by decide +kernel
theorem d_La_law_161 : decode b_La_law 161 = .ok (.invokevirtual 44, 3) := by decide +kernel
theorem d_La_law_164 : decode b_La_law 164 = .ok (.if_icmp .eq 836, 3) := by decide +kernel
theorem d_La_law_169 : decode b_La_law 169 = .ok (.aload_n 1, 1) := by decide +kernel
theorem d_La_law_170 : decode b_La_law 170 = .ok (.aload_n 0, 1) := by decide +kernel
theorem d_La_law_171 : decode b_La_law 171 = .ok (.iload 4, 2) := by decide +kernel
theorem d_La_law_173 : decode b_La_law 173 = .ok (.iconst 1, 1) := by decide +kernel
theorem d_La_law_174 : decode b_La_law 174 = .ok (.iadd, 1) := by decide +kernel
theorem d_La_law_175 : decode b_La_law 175 = .ok (.iaload, 1) := by decide +kernel
theorem d_La_law_176 : decode b_La_law 176 = .ok (.invokevirtual 45, 3) := by decide +kernel
theorem d_La_law_179 : decode b_La_law 179 = .ok (.aload_n 2, 1) := by decide +kernel
theorem d_La_law_180 : decode b_La_law 180 = .ok (.aload_n 0, 1) := by decide +kernel
theorem d_La_law_181 : decode b_La_law 181 = .ok (.iload 4, 2) := by decide +kernel
theorem d_La_law_183 : decode b_La_law 183 = .ok (.iconst 1, 1) := by decide +kernel
theorem d_La_law_184 : decode b_La_law 184 = .ok (.iadd, 1) := by decide +kernel
theorem d_La_law_185 : decode b_La_law 185 = .ok (.iaload, 1) := by decide +kernel
theorem d_La_law_186 : decode b_La_law 186 = .ok (.invokevirtual 48, 3) := by decide +kernel
theorem d_La_law_189 : decode b_La_law 189 = .ok (.goto 811, 3) := by decide +kernel
theorem d_La_law_192 : decode b_La_law 192 = .ok (.aload_n 1, 1) := by decide +kernel
theorem d_La_law_193 : decode b_La_law 193 = .ok (.aload_n 0, 1) := by decide +kernel
theorem d_La_law_194 : decode b_La_law 194 = .ok (.iload 4, 2) := by decide +kernel
theorem d_La_law_196 : decode b_La_law 196 = .ok (.iconst 1, 1) := by decide +kernel
theorem d_La_law_197 : decode b_La_law 197 = .ok (.iadd, 1) := by decide +kernel
theorem d_La_law_198 : decode b_La_law 198 = .ok (.iaload, 1) := by decide +kernel
theorem d_La_law_199 : decode b_La_law 199 = .ok (.aload_n 0, 1) := by decide +kernel
theorem d_La_law_200 : decode b_La_law 200 = .ok (.iload 4, 2) := by decide +kernel
theorem d_La_law_202 : decode b_La_law 202 = .ok (.iconst 2, 1) := by decide +kernel
theorem d_La_law_203 : decode b_La_law 203 = .ok (.iadd, 1) := by decide +kernel
theorem d_La_law_204 : decode b_La_law 204 = .ok (.iaload, 1) := by decide +kernel
theorem d_La_law_205 : decode b_La_law 205 = .ok (.i2l, 1) := by decide +kernel
theorem d_La_law_206 : decode b_La_law 206 = .ok (.bipush 32, 2) := by decide +kernel
theorem d_La_law_208 : decode b_La_law 208 = .ok (.lshl, 1) := by decide +kernel
theorem d_La_law_209 : decode b_La_law 209 = .ok (.aload_n 0, 1) := by decide +kernel
theorem d_La_law_210 : decode b_La_law 210 = .ok (.iload 4, 2) := by decide +kernel
theorem d_La_law_212 : decode b_La_law 212 = .ok (.iconst 3, 1) := by decide +kernel
theorem d_La_law_213 : decode b_La_law 213 = .ok (.iadd, 1) := by decide +kernel
theorem d_La_law_214 : decode b_La_law 214 = .ok (.iaload, 1) := by decide +kernel
theorem d_La_law_215 : decode b_La_law 215 = .ok (.i2l, 1) := by decide +kernel
theorem d_La_law_216 : decode b_La_law 216 = .ok (.ldc2_w 49, 3) := by decide +kernel
theorem d_La_law_219 : decode b_La_law 219 = .ok (.land, 1) := by decide +kernel
theorem d_La_law_220 : decode b_La_law 220 = .ok (.lor, 1) := by decide +kernel
theorem d_La_law_221 : decode b_La_law 221 = .ok (.invokevirtual 51, 3) := by decide +kernel
theorem d_La_law_224 : decode b_La_law 224 = .ok (.aload_n 2, 1) := by decide +kernel
theorem d_La_law_225 : decode b_La_law 225 = .ok (.aload_n 0, 1) := by decide +kernel
theorem d_La_law_226 : decode b_La_law 226 = .ok (.iload 4, 2) := by decide +kernel
theorem d_La_law_228 : decode b_La_law 228 = .ok (.iconst 1, 1) := by decide +kernel
theorem d_La_law_229 : decode b_La_law 229 = .ok (.iadd, 1) := by decide +kernel
theorem d_La_law_230 : decode b_La_law 230 = .ok (.iaload, 1) := by decide +kernel
theorem d_La_law_231 : decode b_La_law 231 = .ok (.aload_n 0, 1) := by decide +kernel
theorem d_La_law_232 : decode b_La_law 232 = .ok (.iload 4, 2) := by decide +kernel
theorem d_La_law_234 : decode b_La_law 234 = .ok (.iconst 2, 1) := by decide +kernel
theorem d_La_law_235 : decode b_La_law 235 = .ok (.iadd, 1) := by decide +kernel
theorem d_La_law_236 : decode b_La_law 236 = .ok (.iaload, 1) := by decide +kernel
theorem d_La_law_237 : decode b_La_law 237 = .ok (.i2l, 1) := by decide +kernel
theorem d_La_law_238 : decode b_La_law 238 = .ok (.bipush 32, 2) := by decide +kernel
theorem d_La_law_240 : decode b_La_law 240 = .ok (.lshl, 1) := by decide +kernel
theorem d_La_law_241 : decode b_La_law 241 = .ok (.aload_n 0, 1) := by decide +kernel
theorem d_La_law_242 : decode b_La_law 242 = .ok (.iload 4, 2) := by decide +kernel
theorem d_La_law_244 : decode b_La_law 244 = .ok (.iconst 3, 1) := by decide +kernel
theorem d_La_law_245 : decode b_La_law 245 = .ok (.iadd, 1) := by decide +kernel
theorem d_La_law_246 : decode b_La_law 246 = .ok (.iaload, 1) := by decide +kernel
theorem d_La_law_247 : decode b_La_law 247 = .ok (.i2l, 1) := by decide +kernel
theorem d_La_law_248 : decode b_La_law 248 = .ok (.ldc2_w 49, 3) := by decide +kernel
theorem d_La_law_251 : decode b_La_law 251 = .ok (.land, 1) := by decide +kernel
theorem d_La_law_252 : decode b_La_law 252 = .ok (.lor, 1) := by decide +kernel
theorem d_La_law_253 : decode b_La_law 253 = .ok (.invokevirtual 55, 3) := by decide +kernel
theorem d_La_law_256 : decode b_La_law 256 = .ok (.if_icmp .eq 744, 3) := by decide +kernel
theorem d_La_law_261 : decode b_La_law 261 = .ok (.aload_n 1, 1) := by decide +kernel
theorem d_La_law_262 : decode b_La_law 262 = .ok (.aload_n 0, 1) := by decide +kernel
theorem d_La_law_263 : decode b_La_law 263 = .ok (.iload 4, 2) := by decide +kernel
theorem d_La_law_265 : decode b_La_law 265 = .ok (.iconst 1, 1) := by decide +kernel
theorem d_La_law_266 : decode b_La_law 266 = .ok (.iadd, 1) := by decide +kernel
theorem d_La_law_267 : decode b_La_law 267 = .ok (.iaload, 1) := by decide +kernel
theorem d_La_law_268 : decode b_La_law 268 = .ok (.aload_n 0, 1) := by decide +kernel
theorem d_La_law_269 : decode b_La_law 269 = .ok (.iload 4, 2) := by decide +kernel
theorem d_La_law_271 : decode b_La_law 271 = .ok (.iconst 2, 1) := by decide +kernel
theorem d_La_law_272 : decode b_La_law 272 = .ok (.iadd, 1) := by decide +kernel
theorem d_La_law_273 : decode b_La_law 273 = .ok (.iaload, 1) := by decide +kernel
theorem d_La_law_274 : decode b_La_law 274 = .ok (.i2l, 1) := by decide +kernel
theorem d_La_law_275 : decode b_La_law 275 = .ok (.bipush 32, 2) := by decide +kernel
theorem d_La_law_277 : decode b_La_law 277 = .ok (.lshl, 1) := by decide +kernel
theorem d_La_law_278 : decode b_La_law 278 = .ok (.aload_n 0, 1) := by decide +kernel
theorem d_La_law_279 : decode b_La_law 279 = .ok (.iload 4, 2) := by decide +kernel
theorem d_La_law_281 : decode b_La_law 281 = .ok (.iconst 3, 1) := by decide +kernel
theorem d_La_law_282 : decode b_La_law 282 = .ok (.iadd, 1) := by decide +kernel
theorem d_La_law_283 : decode b_La_law 283 = .ok (.iaload, 1) := by decide +kernel
theorem d_La_law_284 : decode b_La_law 284 = .ok (.i2l, 1) := by decide +kernel
theorem d_La_law_285 : decode b_La_law 285 = .ok (.ldc2_w 49, 3) := by decide +kernel
theorem d_La_law_288 : decode b_La_law 288 = .ok (.land, 1) := by decide +kernel
theorem d_La_law_289 : decode b_La_law 289 = .ok (.lor, 1) := by decide +kernel
theorem d_La_law_290 : decode b_La_law 290 = .ok (.aload_n 0, 1) := by decide +kernel
theorem d_La_law_291 : decode b_La_law 291 = .ok (.iload 4, 2) := by decide +kernel
theorem d_La_law_293 : decode b_La_law 293 = .ok (.iconst 4, 1) := by decide +kernel
theorem d_La_law_294 : decode b_La_law 294 = .ok (.iadd, 1) := by decide +kernel
theorem d_La_law_295 : decode b_La_law 295 = .ok (.iaload, 1) := by decide +kernel
theorem d_La_law_296 : decode b_La_law 296 = .ok (.aload_n 0, 1) := by decide +kernel
theorem d_La_law_297 : decode b_La_law 297 = .ok (.iload 4, 2) := by decide +kernel
theorem d_La_law_299 : decode b_La_law 299 = .ok (.iconst 5, 1) := by decide +kernel
theorem d_La_law_300 : decode b_La_law 300 = .ok (.iadd, 1) := by decide +kernel
theorem d_La_law_301 : decode b_La_law 301 = .ok (.iaload, 1) := by decide +kernel
theorem d_La_law_302 : decode b_La_law 302 = .ok (.invokevirtual 56, 3) := by decide +kernel
theorem d_La_law_305 : decode b_La_law 305 = .ok (.aload_n 2, 1) := by decide +kernel
theorem d_La_law_306 : decode b_La_law 306 = .ok (.aload_n 0, 1) := by decide +kernel
theorem d_La_law_307 : decode b_La_law 307 = .ok (.iload 4, 2) := by decide +kernel
theorem d_La_law_309 : decode b_La_law 309 = .ok (.iconst 1, 1) := by decide +kernel
theorem d_La_law_310 : decode b_La_law 310 = .ok (.iadd, 1) := by decide +kernel
theorem d_La_law_311 : decode b_La_law 311 = .ok (.iaload, 1) := by decide +kernel
theorem d_La_law_312 : decode b_La_law 312 = .ok (.aload_n 0, 1) := by decide +kernel
theorem d_La_law_313 : decode b_La_law 313 = .ok (.iload 4, 2) := by decide +kernel
theorem d_La_law_315 : decode b_La_law 315 = .ok (.iconst 2, 1) := by decide +kernel
theorem d_La_law_316 : decode b_La_law 316 = .ok (.iadd, 1) := by decide +kernel
theorem d_La_law_317 : decode b_La_law 317 = .ok (.iaload, 1) := by decide +kernel
theorem d_La_law_318 : decode b_La_law 318 = .ok (.i2l, 1) := by decide +kernel
theorem d_La_law_319 : decode b_La_law 319 = .ok (.bipush 32, 2) := by decide +kernel
theorem d_La_law_321 : decode b_La_law 321 = .ok (.lshl, 1) := by decide +kernel
theorem d_La_law_322 : decode b_La_law 322 = .ok (.aload_n 0, 1) := by decide +kernel
theorem d_La_law_323 : decode b_La_law 323 = .ok (.iload 4, 2) := by decide +kernel
theorem d_La_law_325 : decode b_La_law 325 = .ok (.iconst 3, 1) := by decide +kernel
theorem d_La_law_326 : decode b_La_law 326 = .ok (.iadd, 1) := by decide +kernel
theorem d_La_law_327 : decode b_La_law 327 = .ok (.iaload, 1) := by decide +kernel
theorem d_La_law_328 : decode b_La_law 328 = .ok (.i2l, 1) := by decide +kernel
theorem d_La_law_329 : decode b_La_law 329 = .ok (.ldc2_w 49, 3) := by decide +kernel
theorem d_La_law_332 : decode b_La_law 332 = .ok (.land, 1) := by decide +kernel
theorem d_La_law_333 : decode b_La_law 333 = .ok (.lor, 1) := by decide +kernel
theorem d_La_law_334 : decode b_La_law 334 = .ok (.aload_n 0, 1) := by decide +kernel
theorem d_La_law_335 : decode b_La_law 335 = .ok (.iload 4, 2) := by decide +kernel
theorem d_La_law_337 : decode b_La_law 337 = .ok (.iconst 4, 1) := by decide +kernel
theorem d_La_law_338 : decode b_La_law 338 = .ok (.iadd, 1) := by decide +kernel
theorem d_La_law_339 : decode b_La_law 339 = .ok (.iaload, 1) := by decide +kernel
theorem d_La_law_340 : decode b_La_law 340 = .ok (.aload_n 0, 1) := by decide +kernel
theorem d_La_law_341 : decode b_La_law 341 = .ok (.iload 4, 2) := by decide +kernel
theorem d_La_law_343 : decode b_La_law 343 = .ok (.iconst 5, 1) := by decide +kernel
theorem d_La_law_344 : decode b_La_law 344 = .ok (.iadd, 1) := by decide +kernel
theorem d_La_law_345 : decode b_La_law 345 = .ok (.iaload, 1) := by decide +kernel
theorem d_La_law_346 : decode b_La_law 346 = .ok (.invokevirtual 60, 3) := by decide +kernel
theorem d_La_law_349 : decode b_La_law 349 = .ok (.if_icmp .eq 651, 3) := by decide +kernel
theorem d_La_law_354 : decode b_La_law 354 = .ok (.aload_n 1, 1) := by decide +kernel
theorem d_La_law_355 : decode b_La_law 355 = .ok (.aload_n 0, 1) := by decide +kernel
theorem d_La_law_356 : decode b_La_law 356 = .ok (.iload 4, 2) := by decide +kernel
theorem d_La_law_358 : decode b_La_law 358 = .ok (.iconst 1, 1) := by decide +kernel
theorem d_La_law_359 : decode b_La_law 359 = .ok (.iadd, 1) := by decide +kernel
theorem d_La_law_360 : decode b_La_law 360 = .ok (.iaload, 1) := by decide +kernel
theorem d_La_law_361 : decode b_La_law 361 = .ok (.aload_n 0, 1) := by decide +kernel
theorem d_La_law_362 : decode b_La_law 362 = .ok (.iload 4, 2) := by decide +kernel
theorem d_La_law_364 : decode b_La_law 364 = .ok (.iconst 2, 1) := by decide +kernel
theorem d_La_law_365 : decode b_La_law 365 = .ok (.iadd, 1) := by decide +kernel
theorem d_La_law_366 : decode b_La_law 366 = .ok (.iaload, 1) := by decide +kernel
theorem d_La_law_367 : decode b_La_law 367 = .ok (.aload_n 0, 1) := by decide +kernel
theorem d_La_law_368 : decode b_La_law 368 = .ok (.iload 4, 2) := by decide +kernel
theorem d_La_law_370 : decode b_La_law 370 = .ok (.iconst 3, 1) := by decide +kernel
theorem d_La_law_371 : decode b_La_law 371 = .ok (.iadd, 1) := by decide +kernel
theorem d_La_law_372 : decode b_La_law 372 = .ok (.iaload, 1) := by decide +kernel
theorem d_La_law_373 : decode b_La_law 373 = .ok (.invokevirtual 61, 3) := by decide +kernel
theorem d_La_law_376 : decode b_La_law 376 = .ok (.aload_n 2, 1) := by decide +kernel
theorem d_La_law_377 : decode b_La_law 377 = .ok (.aload_n 0, 1) := by decide +kernel
theorem d_La_law_378 : decode b_La_law 378 = .ok (.iload 4, 2) := by decide +kernel
theorem d_La_law_380 : decode b_La_law 380 = .ok (.iconst 1, 1) := by decide +kernel
theorem d_La_law_381 : decode b_La_law 381 = .ok (.iadd, 1) := by decide +kernel
theorem d_La_law_382 : decode b_La_law 382 = .ok (.iaload, 1) := by decide +kernel
theorem d_La_law_383 : decode b_La_law 383 = .ok (.aload_n 0, 1) := by decide +kernel
theorem d_La_law_384 : decode b_La_law 384 = .ok (.iload 4, 2) := by decide +kernel
theorem d_La_law_386 : decode b_La_law 386 = .ok (.iconst 2, 1) := by decide +kernel
theorem d_La_law_387 : decode b_La_law 387 = .ok (.iadd, 1) := by decide +kernel
theorem d_La_law_388 : decode b_La_law 388 = .ok (.iaload, 1) := by decide +kernel
theorem d_La_law_389 : decode b_La_law 389 = .ok (.aload_n 0, 1) := by decide +kernel
theorem d_La_law_390 : decode b_La_law 390 = .ok (.iload 4, 2) := by decide +kernel
theorem d_La_law_392 : decode b_La_law 392 = .ok (.iconst 3, 1) := by decide +kernel
theorem d_La_law_393 : decode b_La_law 393 = .ok (.iadd, 1) := by decide +kernel
theorem d_La_law_394 : decode b_La_law 394 = .ok (.iaload, 1) := by decide +kernel
theorem d_La_law_395 : decode b_La_law 395 = .ok (.invokevirtual 65, 3) := by decide +kernel
theorem d_La_law_398 : decode b_La_law 398 = .ok (.if_icmp .eq 602, 3) := by decide +kernel
theorem d_La_law_403 : decode b_La_law 403 = .ok (.aload_n 1, 1) := by decide +kernel
theorem d_La_law_404 : decode b_La_law 404 = .ok (.aload_n 0, 1) := by decide +kernel
theorem d_La_law_405 : decode b_La_law 405 = .ok (.iload 4, 2) := by decide +kernel
theorem d_La_law_407 : decode b_La_law 407 = .ok (.iconst 1, 1) := by decide +kernel
theorem d_La_law_408 : decode b_La_law 408 = .ok (.iadd, 1) := by decide +kernel
theorem d_La_law_409 : decode b_La_law 409 = .ok (.iaload, 1) := by decide +kernel
theorem d_La_law_410 : decode b_La_law 410 = .ok (.invokevirtual 66, 3) := by decide +kernel
theorem d_La_law_413 : decode b_La_law 413 = .ok (.aload_n 2, 1) := by decide +kernel
theorem d_La_law_414 : decode b_La_law 414 = .ok (.aload_n 0, 1) := by decide +kernel
theorem d_La_law_415 : decode b_La_law 415 = .ok (.iload 4, 2) := by decide +kernel
theorem d_La_law_417 : decode b_La_law 417 = .ok (.iconst 1, 1) := by decide +kernel
theorem d_La_law_418 : decode b_La_law 418 = .ok (.iadd, 1) := by decide +kernel
theorem d_La_law_419 : decode b_La_law 419 = .ok (.iaload, 1) := by decide +kernel
theorem d_La_law_420 : decode b_La_law 420 = .ok (.invokevirtual 70, 3) := by decide +kernel
theorem d_La_law_423 : decode b_La_law 423 = .ok (.if_icmp .eq 577, 3) := by decide +kernel
theorem d_La_law_428 : decode b_La_law 428 = .ok (.aload_n 1, 1) := by decide +kernel
theorem d_La_law_429 : decode b_La_law 429 = .ok (.aload_n 0, 1) := by decide +kernel
theorem d_La_law_430 : decode b_La_law 430 = .ok (.iload 4, 2) := by decide +kernel
theorem d_La_law_432 : decode b_La_law 432 = .ok (.iconst 1, 1) := by decide +kernel
theorem d_La_law_433 : decode b_La_law 433 = .ok (.iadd, 1) := by decide +kernel
theorem d_La_law_434 : decode b_La_law 434 = .ok (.iaload, 1) := by decide +kernel
theorem d_La_law_435 : decode b_La_law 435 = .ok (.aload_n 0, 1) := by decide +kernel
theorem d_La_law_436 : decode b_La_law 436 = .ok (.iload 4, 2) := by decide +kernel
theorem d_La_law_438 : decode b_La_law 438 = .ok (.iconst 2, 1) := by decide +kernel
theorem d_La_law_439 : decode b_La_law 439 = .ok (.iadd, 1) := by decide +kernel
theorem d_La_law_440 : decode b_La_law 440 = .ok (.iaload, 1) := by decide +kernel
theorem d_La_law_441 : decode b_La_law 441 = .ok (.aload_n 0, 1) := by decide +kernel
theorem d_La_law_442 : decode b_La_law 442 = .ok (.iload 4, 2) := by decide +kernel
theorem d_La_law_444 : decode b_La_law 444 = .ok (.iconst 3, 1) := by decide +kernel
theorem d_La_law_445 : decode b_La_law 445 = .ok (.iadd, 1) := by decide +kernel
theorem d_La_law_446 : decode b_La_law 446 = .ok (.iaload, 1) := by decide +kernel
theorem d_La_law_447 : decode b_La_law 447 = .ok (.i2l, 1) := by decide +kernel
theorem d_La_law_448 : decode b_La_law 448 = .ok (.bipush 32, 2) := by decide +kernel
theorem d_La_law_450 : decode b_La_law 450 = .ok (.lshl, 1) := by decide +kernel
theorem d_La_law_451 : decode b_La_law 451 = .ok (.aload_n 0, 1) := by decide +kernel
theorem d_La_law_452 : decode b_La_law 452 = .ok (.iload 4, 2) := by decide +kernel
theorem d_La_law_454 : decode b_La_law 454 = .ok (.iconst 4, 1) := by decide +kernel
theorem d_La_law_455 : decode b_La_law 455 = .ok (.iadd, 1) := by decide +kernel
theorem d_La_law_456 : decode b_La_law 456 = .ok (.iaload, 1) := by decide +kernel
theorem d_La_law_457 : decode b_La_law 457 = .ok (.i2l, 1) := by decide +kernel
theorem d_La_law_458 : decode b_La_law 458 = .ok (.ldc2_w 49, 3) := by decide +kernel
theorem d_La_law_461 : decode b_La_law 461 = .ok (.land, 1) := by decide +kernel
theorem d_La_law_462 : decode b_La_law 462 = .ok (.lor, 1) := by decide +kernel
theorem d_La_law_463 : decode b_La_law 463 = .ok (.invokevirtual 71, 3) := by decide +kernel
theorem d_La_law_466 : decode b_La_law 466 = .ok (.aload_n 2, 1) := by decide +kernel
theorem d_La_law_467 : decode b_La_law 467 = .ok (.aload_n 0, 1) := by decide +kernel
theorem d_La_law_468 : decode b_La_law 468 = .ok (.iload 4, 2) := by decide +kernel
theorem d_La_law_470 : decode b_La_law 470 = .ok (.iconst 1, 1) := by decide +kernel
theorem d_La_law_471 : decode b_La_law 471 = .ok (.iadd, 1) := by decide +kernel
theorem d_La_law_472 : decode b_La_law 472 = .ok (.iaload, 1) := by decide +kernel
theorem d_La_law_473 : decode b_La_law 473 = .ok (.aload_n 0, 1) := by decide +kernel
theorem d_La_law_474 : decode b_La_law 474 = .ok (.iload 4, 2) := by decide +kernel
theorem d_La_law_476 : decode b_La_law 476 = .ok (.iconst 2, 1) := by decide +kernel
theorem d_La_law_477 : decode b_La_law 477 = .ok (.iadd, 1) := by decide +kernel
theorem d_La_law_478 : decode b_La_law 478 = .ok (.iaload, 1) := by decide +kernel
theorem d_La_law_479 : decode b_La_law 479 = .ok (.aload_n 0, 1) := by decide +kernel
theorem d_La_law_480 : decode b_La_law 480 = .ok (.iload 4, 2) := by decide +kernel
theorem d_La_law_482 : decode b_La_law 482 = .ok (.iconst 3, 1) := by decide +kernel
theorem d_La_law_483 : decode b_La_law 483 = .ok (.iadd, 1) := by decide +kernel
theorem d_La_law_484 : decode b_La_law 484 = .ok (.iaload, 1) := by decide +kernel
theorem d_La_law_485 : decode b_La_law 485 = .ok (.i2l, 1) := by decide +kernel
theorem d_La_law_486 : decode b_La_law 486 = .ok (.bipush 32, 2) := by decide +kernel
theorem d_La_law_488 : decode b_La_law 488 = .ok (.lshl, 1) := by decide +kernel
theorem d_La_law_489 : decode b_La_law 489 = .ok (.aload_n 0, 1) := by decide +kernel
theorem d_La_law_490 : decode b_La_law 490 = .ok (.iload 4, 2) := by decide +kernel
theorem d_La_law_492 : decode b_La_law 492 = .ok (.iconst 4, 1) := by decide +kernel
theorem d_La_law_493 : decode b_La_law 493 = .ok (.iadd, 1) := by decide +kernel
theorem d_La_law_494 : decode b_La_law 494 = .ok (.iaload, 1) := by decide +kernel
theorem d_La_law_495 : decode b_La_law 495 = .ok (.i2l, 1) := by decide +kernel
theorem d_La_law_496 : decode b_La_law 496 = .ok (.ldc2_w 49, 3) := by decide +kernel
theorem d_La_law_499 : decode b_La_law 499 = .ok (.land, 1) := by decide +kernel
theorem d_La_law_500 : decode b_La_law 500 = .ok (.lor, 1) := by decide +kernel
theorem d_La_law_501 : decode b_La_law 501 = .ok (.invokevirtual 75, 3) := by decide +kernel
theorem d_La_law_504 : decode b_La_law 504 = .ok (.if_icmp .eq 496, 3) := by decide +kernel
theorem d_La_law_509 : decode b_La_law 509 = .ok (.aload_n 1, 1) := by decide +kernel
theorem d_La_law_510 : decode b_La_law 510 = .ok (.invokevirtual 76, 3) := by decide +kernel
theorem d_La_law_513 : decode b_La_law 513 = .ok (.aload_n 2, 1) := by decide +kernel
theorem d_La_law_514 : decode b_La_law 514 = .ok (.invokevirtual 80, 3) := by decide +kernel
theorem d_La_law_517 : decode b_La_law 517 = .ok (.if_icmp .eq 483, 3) := by decide +kernel
theorem d_La_law_522 : decode b_La_law 522 = .ok (.aload_n 1, 1) := by decide +kernel
theorem d_La_law_523 : decode b_La_law 523 = .ok (.invokevirtual 81, 3) := by decide +kernel
theorem d_La_law_526 : decode b_La_law 526 = .ok (.aload_n 2, 1) := by decide +kernel
theorem d_La_law_527 : decode b_La_law 527 = .ok (.invokevirtual 84, 3) := by decide +kernel
theorem d_La_law_530 : decode b_La_law 530 = .ok (.if_icmp .eq 470, 3) := by decide +kernel
theorem d_La_law_535 : decode b_La_law 535 = .ok (.aload_n 1, 1) := by decide +kernel
theorem d_La_law_536 : decode b_La_law 536 = .ok (.invokevirtual 85, 3) := by decide +kernel
theorem d_La_law_539 : decode b_La_law 539 = .ok (.aload_n 2, 1) := by decide +kernel
theorem d_La_law_540 : decode b_La_law 540 = .ok (.invokevirtual 88, 3) := by decide +kernel
theorem d_La_law_543 : decode b_La_law 543 = .ok (.if_icmp .eq 457, 3) := by decide +kernel
theorem d_La_law_548 : decode b_La_law 548 = .ok (.aload_n 1, 1) := by decide +kernel
theorem d_La_law_549 : decode b_La_law 549 = .ok (.aload_n 0, 1) := by decide +kernel
theorem d_La_law_550 : decode b_La_law 550 = .ok (.iload 4, 2) := by decide +kernel
theorem d_La_law_552 : decode b_La_law 552 = .ok (.iconst 1, 1) := by decide +kernel
theorem d_La_law_553 : decode b_La_law 553 = .ok (.iadd, 1) := by decide +kernel
theorem d_La_law_554 : decode b_La_law 554 = .ok (.iaload, 1) := by decide +kernel
theorem d_La_law_555 : decode b_La_law 555 = .ok (.invokevirtual 89, 3) := by decide +kernel
theorem d_La_law_558 : decode b_La_law 558 = .ok (.aload_n 2, 1) := by decide +kernel
theorem d_La_law_559 : decode b_La_law 559 = .ok (.aload_n 0, 1) := by decide +kernel
theorem d_La_law_560 : decode b_La_law 560 = .ok (.iload 4, 2) := by decide +kernel
theorem d_La_law_562 : decode b_La_law 562 = .ok (.iconst 1, 1) := by decide +kernel
theorem d_La_law_563 : decode b_La_law 563 = .ok (.iadd, 1) := by decide +kernel
theorem d_La_law_564 : decode b_La_law 564 = .ok (.iaload, 1) := by decide +kernel
theorem d_La_law_565 : decode b_La_law 565 = .ok (.invokevirtual 92, 3) := by decide +kernel
theorem d_La_law_568 : decode b_La_law 568 = .ok (.if_icmp .eq 432, 3) := by decide +kernel
theorem d_La_law_573 : decode b_La_law 573 = .ok (.aload_n 1, 1) := by decide +kernel
theorem d_La_law_574 : decode b_La_law 574 = .ok (.aload_n 0, 1) := by decide +kernel
theorem d_La_law_575 : decode b_La_law 575 = .ok (.iload 4, 2) := by decide +kernel
theorem d_La_law_577 : decode b_La_law 577 = .ok (.iconst 1, 1) := by decide +kernel
theorem d_La_law_578 : decode b_La_law 578 = .ok (.iadd, 1) := by decide +kernel
theorem d_La_law_579 : decode b_La_law 579 = .ok (.iaload, 1) := by decide +kernel
theorem d_La_law_580 : decode b_La_law 580 = .ok (.invokevirtual 93, 3) := by decide +kernel
theorem d_La_law_583 : decode b_La_law 583 = .ok (.aload_n 2, 1) := by decide +kernel
theorem d_La_law_584 : decode b_La_law 584 = .ok (.aload_n 0, 1) := by decide +kernel
theorem d_La_law_585 : decode b_La_law 585 = .ok (.iload 4, 2) := by decide +kernel
theorem d_La_law_587 : decode b_La_law 587 = .ok (.iconst 1, 1) := by decide +kernel
theorem d_La_law_588 : decode b_La_law 588 = .ok (.iadd, 1) := by decide +kernel
theorem d_La_law_589 : decode b_La_law 589 = .ok (.iaload, 1) := by decide +kernel
theorem d_La_law_590 : decode b_La_law 590 = .ok (.invokevirtual 96, 3) := by decide +kernel
theorem d_La_law_593 : decode b_La_law 593 = .ok (.if_icmp .eq 407, 3) := by decide +kernel
theorem d_La_law_598 : decode b_La_law 598 = .ok (.aload_n 1, 1) := by decide +kernel
theorem d_La_law_599 : decode b_La_law 599 = .ok (.aload_n 0, 1) := by decide +kernel
theorem d_La_law_600 : decode b_La_law 600 = .ok (.iload 4, 2) := by decide +kernel
theorem d_La_law_602 : decode b_La_law 602 = .ok (.iconst 1, 1) := by decide +kernel
theorem d_La_law_603 : decode b_La_law 603 = .ok (.iadd, 1) := by decide +kernel
theorem d_La_law_604 : decode b_La_law 604 = .ok (.iaload, 1) := by decide +kernel
theorem d_La_law_605 : decode b_La_law 605 = .ok (.aload_n 0, 1) := by decide +kernel
theorem d_La_law_606 : decode b_La_law 606 = .ok (.iload 4, 2) := by decide +kernel
theorem d_La_law_608 : decode b_La_law 608 = .ok (.iconst 2, 1) := by decide +kernel
theorem d_La_law_609 : decode b_La_law 609 = .ok (.iadd, 1) := by decide +kernel
theorem d_La_law_610 : decode b_La_law 610 = .ok (.iaload, 1) := by decide +kernel
theorem d_La_law_611 : decode b_La_law 611 = .ok (.invokevirtual 97, 3) := by decide +kernel
theorem d_La_law_614 : decode b_La_law 614 = .ok (.aload_n 2, 1) := by decide +kernel
theorem d_La_law_615 : decode b_La_law 615 = .ok (.aload_n 0, 1) := by decide +kernel
theorem d_La_law_616 : decode b_La_law 616 = .ok (.iload 4, 2) := by decide +kernel
theorem d_La_law_618 : decode b_La_law 618 = .ok (.iconst 1, 1) := by decide +kernel
theorem d_La_law_619 : decode b_La_law 619 = .ok (.iadd, 1) := by decide +kernel
theorem d_La_law_620 : decode b_La_law 620 = .ok (.iaload, 1) := by decide +kernel
theorem d_La_law_621 : decode b_La_law 621 = .ok (.aload_n 0, 1) := by decide +kernel
theorem d_La_law_622 : decode b_La_law 622 = .ok (.iload 4, 2) := by decide +kernel
theorem d_La_law_624 : decode b_La_law 624 = .ok (.iconst 2, 1) := by decide +kernel
theorem d_La_law_625 : decode b_La_law 625 = .ok (.iadd, 1) := by decide +kernel
theorem d_La_law_626 : decode b_La_law 626 = .ok (.iaload, 1) := by decide +kernel
theorem d_La_law_627 : decode b_La_law 627 = .ok (.invokevirtual 100, 3) := by decide +kernel
theorem d_La_law_630 : decode b_La_law 630 = .ok (.if_icmp .eq 370, 3) := by decide +kernel
theorem d_La_law_635 : decode b_La_law 635 = .ok (.aload_n 1, 1) := by decide +kernel
theorem d_La_law_636 : decode b_La_law 636 = .ok (.invokevirtual 101, 3) := by decide +kernel
theorem d_La_law_639 : decode b_La_law 639 = .ok (.aload_n 2, 1) := by decide +kernel
theorem d_La_law_640 : decode b_La_law 640 = .ok (.invokevirtual 104, 3) := by decide +kernel
theorem d_La_law_643 : decode b_La_law 643 = .ok (.if_icmp .eq 357, 3) := by decide +kernel
theorem d_La_law_716 : decode b_La_law 716 = .ok (.aload_n 1, 1) := by decide +kernel
theorem d_La_law_717 : decode b_La_law 717 = .ok (.aload_n 0, 1) := by decide +kernel
theorem d_La_law_718 : decode b_La_law 718 = .ok (.iload 4, 2) := by decide +kernel
theorem d_La_law_720 : decode b_La_law 720 = .ok (.iconst 1, 1) := by decide +kernel
theorem d_La_law_721 : decode b_La_law 721 = .ok (.iadd, 1) := by decide +kernel
theorem d_La_law_722 : decode b_La_law 722 = .ok (.iaload, 1) := by decide +kernel
theorem d_La_law_723 : decode b_La_law 723 = .ok (.invokevirtual 112, 3) := by decide +kernel
theorem d_La_law_726 : decode b_La_law 726 = .ok (.aload_n 2, 1) := by decide +kernel
theorem d_La_law_727 : decode b_La_law 727 = .ok (.aload_n 0, 1) := by decide +kernel
theorem d_La_law_728 : decode b_La_law 728 = .ok (.iload 4, 2) := by decide +kernel
theorem d_La_law_730 : decode b_La_law 730 = .ok (.iconst 1, 1) := by decide +kernel
theorem d_La_law_731 : decode b_La_law 731 = .ok (.iadd, 1) := by decide +kernel
theorem d_La_law_732 : decode b_La_law 732 = .ok (.iaload, 1) := by decide +kernel
theorem d_La_law_733 : decode b_La_law 733 = .ok (.invokevirtual 115, 3) := by decide +kernel
theorem d_La_law_736 : decode b_La_law 736 = .ok (.if_icmp .eq 264, 3) := by decide +kernel
set_option maxHeartbeats 4000000 in
set_option maxRecDepth 100000 in
theorem law_c0 {p : Program} {e : Env} {s : State} {m : MethodId} {below : List Frame} {meth : Method} {c : Code} (l : Launch) (hfl : l.flags = flags0) {b : Nat} {xs : Nat → Int32} (hx : p.tables.exec = Jvm.exec) (hb : c.code = b_La_law) (hr : meth.sig.returnType = ret) (hml : c.maxLocals = 8) (hown : s.vm.findClass R_La = some m.cls) (hts : ∀ w ∈ lw_g, w.before #[Value.ref b] s = true) (hlocks : meth.locks = false) {D : va_G} {t : Nat → ClassId} {ak av : Nat → Nat} {x mo n A B : Nat} {h1 h3 ho : hM} {go : Nat → Int64} {H : Heap} {locs : List Loc} {ls : Array Slot} (hE0 : kE D t (gNew s.heap) ak av s) (hT0 : kT (gNew s.heap) s) (hXs : va_X b 7 xs s s.heap) (hbl : b < s.heap.size) (hS : va_S (P0 s) s.heap H locs) (hX9 : hm D vwCl (gIn H s.heap.size A) h1 H) (hM9 : hm D vwCl (gIn H A B) h3 H) (hO9 : hm D vwCl (gIn H B (B + 1)) ho H) (hFX : FrX t h1 x n) (hFM : FrM t h3 mo n) (hou : ho B = some (.inl ((t 3), 1, .inr (.inl go)))) (hmo : A ≤ mo ∧ mo < B) (hSA : s.heap.size ≤ A) (hAB : A ≤ B) (hBH : B < H.size) (hl : lv_has ls 8 [(4, .int 1), (3, .ref B), (2, .ref mo), (1, .ref x), (0, .ref b)]) : W p l e room_1 s m #[Value.ref b] below meth c H locs 340 998345 (lw_Z below #[Value.ref b] s) (F0 m 144 ls []) := by
  have hbA : ¬ P0 s b := Nat.not_le.mpr hbl
  obtain ⟨-, hn40, hn⟩ := FrX_ob hFX
  refine lv_aload_n hx hb d_La_law_144 rfl (lv_at hl 3 rfl) ?_
  refine lv_aload_n hx hb d_La_law_145 rfl (lv_at hl 4 rfl) ?_
  refine lv_iload hx hb d_La_law_146 (lv_at hl 0 rfl) ?_
  refine lv_iconst (v := 1) hx hb d_La_law_148 (by decide) ?_
  refine lv_iadd hx hb d_La_law_149 ?_
  refine va_sld hx hb hXs hbl hbA hS (show ¬ ((1 + 1 : Int32) < 0 ∨ 7 ≤ (1 + 1 : Int32).toNatClampNeg) by decide) d_La_law_150 ?_
  refine lv_topi (fun v21 e22 => ?_)
  obtain rfl : v21 = xs 2 := e22.trans (rfl)
  have px23 : ∀ q, (gIn H s.heap.size A).P q → P0 s q := fun q hq => hq.elim (fun z => z.1) (fun z => Nat.le_trans hS.1 z)
  obtain ⟨fo30, hf31⟩ := (FrX_ob hFX).1
  refine hm_callXi (va_runV (As := [.int (xs 2)]) (b := x) (rest := []) ⟨hx, hb, hml, hown, hts⟩ (c_x_defect l D t (gIn H s.heap.size A) ak av h1 x n (xs 2) hFX) ⟨cw9B 1 hts mw_631 mw_632 mw_121 rfl rfl (by decide +kernel) ⟨Nat.le_of_ble_eq_true rfl, Nat.le_of_ble_eq_true rfl⟩, hts _ mw_633, hts _ mw_634⟩ (hP_V (q := (R_Di, F_Di, 9)) kE_ok (kE_g hE0 hS rfl px23) hE0.1 hX9 hf31 rfl) rfl rfl hl.1 rfl (lv_room (Nat.le_of_ble_eq_true rfl)) d_La_law_151 ⟨Nat.le_of_ble_eq_true rfl, Nat.le_of_ble_eq_true rfl⟩) hS.2.2 px23 (fun r24 h25 H26 locs hp28 hH29 z27 hLo => ?_)
  have hS : va_S (P0 s) s.heap H26 locs := vaS_step hS rfl px23 hH29 hLo
  have hM9 : hm D vwCl (gIn H26 A B) h3 H26 := re9 hM9 hH29 (by omega) (by omega)
  have hO9 : hm D vwCl (gIn H26 B (B + 1)) ho H26 := re9 hO9 hH29 (by omega) (by omega)
  have hBH : B < H26.size := Nat.lt_of_lt_of_le hBH z27
  refine lv_aload_n hx hb d_La_law_154 rfl (lv_at hl 2 rfl) ?_
  refine lv_aload_n hx hb d_La_law_155 rfl (lv_at hl 4 rfl) ?_
  refine lv_iload hx hb d_La_law_156 (lv_at hl 0 rfl) ?_
  refine lv_iconst (v := 1) hx hb d_La_law_158 (by decide) ?_
  refine lv_iadd hx hb d_La_law_159 ?_
  refine va_sld hx hb hXs hbl hbA hS (show ¬ ((1 + 1 : Int32) < 0 ∨ 7 ≤ (1 + 1 : Int32).toNatClampNeg) by decide) d_La_law_160 ?_
  refine lv_topi (fun v32 e33 => ?_)
  obtain rfl : v32 = xs 2 := e33.trans (rfl)
  have px34 : ∀ q, (gIn H26 A B).P q → P0 s q := fun q hq => hq.elim (fun z => Nat.le_trans hSA z.1) (fun z => Nat.le_trans hS.1 z)
  obtain ⟨fo41, hf42⟩ := FrM_ob hFM
  refine hm_callXi (va_runV (As := [.int (xs 2)]) (b := mo) (rest := [.int r24]) ⟨hx, hb, hml, hown, hts⟩ (c_m_defect l D t (gIn H26 A B) ak av h3 mo n (xs 2) hFM) ⟨cw9B 1 hts mw_635 mw_636 mw_428 rfl rfl (by decide +kernel) ⟨Nat.le_of_ble_eq_true rfl, Nat.le_of_ble_eq_true rfl⟩, hts _ mw_637, hts _ mw_638⟩ (hP_V (q := (R_Mo, F_Mo, 41)) kE_ok (kE_g hE0 hS rfl px34) hE0.1 hM9 hf42 rfl) rfl rfl hl.1 rfl (lv_room (Nat.le_of_ble_eq_true rfl)) d_La_law_161 ⟨Nat.le_of_ble_eq_true rfl, Nat.le_of_ble_eq_true rfl⟩) hS.2.2 px34 (fun r35 h36 H37 locs hp39 hH40 z38 hLo => ?_)
  have hS : va_S (P0 s) s.heap H37 locs := vaS_step hS rfl px34 hH40 hLo
  have hO9 : hm D vwCl (gIn H37 B (B + 1)) ho H37 := re9 hO9 hH40 (by omega) (by omega)
  have hBH : B < H37.size := Nat.lt_of_lt_of_le hBH z38
  refine lv_icmp_eq (tgt := 1000) hx hb d_La_law_164 (by decide) (fun hc43 => ?_) (fun hc43 => absurd (eq9 hp28 hp39 (sec9 hn)) hc43)
  exact law_end l hfl hx hb hr hml hown hts hlocks hXs hbl hS (Nat.le_of_ble_eq_true rfl) (Nat.le_of_ble_eq_true rfl) (lv_sub hl [0, 4] rfl)

set_option maxHeartbeats 4000000 in
set_option maxRecDepth 100000 in
theorem law_c1 {p : Program} {e : Env} {s : State} {m : MethodId} {below : List Frame} {meth : Method} {c : Code} (l : Launch) (hfl : l.flags = flags0) {b : Nat} {xs : Nat → Int32} (hx : p.tables.exec = Jvm.exec) (hb : c.code = b_La_law) (hr : meth.sig.returnType = ret) (hml : c.maxLocals = 8) (hown : s.vm.findClass R_La = some m.cls) (hts : ∀ w ∈ lw_g, w.before #[Value.ref b] s = true) (hlocks : meth.locks = false) {D : va_G} {t : Nat → ClassId} {ak av : Nat → Nat} {x mo n A B : Nat} {h1 h3 ho : hM} {go : Nat → Int64} {H : Heap} {locs : List Loc} {ls : Array Slot} (hE0 : kE D t (gNew s.heap) ak av s) (hT0 : kT (gNew s.heap) s) (hXs : va_X b 7 xs s s.heap) (hbl : b < s.heap.size) (hS : va_S (P0 s) s.heap H locs) (hX9 : hm D vwCl (gIn H s.heap.size A) h1 H) (hM9 : hm D vwCl (gIn H A B) h3 H) (hO9 : hm D vwCl (gIn H B (B + 1)) ho H) (hFX : FrX t h1 x n) (hFM : FrM t h3 mo n) (hou : ho B = some (.inl ((t 3), 1, .inr (.inl go)))) (hmo : A ≤ mo ∧ mo < B) (hSA : s.heap.size ≤ A) (hAB : A ≤ B) (hBH : B < H.size) (hl : lv_has ls 8 [(4, .int 1), (3, .ref B), (2, .ref mo), (1, .ref x), (0, .ref b)]) : W p l e room_1 s m #[Value.ref b] below meth c H locs 340 998345 (lw_Z below #[Value.ref b] s) (F0 m 169 ls []) := by
  have hbA : ¬ P0 s b := Nat.not_le.mpr hbl
  obtain ⟨-, hn40, hn⟩ := FrX_ob hFX
  refine lv_aload_n hx hb d_La_law_169 rfl (lv_at hl 3 rfl) ?_
  refine lv_aload_n hx hb d_La_law_170 rfl (lv_at hl 4 rfl) ?_
  refine lv_iload hx hb d_La_law_171 (lv_at hl 0 rfl) ?_
  refine lv_iconst (v := 1) hx hb d_La_law_173 (by decide) ?_
  refine lv_iadd hx hb d_La_law_174 ?_
  refine va_sld hx hb hXs hbl hbA hS (show ¬ ((1 + 1 : Int32) < 0 ∨ 7 ≤ (1 + 1 : Int32).toNatClampNeg) by decide) d_La_law_175 ?_
  refine lv_topi (fun v21 e22 => ?_)
  obtain rfl : v21 = xs 2 := e22.trans (rfl)
  have px23 : ∀ q, (gIn H s.heap.size A).P q → P0 s q := fun q hq => hq.elim (fun z => z.1) (fun z => Nat.le_trans hS.1 z)
  obtain ⟨fo29, hf30⟩ := (FrX_ob hFX).1
  refine hm_callXv (va_runV (As := [.int (xs 2)]) (b := x) (rest := []) ⟨hx, hb, hml, hown, hts⟩ (c_x_power l D t (gIn H s.heap.size A) ak av h1 x n (xs 2) hFX) ⟨cw9B 1 hts mw_639 mw_640 mw_121 rfl rfl (by decide +kernel) ⟨Nat.le_of_ble_eq_true rfl, Nat.le_of_ble_eq_true rfl⟩, hts _ mw_641, hts _ mw_642⟩ (hP_V (q := (R_Di, F_Di, 9)) kE_ok (kE_g hE0 hS rfl px23) hE0.1 hX9 hf30 rfl) rfl rfl hl.1 rfl (lv_room (Nat.le_of_ble_eq_true rfl)) d_La_law_176 ⟨Nat.le_of_ble_eq_true rfl, Nat.le_of_ble_eq_true rfl⟩) hS.2.2 px23 (fun h24 H25 locs hp27 hH28 z26 hLo => ?_)
  have hS : va_S (P0 s) s.heap H25 locs := vaS_step hS rfl px23 hH28 hLo
  have hM9 : hm D vwCl (gIn H25 A B) h3 H25 := re9 hM9 hH28 (by omega) (by omega)
  have hO9 : hm D vwCl (gIn H25 B (B + 1)) ho H25 := re9 hO9 hH28 (by omega) (by omega)
  have hBH : B < H25.size := Nat.lt_of_lt_of_le hBH z26
  refine lv_aload_n hx hb d_La_law_179 rfl (lv_at hl 2 rfl) ?_
  refine lv_aload_n hx hb d_La_law_180 rfl (lv_at hl 4 rfl) ?_
  refine lv_iload hx hb d_La_law_181 (lv_at hl 0 rfl) ?_
  refine lv_iconst (v := 1) hx hb d_La_law_183 (by decide) ?_
  refine lv_iadd hx hb d_La_law_184 ?_
  refine va_sld hx hb hXs hbl hbA hS (show ¬ ((1 + 1 : Int32) < 0 ∨ 7 ≤ (1 + 1 : Int32).toNatClampNeg) by decide) d_La_law_185 ?_
  refine lv_topi (fun v31 e32 => ?_)
  obtain rfl : v31 = xs 2 := e32.trans (rfl)
  have px33 : ∀ q, (gIn H25 A B).P q → P0 s q := fun q hq => hq.elim (fun z => Nat.le_trans hSA z.1) (fun z => Nat.le_trans hS.1 z)
  obtain ⟨fo39, hf40⟩ := FrM_ob hFM
  refine hm_callXv (va_runV (As := [.int (xs 2)]) (b := mo) (rest := []) ⟨hx, hb, hml, hown, hts⟩ (c_m_power l D t (gIn H25 A B) ak av h3 mo n (xs 2) hFM) ⟨cw9B 1 hts mw_643 mw_644 mw_428 rfl rfl (by decide +kernel) ⟨Nat.le_of_ble_eq_true rfl, Nat.le_of_ble_eq_true rfl⟩, hts _ mw_645, hts _ mw_646⟩ (hP_V (q := (R_Mo, F_Mo, 41)) kE_ok (kE_g hE0 hS rfl px33) hE0.1 hM9 hf40 rfl) rfl rfl hl.1 rfl (lv_room (Nat.le_of_ble_eq_true rfl)) d_La_law_186 ⟨Nat.le_of_ble_eq_true rfl, Nat.le_of_ble_eq_true rfl⟩) hS.2.2 px33 (fun h34 H35 locs hp37 hH38 z36 hLo => ?_)
  have hS : va_S (P0 s) s.heap H35 locs := vaS_step hS rfl px33 hH38 hLo
  have hO9 : hm D vwCl (gIn H35 B (B + 1)) ho H35 := re9 hO9 hH38 (by omega) (by omega)
  have hBH : B < H35.size := Nat.lt_of_lt_of_le hBH z36
  refine lv_goto (tgt := 1000) hx hb d_La_law_189 (by decide) ?_
  exact law_end l hfl hx hb hr hml hown hts hlocks hXs hbl hS (Nat.le_of_ble_eq_true rfl) (Nat.le_of_ble_eq_true rfl) (lv_sub hl [0, 4] rfl)

set_option maxHeartbeats 4000000 in
set_option maxRecDepth 100000 in
theorem law_c2 {p : Program} {e : Env} {s : State} {m : MethodId} {below : List Frame} {meth : Method} {c : Code} (l : Launch) (hfl : l.flags = flags0) {b : Nat} {xs : Nat → Int32} (hx : p.tables.exec = Jvm.exec) (hb : c.code = b_La_law) (hr : meth.sig.returnType = ret) (hml : c.maxLocals = 8) (hown : s.vm.findClass R_La = some m.cls) (hts : ∀ w ∈ lw_g, w.before #[Value.ref b] s = true) (hlocks : meth.locks = false) {D : va_G} {t : Nat → ClassId} {ak av : Nat → Nat} {x mo n A B : Nat} {h1 h3 ho : hM} {go : Nat → Int64} {H : Heap} {locs : List Loc} {ls : Array Slot} (hE0 : kE D t (gNew s.heap) ak av s) (hT0 : kT (gNew s.heap) s) (hXs : va_X b 7 xs s s.heap) (hbl : b < s.heap.size) (hS : va_S (P0 s) s.heap H locs) (hX9 : hm D vwCl (gIn H s.heap.size A) h1 H) (hM9 : hm D vwCl (gIn H A B) h3 H) (hO9 : hm D vwCl (gIn H B (B + 1)) ho H) (hFX : FrX t h1 x n) (hFM : FrM t h3 mo n) (hou : ho B = some (.inl ((t 3), 1, .inr (.inl go)))) (hmo : A ≤ mo ∧ mo < B) (hSA : s.heap.size ≤ A) (hAB : A ≤ B) (hBH : B < H.size) (hl : lv_has ls 8 [(4, .int 1), (3, .ref B), (2, .ref mo), (1, .ref x), (0, .ref b)]) : W p l e room_1 s m #[Value.ref b] below meth c H locs 340 998345 (lw_Z below #[Value.ref b] s) (F0 m 192 ls []) := by
  have hbA : ¬ P0 s b := Nat.not_le.mpr hbl
  obtain ⟨-, hn40, hn⟩ := FrX_ob hFX
  refine lv_aload_n hx hb d_La_law_192 rfl (lv_at hl 3 rfl) ?_
  refine lv_aload_n hx hb d_La_law_193 rfl (lv_at hl 4 rfl) ?_
  refine lv_iload hx hb d_La_law_194 (lv_at hl 0 rfl) ?_
  refine lv_iconst (v := 1) hx hb d_La_law_196 (by decide) ?_
  refine lv_iadd hx hb d_La_law_197 ?_
  refine va_sld hx hb hXs hbl hbA hS (show ¬ ((1 + 1 : Int32) < 0 ∨ 7 ≤ (1 + 1 : Int32).toNatClampNeg) by decide) d_La_law_198 ?_
  refine lv_topi (fun v21 e22 => ?_)
  obtain rfl : v21 = xs 2 := e22.trans (rfl)
  refine lv_aload_n hx hb d_La_law_199 rfl (lv_at hl 4 rfl) ?_
  refine lv_iload hx hb d_La_law_200 (lv_at hl 0 rfl) ?_
  refine lv_iconst (v := 2) hx hb d_La_law_202 (by decide) ?_
  refine lv_iadd hx hb d_La_law_203 ?_
  refine va_sld hx hb hXs hbl hbA hS (show ¬ ((1 + 2 : Int32) < 0 ∨ 7 ≤ (1 + 2 : Int32).toNatClampNeg) by decide) d_La_law_204 ?_
  refine lv_topi (fun v23 e24 => ?_)
  obtain rfl : v23 = xs 3 := e24.trans (rfl)
  refine lv_i2l (v := (xs 3).toInt64) hx hb d_La_law_205 rfl ?_
  refine lv_bipush (v := 32) hx hb d_La_law_206 (by decide) ?_
  refine lv_lshl (v := ((xs 3).toInt64) <<< ((32 : Int32).toInt64 &&& 63)) hx hb d_La_law_208 rfl ?_
  refine lv_aload_n hx hb d_La_law_209 rfl (lv_at hl 4 rfl) ?_
  refine lv_iload hx hb d_La_law_210 (lv_at hl 0 rfl) ?_
  refine lv_iconst (v := 3) hx hb d_La_law_212 (by decide) ?_
  refine lv_iadd hx hb d_La_law_213 ?_
  refine va_sld hx hb hXs hbl hbA hS (show ¬ ((1 + 3 : Int32) < 0 ∨ 7 ≤ (1 + 3 : Int32).toNatClampNeg) by decide) d_La_law_214 ?_
  refine lv_topi (fun v25 e26 => ?_)
  obtain rfl : v25 = xs 4 := e26.trans (rfl)
  refine lv_i2l (v := (xs 4).toInt64) hx hb d_La_law_215 rfl ?_
  refine lv_ldc2 (v := 4294967295) hx hb hown (hts _ mw_647) d_La_law_216 ?_
  refine lv_land hx hb d_La_law_219 ?_
  refine lv_lor hx hb d_La_law_220 ?_
  have px27 : ∀ q, (gIn H s.heap.size A).P q → P0 s q := fun q hq => hq.elim (fun z => z.1) (fun z => Nat.le_trans hS.1 z)
  obtain ⟨fo34, hf35⟩ := (FrX_ob hFX).1
  refine hm_callXi (va_runV (As := [.int (xs 2), .long ((((xs 3).toInt64) <<< ((32 : Int32).toInt64 &&& 63)) ||| (((xs 4).toInt64) &&& 4294967295))]) (b := x) (rest := []) ⟨hx, hb, hml, hown, hts⟩ (c_x_directory l D t (gIn H s.heap.size A) ak av h1 x n (xs 2) ((((xs 3).toInt64) <<< ((32 : Int32).toInt64 &&& 63)) ||| (((xs 4).toInt64) &&& 4294967295)) hFX) ⟨cw9B 2 hts mw_648 mw_649 mw_121 rfl rfl (by decide +kernel) ⟨Nat.le_of_ble_eq_true rfl, Nat.le_of_ble_eq_true rfl⟩, hts _ mw_650, hts _ mw_651⟩ (hP_V (q := (R_Di, F_Di, 9)) kE_ok (kE_g hE0 hS rfl px27) hE0.1 hX9 hf35 rfl) rfl rfl hl.1 rfl (lv_room (Nat.le_of_ble_eq_true rfl)) d_La_law_221 ⟨Nat.le_of_ble_eq_true rfl, Nat.le_of_ble_eq_true rfl⟩) hS.2.2 px27 (fun r28 h29 H30 locs hp32 hH33 z31 hLo => ?_)
  have hS : va_S (P0 s) s.heap H30 locs := vaS_step hS rfl px27 hH33 hLo
  have hM9 : hm D vwCl (gIn H30 A B) h3 H30 := re9 hM9 hH33 (by omega) (by omega)
  have hO9 : hm D vwCl (gIn H30 B (B + 1)) ho H30 := re9 hO9 hH33 (by omega) (by omega)
  have hBH : B < H30.size := Nat.lt_of_lt_of_le hBH z31
  refine lv_aload_n hx hb d_La_law_224 rfl (lv_at hl 2 rfl) ?_
  refine lv_aload_n hx hb d_La_law_225 rfl (lv_at hl 4 rfl) ?_
  refine lv_iload hx hb d_La_law_226 (lv_at hl 0 rfl) ?_
  refine lv_iconst (v := 1) hx hb d_La_law_228 (by decide) ?_
  refine lv_iadd hx hb d_La_law_229 ?_
  refine va_sld hx hb hXs hbl hbA hS (show ¬ ((1 + 1 : Int32) < 0 ∨ 7 ≤ (1 + 1 : Int32).toNatClampNeg) by decide) d_La_law_230 ?_
  refine lv_topi (fun v36 e37 => ?_)
  obtain rfl : v36 = xs 2 := e37.trans (rfl)
  refine lv_aload_n hx hb d_La_law_231 rfl (lv_at hl 4 rfl) ?_
  refine lv_iload hx hb d_La_law_232 (lv_at hl 0 rfl) ?_
  refine lv_iconst (v := 2) hx hb d_La_law_234 (by decide) ?_
  refine lv_iadd hx hb d_La_law_235 ?_
  refine va_sld hx hb hXs hbl hbA hS (show ¬ ((1 + 2 : Int32) < 0 ∨ 7 ≤ (1 + 2 : Int32).toNatClampNeg) by decide) d_La_law_236 ?_
  refine lv_topi (fun v38 e39 => ?_)
  obtain rfl : v38 = xs 3 := e39.trans (rfl)
  refine lv_i2l (v := (xs 3).toInt64) hx hb d_La_law_237 rfl ?_
  refine lv_bipush (v := 32) hx hb d_La_law_238 (by decide) ?_
  refine lv_lshl (v := ((xs 3).toInt64) <<< ((32 : Int32).toInt64 &&& 63)) hx hb d_La_law_240 rfl ?_
  refine lv_aload_n hx hb d_La_law_241 rfl (lv_at hl 4 rfl) ?_
  refine lv_iload hx hb d_La_law_242 (lv_at hl 0 rfl) ?_
  refine lv_iconst (v := 3) hx hb d_La_law_244 (by decide) ?_
  refine lv_iadd hx hb d_La_law_245 ?_
  refine va_sld hx hb hXs hbl hbA hS (show ¬ ((1 + 3 : Int32) < 0 ∨ 7 ≤ (1 + 3 : Int32).toNatClampNeg) by decide) d_La_law_246 ?_
  refine lv_topi (fun v40 e41 => ?_)
  obtain rfl : v40 = xs 4 := e41.trans (rfl)
  refine lv_i2l (v := (xs 4).toInt64) hx hb d_La_law_247 rfl ?_
  refine lv_ldc2 (v := 4294967295) hx hb hown (hts _ mw_647) d_La_law_248 ?_
  refine lv_land hx hb d_La_law_251 ?_
  refine lv_lor hx hb d_La_law_252 ?_
  have px42 : ∀ q, (gIn H30 A B).P q → P0 s q := fun q hq => hq.elim (fun z => Nat.le_trans hSA z.1) (fun z => Nat.le_trans hS.1 z)
  obtain ⟨fo49, hf50⟩ := FrM_ob hFM
  refine hm_callXi (va_runV (As := [.int (xs 2), .long ((((xs 3).toInt64) <<< ((32 : Int32).toInt64 &&& 63)) ||| (((xs 4).toInt64) &&& 4294967295))]) (b := mo) (rest := [.int r28]) ⟨hx, hb, hml, hown, hts⟩ (c_m_directory l D t (gIn H30 A B) ak av h3 mo n (xs 2) ((((xs 3).toInt64) <<< ((32 : Int32).toInt64 &&& 63)) ||| (((xs 4).toInt64) &&& 4294967295)) hFM) ⟨cw9B 2 hts mw_652 mw_653 mw_428 rfl rfl (by decide +kernel) ⟨Nat.le_of_ble_eq_true rfl, Nat.le_of_ble_eq_true rfl⟩, hts _ mw_654, hts _ mw_655⟩ (hP_V (q := (R_Mo, F_Mo, 41)) kE_ok (kE_g hE0 hS rfl px42) hE0.1 hM9 hf50 rfl) rfl rfl hl.1 rfl (lv_room (Nat.le_of_ble_eq_true rfl)) d_La_law_253 ⟨Nat.le_of_ble_eq_true rfl, Nat.le_of_ble_eq_true rfl⟩) hS.2.2 px42 (fun r43 h44 H45 locs hp47 hH48 z46 hLo => ?_)
  have hS : va_S (P0 s) s.heap H45 locs := vaS_step hS rfl px42 hH48 hLo
  have hO9 : hm D vwCl (gIn H45 B (B + 1)) ho H45 := re9 hO9 hH48 (by omega) (by omega)
  have hBH : B < H45.size := Nat.lt_of_lt_of_le hBH z46
  refine lv_icmp_eq (tgt := 1000) hx hb d_La_law_256 (by decide) (fun hc51 => ?_) (fun hc51 => absurd (eq9 hp32 hp47 (fun z => z)) hc51)
  exact law_end l hfl hx hb hr hml hown hts hlocks hXs hbl hS (Nat.le_of_ble_eq_true rfl) (Nat.le_of_ble_eq_true rfl) (lv_sub hl [0, 4] rfl)

set_option maxHeartbeats 4000000 in
set_option maxRecDepth 100000 in
theorem law_c3 {p : Program} {e : Env} {s : State} {m : MethodId} {below : List Frame} {meth : Method} {c : Code} (l : Launch) (hfl : l.flags = flags0) {b : Nat} {xs : Nat → Int32} (hx : p.tables.exec = Jvm.exec) (hb : c.code = b_La_law) (hr : meth.sig.returnType = ret) (hml : c.maxLocals = 8) (hown : s.vm.findClass R_La = some m.cls) (hts : ∀ w ∈ lw_g, w.before #[Value.ref b] s = true) (hlocks : meth.locks = false) {D : va_G} {t : Nat → ClassId} {ak av : Nat → Nat} {x mo n A B : Nat} {h1 h3 ho : hM} {go : Nat → Int64} {H : Heap} {locs : List Loc} {ls : Array Slot} (hE0 : kE D t (gNew s.heap) ak av s) (hT0 : kT (gNew s.heap) s) (hXs : va_X b 7 xs s s.heap) (hbl : b < s.heap.size) (hS : va_S (P0 s) s.heap H locs) (hX9 : hm D vwCl (gIn H s.heap.size A) h1 H) (hM9 : hm D vwCl (gIn H A B) h3 H) (hO9 : hm D vwCl (gIn H B (B + 1)) ho H) (hFX : FrX t h1 x n) (hFM : FrM t h3 mo n) (hou : ho B = some (.inl ((t 3), 1, .inr (.inl go)))) (hmo : A ≤ mo ∧ mo < B) (hSA : s.heap.size ≤ A) (hAB : A ≤ B) (hBH : B < H.size) (hl : lv_has ls 8 [(4, .int 1), (3, .ref B), (2, .ref mo), (1, .ref x), (0, .ref b)]) : W p l e room_1 s m #[Value.ref b] below meth c H locs 340 998345 (lw_Z below #[Value.ref b] s) (F0 m 261 ls []) := by
  have hbA : ¬ P0 s b := Nat.not_le.mpr hbl
  obtain ⟨-, hn40, hn⟩ := FrX_ob hFX
  refine lv_aload_n hx hb d_La_law_261 rfl (lv_at hl 3 rfl) ?_
  refine lv_aload_n hx hb d_La_law_262 rfl (lv_at hl 4 rfl) ?_
  refine lv_iload hx hb d_La_law_263 (lv_at hl 0 rfl) ?_
  refine lv_iconst (v := 1) hx hb d_La_law_265 (by decide) ?_
  refine lv_iadd hx hb d_La_law_266 ?_
  refine va_sld hx hb hXs hbl hbA hS (show ¬ ((1 + 1 : Int32) < 0 ∨ 7 ≤ (1 + 1 : Int32).toNatClampNeg) by decide) d_La_law_267 ?_
  refine lv_topi (fun v21 e22 => ?_)
  obtain rfl : v21 = xs 2 := e22.trans (rfl)
  refine lv_aload_n hx hb d_La_law_268 rfl (lv_at hl 4 rfl) ?_
  refine lv_iload hx hb d_La_law_269 (lv_at hl 0 rfl) ?_
  refine lv_iconst (v := 2) hx hb d_La_law_271 (by decide) ?_
  refine lv_iadd hx hb d_La_law_272 ?_
  refine va_sld hx hb hXs hbl hbA hS (show ¬ ((1 + 2 : Int32) < 0 ∨ 7 ≤ (1 + 2 : Int32).toNatClampNeg) by decide) d_La_law_273 ?_
  refine lv_topi (fun v23 e24 => ?_)
  obtain rfl : v23 = xs 3 := e24.trans (rfl)
  refine lv_i2l (v := (xs 3).toInt64) hx hb d_La_law_274 rfl ?_
  refine lv_bipush (v := 32) hx hb d_La_law_275 (by decide) ?_
  refine lv_lshl (v := ((xs 3).toInt64) <<< ((32 : Int32).toInt64 &&& 63)) hx hb d_La_law_277 rfl ?_
  refine lv_aload_n hx hb d_La_law_278 rfl (lv_at hl 4 rfl) ?_
  refine lv_iload hx hb d_La_law_279 (lv_at hl 0 rfl) ?_
  refine lv_iconst (v := 3) hx hb d_La_law_281 (by decide) ?_
  refine lv_iadd hx hb d_La_law_282 ?_
  refine va_sld hx hb hXs hbl hbA hS (show ¬ ((1 + 3 : Int32) < 0 ∨ 7 ≤ (1 + 3 : Int32).toNatClampNeg) by decide) d_La_law_283 ?_
  refine lv_topi (fun v25 e26 => ?_)
  obtain rfl : v25 = xs 4 := e26.trans (rfl)
  refine lv_i2l (v := (xs 4).toInt64) hx hb d_La_law_284 rfl ?_
  refine lv_ldc2 (v := 4294967295) hx hb hown (hts _ mw_647) d_La_law_285 ?_
  refine lv_land hx hb d_La_law_288 ?_
  refine lv_lor hx hb d_La_law_289 ?_
  refine lv_aload_n hx hb d_La_law_290 rfl (lv_at hl 4 rfl) ?_
  refine lv_iload hx hb d_La_law_291 (lv_at hl 0 rfl) ?_
  refine lv_iconst (v := 4) hx hb d_La_law_293 (by decide) ?_
  refine lv_iadd hx hb d_La_law_294 ?_
  refine va_sld hx hb hXs hbl hbA hS (show ¬ ((1 + 4 : Int32) < 0 ∨ 7 ≤ (1 + 4 : Int32).toNatClampNeg) by decide) d_La_law_295 ?_
  refine lv_topi (fun v27 e28 => ?_)
  obtain rfl : v27 = xs 5 := e28.trans (rfl)
  refine lv_aload_n hx hb d_La_law_296 rfl (lv_at hl 4 rfl) ?_
  refine lv_iload hx hb d_La_law_297 (lv_at hl 0 rfl) ?_
  refine lv_iconst (v := 5) hx hb d_La_law_299 (by decide) ?_
  refine lv_iadd hx hb d_La_law_300 ?_
  refine va_sld hx hb hXs hbl hbA hS (show ¬ ((1 + 5 : Int32) < 0 ∨ 7 ≤ (1 + 5 : Int32).toNatClampNeg) by decide) d_La_law_301 ?_
  refine lv_topi (fun v29 e30 => ?_)
  obtain rfl : v29 = xs 6 := e30.trans (rfl)
  have px31 : ∀ q, (gIn H s.heap.size A).P q → P0 s q := fun q hq => hq.elim (fun z => z.1) (fun z => Nat.le_trans hS.1 z)
  obtain ⟨fo38, hf39⟩ := (FrX_ob hFX).1
  refine hm_callXi (va_runV (As := [.int (xs 2), .long ((((xs 3).toInt64) <<< ((32 : Int32).toInt64 &&& 63)) ||| (((xs 4).toInt64) &&& 4294967295)), .int (xs 5), .int (xs 6)]) (b := x) (rest := []) ⟨hx, hb, hml, hown, hts⟩ (c_x_file l D t (gIn H s.heap.size A) ak av h1 x n (xs 2) ((((xs 3).toInt64) <<< ((32 : Int32).toInt64 &&& 63)) ||| (((xs 4).toInt64) &&& 4294967295)) (xs 5) (xs 6) hFX) ⟨cw9B 4 hts mw_656 mw_657 mw_121 rfl rfl (by decide +kernel) ⟨Nat.le_of_ble_eq_true rfl, Nat.le_of_ble_eq_true rfl⟩, hts _ mw_658, hts _ mw_659⟩ (hP_V (q := (R_Di, F_Di, 9)) kE_ok (kE_g hE0 hS rfl px31) hE0.1 hX9 hf39 rfl) rfl rfl hl.1 rfl (lv_room (Nat.le_of_ble_eq_true rfl)) d_La_law_302 ⟨Nat.le_of_ble_eq_true rfl, Nat.le_of_ble_eq_true rfl⟩) hS.2.2 px31 (fun r32 h33 H34 locs hp36 hH37 z35 hLo => ?_)
  have hS : va_S (P0 s) s.heap H34 locs := vaS_step hS rfl px31 hH37 hLo
  have hM9 : hm D vwCl (gIn H34 A B) h3 H34 := re9 hM9 hH37 (by omega) (by omega)
  have hO9 : hm D vwCl (gIn H34 B (B + 1)) ho H34 := re9 hO9 hH37 (by omega) (by omega)
  have hBH : B < H34.size := Nat.lt_of_lt_of_le hBH z35
  refine lv_aload_n hx hb d_La_law_305 rfl (lv_at hl 2 rfl) ?_
  refine lv_aload_n hx hb d_La_law_306 rfl (lv_at hl 4 rfl) ?_
  refine lv_iload hx hb d_La_law_307 (lv_at hl 0 rfl) ?_
  refine lv_iconst (v := 1) hx hb d_La_law_309 (by decide) ?_
  refine lv_iadd hx hb d_La_law_310 ?_
  refine va_sld hx hb hXs hbl hbA hS (show ¬ ((1 + 1 : Int32) < 0 ∨ 7 ≤ (1 + 1 : Int32).toNatClampNeg) by decide) d_La_law_311 ?_
  refine lv_topi (fun v40 e41 => ?_)
  obtain rfl : v40 = xs 2 := e41.trans (rfl)
  refine lv_aload_n hx hb d_La_law_312 rfl (lv_at hl 4 rfl) ?_
  refine lv_iload hx hb d_La_law_313 (lv_at hl 0 rfl) ?_
  refine lv_iconst (v := 2) hx hb d_La_law_315 (by decide) ?_
  refine lv_iadd hx hb d_La_law_316 ?_
  refine va_sld hx hb hXs hbl hbA hS (show ¬ ((1 + 2 : Int32) < 0 ∨ 7 ≤ (1 + 2 : Int32).toNatClampNeg) by decide) d_La_law_317 ?_
  refine lv_topi (fun v42 e43 => ?_)
  obtain rfl : v42 = xs 3 := e43.trans (rfl)
  refine lv_i2l (v := (xs 3).toInt64) hx hb d_La_law_318 rfl ?_
  refine lv_bipush (v := 32) hx hb d_La_law_319 (by decide) ?_
  refine lv_lshl (v := ((xs 3).toInt64) <<< ((32 : Int32).toInt64 &&& 63)) hx hb d_La_law_321 rfl ?_
  refine lv_aload_n hx hb d_La_law_322 rfl (lv_at hl 4 rfl) ?_
  refine lv_iload hx hb d_La_law_323 (lv_at hl 0 rfl) ?_
  refine lv_iconst (v := 3) hx hb d_La_law_325 (by decide) ?_
  refine lv_iadd hx hb d_La_law_326 ?_
  refine va_sld hx hb hXs hbl hbA hS (show ¬ ((1 + 3 : Int32) < 0 ∨ 7 ≤ (1 + 3 : Int32).toNatClampNeg) by decide) d_La_law_327 ?_
  refine lv_topi (fun v44 e45 => ?_)
  obtain rfl : v44 = xs 4 := e45.trans (rfl)
  refine lv_i2l (v := (xs 4).toInt64) hx hb d_La_law_328 rfl ?_
  refine lv_ldc2 (v := 4294967295) hx hb hown (hts _ mw_647) d_La_law_329 ?_
  refine lv_land hx hb d_La_law_332 ?_
  refine lv_lor hx hb d_La_law_333 ?_
  refine lv_aload_n hx hb d_La_law_334 rfl (lv_at hl 4 rfl) ?_
  refine lv_iload hx hb d_La_law_335 (lv_at hl 0 rfl) ?_
  refine lv_iconst (v := 4) hx hb d_La_law_337 (by decide) ?_
  refine lv_iadd hx hb d_La_law_338 ?_
  refine va_sld hx hb hXs hbl hbA hS (show ¬ ((1 + 4 : Int32) < 0 ∨ 7 ≤ (1 + 4 : Int32).toNatClampNeg) by decide) d_La_law_339 ?_
  refine lv_topi (fun v46 e47 => ?_)
  obtain rfl : v46 = xs 5 := e47.trans (rfl)
  refine lv_aload_n hx hb d_La_law_340 rfl (lv_at hl 4 rfl) ?_
  refine lv_iload hx hb d_La_law_341 (lv_at hl 0 rfl) ?_
  refine lv_iconst (v := 5) hx hb d_La_law_343 (by decide) ?_
  refine lv_iadd hx hb d_La_law_344 ?_
  refine va_sld hx hb hXs hbl hbA hS (show ¬ ((1 + 5 : Int32) < 0 ∨ 7 ≤ (1 + 5 : Int32).toNatClampNeg) by decide) d_La_law_345 ?_
  refine lv_topi (fun v48 e49 => ?_)
  obtain rfl : v48 = xs 6 := e49.trans (rfl)
  have px50 : ∀ q, (gIn H34 A B).P q → P0 s q := fun q hq => hq.elim (fun z => Nat.le_trans hSA z.1) (fun z => Nat.le_trans hS.1 z)
  obtain ⟨fo57, hf58⟩ := FrM_ob hFM
  refine hm_callXi (va_runV (As := [.int (xs 2), .long ((((xs 3).toInt64) <<< ((32 : Int32).toInt64 &&& 63)) ||| (((xs 4).toInt64) &&& 4294967295)), .int (xs 5), .int (xs 6)]) (b := mo) (rest := [.int r32]) ⟨hx, hb, hml, hown, hts⟩ (c_m_file l D t (gIn H34 A B) ak av h3 mo n (xs 2) ((((xs 3).toInt64) <<< ((32 : Int32).toInt64 &&& 63)) ||| (((xs 4).toInt64) &&& 4294967295)) (xs 5) (xs 6) hFM) ⟨cw9B 4 hts mw_660 mw_661 mw_428 rfl rfl (by decide +kernel) ⟨Nat.le_of_ble_eq_true rfl, Nat.le_of_ble_eq_true rfl⟩, hts _ mw_662, hts _ mw_663⟩ (hP_V (q := (R_Mo, F_Mo, 41)) kE_ok (kE_g hE0 hS rfl px50) hE0.1 hM9 hf58 rfl) rfl rfl hl.1 rfl (lv_room (Nat.le_of_ble_eq_true rfl)) d_La_law_346 ⟨Nat.le_of_ble_eq_true rfl, Nat.le_of_ble_eq_true rfl⟩) hS.2.2 px50 (fun r51 h52 H53 locs hp55 hH56 z54 hLo => ?_)
  have hS : va_S (P0 s) s.heap H53 locs := vaS_step hS rfl px50 hH56 hLo
  have hO9 : hm D vwCl (gIn H53 B (B + 1)) ho H53 := re9 hO9 hH56 (by omega) (by omega)
  have hBH : B < H53.size := Nat.lt_of_lt_of_le hBH z54
  refine lv_icmp_eq (tgt := 1000) hx hb d_La_law_349 (by decide) (fun hc59 => ?_) (fun hc59 => absurd (eq9 hp36 hp55 (fun z => z)) hc59)
  exact law_end l hfl hx hb hr hml hown hts hlocks hXs hbl hS (Nat.le_of_ble_eq_true rfl) (Nat.le_of_ble_eq_true rfl) (lv_sub hl [0, 4] rfl)

set_option maxHeartbeats 4000000 in
set_option maxRecDepth 100000 in
theorem law_c4 {p : Program} {e : Env} {s : State} {m : MethodId} {below : List Frame} {meth : Method} {c : Code} (l : Launch) (hfl : l.flags = flags0) {b : Nat} {xs : Nat → Int32} (hx : p.tables.exec = Jvm.exec) (hb : c.code = b_La_law) (hr : meth.sig.returnType = ret) (hml : c.maxLocals = 8) (hown : s.vm.findClass R_La = some m.cls) (hts : ∀ w ∈ lw_g, w.before #[Value.ref b] s = true) (hlocks : meth.locks = false) {D : va_G} {t : Nat → ClassId} {ak av : Nat → Nat} {x mo n A B : Nat} {h1 h3 ho : hM} {go : Nat → Int64} {H : Heap} {locs : List Loc} {ls : Array Slot} (hE0 : kE D t (gNew s.heap) ak av s) (hT0 : kT (gNew s.heap) s) (hXs : va_X b 7 xs s s.heap) (hbl : b < s.heap.size) (hS : va_S (P0 s) s.heap H locs) (hX9 : hm D vwCl (gIn H s.heap.size A) h1 H) (hM9 : hm D vwCl (gIn H A B) h3 H) (hO9 : hm D vwCl (gIn H B (B + 1)) ho H) (hFX : FrX t h1 x n) (hFM : FrM t h3 mo n) (hou : ho B = some (.inl ((t 3), 1, .inr (.inl go)))) (hmo : A ≤ mo ∧ mo < B) (hSA : s.heap.size ≤ A) (hAB : A ≤ B) (hBH : B < H.size) (hl : lv_has ls 8 [(4, .int 1), (3, .ref B), (2, .ref mo), (1, .ref x), (0, .ref b)]) : W p l e room_1 s m #[Value.ref b] below meth c H locs 340 998345 (lw_Z below #[Value.ref b] s) (F0 m 354 ls []) := by
  have hbA : ¬ P0 s b := Nat.not_le.mpr hbl
  obtain ⟨-, hn40, hn⟩ := FrX_ob hFX
  refine lv_aload_n hx hb d_La_law_354 rfl (lv_at hl 3 rfl) ?_
  refine lv_aload_n hx hb d_La_law_355 rfl (lv_at hl 4 rfl) ?_
  refine lv_iload hx hb d_La_law_356 (lv_at hl 0 rfl) ?_
  refine lv_iconst (v := 1) hx hb d_La_law_358 (by decide) ?_
  refine lv_iadd hx hb d_La_law_359 ?_
  refine va_sld hx hb hXs hbl hbA hS (show ¬ ((1 + 1 : Int32) < 0 ∨ 7 ≤ (1 + 1 : Int32).toNatClampNeg) by decide) d_La_law_360 ?_
  refine lv_topi (fun v21 e22 => ?_)
  obtain rfl : v21 = xs 2 := e22.trans (rfl)
  refine lv_aload_n hx hb d_La_law_361 rfl (lv_at hl 4 rfl) ?_
  refine lv_iload hx hb d_La_law_362 (lv_at hl 0 rfl) ?_
  refine lv_iconst (v := 2) hx hb d_La_law_364 (by decide) ?_
  refine lv_iadd hx hb d_La_law_365 ?_
  refine va_sld hx hb hXs hbl hbA hS (show ¬ ((1 + 2 : Int32) < 0 ∨ 7 ≤ (1 + 2 : Int32).toNatClampNeg) by decide) d_La_law_366 ?_
  refine lv_topi (fun v23 e24 => ?_)
  obtain rfl : v23 = xs 3 := e24.trans (rfl)
  refine lv_aload_n hx hb d_La_law_367 rfl (lv_at hl 4 rfl) ?_
  refine lv_iload hx hb d_La_law_368 (lv_at hl 0 rfl) ?_
  refine lv_iconst (v := 3) hx hb d_La_law_370 (by decide) ?_
  refine lv_iadd hx hb d_La_law_371 ?_
  refine va_sld hx hb hXs hbl hbA hS (show ¬ ((1 + 3 : Int32) < 0 ∨ 7 ≤ (1 + 3 : Int32).toNatClampNeg) by decide) d_La_law_372 ?_
  refine lv_topi (fun v25 e26 => ?_)
  obtain rfl : v25 = xs 4 := e26.trans (rfl)
  have px27 : ∀ q, (gIn H s.heap.size A).P q → P0 s q := fun q hq => hq.elim (fun z => z.1) (fun z => Nat.le_trans hS.1 z)
  obtain ⟨fo34, hf35⟩ := (FrX_ob hFX).1
  refine hm_callXi (va_runV (As := [.int (xs 2), .int (xs 3), .int (xs 4)]) (b := x) (rest := []) ⟨hx, hb, hml, hown, hts⟩ (c_x_replace l D t (gIn H s.heap.size A) ak av h1 x n (xs 2) (xs 3) (xs 4) hFX) ⟨cw9B 3 hts mw_664 mw_665 mw_121 rfl rfl (by decide +kernel) ⟨Nat.le_of_ble_eq_true rfl, Nat.le_of_ble_eq_true rfl⟩, hts _ mw_666, hts _ mw_667⟩ (hP_V (q := (R_Di, F_Di, 9)) kE_ok (kE_g hE0 hS rfl px27) hE0.1 hX9 hf35 rfl) rfl rfl hl.1 rfl (lv_room (Nat.le_of_ble_eq_true rfl)) d_La_law_373 ⟨Nat.le_of_ble_eq_true rfl, Nat.le_of_ble_eq_true rfl⟩) hS.2.2 px27 (fun r28 h29 H30 locs hp32 hH33 z31 hLo => ?_)
  have hS : va_S (P0 s) s.heap H30 locs := vaS_step hS rfl px27 hH33 hLo
  have hM9 : hm D vwCl (gIn H30 A B) h3 H30 := re9 hM9 hH33 (by omega) (by omega)
  have hO9 : hm D vwCl (gIn H30 B (B + 1)) ho H30 := re9 hO9 hH33 (by omega) (by omega)
  have hBH : B < H30.size := Nat.lt_of_lt_of_le hBH z31
  refine lv_aload_n hx hb d_La_law_376 rfl (lv_at hl 2 rfl) ?_
  refine lv_aload_n hx hb d_La_law_377 rfl (lv_at hl 4 rfl) ?_
  refine lv_iload hx hb d_La_law_378 (lv_at hl 0 rfl) ?_
  refine lv_iconst (v := 1) hx hb d_La_law_380 (by decide) ?_
  refine lv_iadd hx hb d_La_law_381 ?_
  refine va_sld hx hb hXs hbl hbA hS (show ¬ ((1 + 1 : Int32) < 0 ∨ 7 ≤ (1 + 1 : Int32).toNatClampNeg) by decide) d_La_law_382 ?_
  refine lv_topi (fun v36 e37 => ?_)
  obtain rfl : v36 = xs 2 := e37.trans (rfl)
  refine lv_aload_n hx hb d_La_law_383 rfl (lv_at hl 4 rfl) ?_
  refine lv_iload hx hb d_La_law_384 (lv_at hl 0 rfl) ?_
  refine lv_iconst (v := 2) hx hb d_La_law_386 (by decide) ?_
  refine lv_iadd hx hb d_La_law_387 ?_
  refine va_sld hx hb hXs hbl hbA hS (show ¬ ((1 + 2 : Int32) < 0 ∨ 7 ≤ (1 + 2 : Int32).toNatClampNeg) by decide) d_La_law_388 ?_
  refine lv_topi (fun v38 e39 => ?_)
  obtain rfl : v38 = xs 3 := e39.trans (rfl)
  refine lv_aload_n hx hb d_La_law_389 rfl (lv_at hl 4 rfl) ?_
  refine lv_iload hx hb d_La_law_390 (lv_at hl 0 rfl) ?_
  refine lv_iconst (v := 3) hx hb d_La_law_392 (by decide) ?_
  refine lv_iadd hx hb d_La_law_393 ?_
  refine va_sld hx hb hXs hbl hbA hS (show ¬ ((1 + 3 : Int32) < 0 ∨ 7 ≤ (1 + 3 : Int32).toNatClampNeg) by decide) d_La_law_394 ?_
  refine lv_topi (fun v40 e41 => ?_)
  obtain rfl : v40 = xs 4 := e41.trans (rfl)
  have px42 : ∀ q, (gIn H30 A B).P q → P0 s q := fun q hq => hq.elim (fun z => Nat.le_trans hSA z.1) (fun z => Nat.le_trans hS.1 z)
  obtain ⟨fo49, hf50⟩ := FrM_ob hFM
  refine hm_callXi (va_runV (As := [.int (xs 2), .int (xs 3), .int (xs 4)]) (b := mo) (rest := [.int r28]) ⟨hx, hb, hml, hown, hts⟩ (c_m_replace l D t (gIn H30 A B) ak av h3 mo n (xs 2) (xs 3) (xs 4) hFM) ⟨cw9B 3 hts mw_668 mw_669 mw_428 rfl rfl (by decide +kernel) ⟨Nat.le_of_ble_eq_true rfl, Nat.le_of_ble_eq_true rfl⟩, hts _ mw_670, hts _ mw_671⟩ (hP_V (q := (R_Mo, F_Mo, 41)) kE_ok (kE_g hE0 hS rfl px42) hE0.1 hM9 hf50 rfl) rfl rfl hl.1 rfl (lv_room (Nat.le_of_ble_eq_true rfl)) d_La_law_395 ⟨Nat.le_of_ble_eq_true rfl, Nat.le_of_ble_eq_true rfl⟩) hS.2.2 px42 (fun r43 h44 H45 locs hp47 hH48 z46 hLo => ?_)
  have hS : va_S (P0 s) s.heap H45 locs := vaS_step hS rfl px42 hH48 hLo
  have hO9 : hm D vwCl (gIn H45 B (B + 1)) ho H45 := re9 hO9 hH48 (by omega) (by omega)
  have hBH : B < H45.size := Nat.lt_of_lt_of_le hBH z46
  refine lv_icmp_eq (tgt := 1000) hx hb d_La_law_398 (by decide) (fun hc51 => ?_) (fun hc51 => absurd (Eq.trans hp32 (Eq.symm hp47)) hc51)
  exact law_end l hfl hx hb hr hml hown hts hlocks hXs hbl hS (Nat.le_of_ble_eq_true rfl) (Nat.le_of_ble_eq_true rfl) (lv_sub hl [0, 4] rfl)

set_option maxHeartbeats 4000000 in
set_option maxRecDepth 100000 in
theorem law_c5 {p : Program} {e : Env} {s : State} {m : MethodId} {below : List Frame} {meth : Method} {c : Code} (l : Launch) (hfl : l.flags = flags0) {b : Nat} {xs : Nat → Int32} (hx : p.tables.exec = Jvm.exec) (hb : c.code = b_La_law) (hr : meth.sig.returnType = ret) (hml : c.maxLocals = 8) (hown : s.vm.findClass R_La = some m.cls) (hts : ∀ w ∈ lw_g, w.before #[Value.ref b] s = true) (hlocks : meth.locks = false) {D : va_G} {t : Nat → ClassId} {ak av : Nat → Nat} {x mo n A B : Nat} {h1 h3 ho : hM} {go : Nat → Int64} {H : Heap} {locs : List Loc} {ls : Array Slot} (hE0 : kE D t (gNew s.heap) ak av s) (hT0 : kT (gNew s.heap) s) (hXs : va_X b 7 xs s s.heap) (hbl : b < s.heap.size) (hS : va_S (P0 s) s.heap H locs) (hX9 : hm D vwCl (gIn H s.heap.size A) h1 H) (hM9 : hm D vwCl (gIn H A B) h3 H) (hO9 : hm D vwCl (gIn H B (B + 1)) ho H) (hFX : FrX t h1 x n) (hFM : FrM t h3 mo n) (hou : ho B = some (.inl ((t 3), 1, .inr (.inl go)))) (hmo : A ≤ mo ∧ mo < B) (hSA : s.heap.size ≤ A) (hAB : A ≤ B) (hBH : B < H.size) (hl : lv_has ls 8 [(4, .int 1), (3, .ref B), (2, .ref mo), (1, .ref x), (0, .ref b)]) : W p l e room_1 s m #[Value.ref b] below meth c H locs 340 998345 (lw_Z below #[Value.ref b] s) (F0 m 403 ls []) := by
  have hbA : ¬ P0 s b := Nat.not_le.mpr hbl
  obtain ⟨-, hn40, hn⟩ := FrX_ob hFX
  refine lv_aload_n hx hb d_La_law_403 rfl (lv_at hl 3 rfl) ?_
  refine lv_aload_n hx hb d_La_law_404 rfl (lv_at hl 4 rfl) ?_
  refine lv_iload hx hb d_La_law_405 (lv_at hl 0 rfl) ?_
  refine lv_iconst (v := 1) hx hb d_La_law_407 (by decide) ?_
  refine lv_iadd hx hb d_La_law_408 ?_
  refine va_sld hx hb hXs hbl hbA hS (show ¬ ((1 + 1 : Int32) < 0 ∨ 7 ≤ (1 + 1 : Int32).toNatClampNeg) by decide) d_La_law_409 ?_
  refine lv_topi (fun v21 e22 => ?_)
  obtain rfl : v21 = xs 2 := e22.trans (rfl)
  have px23 : ∀ q, (gIn H s.heap.size A).P q → P0 s q := fun q hq => hq.elim (fun z => z.1) (fun z => Nat.le_trans hS.1 z)
  obtain ⟨fo30, hf31⟩ := (FrX_ob hFX).1
  refine hm_callXi (va_runV (As := [.int (xs 2)]) (b := x) (rest := []) ⟨hx, hb, hml, hown, hts⟩ (c_x_remove l D t (gIn H s.heap.size A) ak av h1 x n (xs 2) hFX) ⟨cw9B 1 hts mw_672 mw_673 mw_121 rfl rfl (by decide +kernel) ⟨Nat.le_of_ble_eq_true rfl, Nat.le_of_ble_eq_true rfl⟩, hts _ mw_674, hts _ mw_675⟩ (hP_V (q := (R_Di, F_Di, 9)) kE_ok (kE_g hE0 hS rfl px23) hE0.1 hX9 hf31 rfl) rfl rfl hl.1 rfl (lv_room (Nat.le_of_ble_eq_true rfl)) d_La_law_410 ⟨Nat.le_of_ble_eq_true rfl, Nat.le_of_ble_eq_true rfl⟩) hS.2.2 px23 (fun r24 h25 H26 locs hp28 hH29 z27 hLo => ?_)
  have hS : va_S (P0 s) s.heap H26 locs := vaS_step hS rfl px23 hH29 hLo
  have hM9 : hm D vwCl (gIn H26 A B) h3 H26 := re9 hM9 hH29 (by omega) (by omega)
  have hO9 : hm D vwCl (gIn H26 B (B + 1)) ho H26 := re9 hO9 hH29 (by omega) (by omega)
  have hBH : B < H26.size := Nat.lt_of_lt_of_le hBH z27
  refine lv_aload_n hx hb d_La_law_413 rfl (lv_at hl 2 rfl) ?_
  refine lv_aload_n hx hb d_La_law_414 rfl (lv_at hl 4 rfl) ?_
  refine lv_iload hx hb d_La_law_415 (lv_at hl 0 rfl) ?_
  refine lv_iconst (v := 1) hx hb d_La_law_417 (by decide) ?_
  refine lv_iadd hx hb d_La_law_418 ?_
  refine va_sld hx hb hXs hbl hbA hS (show ¬ ((1 + 1 : Int32) < 0 ∨ 7 ≤ (1 + 1 : Int32).toNatClampNeg) by decide) d_La_law_419 ?_
  refine lv_topi (fun v32 e33 => ?_)
  obtain rfl : v32 = xs 2 := e33.trans (rfl)
  have px34 : ∀ q, (gIn H26 A B).P q → P0 s q := fun q hq => hq.elim (fun z => Nat.le_trans hSA z.1) (fun z => Nat.le_trans hS.1 z)
  obtain ⟨fo41, hf42⟩ := FrM_ob hFM
  refine hm_callXi (va_runV (As := [.int (xs 2)]) (b := mo) (rest := [.int r24]) ⟨hx, hb, hml, hown, hts⟩ (c_m_remove l D t (gIn H26 A B) ak av h3 mo n (xs 2) hFM) ⟨cw9B 1 hts mw_676 mw_677 mw_428 rfl rfl (by decide +kernel) ⟨Nat.le_of_ble_eq_true rfl, Nat.le_of_ble_eq_true rfl⟩, hts _ mw_678, hts _ mw_679⟩ (hP_V (q := (R_Mo, F_Mo, 41)) kE_ok (kE_g hE0 hS rfl px34) hE0.1 hM9 hf42 rfl) rfl rfl hl.1 rfl (lv_room (Nat.le_of_ble_eq_true rfl)) d_La_law_420 ⟨Nat.le_of_ble_eq_true rfl, Nat.le_of_ble_eq_true rfl⟩) hS.2.2 px34 (fun r35 h36 H37 locs hp39 hH40 z38 hLo => ?_)
  have hS : va_S (P0 s) s.heap H37 locs := vaS_step hS rfl px34 hH40 hLo
  have hO9 : hm D vwCl (gIn H37 B (B + 1)) ho H37 := re9 hO9 hH40 (by omega) (by omega)
  have hBH : B < H37.size := Nat.lt_of_lt_of_le hBH z38
  refine lv_icmp_eq (tgt := 1000) hx hb d_La_law_423 (by decide) (fun hc43 => ?_) (fun hc43 => absurd (Eq.trans hp28 (Eq.symm hp39)) hc43)
  exact law_end l hfl hx hb hr hml hown hts hlocks hXs hbl hS (Nat.le_of_ble_eq_true rfl) (Nat.le_of_ble_eq_true rfl) (lv_sub hl [0, 4] rfl)

set_option maxHeartbeats 4000000 in
set_option maxRecDepth 100000 in
theorem law_c6 {p : Program} {e : Env} {s : State} {m : MethodId} {below : List Frame} {meth : Method} {c : Code} (l : Launch) (hfl : l.flags = flags0) {b : Nat} {xs : Nat → Int32} (hx : p.tables.exec = Jvm.exec) (hb : c.code = b_La_law) (hr : meth.sig.returnType = ret) (hml : c.maxLocals = 8) (hown : s.vm.findClass R_La = some m.cls) (hts : ∀ w ∈ lw_g, w.before #[Value.ref b] s = true) (hlocks : meth.locks = false) {D : va_G} {t : Nat → ClassId} {ak av : Nat → Nat} {x mo n A B : Nat} {h1 h3 ho : hM} {go : Nat → Int64} {H : Heap} {locs : List Loc} {ls : Array Slot} (hE0 : kE D t (gNew s.heap) ak av s) (hT0 : kT (gNew s.heap) s) (hXs : va_X b 7 xs s s.heap) (hbl : b < s.heap.size) (hS : va_S (P0 s) s.heap H locs) (hX9 : hm D vwCl (gIn H s.heap.size A) h1 H) (hM9 : hm D vwCl (gIn H A B) h3 H) (hO9 : hm D vwCl (gIn H B (B + 1)) ho H) (hFX : FrX t h1 x n) (hFM : FrM t h3 mo n) (hou : ho B = some (.inl ((t 3), 1, .inr (.inl go)))) (hmo : A ≤ mo ∧ mo < B) (hSA : s.heap.size ≤ A) (hAB : A ≤ B) (hBH : B < H.size) (hl : lv_has ls 8 [(4, .int 1), (3, .ref B), (2, .ref mo), (1, .ref x), (0, .ref b)]) : W p l e room_1 s m #[Value.ref b] below meth c H locs 340 998345 (lw_Z below #[Value.ref b] s) (F0 m 428 ls []) := by
  have hbA : ¬ P0 s b := Nat.not_le.mpr hbl
  obtain ⟨-, hn40, hn⟩ := FrX_ob hFX
  refine lv_aload_n hx hb d_La_law_428 rfl (lv_at hl 3 rfl) ?_
  refine lv_aload_n hx hb d_La_law_429 rfl (lv_at hl 4 rfl) ?_
  refine lv_iload hx hb d_La_law_430 (lv_at hl 0 rfl) ?_
  refine lv_iconst (v := 1) hx hb d_La_law_432 (by decide) ?_
  refine lv_iadd hx hb d_La_law_433 ?_
  refine va_sld hx hb hXs hbl hbA hS (show ¬ ((1 + 1 : Int32) < 0 ∨ 7 ≤ (1 + 1 : Int32).toNatClampNeg) by decide) d_La_law_434 ?_
  refine lv_topi (fun v21 e22 => ?_)
  obtain rfl : v21 = xs 2 := e22.trans (rfl)
  refine lv_aload_n hx hb d_La_law_435 rfl (lv_at hl 4 rfl) ?_
  refine lv_iload hx hb d_La_law_436 (lv_at hl 0 rfl) ?_
  refine lv_iconst (v := 2) hx hb d_La_law_438 (by decide) ?_
  refine lv_iadd hx hb d_La_law_439 ?_
  refine va_sld hx hb hXs hbl hbA hS (show ¬ ((1 + 2 : Int32) < 0 ∨ 7 ≤ (1 + 2 : Int32).toNatClampNeg) by decide) d_La_law_440 ?_
  refine lv_topi (fun v23 e24 => ?_)
  obtain rfl : v23 = xs 3 := e24.trans (rfl)
  refine lv_aload_n hx hb d_La_law_441 rfl (lv_at hl 4 rfl) ?_
  refine lv_iload hx hb d_La_law_442 (lv_at hl 0 rfl) ?_
  refine lv_iconst (v := 3) hx hb d_La_law_444 (by decide) ?_
  refine lv_iadd hx hb d_La_law_445 ?_
  refine va_sld hx hb hXs hbl hbA hS (show ¬ ((1 + 3 : Int32) < 0 ∨ 7 ≤ (1 + 3 : Int32).toNatClampNeg) by decide) d_La_law_446 ?_
  refine lv_topi (fun v25 e26 => ?_)
  obtain rfl : v25 = xs 4 := e26.trans (rfl)
  refine lv_i2l (v := (xs 4).toInt64) hx hb d_La_law_447 rfl ?_
  refine lv_bipush (v := 32) hx hb d_La_law_448 (by decide) ?_
  refine lv_lshl (v := ((xs 4).toInt64) <<< ((32 : Int32).toInt64 &&& 63)) hx hb d_La_law_450 rfl ?_
  refine lv_aload_n hx hb d_La_law_451 rfl (lv_at hl 4 rfl) ?_
  refine lv_iload hx hb d_La_law_452 (lv_at hl 0 rfl) ?_
  refine lv_iconst (v := 4) hx hb d_La_law_454 (by decide) ?_
  refine lv_iadd hx hb d_La_law_455 ?_
  refine va_sld hx hb hXs hbl hbA hS (show ¬ ((1 + 4 : Int32) < 0 ∨ 7 ≤ (1 + 4 : Int32).toNatClampNeg) by decide) d_La_law_456 ?_
  refine lv_topi (fun v27 e28 => ?_)
  obtain rfl : v27 = xs 5 := e28.trans (rfl)
  refine lv_i2l (v := (xs 5).toInt64) hx hb d_La_law_457 rfl ?_
  refine lv_ldc2 (v := 4294967295) hx hb hown (hts _ mw_647) d_La_law_458 ?_
  refine lv_land hx hb d_La_law_461 ?_
  refine lv_lor hx hb d_La_law_462 ?_
  have px29 : ∀ q, (gIn H s.heap.size A).P q → P0 s q := fun q hq => hq.elim (fun z => z.1) (fun z => Nat.le_trans hS.1 z)
  obtain ⟨fo36, hf37⟩ := (FrX_ob hFX).1
  refine hm_callXi (va_runV (As := [.int (xs 2), .int (xs 3), .long ((((xs 4).toInt64) <<< ((32 : Int32).toInt64 &&& 63)) ||| (((xs 5).toInt64) &&& 4294967295))]) (b := x) (rest := []) ⟨hx, hb, hml, hown, hts⟩ (c_x_rename l D t (gIn H s.heap.size A) ak av h1 x n (xs 2) (xs 3) ((((xs 4).toInt64) <<< ((32 : Int32).toInt64 &&& 63)) ||| (((xs 5).toInt64) &&& 4294967295)) hFX) ⟨cw9B 3 hts mw_680 mw_681 mw_121 rfl rfl (by decide +kernel) ⟨Nat.le_of_ble_eq_true rfl, Nat.le_of_ble_eq_true rfl⟩, hts _ mw_682, hts _ mw_683⟩ (hP_V (q := (R_Di, F_Di, 9)) kE_ok (kE_g hE0 hS rfl px29) hE0.1 hX9 hf37 rfl) rfl rfl hl.1 rfl (lv_room (Nat.le_of_ble_eq_true rfl)) d_La_law_463 ⟨Nat.le_of_ble_eq_true rfl, Nat.le_of_ble_eq_true rfl⟩) hS.2.2 px29 (fun r30 h31 H32 locs hp34 hH35 z33 hLo => ?_)
  have hS : va_S (P0 s) s.heap H32 locs := vaS_step hS rfl px29 hH35 hLo
  have hM9 : hm D vwCl (gIn H32 A B) h3 H32 := re9 hM9 hH35 (by omega) (by omega)
  have hO9 : hm D vwCl (gIn H32 B (B + 1)) ho H32 := re9 hO9 hH35 (by omega) (by omega)
  have hBH : B < H32.size := Nat.lt_of_lt_of_le hBH z33
  refine lv_aload_n hx hb d_La_law_466 rfl (lv_at hl 2 rfl) ?_
  refine lv_aload_n hx hb d_La_law_467 rfl (lv_at hl 4 rfl) ?_
  refine lv_iload hx hb d_La_law_468 (lv_at hl 0 rfl) ?_
  refine lv_iconst (v := 1) hx hb d_La_law_470 (by decide) ?_
  refine lv_iadd hx hb d_La_law_471 ?_
  refine va_sld hx hb hXs hbl hbA hS (show ¬ ((1 + 1 : Int32) < 0 ∨ 7 ≤ (1 + 1 : Int32).toNatClampNeg) by decide) d_La_law_472 ?_
  refine lv_topi (fun v38 e39 => ?_)
  obtain rfl : v38 = xs 2 := e39.trans (rfl)
  refine lv_aload_n hx hb d_La_law_473 rfl (lv_at hl 4 rfl) ?_
  refine lv_iload hx hb d_La_law_474 (lv_at hl 0 rfl) ?_
  refine lv_iconst (v := 2) hx hb d_La_law_476 (by decide) ?_
  refine lv_iadd hx hb d_La_law_477 ?_
  refine va_sld hx hb hXs hbl hbA hS (show ¬ ((1 + 2 : Int32) < 0 ∨ 7 ≤ (1 + 2 : Int32).toNatClampNeg) by decide) d_La_law_478 ?_
  refine lv_topi (fun v40 e41 => ?_)
  obtain rfl : v40 = xs 3 := e41.trans (rfl)
  refine lv_aload_n hx hb d_La_law_479 rfl (lv_at hl 4 rfl) ?_
  refine lv_iload hx hb d_La_law_480 (lv_at hl 0 rfl) ?_
  refine lv_iconst (v := 3) hx hb d_La_law_482 (by decide) ?_
  refine lv_iadd hx hb d_La_law_483 ?_
  refine va_sld hx hb hXs hbl hbA hS (show ¬ ((1 + 3 : Int32) < 0 ∨ 7 ≤ (1 + 3 : Int32).toNatClampNeg) by decide) d_La_law_484 ?_
  refine lv_topi (fun v42 e43 => ?_)
  obtain rfl : v42 = xs 4 := e43.trans (rfl)
  refine lv_i2l (v := (xs 4).toInt64) hx hb d_La_law_485 rfl ?_
  refine lv_bipush (v := 32) hx hb d_La_law_486 (by decide) ?_
  refine lv_lshl (v := ((xs 4).toInt64) <<< ((32 : Int32).toInt64 &&& 63)) hx hb d_La_law_488 rfl ?_
  refine lv_aload_n hx hb d_La_law_489 rfl (lv_at hl 4 rfl) ?_
  refine lv_iload hx hb d_La_law_490 (lv_at hl 0 rfl) ?_
  refine lv_iconst (v := 4) hx hb d_La_law_492 (by decide) ?_
  refine lv_iadd hx hb d_La_law_493 ?_
  refine va_sld hx hb hXs hbl hbA hS (show ¬ ((1 + 4 : Int32) < 0 ∨ 7 ≤ (1 + 4 : Int32).toNatClampNeg) by decide) d_La_law_494 ?_
  refine lv_topi (fun v44 e45 => ?_)
  obtain rfl : v44 = xs 5 := e45.trans (rfl)
  refine lv_i2l (v := (xs 5).toInt64) hx hb d_La_law_495 rfl ?_
  refine lv_ldc2 (v := 4294967295) hx hb hown (hts _ mw_647) d_La_law_496 ?_
  refine lv_land hx hb d_La_law_499 ?_
  refine lv_lor hx hb d_La_law_500 ?_
  have px46 : ∀ q, (gIn H32 A B).P q → P0 s q := fun q hq => hq.elim (fun z => Nat.le_trans hSA z.1) (fun z => Nat.le_trans hS.1 z)
  obtain ⟨fo53, hf54⟩ := FrM_ob hFM
  refine hm_callXi (va_runV (As := [.int (xs 2), .int (xs 3), .long ((((xs 4).toInt64) <<< ((32 : Int32).toInt64 &&& 63)) ||| (((xs 5).toInt64) &&& 4294967295))]) (b := mo) (rest := [.int r30]) ⟨hx, hb, hml, hown, hts⟩ (c_m_rename l D t (gIn H32 A B) ak av h3 mo n (xs 2) (xs 3) ((((xs 4).toInt64) <<< ((32 : Int32).toInt64 &&& 63)) ||| (((xs 5).toInt64) &&& 4294967295)) hFM) ⟨cw9B 3 hts mw_684 mw_685 mw_428 rfl rfl (by decide +kernel) ⟨Nat.le_of_ble_eq_true rfl, Nat.le_of_ble_eq_true rfl⟩, hts _ mw_686, hts _ mw_687⟩ (hP_V (q := (R_Mo, F_Mo, 41)) kE_ok (kE_g hE0 hS rfl px46) hE0.1 hM9 hf54 rfl) rfl rfl hl.1 rfl (lv_room (Nat.le_of_ble_eq_true rfl)) d_La_law_501 ⟨Nat.le_of_ble_eq_true rfl, Nat.le_of_ble_eq_true rfl⟩) hS.2.2 px46 (fun r47 h48 H49 locs hp51 hH52 z50 hLo => ?_)
  have hS : va_S (P0 s) s.heap H49 locs := vaS_step hS rfl px46 hH52 hLo
  have hO9 : hm D vwCl (gIn H49 B (B + 1)) ho H49 := re9 hO9 hH52 (by omega) (by omega)
  have hBH : B < H49.size := Nat.lt_of_lt_of_le hBH z50
  refine lv_icmp_eq (tgt := 1000) hx hb d_La_law_504 (by decide) (fun hc55 => ?_) (fun hc55 => absurd (Eq.trans hp34 (Eq.symm hp51)) hc55)
  exact law_end l hfl hx hb hr hml hown hts hlocks hXs hbl hS (Nat.le_of_ble_eq_true rfl) (Nat.le_of_ble_eq_true rfl) (lv_sub hl [0, 4] rfl)

set_option maxHeartbeats 4000000 in
set_option maxRecDepth 100000 in
theorem law_c7 {p : Program} {e : Env} {s : State} {m : MethodId} {below : List Frame} {meth : Method} {c : Code} (l : Launch) (hfl : l.flags = flags0) {b : Nat} {xs : Nat → Int32} (hx : p.tables.exec = Jvm.exec) (hb : c.code = b_La_law) (hr : meth.sig.returnType = ret) (hml : c.maxLocals = 8) (hown : s.vm.findClass R_La = some m.cls) (hts : ∀ w ∈ lw_g, w.before #[Value.ref b] s = true) (hlocks : meth.locks = false) {D : va_G} {t : Nat → ClassId} {ak av : Nat → Nat} {x mo n A B : Nat} {h1 h3 ho : hM} {go : Nat → Int64} {H : Heap} {locs : List Loc} {ls : Array Slot} (hE0 : kE D t (gNew s.heap) ak av s) (hT0 : kT (gNew s.heap) s) (hXs : va_X b 7 xs s s.heap) (hbl : b < s.heap.size) (hS : va_S (P0 s) s.heap H locs) (hX9 : hm D vwCl (gIn H s.heap.size A) h1 H) (hM9 : hm D vwCl (gIn H A B) h3 H) (hO9 : hm D vwCl (gIn H B (B + 1)) ho H) (hFX : FrX t h1 x n) (hFM : FrM t h3 mo n) (hou : ho B = some (.inl ((t 3), 1, .inr (.inl go)))) (hmo : A ≤ mo ∧ mo < B) (hSA : s.heap.size ≤ A) (hAB : A ≤ B) (hBH : B < H.size) (hl : lv_has ls 8 [(4, .int 1), (3, .ref B), (2, .ref mo), (1, .ref x), (0, .ref b)]) : W p l e room_1 s m #[Value.ref b] below meth c H locs 340 998345 (lw_Z below #[Value.ref b] s) (F0 m 509 ls []) := by
  have hbA : ¬ P0 s b := Nat.not_le.mpr hbl
  obtain ⟨-, hn40, hn⟩ := FrX_ob hFX
  refine lv_aload_n hx hb d_La_law_509 rfl (lv_at hl 3 rfl) ?_
  have px21 : ∀ q, (gIn H s.heap.size A).P q → P0 s q := fun q hq => hq.elim (fun z => z.1) (fun z => Nat.le_trans hS.1 z)
  obtain ⟨fo28, hf29⟩ := (FrX_ob hFX).1
  refine hm_callXi (va_runV (As := []) (b := x) (rest := []) ⟨hx, hb, hml, hown, hts⟩ (c_x_commit l D t (gIn H s.heap.size A) ak av h1 x n hFX) ⟨cw9B 0 hts mw_688 mw_689 mw_121 rfl rfl (by decide +kernel) ⟨Nat.le_of_ble_eq_true rfl, Nat.le_of_ble_eq_true rfl⟩, hts _ mw_690, hts _ mw_691⟩ (hP_V (q := (R_Di, F_Di, 9)) kE_ok (kE_g hE0 hS rfl px21) hE0.1 hX9 hf29 rfl) rfl rfl hl.1 rfl (lv_room (Nat.le_of_ble_eq_true rfl)) d_La_law_510 ⟨Nat.le_of_ble_eq_true rfl, Nat.le_of_ble_eq_true rfl⟩) hS.2.2 px21 (fun r22 h23 H24 locs hp26 hH27 z25 hLo => ?_)
  have hS : va_S (P0 s) s.heap H24 locs := vaS_step hS rfl px21 hH27 hLo
  have hM9 : hm D vwCl (gIn H24 A B) h3 H24 := re9 hM9 hH27 (by omega) (by omega)
  have hO9 : hm D vwCl (gIn H24 B (B + 1)) ho H24 := re9 hO9 hH27 (by omega) (by omega)
  have hBH : B < H24.size := Nat.lt_of_lt_of_le hBH z25
  refine lv_aload_n hx hb d_La_law_513 rfl (lv_at hl 2 rfl) ?_
  have px30 : ∀ q, (gIn H24 A B).P q → P0 s q := fun q hq => hq.elim (fun z => Nat.le_trans hSA z.1) (fun z => Nat.le_trans hS.1 z)
  obtain ⟨fo37, hf38⟩ := FrM_ob hFM
  refine hm_callXi (va_runV (As := []) (b := mo) (rest := [.int r22]) ⟨hx, hb, hml, hown, hts⟩ (c_m_commit l D t (gIn H24 A B) ak av h3 mo n hFM) ⟨cw9B 0 hts mw_692 mw_693 mw_428 rfl rfl (by decide +kernel) ⟨Nat.le_of_ble_eq_true rfl, Nat.le_of_ble_eq_true rfl⟩, hts _ mw_694, hts _ mw_695⟩ (hP_V (q := (R_Mo, F_Mo, 41)) kE_ok (kE_g hE0 hS rfl px30) hE0.1 hM9 hf38 rfl) rfl rfl hl.1 rfl (lv_room (Nat.le_of_ble_eq_true rfl)) d_La_law_514 ⟨Nat.le_of_ble_eq_true rfl, Nat.le_of_ble_eq_true rfl⟩) hS.2.2 px30 (fun r31 h32 H33 locs hp35 hH36 z34 hLo => ?_)
  have hS : va_S (P0 s) s.heap H33 locs := vaS_step hS rfl px30 hH36 hLo
  have hO9 : hm D vwCl (gIn H33 B (B + 1)) ho H33 := re9 hO9 hH36 (by omega) (by omega)
  have hBH : B < H33.size := Nat.lt_of_lt_of_le hBH z34
  refine lv_icmp_eq (tgt := 1000) hx hb d_La_law_517 (by decide) (fun hc39 => ?_) (fun hc39 => absurd (Eq.trans hp26 (Eq.symm hp35)) hc39)
  exact law_end l hfl hx hb hr hml hown hts hlocks hXs hbl hS (Nat.le_of_ble_eq_true rfl) (Nat.le_of_ble_eq_true rfl) (lv_sub hl [0, 4] rfl)

set_option maxHeartbeats 4000000 in
set_option maxRecDepth 100000 in
theorem law_c8 {p : Program} {e : Env} {s : State} {m : MethodId} {below : List Frame} {meth : Method} {c : Code} (l : Launch) (hfl : l.flags = flags0) {b : Nat} {xs : Nat → Int32} (hx : p.tables.exec = Jvm.exec) (hb : c.code = b_La_law) (hr : meth.sig.returnType = ret) (hml : c.maxLocals = 8) (hown : s.vm.findClass R_La = some m.cls) (hts : ∀ w ∈ lw_g, w.before #[Value.ref b] s = true) (hlocks : meth.locks = false) {D : va_G} {t : Nat → ClassId} {ak av : Nat → Nat} {x mo n A B : Nat} {h1 h3 ho : hM} {go : Nat → Int64} {H : Heap} {locs : List Loc} {ls : Array Slot} (hE0 : kE D t (gNew s.heap) ak av s) (hT0 : kT (gNew s.heap) s) (hXs : va_X b 7 xs s s.heap) (hbl : b < s.heap.size) (hS : va_S (P0 s) s.heap H locs) (hX9 : hm D vwCl (gIn H s.heap.size A) h1 H) (hM9 : hm D vwCl (gIn H A B) h3 H) (hO9 : hm D vwCl (gIn H B (B + 1)) ho H) (hFX : FrX t h1 x n) (hFM : FrM t h3 mo n) (hou : ho B = some (.inl ((t 3), 1, .inr (.inl go)))) (hmo : A ≤ mo ∧ mo < B) (hSA : s.heap.size ≤ A) (hAB : A ≤ B) (hBH : B < H.size) (hl : lv_has ls 8 [(4, .int 1), (3, .ref B), (2, .ref mo), (1, .ref x), (0, .ref b)]) : W p l e room_1 s m #[Value.ref b] below meth c H locs 340 998345 (lw_Z below #[Value.ref b] s) (F0 m 522 ls []) := by
  have hbA : ¬ P0 s b := Nat.not_le.mpr hbl
  obtain ⟨-, hn40, hn⟩ := FrX_ob hFX
  refine lv_aload_n hx hb d_La_law_522 rfl (lv_at hl 3 rfl) ?_
  have px21 : ∀ q, (gIn H s.heap.size A).P q → P0 s q := fun q hq => hq.elim (fun z => z.1) (fun z => Nat.le_trans hS.1 z)
  obtain ⟨fo28, hf29⟩ := (FrX_ob hFX).1
  refine hm_callXi (va_runV (As := []) (b := x) (rest := []) ⟨hx, hb, hml, hown, hts⟩ (c_x_discover l D t (gIn H s.heap.size A) ak av h1 x n hFX) ⟨cw9B 0 hts mw_696 mw_697 mw_121 rfl rfl (by decide +kernel) ⟨Nat.le_of_ble_eq_true rfl, Nat.le_of_ble_eq_true rfl⟩, hts _ mw_698, hts _ mw_699⟩ (hP_V (q := (R_Di, F_Di, 9)) kE_ok (kE_g hE0 hS rfl px21) hE0.1 hX9 hf29 rfl) rfl rfl hl.1 rfl (lv_room (Nat.le_of_ble_eq_true rfl)) d_La_law_523 ⟨Nat.le_of_ble_eq_true rfl, Nat.le_of_ble_eq_true rfl⟩) hS.2.2 px21 (fun r22 h23 H24 locs hp26 hH27 z25 hLo => ?_)
  have hS : va_S (P0 s) s.heap H24 locs := vaS_step hS rfl px21 hH27 hLo
  have hM9 : hm D vwCl (gIn H24 A B) h3 H24 := re9 hM9 hH27 (by omega) (by omega)
  have hO9 : hm D vwCl (gIn H24 B (B + 1)) ho H24 := re9 hO9 hH27 (by omega) (by omega)
  have hBH : B < H24.size := Nat.lt_of_lt_of_le hBH z25
  refine lv_aload_n hx hb d_La_law_526 rfl (lv_at hl 2 rfl) ?_
  have px30 : ∀ q, (gIn H24 A B).P q → P0 s q := fun q hq => hq.elim (fun z => Nat.le_trans hSA z.1) (fun z => Nat.le_trans hS.1 z)
  obtain ⟨fo37, hf38⟩ := FrM_ob hFM
  refine hm_callXi (va_runV (As := []) (b := mo) (rest := [.int r22]) ⟨hx, hb, hml, hown, hts⟩ (c_m_discover l D t (gIn H24 A B) ak av h3 mo n hFM) ⟨cw9B 0 hts mw_700 mw_701 mw_428 rfl rfl (by decide +kernel) ⟨Nat.le_of_ble_eq_true rfl, Nat.le_of_ble_eq_true rfl⟩, hts _ mw_702, hts _ mw_703⟩ (hP_V (q := (R_Mo, F_Mo, 41)) kE_ok (kE_g hE0 hS rfl px30) hE0.1 hM9 hf38 rfl) rfl rfl hl.1 rfl (lv_room (Nat.le_of_ble_eq_true rfl)) d_La_law_527 ⟨Nat.le_of_ble_eq_true rfl, Nat.le_of_ble_eq_true rfl⟩) hS.2.2 px30 (fun r31 h32 H33 locs hp35 hH36 z34 hLo => ?_)
  have hS : va_S (P0 s) s.heap H33 locs := vaS_step hS rfl px30 hH36 hLo
  have hO9 : hm D vwCl (gIn H33 B (B + 1)) ho H33 := re9 hO9 hH36 (by omega) (by omega)
  have hBH : B < H33.size := Nat.lt_of_lt_of_le hBH z34
  refine lv_icmp_eq (tgt := 1000) hx hb d_La_law_530 (by decide) (fun hc39 => ?_) (fun hc39 => absurd (Eq.trans hp26 (Eq.symm hp35)) hc39)
  exact law_end l hfl hx hb hr hml hown hts hlocks hXs hbl hS (Nat.le_of_ble_eq_true rfl) (Nat.le_of_ble_eq_true rfl) (lv_sub hl [0, 4] rfl)

set_option maxHeartbeats 4000000 in
set_option maxRecDepth 100000 in
theorem law_c9 {p : Program} {e : Env} {s : State} {m : MethodId} {below : List Frame} {meth : Method} {c : Code} (l : Launch) (hfl : l.flags = flags0) {b : Nat} {xs : Nat → Int32} (hx : p.tables.exec = Jvm.exec) (hb : c.code = b_La_law) (hr : meth.sig.returnType = ret) (hml : c.maxLocals = 8) (hown : s.vm.findClass R_La = some m.cls) (hts : ∀ w ∈ lw_g, w.before #[Value.ref b] s = true) (hlocks : meth.locks = false) {D : va_G} {t : Nat → ClassId} {ak av : Nat → Nat} {x mo n A B : Nat} {h1 h3 ho : hM} {go : Nat → Int64} {H : Heap} {locs : List Loc} {ls : Array Slot} (hE0 : kE D t (gNew s.heap) ak av s) (hT0 : kT (gNew s.heap) s) (hXs : va_X b 7 xs s s.heap) (hbl : b < s.heap.size) (hS : va_S (P0 s) s.heap H locs) (hX9 : hm D vwCl (gIn H s.heap.size A) h1 H) (hM9 : hm D vwCl (gIn H A B) h3 H) (hO9 : hm D vwCl (gIn H B (B + 1)) ho H) (hFX : FrX t h1 x n) (hFM : FrM t h3 mo n) (hou : ho B = some (.inl ((t 3), 1, .inr (.inl go)))) (hmo : A ≤ mo ∧ mo < B) (hSA : s.heap.size ≤ A) (hAB : A ≤ B) (hBH : B < H.size) (hl : lv_has ls 8 [(4, .int 1), (3, .ref B), (2, .ref mo), (1, .ref x), (0, .ref b)]) : W p l e room_1 s m #[Value.ref b] below meth c H locs 340 998345 (lw_Z below #[Value.ref b] s) (F0 m 535 ls []) := by
  have hbA : ¬ P0 s b := Nat.not_le.mpr hbl
  obtain ⟨-, hn40, hn⟩ := FrX_ob hFX
  refine lv_aload_n hx hb d_La_law_535 rfl (lv_at hl 3 rfl) ?_
  have px21 : ∀ q, (gIn H s.heap.size A).P q → P0 s q := fun q hq => hq.elim (fun z => z.1) (fun z => Nat.le_trans hS.1 z)
  obtain ⟨fo28, hf29⟩ := (FrX_ob hFX).1
  refine hm_callXi (va_runV (As := []) (b := x) (rest := []) ⟨hx, hb, hml, hown, hts⟩ (c_x_compact l D t (gIn H s.heap.size A) ak av h1 x n hFX) ⟨cw9B 0 hts mw_704 mw_705 mw_121 rfl rfl (by decide +kernel) ⟨Nat.le_of_ble_eq_true rfl, Nat.le_of_ble_eq_true rfl⟩, hts _ mw_706, hts _ mw_707⟩ (hP_V (q := (R_Di, F_Di, 9)) kE_ok (kE_g hE0 hS rfl px21) hE0.1 hX9 hf29 rfl) rfl rfl hl.1 rfl (lv_room (Nat.le_of_ble_eq_true rfl)) d_La_law_536 ⟨Nat.le_of_ble_eq_true rfl, Nat.le_of_ble_eq_true rfl⟩) hS.2.2 px21 (fun r22 h23 H24 locs hp26 hH27 z25 hLo => ?_)
  have hS : va_S (P0 s) s.heap H24 locs := vaS_step hS rfl px21 hH27 hLo
  have hM9 : hm D vwCl (gIn H24 A B) h3 H24 := re9 hM9 hH27 (by omega) (by omega)
  have hO9 : hm D vwCl (gIn H24 B (B + 1)) ho H24 := re9 hO9 hH27 (by omega) (by omega)
  have hBH : B < H24.size := Nat.lt_of_lt_of_le hBH z25
  refine lv_aload_n hx hb d_La_law_539 rfl (lv_at hl 2 rfl) ?_
  have px30 : ∀ q, (gIn H24 A B).P q → P0 s q := fun q hq => hq.elim (fun z => Nat.le_trans hSA z.1) (fun z => Nat.le_trans hS.1 z)
  obtain ⟨fo37, hf38⟩ := FrM_ob hFM
  refine hm_callXi (va_runV (As := []) (b := mo) (rest := [.int r22]) ⟨hx, hb, hml, hown, hts⟩ (c_m_compact l D t (gIn H24 A B) ak av h3 mo n hFM) ⟨cw9B 0 hts mw_708 mw_709 mw_428 rfl rfl (by decide +kernel) ⟨Nat.le_of_ble_eq_true rfl, Nat.le_of_ble_eq_true rfl⟩, hts _ mw_710, hts _ mw_711⟩ (hP_V (q := (R_Mo, F_Mo, 41)) kE_ok (kE_g hE0 hS rfl px30) hE0.1 hM9 hf38 rfl) rfl rfl hl.1 rfl (lv_room (Nat.le_of_ble_eq_true rfl)) d_La_law_540 ⟨Nat.le_of_ble_eq_true rfl, Nat.le_of_ble_eq_true rfl⟩) hS.2.2 px30 (fun r31 h32 H33 locs hp35 hH36 z34 hLo => ?_)
  have hS : va_S (P0 s) s.heap H33 locs := vaS_step hS rfl px30 hH36 hLo
  have hO9 : hm D vwCl (gIn H33 B (B + 1)) ho H33 := re9 hO9 hH36 (by omega) (by omega)
  have hBH : B < H33.size := Nat.lt_of_lt_of_le hBH z34
  refine lv_icmp_eq (tgt := 1000) hx hb d_La_law_543 (by decide) (fun hc39 => ?_) (fun hc39 => absurd (Eq.trans hp26 (Eq.symm hp35)) hc39)
  exact law_end l hfl hx hb hr hml hown hts hlocks hXs hbl hS (Nat.le_of_ble_eq_true rfl) (Nat.le_of_ble_eq_true rfl) (lv_sub hl [0, 4] rfl)

set_option maxHeartbeats 4000000 in
set_option maxRecDepth 100000 in
theorem law_c10 {p : Program} {e : Env} {s : State} {m : MethodId} {below : List Frame} {meth : Method} {c : Code} (l : Launch) (hfl : l.flags = flags0) {b : Nat} {xs : Nat → Int32} (hx : p.tables.exec = Jvm.exec) (hb : c.code = b_La_law) (hr : meth.sig.returnType = ret) (hml : c.maxLocals = 8) (hown : s.vm.findClass R_La = some m.cls) (hts : ∀ w ∈ lw_g, w.before #[Value.ref b] s = true) (hlocks : meth.locks = false) {D : va_G} {t : Nat → ClassId} {ak av : Nat → Nat} {x mo n A B : Nat} {h1 h3 ho : hM} {go : Nat → Int64} {H : Heap} {locs : List Loc} {ls : Array Slot} (hE0 : kE D t (gNew s.heap) ak av s) (hT0 : kT (gNew s.heap) s) (hXs : va_X b 7 xs s s.heap) (hbl : b < s.heap.size) (hS : va_S (P0 s) s.heap H locs) (hX9 : hm D vwCl (gIn H s.heap.size A) h1 H) (hM9 : hm D vwCl (gIn H A B) h3 H) (hO9 : hm D vwCl (gIn H B (B + 1)) ho H) (hFX : FrX t h1 x n) (hFM : FrM t h3 mo n) (hou : ho B = some (.inl ((t 3), 1, .inr (.inl go)))) (hmo : A ≤ mo ∧ mo < B) (hSA : s.heap.size ≤ A) (hAB : A ≤ B) (hBH : B < H.size) (hl : lv_has ls 8 [(4, .int 1), (3, .ref B), (2, .ref mo), (1, .ref x), (0, .ref b)]) : W p l e room_1 s m #[Value.ref b] below meth c H locs 340 998345 (lw_Z below #[Value.ref b] s) (F0 m 548 ls []) := by
  have hbA : ¬ P0 s b := Nat.not_le.mpr hbl
  obtain ⟨-, hn40, hn⟩ := FrX_ob hFX
  refine lv_aload_n hx hb d_La_law_548 rfl (lv_at hl 3 rfl) ?_
  refine lv_aload_n hx hb d_La_law_549 rfl (lv_at hl 4 rfl) ?_
  refine lv_iload hx hb d_La_law_550 (lv_at hl 0 rfl) ?_
  refine lv_iconst (v := 1) hx hb d_La_law_552 (by decide) ?_
  refine lv_iadd hx hb d_La_law_553 ?_
  refine va_sld hx hb hXs hbl hbA hS (show ¬ ((1 + 1 : Int32) < 0 ∨ 7 ≤ (1 + 1 : Int32).toNatClampNeg) by decide) d_La_law_554 ?_
  refine lv_topi (fun v21 e22 => ?_)
  obtain rfl : v21 = xs 2 := e22.trans (rfl)
  have px23 : ∀ q, (gIn H s.heap.size A).P q → P0 s q := fun q hq => hq.elim (fun z => z.1) (fun z => Nat.le_trans hS.1 z)
  obtain ⟨fo30, hf31⟩ := (FrX_ob hFX).1
  refine hm_callXi (va_runV (As := [.int (xs 2)]) (b := x) (rest := []) ⟨hx, hb, hml, hown, hts⟩ (c_x_state l D t (gIn H s.heap.size A) ak av h1 x n (xs 2) hFX) ⟨cw9B 1 hts mw_712 mw_713 mw_121 rfl rfl (by decide +kernel) ⟨Nat.le_of_ble_eq_true rfl, Nat.le_of_ble_eq_true rfl⟩, hts _ mw_714, hts _ mw_715⟩ (hP_V (q := (R_Di, F_Di, 9)) kE_ok (kE_g hE0 hS rfl px23) hE0.1 hX9 hf31 rfl) rfl rfl hl.1 rfl (lv_room (Nat.le_of_ble_eq_true rfl)) d_La_law_555 ⟨Nat.le_of_ble_eq_true rfl, Nat.le_of_ble_eq_true rfl⟩) hS.2.2 px23 (fun r24 h25 H26 locs hp28 hH29 z27 hLo => ?_)
  have hS : va_S (P0 s) s.heap H26 locs := vaS_step hS rfl px23 hH29 hLo
  have hM9 : hm D vwCl (gIn H26 A B) h3 H26 := re9 hM9 hH29 (by omega) (by omega)
  have hO9 : hm D vwCl (gIn H26 B (B + 1)) ho H26 := re9 hO9 hH29 (by omega) (by omega)
  have hBH : B < H26.size := Nat.lt_of_lt_of_le hBH z27
  refine lv_aload_n hx hb d_La_law_558 rfl (lv_at hl 2 rfl) ?_
  refine lv_aload_n hx hb d_La_law_559 rfl (lv_at hl 4 rfl) ?_
  refine lv_iload hx hb d_La_law_560 (lv_at hl 0 rfl) ?_
  refine lv_iconst (v := 1) hx hb d_La_law_562 (by decide) ?_
  refine lv_iadd hx hb d_La_law_563 ?_
  refine va_sld hx hb hXs hbl hbA hS (show ¬ ((1 + 1 : Int32) < 0 ∨ 7 ≤ (1 + 1 : Int32).toNatClampNeg) by decide) d_La_law_564 ?_
  refine lv_topi (fun v32 e33 => ?_)
  obtain rfl : v32 = xs 2 := e33.trans (rfl)
  have px34 : ∀ q, (gIn H26 A B).P q → P0 s q := fun q hq => hq.elim (fun z => Nat.le_trans hSA z.1) (fun z => Nat.le_trans hS.1 z)
  obtain ⟨fo41, hf42⟩ := FrM_ob hFM
  refine hm_callXi (va_runV (As := [.int (xs 2)]) (b := mo) (rest := [.int r24]) ⟨hx, hb, hml, hown, hts⟩ (c_m_state l D t (gIn H26 A B) ak av h3 mo n (xs 2) hFM) ⟨cw9B 1 hts mw_716 mw_717 mw_428 rfl rfl (by decide +kernel) ⟨Nat.le_of_ble_eq_true rfl, Nat.le_of_ble_eq_true rfl⟩, hts _ mw_718, hts _ mw_719⟩ (hP_V (q := (R_Mo, F_Mo, 41)) kE_ok (kE_g hE0 hS rfl px34) hE0.1 hM9 hf42 rfl) rfl rfl hl.1 rfl (lv_room (Nat.le_of_ble_eq_true rfl)) d_La_law_565 ⟨Nat.le_of_ble_eq_true rfl, Nat.le_of_ble_eq_true rfl⟩) hS.2.2 px34 (fun r35 h36 H37 locs hp39 hH40 z38 hLo => ?_)
  have hS : va_S (P0 s) s.heap H37 locs := vaS_step hS rfl px34 hH40 hLo
  have hO9 : hm D vwCl (gIn H37 B (B + 1)) ho H37 := re9 hO9 hH40 (by omega) (by omega)
  have hBH : B < H37.size := Nat.lt_of_lt_of_le hBH z38
  refine lv_icmp_eq (tgt := 1000) hx hb d_La_law_568 (by decide) (fun hc43 => ?_) (fun hc43 => absurd (eq9 hp28 hp39 (sec9 hn)) hc43)
  exact law_end l hfl hx hb hr hml hown hts hlocks hXs hbl hS (Nat.le_of_ble_eq_true rfl) (Nat.le_of_ble_eq_true rfl) (lv_sub hl [0, 4] rfl)

set_option maxHeartbeats 4000000 in
set_option maxRecDepth 100000 in
theorem law_c11 {p : Program} {e : Env} {s : State} {m : MethodId} {below : List Frame} {meth : Method} {c : Code} (l : Launch) (hfl : l.flags = flags0) {b : Nat} {xs : Nat → Int32} (hx : p.tables.exec = Jvm.exec) (hb : c.code = b_La_law) (hr : meth.sig.returnType = ret) (hml : c.maxLocals = 8) (hown : s.vm.findClass R_La = some m.cls) (hts : ∀ w ∈ lw_g, w.before #[Value.ref b] s = true) (hlocks : meth.locks = false) {D : va_G} {t : Nat → ClassId} {ak av : Nat → Nat} {x mo n A B : Nat} {h1 h3 ho : hM} {go : Nat → Int64} {H : Heap} {locs : List Loc} {ls : Array Slot} (hE0 : kE D t (gNew s.heap) ak av s) (hT0 : kT (gNew s.heap) s) (hXs : va_X b 7 xs s s.heap) (hbl : b < s.heap.size) (hS : va_S (P0 s) s.heap H locs) (hX9 : hm D vwCl (gIn H s.heap.size A) h1 H) (hM9 : hm D vwCl (gIn H A B) h3 H) (hO9 : hm D vwCl (gIn H B (B + 1)) ho H) (hFX : FrX t h1 x n) (hFM : FrM t h3 mo n) (hou : ho B = some (.inl ((t 3), 1, .inr (.inl go)))) (hmo : A ≤ mo ∧ mo < B) (hSA : s.heap.size ≤ A) (hAB : A ≤ B) (hBH : B < H.size) (hl : lv_has ls 8 [(4, .int 1), (3, .ref B), (2, .ref mo), (1, .ref x), (0, .ref b)]) : W p l e room_1 s m #[Value.ref b] below meth c H locs 340 998345 (lw_Z below #[Value.ref b] s) (F0 m 573 ls []) := by
  have hbA : ¬ P0 s b := Nat.not_le.mpr hbl
  obtain ⟨-, hn40, hn⟩ := FrX_ob hFX
  refine lv_aload_n hx hb d_La_law_573 rfl (lv_at hl 3 rfl) ?_
  refine lv_aload_n hx hb d_La_law_574 rfl (lv_at hl 4 rfl) ?_
  refine lv_iload hx hb d_La_law_575 (lv_at hl 0 rfl) ?_
  refine lv_iconst (v := 1) hx hb d_La_law_577 (by decide) ?_
  refine lv_iadd hx hb d_La_law_578 ?_
  refine va_sld hx hb hXs hbl hbA hS (show ¬ ((1 + 1 : Int32) < 0 ∨ 7 ≤ (1 + 1 : Int32).toNatClampNeg) by decide) d_La_law_579 ?_
  refine lv_topi (fun v21 e22 => ?_)
  obtain rfl : v21 = xs 2 := e22.trans (rfl)
  have px23 : ∀ q, (gIn H s.heap.size A).P q → P0 s q := fun q hq => hq.elim (fun z => z.1) (fun z => Nat.le_trans hS.1 z)
  obtain ⟨fo30, hf31⟩ := (FrX_ob hFX).1
  refine hm_callXi (va_runV (As := [.int (xs 2)]) (b := x) (rest := []) ⟨hx, hb, hml, hown, hts⟩ (c_x_byteAt l D t (gIn H s.heap.size A) ak av h1 x n (xs 2) hFX) ⟨cw9B 1 hts mw_720 mw_721 mw_121 rfl rfl (by decide +kernel) ⟨Nat.le_of_ble_eq_true rfl, Nat.le_of_ble_eq_true rfl⟩, hts _ mw_722, hts _ mw_723⟩ (hP_V (q := (R_Di, F_Di, 9)) kE_ok (kE_g hE0 hS rfl px23) hE0.1 hX9 hf31 rfl) rfl rfl hl.1 rfl (lv_room (Nat.le_of_ble_eq_true rfl)) d_La_law_580 ⟨Nat.le_of_ble_eq_true rfl, Nat.le_of_ble_eq_true rfl⟩) hS.2.2 px23 (fun r24 h25 H26 locs hp28 hH29 z27 hLo => ?_)
  have hS : va_S (P0 s) s.heap H26 locs := vaS_step hS rfl px23 hH29 hLo
  have hM9 : hm D vwCl (gIn H26 A B) h3 H26 := re9 hM9 hH29 (by omega) (by omega)
  have hO9 : hm D vwCl (gIn H26 B (B + 1)) ho H26 := re9 hO9 hH29 (by omega) (by omega)
  have hBH : B < H26.size := Nat.lt_of_lt_of_le hBH z27
  refine lv_aload_n hx hb d_La_law_583 rfl (lv_at hl 2 rfl) ?_
  refine lv_aload_n hx hb d_La_law_584 rfl (lv_at hl 4 rfl) ?_
  refine lv_iload hx hb d_La_law_585 (lv_at hl 0 rfl) ?_
  refine lv_iconst (v := 1) hx hb d_La_law_587 (by decide) ?_
  refine lv_iadd hx hb d_La_law_588 ?_
  refine va_sld hx hb hXs hbl hbA hS (show ¬ ((1 + 1 : Int32) < 0 ∨ 7 ≤ (1 + 1 : Int32).toNatClampNeg) by decide) d_La_law_589 ?_
  refine lv_topi (fun v32 e33 => ?_)
  obtain rfl : v32 = xs 2 := e33.trans (rfl)
  have px34 : ∀ q, (gIn H26 A B).P q → P0 s q := fun q hq => hq.elim (fun z => Nat.le_trans hSA z.1) (fun z => Nat.le_trans hS.1 z)
  obtain ⟨fo41, hf42⟩ := FrM_ob hFM
  refine hm_callXi (va_runV (As := [.int (xs 2)]) (b := mo) (rest := [.int r24]) ⟨hx, hb, hml, hown, hts⟩ (c_m_byteAt l D t (gIn H26 A B) ak av h3 mo n (xs 2) hFM) ⟨cw9B 1 hts mw_724 mw_725 mw_428 rfl rfl (by decide +kernel) ⟨Nat.le_of_ble_eq_true rfl, Nat.le_of_ble_eq_true rfl⟩, hts _ mw_726, hts _ mw_727⟩ (hP_V (q := (R_Mo, F_Mo, 41)) kE_ok (kE_g hE0 hS rfl px34) hE0.1 hM9 hf42 rfl) rfl rfl hl.1 rfl (lv_room (Nat.le_of_ble_eq_true rfl)) d_La_law_590 ⟨Nat.le_of_ble_eq_true rfl, Nat.le_of_ble_eq_true rfl⟩) hS.2.2 px34 (fun r35 h36 H37 locs hp39 hH40 z38 hLo => ?_)
  have hS : va_S (P0 s) s.heap H37 locs := vaS_step hS rfl px34 hH40 hLo
  have hO9 : hm D vwCl (gIn H37 B (B + 1)) ho H37 := re9 hO9 hH40 (by omega) (by omega)
  have hBH : B < H37.size := Nat.lt_of_lt_of_le hBH z38
  refine lv_icmp_eq (tgt := 1000) hx hb d_La_law_593 (by decide) (fun hc43 => ?_) (fun hc43 => absurd (Eq.trans hp28 (Eq.symm hp39)) hc43)
  exact law_end l hfl hx hb hr hml hown hts hlocks hXs hbl hS (Nat.le_of_ble_eq_true rfl) (Nat.le_of_ble_eq_true rfl) (lv_sub hl [0, 4] rfl)

set_option maxHeartbeats 4000000 in
set_option maxRecDepth 100000 in
theorem law_c12 {p : Program} {e : Env} {s : State} {m : MethodId} {below : List Frame} {meth : Method} {c : Code} (l : Launch) (hfl : l.flags = flags0) {b : Nat} {xs : Nat → Int32} (hx : p.tables.exec = Jvm.exec) (hb : c.code = b_La_law) (hr : meth.sig.returnType = ret) (hml : c.maxLocals = 8) (hown : s.vm.findClass R_La = some m.cls) (hts : ∀ w ∈ lw_g, w.before #[Value.ref b] s = true) (hlocks : meth.locks = false) {D : va_G} {t : Nat → ClassId} {ak av : Nat → Nat} {x mo n A B : Nat} {h1 h3 ho : hM} {go : Nat → Int64} {H : Heap} {locs : List Loc} {ls : Array Slot} (hE0 : kE D t (gNew s.heap) ak av s) (hT0 : kT (gNew s.heap) s) (hXs : va_X b 7 xs s s.heap) (hbl : b < s.heap.size) (hS : va_S (P0 s) s.heap H locs) (hX9 : hm D vwCl (gIn H s.heap.size A) h1 H) (hM9 : hm D vwCl (gIn H A B) h3 H) (hO9 : hm D vwCl (gIn H B (B + 1)) ho H) (hFX : FrX t h1 x n) (hFM : FrM t h3 mo n) (hou : ho B = some (.inl ((t 3), 1, .inr (.inl go)))) (hmo : A ≤ mo ∧ mo < B) (hSA : s.heap.size ≤ A) (hAB : A ≤ B) (hBH : B < H.size) (hl : lv_has ls 8 [(4, .int 1), (3, .ref B), (2, .ref mo), (1, .ref x), (0, .ref b)]) : W p l e room_1 s m #[Value.ref b] below meth c H locs 340 998345 (lw_Z below #[Value.ref b] s) (F0 m 598 ls []) := by
  have hbA : ¬ P0 s b := Nat.not_le.mpr hbl
  obtain ⟨-, hn40, hn⟩ := FrX_ob hFX
  refine lv_aload_n hx hb d_La_law_598 rfl (lv_at hl 3 rfl) ?_
  refine lv_aload_n hx hb d_La_law_599 rfl (lv_at hl 4 rfl) ?_
  refine lv_iload hx hb d_La_law_600 (lv_at hl 0 rfl) ?_
  refine lv_iconst (v := 1) hx hb d_La_law_602 (by decide) ?_
  refine lv_iadd hx hb d_La_law_603 ?_
  refine va_sld hx hb hXs hbl hbA hS (show ¬ ((1 + 1 : Int32) < 0 ∨ 7 ≤ (1 + 1 : Int32).toNatClampNeg) by decide) d_La_law_604 ?_
  refine lv_topi (fun v21 e22 => ?_)
  obtain rfl : v21 = xs 2 := e22.trans (rfl)
  refine lv_aload_n hx hb d_La_law_605 rfl (lv_at hl 4 rfl) ?_
  refine lv_iload hx hb d_La_law_606 (lv_at hl 0 rfl) ?_
  refine lv_iconst (v := 2) hx hb d_La_law_608 (by decide) ?_
  refine lv_iadd hx hb d_La_law_609 ?_
  refine va_sld hx hb hXs hbl hbA hS (show ¬ ((1 + 2 : Int32) < 0 ∨ 7 ≤ (1 + 2 : Int32).toNatClampNeg) by decide) d_La_law_610 ?_
  refine lv_topi (fun v23 e24 => ?_)
  obtain rfl : v23 = xs 3 := e24.trans (rfl)
  have px25 : ∀ q, (gIn H s.heap.size A).P q → P0 s q := fun q hq => hq.elim (fun z => z.1) (fun z => Nat.le_trans hS.1 z)
  obtain ⟨fo32, hf33⟩ := (FrX_ob hFX).1
  refine hm_callXi (va_runV (As := [.int (xs 2), .int (xs 3)]) (b := x) (rest := []) ⟨hx, hb, hml, hown, hts⟩ (c_x_spoil l D t (gIn H s.heap.size A) ak av h1 x n (xs 2) (xs 3) hFX) ⟨cw9B 2 hts mw_728 mw_729 mw_121 rfl rfl (by decide +kernel) ⟨Nat.le_of_ble_eq_true rfl, Nat.le_of_ble_eq_true rfl⟩, hts _ mw_730, hts _ mw_731⟩ (hP_V (q := (R_Di, F_Di, 9)) kE_ok (kE_g hE0 hS rfl px25) hE0.1 hX9 hf33 rfl) rfl rfl hl.1 rfl (lv_room (Nat.le_of_ble_eq_true rfl)) d_La_law_611 ⟨Nat.le_of_ble_eq_true rfl, Nat.le_of_ble_eq_true rfl⟩) hS.2.2 px25 (fun r26 h27 H28 locs hp30 hH31 z29 hLo => ?_)
  have hS : va_S (P0 s) s.heap H28 locs := vaS_step hS rfl px25 hH31 hLo
  have hM9 : hm D vwCl (gIn H28 A B) h3 H28 := re9 hM9 hH31 (by omega) (by omega)
  have hO9 : hm D vwCl (gIn H28 B (B + 1)) ho H28 := re9 hO9 hH31 (by omega) (by omega)
  have hBH : B < H28.size := Nat.lt_of_lt_of_le hBH z29
  refine lv_aload_n hx hb d_La_law_614 rfl (lv_at hl 2 rfl) ?_
  refine lv_aload_n hx hb d_La_law_615 rfl (lv_at hl 4 rfl) ?_
  refine lv_iload hx hb d_La_law_616 (lv_at hl 0 rfl) ?_
  refine lv_iconst (v := 1) hx hb d_La_law_618 (by decide) ?_
  refine lv_iadd hx hb d_La_law_619 ?_
  refine va_sld hx hb hXs hbl hbA hS (show ¬ ((1 + 1 : Int32) < 0 ∨ 7 ≤ (1 + 1 : Int32).toNatClampNeg) by decide) d_La_law_620 ?_
  refine lv_topi (fun v34 e35 => ?_)
  obtain rfl : v34 = xs 2 := e35.trans (rfl)
  refine lv_aload_n hx hb d_La_law_621 rfl (lv_at hl 4 rfl) ?_
  refine lv_iload hx hb d_La_law_622 (lv_at hl 0 rfl) ?_
  refine lv_iconst (v := 2) hx hb d_La_law_624 (by decide) ?_
  refine lv_iadd hx hb d_La_law_625 ?_
  refine va_sld hx hb hXs hbl hbA hS (show ¬ ((1 + 2 : Int32) < 0 ∨ 7 ≤ (1 + 2 : Int32).toNatClampNeg) by decide) d_La_law_626 ?_
  refine lv_topi (fun v36 e37 => ?_)
  obtain rfl : v36 = xs 3 := e37.trans (rfl)
  have px38 : ∀ q, (gIn H28 A B).P q → P0 s q := fun q hq => hq.elim (fun z => Nat.le_trans hSA z.1) (fun z => Nat.le_trans hS.1 z)
  obtain ⟨fo45, hf46⟩ := FrM_ob hFM
  refine hm_callXi (va_runV (As := [.int (xs 2), .int (xs 3)]) (b := mo) (rest := [.int r26]) ⟨hx, hb, hml, hown, hts⟩ (c_m_spoil l D t (gIn H28 A B) ak av h3 mo n (xs 2) (xs 3) hFM) ⟨cw9B 2 hts mw_732 mw_733 mw_428 rfl rfl (by decide +kernel) ⟨Nat.le_of_ble_eq_true rfl, Nat.le_of_ble_eq_true rfl⟩, hts _ mw_734, hts _ mw_735⟩ (hP_V (q := (R_Mo, F_Mo, 41)) kE_ok (kE_g hE0 hS rfl px38) hE0.1 hM9 hf46 rfl) rfl rfl hl.1 rfl (lv_room (Nat.le_of_ble_eq_true rfl)) d_La_law_627 ⟨Nat.le_of_ble_eq_true rfl, Nat.le_of_ble_eq_true rfl⟩) hS.2.2 px38 (fun r39 h40 H41 locs hp43 hH44 z42 hLo => ?_)
  have hS : va_S (P0 s) s.heap H41 locs := vaS_step hS rfl px38 hH44 hLo
  have hO9 : hm D vwCl (gIn H41 B (B + 1)) ho H41 := re9 hO9 hH44 (by omega) (by omega)
  have hBH : B < H41.size := Nat.lt_of_lt_of_le hBH z42
  refine lv_icmp_eq (tgt := 1000) hx hb d_La_law_630 (by decide) (fun hc47 => ?_) (fun hc47 => absurd (Eq.trans hp30 (Eq.symm hp43)) hc47)
  exact law_end l hfl hx hb hr hml hown hts hlocks hXs hbl hS (Nat.le_of_ble_eq_true rfl) (Nat.le_of_ble_eq_true rfl) (lv_sub hl [0, 4] rfl)

set_option maxHeartbeats 4000000 in
set_option maxRecDepth 100000 in
theorem law_c13 {p : Program} {e : Env} {s : State} {m : MethodId} {below : List Frame} {meth : Method} {c : Code} (l : Launch) (hfl : l.flags = flags0) {b : Nat} {xs : Nat → Int32} (hx : p.tables.exec = Jvm.exec) (hb : c.code = b_La_law) (hr : meth.sig.returnType = ret) (hml : c.maxLocals = 8) (hown : s.vm.findClass R_La = some m.cls) (hts : ∀ w ∈ lw_g, w.before #[Value.ref b] s = true) (hlocks : meth.locks = false) {D : va_G} {t : Nat → ClassId} {ak av : Nat → Nat} {x mo n A B : Nat} {h1 h3 ho : hM} {go : Nat → Int64} {H : Heap} {locs : List Loc} {ls : Array Slot} (hE0 : kE D t (gNew s.heap) ak av s) (hT0 : kT (gNew s.heap) s) (hXs : va_X b 7 xs s s.heap) (hbl : b < s.heap.size) (hS : va_S (P0 s) s.heap H locs) (hX9 : hm D vwCl (gIn H s.heap.size A) h1 H) (hM9 : hm D vwCl (gIn H A B) h3 H) (hO9 : hm D vwCl (gIn H B (B + 1)) ho H) (hFX : FrX t h1 x n) (hFM : FrM t h3 mo n) (hou : ho B = some (.inl ((t 3), 1, .inr (.inl go)))) (hmo : A ≤ mo ∧ mo < B) (hSA : s.heap.size ≤ A) (hAB : A ≤ B) (hBH : B < H.size) (hl : lv_has ls 8 [(4, .int 1), (3, .ref B), (2, .ref mo), (1, .ref x), (0, .ref b)]) : W p l e room_1 s m #[Value.ref b] below meth c H locs 340 998345 (lw_Z below #[Value.ref b] s) (F0 m 635 ls []) := by
  have hbA : ¬ P0 s b := Nat.not_le.mpr hbl
  obtain ⟨-, hn40, hn⟩ := FrX_ob hFX
  refine lv_aload_n hx hb d_La_law_635 rfl (lv_at hl 3 rfl) ?_
  have px21 : ∀ q, (gIn H s.heap.size A).P q → P0 s q := fun q hq => hq.elim (fun z => z.1) (fun z => Nat.le_trans hS.1 z)
  obtain ⟨fo28, hf29⟩ := (FrX_ob hFX).1
  refine hm_callXi (va_runV (As := []) (b := x) (rest := []) ⟨hx, hb, hml, hown, hts⟩ (c_x_writes l D t (gIn H s.heap.size A) ak av h1 x n hFX) ⟨cw9B 0 hts mw_736 mw_737 mw_121 rfl rfl (by decide +kernel) ⟨Nat.le_of_ble_eq_true rfl, Nat.le_of_ble_eq_true rfl⟩, hts _ mw_738, hts _ mw_739⟩ (hP_V (q := (R_Di, F_Di, 9)) kE_ok (kE_g hE0 hS rfl px21) hE0.1 hX9 hf29 rfl) rfl rfl hl.1 rfl (lv_room (Nat.le_of_ble_eq_true rfl)) d_La_law_636 ⟨Nat.le_of_ble_eq_true rfl, Nat.le_of_ble_eq_true rfl⟩) hS.2.2 px21 (fun r22 h23 H24 locs hp26 hH27 z25 hLo => ?_)
  have hS : va_S (P0 s) s.heap H24 locs := vaS_step hS rfl px21 hH27 hLo
  have hM9 : hm D vwCl (gIn H24 A B) h3 H24 := re9 hM9 hH27 (by omega) (by omega)
  have hO9 : hm D vwCl (gIn H24 B (B + 1)) ho H24 := re9 hO9 hH27 (by omega) (by omega)
  have hBH : B < H24.size := Nat.lt_of_lt_of_le hBH z25
  refine lv_aload_n hx hb d_La_law_639 rfl (lv_at hl 2 rfl) ?_
  have px30 : ∀ q, (gIn H24 A B).P q → P0 s q := fun q hq => hq.elim (fun z => Nat.le_trans hSA z.1) (fun z => Nat.le_trans hS.1 z)
  obtain ⟨fo37, hf38⟩ := FrM_ob hFM
  refine hm_callXi (va_runV (As := []) (b := mo) (rest := [.int r22]) ⟨hx, hb, hml, hown, hts⟩ (c_m_writes l D t (gIn H24 A B) ak av h3 mo n hFM) ⟨cw9B 0 hts mw_740 mw_741 mw_428 rfl rfl (by decide +kernel) ⟨Nat.le_of_ble_eq_true rfl, Nat.le_of_ble_eq_true rfl⟩, hts _ mw_742, hts _ mw_743⟩ (hP_V (q := (R_Mo, F_Mo, 41)) kE_ok (kE_g hE0 hS rfl px30) hE0.1 hM9 hf38 rfl) rfl rfl hl.1 rfl (lv_room (Nat.le_of_ble_eq_true rfl)) d_La_law_640 ⟨Nat.le_of_ble_eq_true rfl, Nat.le_of_ble_eq_true rfl⟩) hS.2.2 px30 (fun r31 h32 H33 locs hp35 hH36 z34 hLo => ?_)
  have hS : va_S (P0 s) s.heap H33 locs := vaS_step hS rfl px30 hH36 hLo
  have hO9 : hm D vwCl (gIn H33 B (B + 1)) ho H33 := re9 hO9 hH36 (by omega) (by omega)
  have hBH : B < H33.size := Nat.lt_of_lt_of_le hBH z34
  refine lv_icmp_eq (tgt := 1000) hx hb d_La_law_643 (by decide) (fun hc39 => ?_) (fun hc39 => absurd (Eq.trans hp26 (Eq.symm hp35)) hc39)
  exact law_end l hfl hx hb hr hml hown hts hlocks hXs hbl hS (Nat.le_of_ble_eq_true rfl) (Nat.le_of_ble_eq_true rfl) (lv_sub hl [0, 4] rfl)

set_option maxHeartbeats 4000000 in
set_option maxRecDepth 100000 in
theorem law_c15 {p : Program} {e : Env} {s : State} {m : MethodId} {below : List Frame} {meth : Method} {c : Code} (l : Launch) (hfl : l.flags = flags0) {b : Nat} {xs : Nat → Int32} (hx : p.tables.exec = Jvm.exec) (hb : c.code = b_La_law) (hr : meth.sig.returnType = ret) (hml : c.maxLocals = 8) (hown : s.vm.findClass R_La = some m.cls) (hts : ∀ w ∈ lw_g, w.before #[Value.ref b] s = true) (hlocks : meth.locks = false) {D : va_G} {t : Nat → ClassId} {ak av : Nat → Nat} {x mo n A B : Nat} {h1 h3 ho : hM} {go : Nat → Int64} {H : Heap} {locs : List Loc} {ls : Array Slot} (hE0 : kE D t (gNew s.heap) ak av s) (hT0 : kT (gNew s.heap) s) (hXs : va_X b 7 xs s s.heap) (hbl : b < s.heap.size) (hS : va_S (P0 s) s.heap H locs) (hX9 : hm D vwCl (gIn H s.heap.size A) h1 H) (hM9 : hm D vwCl (gIn H A B) h3 H) (hO9 : hm D vwCl (gIn H B (B + 1)) ho H) (hFX : FrX t h1 x n) (hFM : FrM t h3 mo n) (hou : ho B = some (.inl ((t 3), 1, .inr (.inl go)))) (hmo : A ≤ mo ∧ mo < B) (hSA : s.heap.size ≤ A) (hAB : A ≤ B) (hBH : B < H.size) (hl : lv_has ls 8 [(4, .int 1), (3, .ref B), (2, .ref mo), (1, .ref x), (0, .ref b)]) : W p l e room_1 s m #[Value.ref b] below meth c H locs 340 998345 (lw_Z below #[Value.ref b] s) (F0 m 716 ls []) := by
  have hbA : ¬ P0 s b := Nat.not_le.mpr hbl
  obtain ⟨-, hn40, hn⟩ := FrX_ob hFX
  refine lv_aload_n hx hb d_La_law_716 rfl (lv_at hl 3 rfl) ?_
  refine lv_aload_n hx hb d_La_law_717 rfl (lv_at hl 4 rfl) ?_
  refine lv_iload hx hb d_La_law_718 (lv_at hl 0 rfl) ?_
  refine lv_iconst (v := 1) hx hb d_La_law_720 (by decide) ?_
  refine lv_iadd hx hb d_La_law_721 ?_
  refine va_sld hx hb hXs hbl hbA hS (show ¬ ((1 + 1 : Int32) < 0 ∨ 7 ≤ (1 + 1 : Int32).toNatClampNeg) by decide) d_La_law_722 ?_
  refine lv_topi (fun v21 e22 => ?_)
  obtain rfl : v21 = xs 2 := e22.trans (rfl)
  have px23 : ∀ q, (gIn H s.heap.size A).P q → P0 s q := fun q hq => hq.elim (fun z => z.1) (fun z => Nat.le_trans hS.1 z)
  obtain ⟨fo30, hf31⟩ := (FrX_ob hFX).1
  refine hm_callXi (va_runV (As := [.int (xs 2)]) (b := x) (rest := []) ⟨hx, hb, hml, hown, hts⟩ (c_x_open l D t (gIn H s.heap.size A) ak av h1 x n (xs 2) hFX) ⟨cw9B 1 hts mw_744 mw_745 mw_121 rfl rfl (by decide +kernel) ⟨Nat.le_of_ble_eq_true rfl, Nat.le_of_ble_eq_true rfl⟩, hts _ mw_746, hts _ mw_747⟩ (hP_V (q := (R_Di, F_Di, 9)) kE_ok (kE_g hE0 hS rfl px23) hE0.1 hX9 hf31 rfl) rfl rfl hl.1 rfl (lv_room (Nat.le_of_ble_eq_true rfl)) d_La_law_723 ⟨Nat.le_of_ble_eq_true rfl, Nat.le_of_ble_eq_true rfl⟩) hS.2.2 px23 (fun r24 h25 H26 locs hp28 hH29 z27 hLo => ?_)
  have hS : va_S (P0 s) s.heap H26 locs := vaS_step hS rfl px23 hH29 hLo
  have hM9 : hm D vwCl (gIn H26 A B) h3 H26 := re9 hM9 hH29 (by omega) (by omega)
  have hO9 : hm D vwCl (gIn H26 B (B + 1)) ho H26 := re9 hO9 hH29 (by omega) (by omega)
  have hBH : B < H26.size := Nat.lt_of_lt_of_le hBH z27
  refine lv_aload_n hx hb d_La_law_726 rfl (lv_at hl 2 rfl) ?_
  refine lv_aload_n hx hb d_La_law_727 rfl (lv_at hl 4 rfl) ?_
  refine lv_iload hx hb d_La_law_728 (lv_at hl 0 rfl) ?_
  refine lv_iconst (v := 1) hx hb d_La_law_730 (by decide) ?_
  refine lv_iadd hx hb d_La_law_731 ?_
  refine va_sld hx hb hXs hbl hbA hS (show ¬ ((1 + 1 : Int32) < 0 ∨ 7 ≤ (1 + 1 : Int32).toNatClampNeg) by decide) d_La_law_732 ?_
  refine lv_topi (fun v32 e33 => ?_)
  obtain rfl : v32 = xs 2 := e33.trans (rfl)
  have px34 : ∀ q, (gIn H26 A B).P q → P0 s q := fun q hq => hq.elim (fun z => Nat.le_trans hSA z.1) (fun z => Nat.le_trans hS.1 z)
  obtain ⟨fo41, hf42⟩ := FrM_ob hFM
  refine hm_callXi (va_runV (As := [.int (xs 2)]) (b := mo) (rest := [.int r24]) ⟨hx, hb, hml, hown, hts⟩ (c_m_open l D t (gIn H26 A B) ak av h3 mo n (xs 2) hFM) ⟨cw9B 1 hts mw_748 mw_749 mw_428 rfl rfl (by decide +kernel) ⟨Nat.le_of_ble_eq_true rfl, Nat.le_of_ble_eq_true rfl⟩, hts _ mw_750, hts _ mw_751⟩ (hP_V (q := (R_Mo, F_Mo, 41)) kE_ok (kE_g hE0 hS rfl px34) hE0.1 hM9 hf42 rfl) rfl rfl hl.1 rfl (lv_room (Nat.le_of_ble_eq_true rfl)) d_La_law_733 ⟨Nat.le_of_ble_eq_true rfl, Nat.le_of_ble_eq_true rfl⟩) hS.2.2 px34 (fun r35 h36 H37 locs hp39 hH40 z38 hLo => ?_)
  have hS : va_S (P0 s) s.heap H37 locs := vaS_step hS rfl px34 hH40 hLo
  have hO9 : hm D vwCl (gIn H37 B (B + 1)) ho H37 := re9 hO9 hH40 (by omega) (by omega)
  have hBH : B < H37.size := Nat.lt_of_lt_of_le hBH z38
  refine lv_icmp_eq (tgt := 1000) hx hb d_La_law_736 (by decide) (fun hc43 => ?_) (fun hc43 => absurd (Eq.trans hp28 (Eq.symm hp39)) hc43)
  exact law_end l hfl hx hb hr hml hown hts hlocks hXs hbl hS (Nat.le_of_ble_eq_true rfl) (Nat.le_of_ble_eq_true rfl) (lv_sub hl [0, 4] rfl)
