set_option maxRecDepth 20000 in
theorem q_688 : (Jvm.Cond.code ({ cls := "TrapDeskModel", name := "isKind", desc := "(I)Z" } : Jvm.MethodName) prog_9_method_4_code (1 : Nat) (Option.some Jvm.ClassFile.FieldType.boolean)) ∈ gtb := List.mem_filter.mpr ⟨List.mem_of_getElem? (i := 688) (rfl), rfl⟩
theorem q_686 : (Jvm.Cond.methodLink "TrapDeskModel" (87 : Nat) ({ cls := "TrapDeskModel", name := "isKind", desc := "(I)Z" } : Jvm.MethodName)) ∈ gtb := List.mem_filter.mpr ⟨List.mem_of_getElem? (i := 686) (by decide +kernel), rfl⟩
theorem q_47 : (Jvm.Cond.initialized "TrapDeskModel") ∈ gtb := List.mem_filter.mpr ⟨List.mem_of_getElem? (i := 47) (by decide +kernel), rfl⟩
theorem q_687 : (Jvm.Cond.static ({ cls := "TrapDeskModel", name := "isKind", desc := "(I)Z" } : Jvm.MethodName)) ∈ gtb := List.mem_filter.mpr ⟨List.mem_of_getElem? (i := 687) (by decide +kernel), rfl⟩
set_option maxRecDepth 20000 in
theorem q_691 : (Jvm.Cond.code ({ cls := "TrapDeskModel", name := "isH", desc := "(I)Z" } : Jvm.MethodName) prog_9_method_6_code (1 : Nat) (Option.some Jvm.ClassFile.FieldType.boolean)) ∈ gtb := List.mem_filter.mpr ⟨List.mem_of_getElem? (i := 691) (rfl), rfl⟩
theorem q_689 : (Jvm.Cond.methodLink "TrapDeskModel" (91 : Nat) ({ cls := "TrapDeskModel", name := "isH", desc := "(I)Z" } : Jvm.MethodName)) ∈ gtb := List.mem_filter.mpr ⟨List.mem_of_getElem? (i := 689) (by decide +kernel), rfl⟩
theorem q_690 : (Jvm.Cond.static ({ cls := "TrapDeskModel", name := "isH", desc := "(I)Z" } : Jvm.MethodName)) ∈ gtb := List.mem_filter.mpr ⟨List.mem_of_getElem? (i := 690) (by decide +kernel), rfl⟩
set_option maxRecDepth 20000 in
theorem q_694 : (Jvm.Cond.code ({ cls := "TrapDeskModel", name := "isTime", desc := "(I)Z" } : Jvm.MethodName) prog_9_method_5_code (1 : Nat) (Option.some Jvm.ClassFile.FieldType.boolean)) ∈ gtb := List.mem_filter.mpr ⟨List.mem_of_getElem? (i := 694) (rfl), rfl⟩
theorem q_692 : (Jvm.Cond.methodLink "TrapDeskModel" (94 : Nat) ({ cls := "TrapDeskModel", name := "isTime", desc := "(I)Z" } : Jvm.MethodName)) ∈ gtb := List.mem_filter.mpr ⟨List.mem_of_getElem? (i := 692) (by decide +kernel), rfl⟩
theorem q_693 : (Jvm.Cond.static ({ cls := "TrapDeskModel", name := "isTime", desc := "(I)Z" } : Jvm.MethodName)) ∈ gtb := List.mem_filter.mpr ⟨List.mem_of_getElem? (i := 693) (by decide +kernel), rfl⟩
theorem q_622 : (Jvm.Cond.fieldLink "TrapDeskModel" (63 : Nat) "TrapDeskModel" "hstatus" "I") ∈ gtb := List.mem_filter.mpr ⟨List.mem_of_getElem? (i := 622) (by decide +kernel), rfl⟩
set_option maxRecDepth 20000 in
theorem q_685 : (Jvm.Cond.code ({ cls := "TrapDeskModel", name := "isOne", desc := "(I)Z" } : Jvm.MethodName) prog_9_method_7_code (2 : Nat) (Option.some Jvm.ClassFile.FieldType.boolean)) ∈ gtb := List.mem_filter.mpr ⟨List.mem_of_getElem? (i := 685) (rfl), rfl⟩
theorem q_683 : (Jvm.Cond.methodLink "TrapDeskModel" (110 : Nat) ({ cls := "TrapDeskModel", name := "isOne", desc := "(I)Z" } : Jvm.MethodName)) ∈ gtb := List.mem_filter.mpr ⟨List.mem_of_getElem? (i := 683) (by decide +kernel), rfl⟩
theorem q_684 : (Jvm.Cond.static ({ cls := "TrapDeskModel", name := "isOne", desc := "(I)Z" } : Jvm.MethodName)) ∈ gtb := List.mem_filter.mpr ⟨List.mem_of_getElem? (i := 684) (by decide +kernel), rfl⟩
theorem q_607 : (Jvm.Cond.fieldLink "TrapDeskModel" (19 : Nat) "TrapDeskModel" "mode" "I") ∈ gtb := List.mem_filter.mpr ⟨List.mem_of_getElem? (i := 607) (by decide +kernel), rfl⟩
theorem q_771 : (Jvm.Cond.constant "TrapDeskModel" (121 : Nat) (1048576 : Int32)) ∈ gtb := List.mem_filter.mpr ⟨List.mem_of_getElem? (i := 771) (by decide +kernel), rfl⟩
set_option maxRecDepth 20000 in
theorem q_766 : (Jvm.Cond.code ({ cls := "TrapDeskModel", name := "has", desc := "(I)Z" } : Jvm.MethodName) prog_9_method_14_code (2 : Nat) (Option.some Jvm.ClassFile.FieldType.boolean)) ∈ gtb := List.mem_filter.mpr ⟨List.mem_of_getElem? (i := 766) (rfl), rfl⟩
theorem q_763 : (Jvm.Cond.methodLink "TrapDeskModel" (122 : Nat) ({ cls := "TrapDeskModel", name := "has", desc := "(I)Z" } : Jvm.MethodName)) ∈ gtb := List.mem_filter.mpr ⟨List.mem_of_getElem? (i := 763) (by decide +kernel), rfl⟩
theorem q_765 : (Jvm.Cond.instanceMethod ({ cls := "TrapDeskModel", name := "has", desc := "(I)Z" } : Jvm.MethodName)) ∈ gtb := List.mem_filter.mpr ⟨List.mem_of_getElem? (i := 765) (by decide +kernel), rfl⟩
theorem q_29 : (Jvm.Cond.selects "TrapDeskModel" ({ cls := "TrapDeskModel", name := "has", desc := "(I)Z" } : Jvm.MethodName) ({ cls := "TrapDeskModel", name := "has", desc := "(I)Z" } : Jvm.MethodName)) ∈ gtb := List.mem_filter.mpr ⟨List.mem_of_getElem? (i := 29) (by decide +kernel), rfl⟩
theorem q_621 : (Jvm.Cond.fieldLink "TrapDeskModel" (13 : Nat) "TrapDeskModel" "cells" "[I") ∈ gtb := List.mem_filter.mpr ⟨List.mem_of_getElem? (i := 621) (by decide +kernel), rfl⟩
theorem q_609 : (Jvm.Cond.fieldLink "TrapDeskModel" (26 : Nat) "TrapDeskModel" "time" "J") ∈ gtb := List.mem_filter.mpr ⟨List.mem_of_getElem? (i := 609) (by decide +kernel), rfl⟩
theorem q_610 : (Jvm.Cond.fieldLink "TrapDeskModel" (32 : Nat) "TrapDeskModel" "alarm" "J") ∈ gtb := List.mem_filter.mpr ⟨List.mem_of_getElem? (i := 610) (by decide +kernel), rfl⟩
theorem q_611 : (Jvm.Cond.fieldLink "TrapDeskModel" (35 : Nat) "TrapDeskModel" "lineOn" "Z") ∈ gtb := List.mem_filter.mpr ⟨List.mem_of_getElem? (i := 611) (by decide +kernel), rfl⟩
set_option maxRecDepth 20000 in
theorem q_718 : (Jvm.Cond.code ({ cls := "TrapDeskModel", name := "sip", desc := "()I" } : Jvm.MethodName) prog_9_method_8_code (1 : Nat) (Option.some Jvm.ClassFile.FieldType.int)) ∈ gtb := List.mem_filter.mpr ⟨List.mem_of_getElem? (i := 718) (rfl), rfl⟩
theorem q_715 : (Jvm.Cond.methodLink "TrapDeskModel" (97 : Nat) ({ cls := "TrapDeskModel", name := "sip", desc := "()I" } : Jvm.MethodName)) ∈ gtb := List.mem_filter.mpr ⟨List.mem_of_getElem? (i := 715) (by decide +kernel), rfl⟩
theorem q_717 : (Jvm.Cond.instanceMethod ({ cls := "TrapDeskModel", name := "sip", desc := "()I" } : Jvm.MethodName)) ∈ gtb := List.mem_filter.mpr ⟨List.mem_of_getElem? (i := 717) (by decide +kernel), rfl⟩
theorem q_23 : (Jvm.Cond.selects "TrapDeskModel" ({ cls := "TrapDeskModel", name := "sip", desc := "()I" } : Jvm.MethodName) ({ cls := "TrapDeskModel", name := "sip", desc := "()I" } : Jvm.MethodName)) ∈ gtb := List.mem_filter.mpr ⟨List.mem_of_getElem? (i := 23) (by decide +kernel), rfl⟩
theorem q_625 : (Jvm.Cond.fieldLink "TrapDeskModel" (72 : Nat) "TrapDeskModel" "hie" "I") ∈ gtb := List.mem_filter.mpr ⟨List.mem_of_getElem? (i := 625) (by decide +kernel), rfl⟩
theorem q_624 : (Jvm.Cond.fieldLink "TrapDeskModel" (69 : Nat) "TrapDeskModel" "hideleg" "I") ∈ gtb := List.mem_filter.mpr ⟨List.mem_of_getElem? (i := 624) (by decide +kernel), rfl⟩
theorem q_627 : (Jvm.Cond.fieldLink "TrapDeskModel" (78 : Nat) "TrapDeskModel" "hvip" "I") ∈ gtb := List.mem_filter.mpr ⟨List.mem_of_getElem? (i := 627) (by decide +kernel), rfl⟩
theorem q_623 : (Jvm.Cond.fieldLink "TrapDeskModel" (66 : Nat) "TrapDeskModel" "hedeleg" "I") ∈ gtb := List.mem_filter.mpr ⟨List.mem_of_getElem? (i := 623) (by decide +kernel), rfl⟩
theorem q_626 : (Jvm.Cond.fieldLink "TrapDeskModel" (75 : Nat) "TrapDeskModel" "htval" "I") ∈ gtb := List.mem_filter.mpr ⟨List.mem_of_getElem? (i := 626) (by decide +kernel), rfl⟩
theorem q_628 : (Jvm.Cond.fieldLink "TrapDeskModel" (81 : Nat) "TrapDeskModel" "htinst" "I") ∈ gtb := List.mem_filter.mpr ⟨List.mem_of_getElem? (i := 628) (by decide +kernel), rfl⟩
theorem q_629 : (Jvm.Cond.fieldLink "TrapDeskModel" (84 : Nat) "TrapDeskModel" "hgatp" "I") ∈ gtb := List.mem_filter.mpr ⟨List.mem_of_getElem? (i := 629) (by decide +kernel), rfl⟩
theorem q_705 : (Jvm.Cond.constant "TrapDeskModel" (101 : Nat) (786722 : Int32)) ∈ gtb := List.mem_filter.mpr ⟨List.mem_of_getElem? (i := 705) (by decide +kernel), rfl⟩
theorem q_706 : (Jvm.Cond.constant "TrapDeskModel" (102 : Nat) (-2143289345 : Int32)) ∈ gtb := List.mem_filter.mpr ⟨List.mem_of_getElem? (i := 706) (by decide +kernel), rfl⟩
theorem q_699 : (Jvm.Cond.constant "TrapDeskModel" (103 : Nat) (7340992 : Int32)) ∈ gtb := List.mem_filter.mpr ⟨List.mem_of_getElem? (i := 699) (by decide +kernel), rfl⟩
theorem q_700 : (Jvm.Cond.constant "TrapDeskModel" (104 : Nat) (45567 : Int32)) ∈ gtb := List.mem_filter.mpr ⟨List.mem_of_getElem? (i := 700) (by decide +kernel), rfl⟩
theorem q_701 : (Jvm.Cond.constant "TrapDeskModel" (105 : Nat) (-2143289348 : Int32)) ∈ gtb := List.mem_filter.mpr ⟨List.mem_of_getElem? (i := 701) (by decide +kernel), rfl⟩
set_option maxRecDepth 20000 in
theorem q_704 : (Jvm.Cond.code ({ cls := "TrapDeskModel", name := "keeps", desc := "(II)I" } : Jvm.MethodName) prog_9_method_10_code (2 : Nat) (Option.some Jvm.ClassFile.FieldType.int)) ∈ gtb := List.mem_filter.mpr ⟨List.mem_of_getElem? (i := 704) (rfl), rfl⟩
theorem q_702 : (Jvm.Cond.methodLink "TrapDeskModel" (106 : Nat) ({ cls := "TrapDeskModel", name := "keeps", desc := "(II)I" } : Jvm.MethodName)) ∈ gtb := List.mem_filter.mpr ⟨List.mem_of_getElem? (i := 702) (by decide +kernel), rfl⟩
theorem q_703 : (Jvm.Cond.static ({ cls := "TrapDeskModel", name := "keeps", desc := "(II)I" } : Jvm.MethodName)) ∈ gtb := List.mem_filter.mpr ⟨List.mem_of_getElem? (i := 703) (by decide +kernel), rfl⟩
set_option maxRecDepth 20000 in
theorem q_698 : (Jvm.Cond.code ({ cls := "TrapDeskModel", name := "write", desc := "(II)V" } : Jvm.MethodName) prog_9_method_11_code (4 : Nat) (Option.none : Option Jvm.ClassFile.FieldType)) ∈ gtb := List.mem_filter.mpr ⟨List.mem_of_getElem? (i := 698) (rfl), rfl⟩
theorem q_695 : (Jvm.Cond.methodLink "TrapDeskModel" (113 : Nat) ({ cls := "TrapDeskModel", name := "write", desc := "(II)V" } : Jvm.MethodName)) ∈ gtb := List.mem_filter.mpr ⟨List.mem_of_getElem? (i := 695) (by decide +kernel), rfl⟩
theorem q_697 : (Jvm.Cond.instanceMethod ({ cls := "TrapDeskModel", name := "write", desc := "(II)V" } : Jvm.MethodName)) ∈ gtb := List.mem_filter.mpr ⟨List.mem_of_getElem? (i := 697) (by decide +kernel), rfl⟩
theorem q_21 : (Jvm.Cond.selects "TrapDeskModel" ({ cls := "TrapDeskModel", name := "write", desc := "(II)V" } : Jvm.MethodName) ({ cls := "TrapDeskModel", name := "write", desc := "(II)V" } : Jvm.MethodName)) ∈ gtb := List.mem_filter.mpr ⟨List.mem_of_getElem? (i := 21) (by decide +kernel), rfl⟩
set_option maxRecDepth 20000 in
theorem q_714 : (Jvm.Cond.code ({ cls := "TrapDeskModel", name := "tells", desc := "(I)I" } : Jvm.MethodName) prog_9_method_9_code (2 : Nat) (Option.some Jvm.ClassFile.FieldType.int)) ∈ gtb := List.mem_filter.mpr ⟨List.mem_of_getElem? (i := 714) (rfl), rfl⟩
theorem q_711 : (Jvm.Cond.methodLink "TrapDeskModel" (117 : Nat) ({ cls := "TrapDeskModel", name := "tells", desc := "(I)I" } : Jvm.MethodName)) ∈ gtb := List.mem_filter.mpr ⟨List.mem_of_getElem? (i := 711) (by decide +kernel), rfl⟩
theorem q_713 : (Jvm.Cond.instanceMethod ({ cls := "TrapDeskModel", name := "tells", desc := "(I)I" } : Jvm.MethodName)) ∈ gtb := List.mem_filter.mpr ⟨List.mem_of_getElem? (i := 713) (by decide +kernel), rfl⟩
theorem q_22 : (Jvm.Cond.selects "TrapDeskModel" ({ cls := "TrapDeskModel", name := "tells", desc := "(I)I" } : Jvm.MethodName) ({ cls := "TrapDeskModel", name := "tells", desc := "(I)I" } : Jvm.MethodName)) ∈ gtb := List.mem_filter.mpr ⟨List.mem_of_getElem? (i := 22) (by decide +kernel), rfl⟩
set_option maxRecDepth 20000 in
theorem q_725 : (Jvm.Cond.code ({ cls := "TrapDeskModel", name := "isAddress", desc := "(I)Z" } : Jvm.MethodName) prog_9_method_16_code (1 : Nat) (Option.some Jvm.ClassFile.FieldType.boolean)) ∈ gtb := List.mem_filter.mpr ⟨List.mem_of_getElem? (i := 725) (rfl), rfl⟩
theorem q_723 : (Jvm.Cond.methodLink "TrapDeskModel" (126 : Nat) ({ cls := "TrapDeskModel", name := "isAddress", desc := "(I)Z" } : Jvm.MethodName)) ∈ gtb := List.mem_filter.mpr ⟨List.mem_of_getElem? (i := 723) (by decide +kernel), rfl⟩
theorem q_724 : (Jvm.Cond.static ({ cls := "TrapDeskModel", name := "isAddress", desc := "(I)Z" } : Jvm.MethodName)) ∈ gtb := List.mem_filter.mpr ⟨List.mem_of_getElem? (i := 724) (by decide +kernel), rfl⟩
set_option maxRecDepth 20000 in
theorem q_734 : (Jvm.Cond.code ({ cls := "TrapDeskModel", name := "isVirtual", desc := "()Z" } : Jvm.MethodName) prog_9_method_17_code (1 : Nat) (Option.some Jvm.ClassFile.FieldType.boolean)) ∈ gtb := List.mem_filter.mpr ⟨List.mem_of_getElem? (i := 734) (rfl), rfl⟩
theorem q_731 : (Jvm.Cond.methodLink "TrapDeskModel" (129 : Nat) ({ cls := "TrapDeskModel", name := "isVirtual", desc := "()Z" } : Jvm.MethodName)) ∈ gtb := List.mem_filter.mpr ⟨List.mem_of_getElem? (i := 731) (by decide +kernel), rfl⟩
theorem q_733 : (Jvm.Cond.instanceMethod ({ cls := "TrapDeskModel", name := "isVirtual", desc := "()Z" } : Jvm.MethodName)) ∈ gtb := List.mem_filter.mpr ⟨List.mem_of_getElem? (i := 733) (by decide +kernel), rfl⟩
theorem q_25 : (Jvm.Cond.selects "TrapDeskModel" ({ cls := "TrapDeskModel", name := "isVirtual", desc := "()Z" } : Jvm.MethodName) ({ cls := "TrapDeskModel", name := "isVirtual", desc := "()Z" } : Jvm.MethodName)) ∈ gtb := List.mem_filter.mpr ⟨List.mem_of_getElem? (i := 25) (by decide +kernel), rfl⟩
theorem q_608 : (Jvm.Cond.fieldLink "TrapDeskModel" (23 : Nat) "TrapDeskModel" "pc" "I") ∈ gtb := List.mem_filter.mpr ⟨List.mem_of_getElem? (i := 608) (by decide +kernel), rfl⟩
theorem q_743 : (Jvm.Cond.constant "TrapDeskModel" (125 : Nat) (2147483647 : Int32)) ∈ gtb := List.mem_filter.mpr ⟨List.mem_of_getElem? (i := 743) (by decide +kernel), rfl⟩
set_option maxRecDepth 20000 in
theorem q_742 : (Jvm.Cond.code ({ cls := "TrapDeskModel", name := "leave", desc := "(III)V" } : Jvm.MethodName) prog_9_method_18_code (7 : Nat) (Option.none : Option Jvm.ClassFile.FieldType)) ∈ gtb := List.mem_filter.mpr ⟨List.mem_of_getElem? (i := 742) (rfl), rfl⟩
theorem q_739 : (Jvm.Cond.methodLink "TrapDeskModel" (133 : Nat) ({ cls := "TrapDeskModel", name := "leave", desc := "(III)V" } : Jvm.MethodName)) ∈ gtb := List.mem_filter.mpr ⟨List.mem_of_getElem? (i := 739) (by decide +kernel), rfl⟩
theorem q_741 : (Jvm.Cond.instanceMethod ({ cls := "TrapDeskModel", name := "leave", desc := "(III)V" } : Jvm.MethodName)) ∈ gtb := List.mem_filter.mpr ⟨List.mem_of_getElem? (i := 741) (by decide +kernel), rfl⟩
theorem q_27 : (Jvm.Cond.selects "TrapDeskModel" ({ cls := "TrapDeskModel", name := "leave", desc := "(III)V" } : Jvm.MethodName) ({ cls := "TrapDeskModel", name := "leave", desc := "(III)V" } : Jvm.MethodName)) ∈ gtb := List.mem_filter.mpr ⟨List.mem_of_getElem? (i := 27) (by decide +kernel), rfl⟩
theorem q_618 : (Jvm.Cond.fieldLink "TrapDeskModel" (54 : Nat) "TrapDeskModel" "trapsToS" "I") ∈ gtb := List.mem_filter.mpr ⟨List.mem_of_getElem? (i := 618) (by decide +kernel), rfl⟩
theorem q_619 : (Jvm.Cond.fieldLink "TrapDeskModel" (57 : Nat) "TrapDeskModel" "trapsToVs" "I") ∈ gtb := List.mem_filter.mpr ⟨List.mem_of_getElem? (i := 619) (by decide +kernel), rfl⟩
set_option maxRecDepth 20000 in
theorem q_738 : (Jvm.Cond.code ({ cls := "TrapDeskModel", name := "toVs", desc := "(II)V" } : Jvm.MethodName) prog_9_method_20_code (3 : Nat) (Option.none : Option Jvm.ClassFile.FieldType)) ∈ gtb := List.mem_filter.mpr ⟨List.mem_of_getElem? (i := 738) (rfl), rfl⟩
theorem q_735 : (Jvm.Cond.methodLink "TrapDeskModel" (137 : Nat) ({ cls := "TrapDeskModel", name := "toVs", desc := "(II)V" } : Jvm.MethodName)) ∈ gtb := List.mem_filter.mpr ⟨List.mem_of_getElem? (i := 735) (by decide +kernel), rfl⟩
theorem q_737 : (Jvm.Cond.instanceMethod ({ cls := "TrapDeskModel", name := "toVs", desc := "(II)V" } : Jvm.MethodName)) ∈ gtb := List.mem_filter.mpr ⟨List.mem_of_getElem? (i := 737) (by decide +kernel), rfl⟩
theorem q_26 : (Jvm.Cond.selects "TrapDeskModel" ({ cls := "TrapDeskModel", name := "toVs", desc := "(II)V" } : Jvm.MethodName) ({ cls := "TrapDeskModel", name := "toVs", desc := "(II)V" } : Jvm.MethodName)) ∈ gtb := List.mem_filter.mpr ⟨List.mem_of_getElem? (i := 26) (by decide +kernel), rfl⟩
set_option maxRecDepth 20000 in
theorem q_747 : (Jvm.Cond.code ({ cls := "TrapDeskModel", name := "toS", desc := "(IIZIZ)V" } : Jvm.MethodName) prog_9_method_19_code (9 : Nat) (Option.none : Option Jvm.ClassFile.FieldType)) ∈ gtb := List.mem_filter.mpr ⟨List.mem_of_getElem? (i := 747) (rfl), rfl⟩
theorem q_744 : (Jvm.Cond.methodLink "TrapDeskModel" (140 : Nat) ({ cls := "TrapDeskModel", name := "toS", desc := "(IIZIZ)V" } : Jvm.MethodName)) ∈ gtb := List.mem_filter.mpr ⟨List.mem_of_getElem? (i := 744) (by decide +kernel), rfl⟩
theorem q_746 : (Jvm.Cond.instanceMethod ({ cls := "TrapDeskModel", name := "toS", desc := "(IIZIZ)V" } : Jvm.MethodName)) ∈ gtb := List.mem_filter.mpr ⟨List.mem_of_getElem? (i := 746) (by decide +kernel), rfl⟩
theorem q_28 : (Jvm.Cond.selects "TrapDeskModel" ({ cls := "TrapDeskModel", name := "toS", desc := "(IIZIZ)V" } : Jvm.MethodName) ({ cls := "TrapDeskModel", name := "toS", desc := "(IIZIZ)V" } : Jvm.MethodName)) ∈ gtb := List.mem_filter.mpr ⟨List.mem_of_getElem? (i := 28) (by decide +kernel), rfl⟩
theorem q_726 : (Jvm.Cond.constantLong "TrapDeskModel" (144 : Nat) (17179869184 : Int64)) ∈ gtb := List.mem_filter.mpr ⟨List.mem_of_getElem? (i := 726) (by decide +kernel), rfl⟩
theorem q_617 : (Jvm.Cond.fieldLink "TrapDeskModel" (51 : Nat) "TrapDeskModel" "off" "Z") ∈ gtb := List.mem_filter.mpr ⟨List.mem_of_getElem? (i := 617) (by decide +kernel), rfl⟩
set_option maxRecDepth 20000 in
theorem q_730 : (Jvm.Cond.code ({ cls := "TrapDeskModel", name := "trap", desc := "(IIZIZ)V" } : Jvm.MethodName) prog_9_method_21_code (6 : Nat) (Option.none : Option Jvm.ClassFile.FieldType)) ∈ gtb := List.mem_filter.mpr ⟨List.mem_of_getElem? (i := 730) (rfl), rfl⟩
theorem q_727 : (Jvm.Cond.methodLink "TrapDeskModel" (146 : Nat) ({ cls := "TrapDeskModel", name := "trap", desc := "(IIZIZ)V" } : Jvm.MethodName)) ∈ gtb := List.mem_filter.mpr ⟨List.mem_of_getElem? (i := 727) (by decide +kernel), rfl⟩
theorem q_729 : (Jvm.Cond.instanceMethod ({ cls := "TrapDeskModel", name := "trap", desc := "(IIZIZ)V" } : Jvm.MethodName)) ∈ gtb := List.mem_filter.mpr ⟨List.mem_of_getElem? (i := 729) (by decide +kernel), rfl⟩
theorem q_24 : (Jvm.Cond.selects "TrapDeskModel" ({ cls := "TrapDeskModel", name := "trap", desc := "(IIZIZ)V" } : Jvm.MethodName) ({ cls := "TrapDeskModel", name := "trap", desc := "(IIZIZ)V" } : Jvm.MethodName)) ∈ gtb := List.mem_filter.mpr ⟨List.mem_of_getElem? (i := 24) (by decide +kernel), rfl⟩
set_option maxRecDepth 20000 in
theorem q_754 : (Jvm.Cond.code ({ cls := "TrapDeskModel", name := "first", desc := "(IIII)I" } : Jvm.MethodName) prog_9_method_23_code (4 : Nat) (Option.some Jvm.ClassFile.FieldType.int)) ∈ gtb := List.mem_filter.mpr ⟨List.mem_of_getElem? (i := 754) (rfl), rfl⟩
theorem q_752 : (Jvm.Cond.methodLink "TrapDeskModel" (149 : Nat) ({ cls := "TrapDeskModel", name := "first", desc := "(IIII)I" } : Jvm.MethodName)) ∈ gtb := List.mem_filter.mpr ⟨List.mem_of_getElem? (i := 752) (by decide +kernel), rfl⟩
theorem q_753 : (Jvm.Cond.static ({ cls := "TrapDeskModel", name := "first", desc := "(IIII)I" } : Jvm.MethodName)) ∈ gtb := List.mem_filter.mpr ⟨List.mem_of_getElem? (i := 753) (by decide +kernel), rfl⟩
theorem q_755 : (Jvm.Cond.constant "TrapDeskModel" (153 : Nat) (-2147483648 : Int32)) ∈ gtb := List.mem_filter.mpr ⟨List.mem_of_getElem? (i := 755) (by decide +kernel), rfl⟩
theorem q_620 : (Jvm.Cond.fieldLink "TrapDeskModel" (60 : Nat) "TrapDeskModel" "interrupts" "I") ∈ gtb := List.mem_filter.mpr ⟨List.mem_of_getElem? (i := 620) (by decide +kernel), rfl⟩
theorem q_614 : (Jvm.Cond.fieldLink "TrapDeskModel" (45 : Nat) "TrapDeskModel" "x17" "I") ∈ gtb := List.mem_filter.mpr ⟨List.mem_of_getElem? (i := 614) (by decide +kernel), rfl⟩
theorem q_613 : (Jvm.Cond.fieldLink "TrapDeskModel" (42 : Nat) "TrapDeskModel" "x11" "I") ∈ gtb := List.mem_filter.mpr ⟨List.mem_of_getElem? (i := 613) (by decide +kernel), rfl⟩
theorem q_612 : (Jvm.Cond.fieldLink "TrapDeskModel" (39 : Nat) "TrapDeskModel" "x10" "I") ∈ gtb := List.mem_filter.mpr ⟨List.mem_of_getElem? (i := 612) (by decide +kernel), rfl⟩
set_option maxRecDepth 20000 in
theorem q_802 : (Jvm.Cond.code ({ cls := "TrapDeskModel", name := "access", desc := "(IZ)I" } : Jvm.MethodName) prog_9_method_15_code (4 : Nat) (Option.some Jvm.ClassFile.FieldType.int)) ∈ gtb := List.mem_filter.mpr ⟨List.mem_of_getElem? (i := 802) (rfl), rfl⟩
theorem q_799 : (Jvm.Cond.methodLink "TrapDeskModel" (154 : Nat) ({ cls := "TrapDeskModel", name := "access", desc := "(IZ)I" } : Jvm.MethodName)) ∈ gtb := List.mem_filter.mpr ⟨List.mem_of_getElem? (i := 799) (by decide +kernel), rfl⟩
theorem q_801 : (Jvm.Cond.instanceMethod ({ cls := "TrapDeskModel", name := "access", desc := "(IZ)I" } : Jvm.MethodName)) ∈ gtb := List.mem_filter.mpr ⟨List.mem_of_getElem? (i := 801) (by decide +kernel), rfl⟩
theorem q_37 : (Jvm.Cond.selects "TrapDeskModel" ({ cls := "TrapDeskModel", name := "access", desc := "(IZ)I" } : Jvm.MethodName) ({ cls := "TrapDeskModel", name := "access", desc := "(IZ)I" } : Jvm.MethodName)) ∈ gtb := List.mem_filter.mpr ⟨List.mem_of_getElem? (i := 37) (by decide +kernel), rfl⟩
set_option maxRecDepth 20000 in
theorem q_806 : (Jvm.Cond.code ({ cls := "TrapDeskModel", name := "x", desc := "(I)I" } : Jvm.MethodName) prog_9_method_25_code (2 : Nat) (Option.some Jvm.ClassFile.FieldType.int)) ∈ gtb := List.mem_filter.mpr ⟨List.mem_of_getElem? (i := 806) (rfl), rfl⟩
theorem q_803 : (Jvm.Cond.methodLink "TrapDeskModel" (158 : Nat) ({ cls := "TrapDeskModel", name := "x", desc := "(I)I" } : Jvm.MethodName)) ∈ gtb := List.mem_filter.mpr ⟨List.mem_of_getElem? (i := 803) (by decide +kernel), rfl⟩
theorem q_805 : (Jvm.Cond.instanceMethod ({ cls := "TrapDeskModel", name := "x", desc := "(I)I" } : Jvm.MethodName)) ∈ gtb := List.mem_filter.mpr ⟨List.mem_of_getElem? (i := 805) (by decide +kernel), rfl⟩
theorem q_38 : (Jvm.Cond.selects "TrapDeskModel" ({ cls := "TrapDeskModel", name := "x", desc := "(I)I" } : Jvm.MethodName) ({ cls := "TrapDeskModel", name := "x", desc := "(I)I" } : Jvm.MethodName)) ∈ gtb := List.mem_filter.mpr ⟨List.mem_of_getElem? (i := 38) (by decide +kernel), rfl⟩
set_option maxRecDepth 20000 in
theorem q_810 : (Jvm.Cond.code ({ cls := "TrapDeskModel", name := "setX", desc := "(II)V" } : Jvm.MethodName) prog_9_method_26_code (3 : Nat) (Option.none : Option Jvm.ClassFile.FieldType)) ∈ gtb := List.mem_filter.mpr ⟨List.mem_of_getElem? (i := 810) (rfl), rfl⟩
theorem q_807 : (Jvm.Cond.methodLink "TrapDeskModel" (161 : Nat) ({ cls := "TrapDeskModel", name := "setX", desc := "(II)V" } : Jvm.MethodName)) ∈ gtb := List.mem_filter.mpr ⟨List.mem_of_getElem? (i := 807) (by decide +kernel), rfl⟩
theorem q_809 : (Jvm.Cond.instanceMethod ({ cls := "TrapDeskModel", name := "setX", desc := "(II)V" } : Jvm.MethodName)) ∈ gtb := List.mem_filter.mpr ⟨List.mem_of_getElem? (i := 809) (by decide +kernel), rfl⟩
theorem q_39 : (Jvm.Cond.selects "TrapDeskModel" ({ cls := "TrapDeskModel", name := "setX", desc := "(II)V" } : Jvm.MethodName) ({ cls := "TrapDeskModel", name := "setX", desc := "(II)V" } : Jvm.MethodName)) ∈ gtb := List.mem_filter.mpr ⟨List.mem_of_getElem? (i := 39) (by decide +kernel), rfl⟩
theorem q_784 : (Jvm.Cond.constantLong "TrapDeskModel" (164 : Nat) (4294967295 : Int64)) ∈ gtb := List.mem_filter.mpr ⟨List.mem_of_getElem? (i := 784) (by decide +kernel), rfl⟩
theorem q_606 : (Jvm.Cond.constantLong "TrapDeskModel" (30 : Nat) (9223372036854775807 : Int64)) ∈ gtb := List.mem_filter.mpr ⟨List.mem_of_getElem? (i := 606) (by decide +kernel), rfl⟩
theorem q_616 : (Jvm.Cond.fieldLink "TrapDeskModel" (48 : Nat) "TrapDeskModel" "printedCount" "I") ∈ gtb := List.mem_filter.mpr ⟨List.mem_of_getElem? (i := 616) (by decide +kernel), rfl⟩
theorem q_615 : (Jvm.Cond.fieldLink "TrapDeskModel" (7 : Nat) "TrapDeskModel" "printed" "[I") ∈ gtb := List.mem_filter.mpr ⟨List.mem_of_getElem? (i := 615) (by decide +kernel), rfl⟩
set_option maxRecDepth 20000 in
theorem q_783 : (Jvm.Cond.code ({ cls := "TrapDeskModel", name := "firmware", desc := "()V" } : Jvm.MethodName) prog_9_method_28_code (3 : Nat) (Option.none : Option Jvm.ClassFile.FieldType)) ∈ gtb := List.mem_filter.mpr ⟨List.mem_of_getElem? (i := 783) (rfl), rfl⟩
theorem q_780 : (Jvm.Cond.methodLink "TrapDeskModel" (166 : Nat) ({ cls := "TrapDeskModel", name := "firmware", desc := "()V" } : Jvm.MethodName)) ∈ gtb := List.mem_filter.mpr ⟨List.mem_of_getElem? (i := 780) (by decide +kernel), rfl⟩
theorem q_782 : (Jvm.Cond.instanceMethod ({ cls := "TrapDeskModel", name := "firmware", desc := "()V" } : Jvm.MethodName)) ∈ gtb := List.mem_filter.mpr ⟨List.mem_of_getElem? (i := 782) (by decide +kernel), rfl⟩
theorem q_33 : (Jvm.Cond.selects "TrapDeskModel" ({ cls := "TrapDeskModel", name := "firmware", desc := "()V" } : Jvm.MethodName) ({ cls := "TrapDeskModel", name := "firmware", desc := "()V" } : Jvm.MethodName)) ∈ gtb := List.mem_filter.mpr ⟨List.mem_of_getElem? (i := 33) (by decide +kernel), rfl⟩
theorem q_789 : (Jvm.Cond.constant "TrapDeskModel" (169 : Nat) (4194304 : Int32)) ∈ gtb := List.mem_filter.mpr ⟨List.mem_of_getElem? (i := 789) (by decide +kernel), rfl⟩
set_option maxRecDepth 20000 in
theorem q_793 : (Jvm.Cond.code ({ cls := "TrapDeskModel", name := "back", desc := "(IZ)V" } : Jvm.MethodName) prog_9_method_30_code (4 : Nat) (Option.none : Option Jvm.ClassFile.FieldType)) ∈ gtb := List.mem_filter.mpr ⟨List.mem_of_getElem? (i := 793) (rfl), rfl⟩
theorem q_790 : (Jvm.Cond.methodLink "TrapDeskModel" (170 : Nat) ({ cls := "TrapDeskModel", name := "back", desc := "(IZ)V" } : Jvm.MethodName)) ∈ gtb := List.mem_filter.mpr ⟨List.mem_of_getElem? (i := 790) (by decide +kernel), rfl⟩
theorem q_792 : (Jvm.Cond.instanceMethod ({ cls := "TrapDeskModel", name := "back", desc := "(IZ)V" } : Jvm.MethodName)) ∈ gtb := List.mem_filter.mpr ⟨List.mem_of_getElem? (i := 792) (by decide +kernel), rfl⟩
theorem q_35 : (Jvm.Cond.selects "TrapDeskModel" ({ cls := "TrapDeskModel", name := "back", desc := "(IZ)V" } : Jvm.MethodName) ({ cls := "TrapDeskModel", name := "back", desc := "(IZ)V" } : Jvm.MethodName)) ∈ gtb := List.mem_filter.mpr ⟨List.mem_of_getElem? (i := 35) (by decide +kernel), rfl⟩
set_option maxRecDepth 20000 in
theorem q_779 : (Jvm.Cond.code ({ cls := "TrapDeskModel", name := "call", desc := "()I" } : Jvm.MethodName) prog_9_method_29_code (1 : Nat) (Option.some Jvm.ClassFile.FieldType.int)) ∈ gtb := List.mem_filter.mpr ⟨List.mem_of_getElem? (i := 779) (rfl), rfl⟩
theorem q_776 : (Jvm.Cond.methodLink "TrapDeskModel" (177 : Nat) ({ cls := "TrapDeskModel", name := "call", desc := "()I" } : Jvm.MethodName)) ∈ gtb := List.mem_filter.mpr ⟨List.mem_of_getElem? (i := 776) (by decide +kernel), rfl⟩
theorem q_778 : (Jvm.Cond.instanceMethod ({ cls := "TrapDeskModel", name := "call", desc := "()I" } : Jvm.MethodName)) ∈ gtb := List.mem_filter.mpr ⟨List.mem_of_getElem? (i := 778) (by decide +kernel), rfl⟩
theorem q_32 : (Jvm.Cond.selects "TrapDeskModel" ({ cls := "TrapDeskModel", name := "call", desc := "()I" } : Jvm.MethodName) ({ cls := "TrapDeskModel", name := "call", desc := "()I" } : Jvm.MethodName)) ∈ gtb := List.mem_filter.mpr ⟨List.mem_of_getElem? (i := 32) (by decide +kernel), rfl⟩
set_option maxRecDepth 20000 in
theorem q_788 : (Jvm.Cond.code ({ cls := "TrapDeskModel", name := "sret", desc := "()I" } : Jvm.MethodName) prog_9_method_31_code (1 : Nat) (Option.some Jvm.ClassFile.FieldType.int)) ∈ gtb := List.mem_filter.mpr ⟨List.mem_of_getElem? (i := 788) (rfl), rfl⟩
theorem q_785 : (Jvm.Cond.methodLink "TrapDeskModel" (180 : Nat) ({ cls := "TrapDeskModel", name := "sret", desc := "()I" } : Jvm.MethodName)) ∈ gtb := List.mem_filter.mpr ⟨List.mem_of_getElem? (i := 785) (by decide +kernel), rfl⟩
theorem q_787 : (Jvm.Cond.instanceMethod ({ cls := "TrapDeskModel", name := "sret", desc := "()I" } : Jvm.MethodName)) ∈ gtb := List.mem_filter.mpr ⟨List.mem_of_getElem? (i := 787) (by decide +kernel), rfl⟩
theorem q_34 : (Jvm.Cond.selects "TrapDeskModel" ({ cls := "TrapDeskModel", name := "sret", desc := "()I" } : Jvm.MethodName) ({ cls := "TrapDeskModel", name := "sret", desc := "()I" } : Jvm.MethodName)) ∈ gtb := List.mem_filter.mpr ⟨List.mem_of_getElem? (i := 34) (by decide +kernel), rfl⟩
theorem q_794 : (Jvm.Cond.constant "TrapDeskModel" (183 : Nat) (2097152 : Int32)) ∈ gtb := List.mem_filter.mpr ⟨List.mem_of_getElem? (i := 794) (by decide +kernel), rfl⟩
set_option maxRecDepth 20000 in
theorem q_775 : (Jvm.Cond.code ({ cls := "TrapDeskModel", name := "allowed", desc := "(I)I" } : Jvm.MethodName) prog_9_method_32_code (2 : Nat) (Option.some Jvm.ClassFile.FieldType.int)) ∈ gtb := List.mem_filter.mpr ⟨List.mem_of_getElem? (i := 775) (rfl), rfl⟩
theorem q_772 : (Jvm.Cond.methodLink "TrapDeskModel" (174 : Nat) ({ cls := "TrapDeskModel", name := "allowed", desc := "(I)I" } : Jvm.MethodName)) ∈ gtb := List.mem_filter.mpr ⟨List.mem_of_getElem? (i := 772) (by decide +kernel), rfl⟩
theorem q_774 : (Jvm.Cond.instanceMethod ({ cls := "TrapDeskModel", name := "allowed", desc := "(I)I" } : Jvm.MethodName)) ∈ gtb := List.mem_filter.mpr ⟨List.mem_of_getElem? (i := 774) (by decide +kernel), rfl⟩
theorem q_31 : (Jvm.Cond.selects "TrapDeskModel" ({ cls := "TrapDeskModel", name := "allowed", desc := "(I)I" } : Jvm.MethodName) ({ cls := "TrapDeskModel", name := "allowed", desc := "(I)I" } : Jvm.MethodName)) ∈ gtb := List.mem_filter.mpr ⟨List.mem_of_getElem? (i := 31) (by decide +kernel), rfl⟩
set_option maxRecDepth 20000 in
theorem q_762 : (Jvm.Cond.code ({ cls := "TrapDeskModel", name := "isFar", desc := "(III)Z" } : Jvm.MethodName) prog_9_method_34_code (4 : Nat) (Option.some Jvm.ClassFile.FieldType.boolean)) ∈ gtb := List.mem_filter.mpr ⟨List.mem_of_getElem? (i := 762) (rfl), rfl⟩
theorem q_760 : (Jvm.Cond.methodLink "TrapDeskModel" (184 : Nat) ({ cls := "TrapDeskModel", name := "isFar", desc := "(III)Z" } : Jvm.MethodName)) ∈ gtb := List.mem_filter.mpr ⟨List.mem_of_getElem? (i := 760) (by decide +kernel), rfl⟩
theorem q_761 : (Jvm.Cond.static ({ cls := "TrapDeskModel", name := "isFar", desc := "(III)Z" } : Jvm.MethodName)) ∈ gtb := List.mem_filter.mpr ⟨List.mem_of_getElem? (i := 761) (by decide +kernel), rfl⟩
set_option maxRecDepth 20000 in
theorem q_770 : (Jvm.Cond.code ({ cls := "TrapDeskModel", name := "system", desc := "(III)I" } : Jvm.MethodName) prog_9_method_33_code (4 : Nat) (Option.some Jvm.ClassFile.FieldType.int)) ∈ gtb := List.mem_filter.mpr ⟨List.mem_of_getElem? (i := 770) (rfl), rfl⟩
theorem q_767 : (Jvm.Cond.methodLink "TrapDeskModel" (188 : Nat) ({ cls := "TrapDeskModel", name := "system", desc := "(III)I" } : Jvm.MethodName)) ∈ gtb := List.mem_filter.mpr ⟨List.mem_of_getElem? (i := 767) (by decide +kernel), rfl⟩
theorem q_769 : (Jvm.Cond.instanceMethod ({ cls := "TrapDeskModel", name := "system", desc := "(III)I" } : Jvm.MethodName)) ∈ gtb := List.mem_filter.mpr ⟨List.mem_of_getElem? (i := 769) (by decide +kernel), rfl⟩
theorem q_30 : (Jvm.Cond.selects "TrapDeskModel" ({ cls := "TrapDeskModel", name := "system", desc := "(III)I" } : Jvm.MethodName) ({ cls := "TrapDeskModel", name := "system", desc := "(III)I" } : Jvm.MethodName)) ∈ gtb := List.mem_filter.mpr ⟨List.mem_of_getElem? (i := 30) (by decide +kernel), rfl⟩
set_option maxRecDepth 20000 in
theorem q_798 : (Jvm.Cond.code ({ cls := "TrapDeskModel", name := "control", desc := "(IIII)I" } : Jvm.MethodName) prog_9_method_27_code (11 : Nat) (Option.some Jvm.ClassFile.FieldType.int)) ∈ gtb := List.mem_filter.mpr ⟨List.mem_of_getElem? (i := 798) (rfl), rfl⟩
theorem q_795 : (Jvm.Cond.methodLink "TrapDeskModel" (192 : Nat) ({ cls := "TrapDeskModel", name := "control", desc := "(IIII)I" } : Jvm.MethodName)) ∈ gtb := List.mem_filter.mpr ⟨List.mem_of_getElem? (i := 795) (by decide +kernel), rfl⟩
theorem q_797 : (Jvm.Cond.instanceMethod ({ cls := "TrapDeskModel", name := "control", desc := "(IIII)I" } : Jvm.MethodName)) ∈ gtb := List.mem_filter.mpr ⟨List.mem_of_getElem? (i := 797) (by decide +kernel), rfl⟩
theorem q_36 : (Jvm.Cond.selects "TrapDeskModel" ({ cls := "TrapDeskModel", name := "control", desc := "(IIII)I" } : Jvm.MethodName) ({ cls := "TrapDeskModel", name := "control", desc := "(IIII)I" } : Jvm.MethodName)) ∈ gtb := List.mem_filter.mpr ⟨List.mem_of_getElem? (i := 36) (by decide +kernel), rfl⟩
theorem q_823 : (Jvm.Cond.constantLong "TrapDeskModel" (195 : Nat) (-1 : Int64)) ∈ gtb := List.mem_filter.mpr ⟨List.mem_of_getElem? (i := 823) (by decide +kernel), rfl⟩
