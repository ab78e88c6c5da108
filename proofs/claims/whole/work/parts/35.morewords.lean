theorem q_102 : (Jvm.Cond.methodLink "TrapDesk$Bank" (5 : Nat) ({ cls := "java/lang/Object", name := "<init>", desc := "()V" } : Jvm.MethodName)) ∈ gtb := List.mem_filter.mpr ⟨List.mem_of_getElem? (i := 102) (by decide +kernel), rfl⟩
theorem q_55 : (Jvm.Cond.instanceMethod ({ cls := "java/lang/Object", name := "<init>", desc := "()V" } : Jvm.MethodName)) ∈ gtb := List.mem_filter.mpr ⟨List.mem_of_getElem? (i := 55) (by decide +kernel), rfl⟩
set_option maxRecDepth 20000 in
theorem q_56 : (Jvm.Cond.code ({ cls := "java/lang/Object", name := "<init>", desc := "()V" } : Jvm.MethodName) object_method_1_code (1 : Nat) (Option.none : Option Jvm.ClassFile.FieldType)) ∈ gtb := List.mem_filter.mpr ⟨List.mem_of_getElem? (i := 56) (rfl), rfl⟩
theorem q_131 : (Jvm.Cond.methodLink "TrapDesk$Hyper" (3 : Nat) ({ cls := "java/lang/Object", name := "<init>", desc := "()V" } : Jvm.MethodName)) ∈ gtb := List.mem_filter.mpr ⟨List.mem_of_getElem? (i := 131) (by decide +kernel), rfl⟩
theorem q_191 : (Jvm.Cond.methodLink "TrapDesk$Registers" (1 : Nat) ({ cls := "java/lang/Object", name := "<init>", desc := "()V" } : Jvm.MethodName)) ∈ gtb := List.mem_filter.mpr ⟨List.mem_of_getElem? (i := 191) (by decide +kernel), rfl⟩
theorem q_68 : (Jvm.Cond.methodLink "TrapDesk$Outside" (3 : Nat) ({ cls := "java/lang/Object", name := "<init>", desc := "()V" } : Jvm.MethodName)) ∈ gtb := List.mem_filter.mpr ⟨List.mem_of_getElem? (i := 68) (by decide +kernel), rfl⟩
theorem q_96 : (Jvm.Cond.arrayClass Jvm.ClassFile.FieldType.byte) ∈ gtb := List.mem_filter.mpr ⟨List.mem_of_getElem? (i := 96) (by decide +kernel), rfl⟩
theorem q_62 : (Jvm.Cond.methodLink "TrapDesk$Controls" (3 : Nat) ({ cls := "java/lang/Object", name := "<init>", desc := "()V" } : Jvm.MethodName)) ∈ gtb := List.mem_filter.mpr ⟨List.mem_of_getElem? (i := 62) (by decide +kernel), rfl⟩
theorem q_63 : (Jvm.Cond.classLink "TrapDesk$Controls" (9 : Nat) "TrapDesk$Outside") ∈ gtb := List.mem_filter.mpr ⟨List.mem_of_getElem? (i := 63) (by decide +kernel), rfl⟩
theorem q_64 : (Jvm.Cond.instantiable "TrapDesk$Outside" (6 : Nat)) ∈ gtb := List.mem_filter.mpr ⟨List.mem_of_getElem? (i := 64) (by decide +kernel), rfl⟩
set_option maxRecDepth 20000 in
theorem q_67 : (Jvm.Cond.code ({ cls := "TrapDesk$Outside", name := "<init>", desc := "()V" } : Jvm.MethodName) prog_6_method_1_code (1 : Nat) (Option.none : Option Jvm.ClassFile.FieldType)) ∈ gtb := List.mem_filter.mpr ⟨List.mem_of_getElem? (i := 67) (rfl), rfl⟩
theorem q_65 : (Jvm.Cond.methodLink "TrapDesk$Controls" (11 : Nat) ({ cls := "TrapDesk$Outside", name := "<init>", desc := "()V" } : Jvm.MethodName)) ∈ gtb := List.mem_filter.mpr ⟨List.mem_of_getElem? (i := 65) (by decide +kernel), rfl⟩
theorem q_66 : (Jvm.Cond.instanceMethod ({ cls := "TrapDesk$Outside", name := "<init>", desc := "()V" } : Jvm.MethodName)) ∈ gtb := List.mem_filter.mpr ⟨List.mem_of_getElem? (i := 66) (by decide +kernel), rfl⟩
theorem q_97 : (Jvm.Cond.classLink "TrapDesk$Controls" (16 : Nat) "TrapDesk$Bank") ∈ gtb := List.mem_filter.mpr ⟨List.mem_of_getElem? (i := 97) (by decide +kernel), rfl⟩
theorem q_98 : (Jvm.Cond.instantiable "TrapDesk$Bank" (7 : Nat)) ∈ gtb := List.mem_filter.mpr ⟨List.mem_of_getElem? (i := 98) (by decide +kernel), rfl⟩
set_option maxRecDepth 20000 in
theorem q_101 : (Jvm.Cond.code ({ cls := "TrapDesk$Bank", name := "<init>", desc := "()V" } : Jvm.MethodName) prog_2_method_1_code (1 : Nat) (Option.none : Option Jvm.ClassFile.FieldType)) ∈ gtb := List.mem_filter.mpr ⟨List.mem_of_getElem? (i := 101) (rfl), rfl⟩
theorem q_100 : (Jvm.Cond.instanceMethod ({ cls := "TrapDesk$Bank", name := "<init>", desc := "()V" } : Jvm.MethodName)) ∈ gtb := List.mem_filter.mpr ⟨List.mem_of_getElem? (i := 100) (by decide +kernel), rfl⟩
theorem q_126 : (Jvm.Cond.classLink "TrapDesk$Controls" (26 : Nat) "TrapDesk$Hyper") ∈ gtb := List.mem_filter.mpr ⟨List.mem_of_getElem? (i := 126) (by decide +kernel), rfl⟩
theorem q_127 : (Jvm.Cond.instantiable "TrapDesk$Hyper" (8 : Nat)) ∈ gtb := List.mem_filter.mpr ⟨List.mem_of_getElem? (i := 127) (by decide +kernel), rfl⟩
set_option maxRecDepth 20000 in
theorem q_130 : (Jvm.Cond.code ({ cls := "TrapDesk$Hyper", name := "<init>", desc := "()V" } : Jvm.MethodName) prog_4_method_1_code (1 : Nat) (Option.none : Option Jvm.ClassFile.FieldType)) ∈ gtb := List.mem_filter.mpr ⟨List.mem_of_getElem? (i := 130) (rfl), rfl⟩
theorem q_129 : (Jvm.Cond.instanceMethod ({ cls := "TrapDesk$Hyper", name := "<init>", desc := "()V" } : Jvm.MethodName)) ∈ gtb := List.mem_filter.mpr ⟨List.mem_of_getElem? (i := 129) (by decide +kernel), rfl⟩
theorem q_54 : (Jvm.Cond.methodLink "TrapDesk" (3 : Nat) ({ cls := "java/lang/Object", name := "<init>", desc := "()V" } : Jvm.MethodName)) ∈ gtb := List.mem_filter.mpr ⟨List.mem_of_getElem? (i := 54) (by decide +kernel), rfl⟩
theorem q_57 : (Jvm.Cond.classLink "TrapDesk" (9 : Nat) "TrapDesk$Controls") ∈ gtb := List.mem_filter.mpr ⟨List.mem_of_getElem? (i := 57) (by decide +kernel), rfl⟩
theorem q_58 : (Jvm.Cond.instantiable "TrapDesk$Controls" (6 : Nat)) ∈ gtb := List.mem_filter.mpr ⟨List.mem_of_getElem? (i := 58) (by decide +kernel), rfl⟩
set_option maxRecDepth 20000 in
theorem q_61 : (Jvm.Cond.code ({ cls := "TrapDesk$Controls", name := "<init>", desc := "()V" } : Jvm.MethodName) prog_3_method_1_code (1 : Nat) (Option.none : Option Jvm.ClassFile.FieldType)) ∈ gtb := List.mem_filter.mpr ⟨List.mem_of_getElem? (i := 61) (rfl), rfl⟩
theorem q_59 : (Jvm.Cond.methodLink "TrapDesk" (11 : Nat) ({ cls := "TrapDesk$Controls", name := "<init>", desc := "()V" } : Jvm.MethodName)) ∈ gtb := List.mem_filter.mpr ⟨List.mem_of_getElem? (i := 59) (by decide +kernel), rfl⟩
theorem q_60 : (Jvm.Cond.instanceMethod ({ cls := "TrapDesk$Controls", name := "<init>", desc := "()V" } : Jvm.MethodName)) ∈ gtb := List.mem_filter.mpr ⟨List.mem_of_getElem? (i := 60) (by decide +kernel), rfl⟩
theorem q_164 : (Jvm.Cond.fieldLink "TrapDesk" (16 : Nat) "TrapDesk$Controls" "outside" "LTrapDesk$Outside;") ∈ gtb := List.mem_filter.mpr ⟨List.mem_of_getElem? (i := 164) (by decide +kernel), rfl⟩
theorem q_186 : (Jvm.Cond.classLink "TrapDesk" (21 : Nat) "TrapDesk$Registers") ∈ gtb := List.mem_filter.mpr ⟨List.mem_of_getElem? (i := 186) (by decide +kernel), rfl⟩
theorem q_187 : (Jvm.Cond.instantiable "TrapDesk$Registers" (3 : Nat)) ∈ gtb := List.mem_filter.mpr ⟨List.mem_of_getElem? (i := 187) (by decide +kernel), rfl⟩
set_option maxRecDepth 20000 in
theorem q_190 : (Jvm.Cond.code ({ cls := "TrapDesk$Registers", name := "<init>", desc := "()V" } : Jvm.MethodName) prog_7_method_1_code (1 : Nat) (Option.none : Option Jvm.ClassFile.FieldType)) ∈ gtb := List.mem_filter.mpr ⟨List.mem_of_getElem? (i := 190) (rfl), rfl⟩
theorem q_189 : (Jvm.Cond.instanceMethod ({ cls := "TrapDesk$Registers", name := "<init>", desc := "()V" } : Jvm.MethodName)) ∈ gtb := List.mem_filter.mpr ⟨List.mem_of_getElem? (i := 189) (by decide +kernel), rfl⟩
theorem q_601 : (Jvm.Cond.methodLink "TrapDeskModel" (1 : Nat) ({ cls := "java/lang/Object", name := "<init>", desc := "()V" } : Jvm.MethodName)) ∈ gtb := List.mem_filter.mpr ⟨List.mem_of_getElem? (i := 601) (by decide +kernel), rfl⟩
theorem q_677 : (Jvm.Cond.arrayClass Jvm.ClassFile.FieldType.int) ∈ gtb := List.mem_filter.mpr ⟨List.mem_of_getElem? (i := 677) (by decide +kernel), rfl⟩
set_option maxRecDepth 20000 in
theorem q_605 : (Jvm.Cond.code ({ cls := "TrapDeskModel", name := "begin", desc := "()V" } : Jvm.MethodName) prog_9_method_3_code (2 : Nat) (Option.none : Option Jvm.ClassFile.FieldType)) ∈ gtb := List.mem_filter.mpr ⟨List.mem_of_getElem? (i := 605) (rfl), rfl⟩
theorem q_602 : (Jvm.Cond.methodLink "TrapDeskModel" (16 : Nat) ({ cls := "TrapDeskModel", name := "begin", desc := "()V" } : Jvm.MethodName)) ∈ gtb := List.mem_filter.mpr ⟨List.mem_of_getElem? (i := 602) (by decide +kernel), rfl⟩
theorem q_603 : (Jvm.Cond.instanceMethod ({ cls := "TrapDeskModel", name := "begin", desc := "()V" } : Jvm.MethodName)) ∈ gtb := List.mem_filter.mpr ⟨List.mem_of_getElem? (i := 603) (by decide +kernel), rfl⟩
theorem q_604 : (Jvm.Cond.selects "TrapDeskModel" ({ cls := "TrapDeskModel", name := "begin", desc := "()V" } : Jvm.MethodName) ({ cls := "TrapDeskModel", name := "begin", desc := "()V" } : Jvm.MethodName)) ∈ gtb := List.mem_filter.mpr ⟨List.mem_of_getElem? (i := 604) (by decide +kernel), rfl⟩
