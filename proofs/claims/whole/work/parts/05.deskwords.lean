abbrev f_Bank (s : ob) : List Value := [.int (s.1 0), .int (s.1 1), .int (s.1 2), .int (s.1 3), .int (s.1 4), .int (s.1 5), .int (s.1 6)]
abbrev f_Controls (qoutside qhost qguest qhyper : Nat) (s : ob) : List Value := [.ref qoutside, .ref qhost, .ref qguest, .ref qhyper, .int (s.1 4), .int (s.1 5)]
abbrev f_Hyper (s : ob) : List Value := [.int (s.1 0), .int (s.1 1), .int (s.1 2), .int (s.1 3), .int (s.1 4), .int (s.1 5), .int (s.1 6), .int (s.1 7)]
abbrev f_Outside (qbytes : Nat) (s : ob) : List Value := [.ref qbytes, .int (s.1 1), .long (s.2.1 2), .long (s.2.1 3), .int (bI (s.2.2 4)), .int (bI (s.2.2 5))]
abbrev f_Registers (s : ob) : List Value := [.int (s.1 0), .int (s.1 1), .int (s.1 2)]
abbrev f_Desk (qcontrols qoutside qregisters : Nat) (s : ob) : List Value := [.ref qcontrols, .ref qoutside, .ref qregisters, .int (s.1 3), .int (s.1 4), .int (s.1 5), .int (s.1 6), .int (s.1 7)]
abbrev f_Model (qprinted qcells : Nat) (s : ob) : List Value := [.int (s.1 0), .int (s.1 1), .long (s.2.1 2), .long (s.2.1 3), .int (bI (s.2.2 4)), .int (s.1 5), .int (s.1 6), .int (s.1 7), .ref qprinted, .int (s.1 9), .int (bI (s.2.2 10)), .int (s.1 11), .int (s.1 12), .int (s.1 13), .ref qcells, .int (s.1 15), .int (s.1 16), .int (s.1 17), .int (s.1 18), .int (s.1 19), .int (s.1 20), .int (s.1 21), .int (s.1 22)]
theorem q_205 : (Jvm.Cond.fieldLink "TrapDesk" (12 : Nat) "TrapDesk" "controls" "LTrapDesk$Controls;") ∈ gtb := List.mem_filter.mpr ⟨List.mem_of_getElem? (i := 205) (by decide +kernel), rfl⟩
theorem q_163 : (Jvm.Cond.fieldLink "TrapDesk$Controls" (12 : Nat) "TrapDesk$Controls" "outside" "LTrapDesk$Outside;") ∈ gtb := List.mem_filter.mpr ⟨List.mem_of_getElem? (i := 163) (by decide +kernel), rfl⟩
theorem q_71 : (Jvm.Cond.fieldLink "TrapDesk$Outside" (21 : Nat) "TrapDesk$Outside" "printed" "I") ∈ gtb := List.mem_filter.mpr ⟨List.mem_of_getElem? (i := 71) (by decide +kernel), rfl⟩
theorem q_73 : (Jvm.Cond.fieldLink "TrapDesk$Outside" (25 : Nat) "TrapDesk$Outside" "now" "J") ∈ gtb := List.mem_filter.mpr ⟨List.mem_of_getElem? (i := 73) (by decide +kernel), rfl⟩
theorem q_69 : (Jvm.Cond.constantLong "TrapDesk$Outside" (15 : Nat) (9223372036854775807 : Int64)) ∈ gtb := List.mem_filter.mpr ⟨List.mem_of_getElem? (i := 69) (by decide +kernel), rfl⟩
theorem q_76 : (Jvm.Cond.fieldLink "TrapDesk$Outside" (17 : Nat) "TrapDesk$Outside" "alarm" "J") ∈ gtb := List.mem_filter.mpr ⟨List.mem_of_getElem? (i := 76) (by decide +kernel), rfl⟩
theorem q_78 : (Jvm.Cond.fieldLink "TrapDesk$Outside" (28 : Nat) "TrapDesk$Outside" "lineOn" "Z") ∈ gtb := List.mem_filter.mpr ⟨List.mem_of_getElem? (i := 78) (by decide +kernel), rfl⟩
theorem q_81 : (Jvm.Cond.fieldLink "TrapDesk$Outside" (32 : Nat) "TrapDesk$Outside" "isOff" "Z") ∈ gtb := List.mem_filter.mpr ⟨List.mem_of_getElem? (i := 81) (by decide +kernel), rfl⟩
set_option maxRecDepth 20000 in
theorem q_241 : (Jvm.Cond.code ({ cls := "TrapDesk$Outside", name := "reset", desc := "()V" } : Jvm.MethodName) prog_6_method_2_code (1 : Nat) (Option.none : Option Jvm.ClassFile.FieldType)) ∈ gtb := List.mem_filter.mpr ⟨List.mem_of_getElem? (i := 241) (rfl), rfl⟩
theorem q_238 : (Jvm.Cond.methodLink "TrapDesk$Controls" (33 : Nat) ({ cls := "TrapDesk$Outside", name := "reset", desc := "()V" } : Jvm.MethodName)) ∈ gtb := List.mem_filter.mpr ⟨List.mem_of_getElem? (i := 238) (by decide +kernel), rfl⟩
theorem q_43 : (Jvm.Cond.initialized "TrapDesk$Outside") ∈ gtb := List.mem_filter.mpr ⟨List.mem_of_getElem? (i := 43) (by decide +kernel), rfl⟩
theorem q_239 : (Jvm.Cond.instanceMethod ({ cls := "TrapDesk$Outside", name := "reset", desc := "()V" } : Jvm.MethodName)) ∈ gtb := List.mem_filter.mpr ⟨List.mem_of_getElem? (i := 239) (by decide +kernel), rfl⟩
theorem q_240 : (Jvm.Cond.selects "TrapDesk$Outside" ({ cls := "TrapDesk$Outside", name := "reset", desc := "()V" } : Jvm.MethodName) ({ cls := "TrapDesk$Outside", name := "reset", desc := "()V" } : Jvm.MethodName)) ∈ gtb := List.mem_filter.mpr ⟨List.mem_of_getElem? (i := 240) (by decide +kernel), rfl⟩
theorem q_165 : (Jvm.Cond.fieldLink "TrapDesk$Controls" (19 : Nat) "TrapDesk$Controls" "host" "LTrapDesk$Bank;") ∈ gtb := List.mem_filter.mpr ⟨List.mem_of_getElem? (i := 165) (by decide +kernel), rfl⟩
theorem q_103 : (Jvm.Cond.fieldLink "TrapDesk$Bank" (11 : Nat) "TrapDesk$Bank" "status" "I") ∈ gtb := List.mem_filter.mpr ⟨List.mem_of_getElem? (i := 103) (by decide +kernel), rfl⟩
theorem q_104 : (Jvm.Cond.fieldLink "TrapDesk$Bank" (15 : Nat) "TrapDesk$Bank" "tvec" "I") ∈ gtb := List.mem_filter.mpr ⟨List.mem_of_getElem? (i := 104) (by decide +kernel), rfl⟩
theorem q_105 : (Jvm.Cond.fieldLink "TrapDesk$Bank" (18 : Nat) "TrapDesk$Bank" "scratch" "I") ∈ gtb := List.mem_filter.mpr ⟨List.mem_of_getElem? (i := 105) (by decide +kernel), rfl⟩
theorem q_106 : (Jvm.Cond.fieldLink "TrapDesk$Bank" (21 : Nat) "TrapDesk$Bank" "epc" "I") ∈ gtb := List.mem_filter.mpr ⟨List.mem_of_getElem? (i := 106) (by decide +kernel), rfl⟩
theorem q_108 : (Jvm.Cond.fieldLink "TrapDesk$Bank" (24 : Nat) "TrapDesk$Bank" "cause" "I") ∈ gtb := List.mem_filter.mpr ⟨List.mem_of_getElem? (i := 108) (by decide +kernel), rfl⟩
theorem q_109 : (Jvm.Cond.fieldLink "TrapDesk$Bank" (27 : Nat) "TrapDesk$Bank" "tval" "I") ∈ gtb := List.mem_filter.mpr ⟨List.mem_of_getElem? (i := 109) (by decide +kernel), rfl⟩
theorem q_110 : (Jvm.Cond.fieldLink "TrapDesk$Bank" (30 : Nat) "TrapDesk$Bank" "atp" "I") ∈ gtb := List.mem_filter.mpr ⟨List.mem_of_getElem? (i := 110) (by decide +kernel), rfl⟩
set_option maxRecDepth 20000 in
theorem q_245 : (Jvm.Cond.code ({ cls := "TrapDesk$Bank", name := "reset", desc := "()V" } : Jvm.MethodName) prog_2_method_2_code (1 : Nat) (Option.none : Option Jvm.ClassFile.FieldType)) ∈ gtb := List.mem_filter.mpr ⟨List.mem_of_getElem? (i := 245) (rfl), rfl⟩
theorem q_242 : (Jvm.Cond.methodLink "TrapDesk$Controls" (36 : Nat) ({ cls := "TrapDesk$Bank", name := "reset", desc := "()V" } : Jvm.MethodName)) ∈ gtb := List.mem_filter.mpr ⟨List.mem_of_getElem? (i := 242) (by decide +kernel), rfl⟩
theorem q_44 : (Jvm.Cond.initialized "TrapDesk$Bank") ∈ gtb := List.mem_filter.mpr ⟨List.mem_of_getElem? (i := 44) (by decide +kernel), rfl⟩
theorem q_243 : (Jvm.Cond.instanceMethod ({ cls := "TrapDesk$Bank", name := "reset", desc := "()V" } : Jvm.MethodName)) ∈ gtb := List.mem_filter.mpr ⟨List.mem_of_getElem? (i := 243) (by decide +kernel), rfl⟩
theorem q_244 : (Jvm.Cond.selects "TrapDesk$Bank" ({ cls := "TrapDesk$Bank", name := "reset", desc := "()V" } : Jvm.MethodName) ({ cls := "TrapDesk$Bank", name := "reset", desc := "()V" } : Jvm.MethodName)) ∈ gtb := List.mem_filter.mpr ⟨List.mem_of_getElem? (i := 244) (by decide +kernel), rfl⟩
theorem q_167 : (Jvm.Cond.fieldLink "TrapDesk$Controls" (23 : Nat) "TrapDesk$Controls" "guest" "LTrapDesk$Bank;") ∈ gtb := List.mem_filter.mpr ⟨List.mem_of_getElem? (i := 167) (by decide +kernel), rfl⟩
theorem q_169 : (Jvm.Cond.fieldLink "TrapDesk$Controls" (29 : Nat) "TrapDesk$Controls" "hyper" "LTrapDesk$Hyper;") ∈ gtb := List.mem_filter.mpr ⟨List.mem_of_getElem? (i := 169) (by decide +kernel), rfl⟩
theorem q_132 : (Jvm.Cond.fieldLink "TrapDesk$Hyper" (9 : Nat) "TrapDesk$Hyper" "status" "I") ∈ gtb := List.mem_filter.mpr ⟨List.mem_of_getElem? (i := 132) (by decide +kernel), rfl⟩
theorem q_133 : (Jvm.Cond.fieldLink "TrapDesk$Hyper" (13 : Nat) "TrapDesk$Hyper" "edeleg" "I") ∈ gtb := List.mem_filter.mpr ⟨List.mem_of_getElem? (i := 133) (by decide +kernel), rfl⟩
theorem q_135 : (Jvm.Cond.fieldLink "TrapDesk$Hyper" (16 : Nat) "TrapDesk$Hyper" "ideleg" "I") ∈ gtb := List.mem_filter.mpr ⟨List.mem_of_getElem? (i := 135) (by decide +kernel), rfl⟩
theorem q_137 : (Jvm.Cond.fieldLink "TrapDesk$Hyper" (19 : Nat) "TrapDesk$Hyper" "ie" "I") ∈ gtb := List.mem_filter.mpr ⟨List.mem_of_getElem? (i := 137) (by decide +kernel), rfl⟩
theorem q_139 : (Jvm.Cond.fieldLink "TrapDesk$Hyper" (22 : Nat) "TrapDesk$Hyper" "tval" "I") ∈ gtb := List.mem_filter.mpr ⟨List.mem_of_getElem? (i := 139) (by decide +kernel), rfl⟩
theorem q_141 : (Jvm.Cond.fieldLink "TrapDesk$Hyper" (25 : Nat) "TrapDesk$Hyper" "vip" "I") ∈ gtb := List.mem_filter.mpr ⟨List.mem_of_getElem? (i := 141) (by decide +kernel), rfl⟩
theorem q_143 : (Jvm.Cond.fieldLink "TrapDesk$Hyper" (28 : Nat) "TrapDesk$Hyper" "tinst" "I") ∈ gtb := List.mem_filter.mpr ⟨List.mem_of_getElem? (i := 143) (by decide +kernel), rfl⟩
theorem q_145 : (Jvm.Cond.fieldLink "TrapDesk$Hyper" (31 : Nat) "TrapDesk$Hyper" "gatp" "I") ∈ gtb := List.mem_filter.mpr ⟨List.mem_of_getElem? (i := 145) (by decide +kernel), rfl⟩
set_option maxRecDepth 20000 in
theorem q_249 : (Jvm.Cond.code ({ cls := "TrapDesk$Hyper", name := "reset", desc := "()V" } : Jvm.MethodName) prog_4_method_2_code (1 : Nat) (Option.none : Option Jvm.ClassFile.FieldType)) ∈ gtb := List.mem_filter.mpr ⟨List.mem_of_getElem? (i := 249) (rfl), rfl⟩
theorem q_246 : (Jvm.Cond.methodLink "TrapDesk$Controls" (37 : Nat) ({ cls := "TrapDesk$Hyper", name := "reset", desc := "()V" } : Jvm.MethodName)) ∈ gtb := List.mem_filter.mpr ⟨List.mem_of_getElem? (i := 246) (by decide +kernel), rfl⟩
theorem q_45 : (Jvm.Cond.initialized "TrapDesk$Hyper") ∈ gtb := List.mem_filter.mpr ⟨List.mem_of_getElem? (i := 45) (by decide +kernel), rfl⟩
theorem q_247 : (Jvm.Cond.instanceMethod ({ cls := "TrapDesk$Hyper", name := "reset", desc := "()V" } : Jvm.MethodName)) ∈ gtb := List.mem_filter.mpr ⟨List.mem_of_getElem? (i := 247) (by decide +kernel), rfl⟩
theorem q_248 : (Jvm.Cond.selects "TrapDesk$Hyper" ({ cls := "TrapDesk$Hyper", name := "reset", desc := "()V" } : Jvm.MethodName) ({ cls := "TrapDesk$Hyper", name := "reset", desc := "()V" } : Jvm.MethodName)) ∈ gtb := List.mem_filter.mpr ⟨List.mem_of_getElem? (i := 248) (by decide +kernel), rfl⟩
theorem q_171 : (Jvm.Cond.fieldLink "TrapDesk$Controls" (38 : Nat) "TrapDesk$Controls" "hostIe" "I") ∈ gtb := List.mem_filter.mpr ⟨List.mem_of_getElem? (i := 171) (by decide +kernel), rfl⟩
theorem q_172 : (Jvm.Cond.fieldLink "TrapDesk$Controls" (42 : Nat) "TrapDesk$Controls" "hostSoftware" "I") ∈ gtb := List.mem_filter.mpr ⟨List.mem_of_getElem? (i := 172) (by decide +kernel), rfl⟩
set_option maxRecDepth 20000 in
theorem q_237 : (Jvm.Cond.code ({ cls := "TrapDesk$Controls", name := "reset", desc := "()V" } : Jvm.MethodName) prog_3_method_2_code (1 : Nat) (Option.none : Option Jvm.ClassFile.FieldType)) ∈ gtb := List.mem_filter.mpr ⟨List.mem_of_getElem? (i := 237) (rfl), rfl⟩
theorem q_234 : (Jvm.Cond.methodLink "TrapDesk" (32 : Nat) ({ cls := "TrapDesk$Controls", name := "reset", desc := "()V" } : Jvm.MethodName)) ∈ gtb := List.mem_filter.mpr ⟨List.mem_of_getElem? (i := 234) (by decide +kernel), rfl⟩
theorem q_42 : (Jvm.Cond.initialized "TrapDesk$Controls") ∈ gtb := List.mem_filter.mpr ⟨List.mem_of_getElem? (i := 42) (by decide +kernel), rfl⟩
theorem q_235 : (Jvm.Cond.instanceMethod ({ cls := "TrapDesk$Controls", name := "reset", desc := "()V" } : Jvm.MethodName)) ∈ gtb := List.mem_filter.mpr ⟨List.mem_of_getElem? (i := 235) (by decide +kernel), rfl⟩
theorem q_236 : (Jvm.Cond.selects "TrapDesk$Controls" ({ cls := "TrapDesk$Controls", name := "reset", desc := "()V" } : Jvm.MethodName) ({ cls := "TrapDesk$Controls", name := "reset", desc := "()V" } : Jvm.MethodName)) ∈ gtb := List.mem_filter.mpr ⟨List.mem_of_getElem? (i := 236) (by decide +kernel), rfl⟩
theorem q_207 : (Jvm.Cond.fieldLink "TrapDesk" (24 : Nat) "TrapDesk" "registers" "LTrapDesk$Registers;") ∈ gtb := List.mem_filter.mpr ⟨List.mem_of_getElem? (i := 207) (by decide +kernel), rfl⟩
theorem q_192 : (Jvm.Cond.fieldLink "TrapDesk$Registers" (7 : Nat) "TrapDesk$Registers" "x10" "I") ∈ gtb := List.mem_filter.mpr ⟨List.mem_of_getElem? (i := 192) (by decide +kernel), rfl⟩
theorem q_194 : (Jvm.Cond.fieldLink "TrapDesk$Registers" (13 : Nat) "TrapDesk$Registers" "x11" "I") ∈ gtb := List.mem_filter.mpr ⟨List.mem_of_getElem? (i := 194) (by decide +kernel), rfl⟩
theorem q_196 : (Jvm.Cond.fieldLink "TrapDesk$Registers" (16 : Nat) "TrapDesk$Registers" "x17" "I") ∈ gtb := List.mem_filter.mpr ⟨List.mem_of_getElem? (i := 196) (by decide +kernel), rfl⟩
set_option maxRecDepth 20000 in
theorem q_253 : (Jvm.Cond.code ({ cls := "TrapDesk$Registers", name := "reset", desc := "()V" } : Jvm.MethodName) prog_7_method_2_code (1 : Nat) (Option.none : Option Jvm.ClassFile.FieldType)) ∈ gtb := List.mem_filter.mpr ⟨List.mem_of_getElem? (i := 253) (rfl), rfl⟩
theorem q_250 : (Jvm.Cond.methodLink "TrapDesk" (35 : Nat) ({ cls := "TrapDesk$Registers", name := "reset", desc := "()V" } : Jvm.MethodName)) ∈ gtb := List.mem_filter.mpr ⟨List.mem_of_getElem? (i := 250) (by decide +kernel), rfl⟩
theorem q_46 : (Jvm.Cond.initialized "TrapDesk$Registers") ∈ gtb := List.mem_filter.mpr ⟨List.mem_of_getElem? (i := 46) (by decide +kernel), rfl⟩
theorem q_251 : (Jvm.Cond.instanceMethod ({ cls := "TrapDesk$Registers", name := "reset", desc := "()V" } : Jvm.MethodName)) ∈ gtb := List.mem_filter.mpr ⟨List.mem_of_getElem? (i := 251) (by decide +kernel), rfl⟩
theorem q_252 : (Jvm.Cond.selects "TrapDesk$Registers" ({ cls := "TrapDesk$Registers", name := "reset", desc := "()V" } : Jvm.MethodName) ({ cls := "TrapDesk$Registers", name := "reset", desc := "()V" } : Jvm.MethodName)) ∈ gtb := List.mem_filter.mpr ⟨List.mem_of_getElem? (i := 252) (by decide +kernel), rfl⟩
theorem q_208 : (Jvm.Cond.fieldLink "TrapDesk" (28 : Nat) "TrapDesk" "current" "I") ∈ gtb := List.mem_filter.mpr ⟨List.mem_of_getElem? (i := 208) (by decide +kernel), rfl⟩
theorem q_209 : (Jvm.Cond.fieldLink "TrapDesk" (36 : Nat) "TrapDesk" "pc" "I") ∈ gtb := List.mem_filter.mpr ⟨List.mem_of_getElem? (i := 209) (by decide +kernel), rfl⟩
theorem q_210 : (Jvm.Cond.fieldLink "TrapDesk" (39 : Nat) "TrapDesk" "trapsToS" "I") ∈ gtb := List.mem_filter.mpr ⟨List.mem_of_getElem? (i := 210) (by decide +kernel), rfl⟩
theorem q_211 : (Jvm.Cond.fieldLink "TrapDesk" (42 : Nat) "TrapDesk" "trapsToVs" "I") ∈ gtb := List.mem_filter.mpr ⟨List.mem_of_getElem? (i := 211) (by decide +kernel), rfl⟩
theorem q_212 : (Jvm.Cond.fieldLink "TrapDesk" (45 : Nat) "TrapDesk" "interrupts" "I") ∈ gtb := List.mem_filter.mpr ⟨List.mem_of_getElem? (i := 212) (by decide +kernel), rfl⟩
set_option maxRecDepth 20000 in
theorem q_277 : (Jvm.Cond.code ({ cls := "TrapDesk$Numbers", name := "kindOf", desc := "(I)I" } : Jvm.MethodName) prog_5_method_6_code (1 : Nat) (Option.some Jvm.ClassFile.FieldType.int)) ∈ gtb := List.mem_filter.mpr ⟨List.mem_of_getElem? (i := 277) (rfl), rfl⟩
theorem q_275 : (Jvm.Cond.methodLink "TrapDesk$Numbers" (26 : Nat) ({ cls := "TrapDesk$Numbers", name := "kindOf", desc := "(I)I" } : Jvm.MethodName)) ∈ gtb := List.mem_filter.mpr ⟨List.mem_of_getElem? (i := 275) (by decide +kernel), rfl⟩
theorem q_48 : (Jvm.Cond.initialized "TrapDesk$Numbers") ∈ gtb := List.mem_filter.mpr ⟨List.mem_of_getElem? (i := 48) (by decide +kernel), rfl⟩
theorem q_276 : (Jvm.Cond.static ({ cls := "TrapDesk$Numbers", name := "kindOf", desc := "(I)I" } : Jvm.MethodName)) ∈ gtb := List.mem_filter.mpr ⟨List.mem_of_getElem? (i := 276) (by decide +kernel), rfl⟩
set_option maxRecDepth 20000 in
theorem q_280 : (Jvm.Cond.code ({ cls := "TrapDesk$Numbers", name := "isKind", desc := "(I)Z" } : Jvm.MethodName) prog_5_method_7_code (1 : Nat) (Option.some Jvm.ClassFile.FieldType.boolean)) ∈ gtb := List.mem_filter.mpr ⟨List.mem_of_getElem? (i := 280) (rfl), rfl⟩
theorem q_278 : (Jvm.Cond.methodLink "TrapDesk$Numbers" (30 : Nat) ({ cls := "TrapDesk$Numbers", name := "isKind", desc := "(I)Z" } : Jvm.MethodName)) ∈ gtb := List.mem_filter.mpr ⟨List.mem_of_getElem? (i := 278) (by decide +kernel), rfl⟩
theorem q_279 : (Jvm.Cond.static ({ cls := "TrapDesk$Numbers", name := "isKind", desc := "(I)Z" } : Jvm.MethodName)) ∈ gtb := List.mem_filter.mpr ⟨List.mem_of_getElem? (i := 279) (by decide +kernel), rfl⟩
set_option maxRecDepth 20000 in
theorem q_274 : (Jvm.Cond.code ({ cls := "TrapDesk$Numbers", name := "isOf", desc := "(II)Z" } : Jvm.MethodName) prog_5_method_5_code (2 : Nat) (Option.some Jvm.ClassFile.FieldType.boolean)) ∈ gtb := List.mem_filter.mpr ⟨List.mem_of_getElem? (i := 274) (rfl), rfl⟩
theorem q_272 : (Jvm.Cond.methodLink "TrapDesk$Numbers" (22 : Nat) ({ cls := "TrapDesk$Numbers", name := "isOf", desc := "(II)Z" } : Jvm.MethodName)) ∈ gtb := List.mem_filter.mpr ⟨List.mem_of_getElem? (i := 272) (by decide +kernel), rfl⟩
theorem q_273 : (Jvm.Cond.static ({ cls := "TrapDesk$Numbers", name := "isOf", desc := "(II)Z" } : Jvm.MethodName)) ∈ gtb := List.mem_filter.mpr ⟨List.mem_of_getElem? (i := 273) (by decide +kernel), rfl⟩
set_option maxRecDepth 20000 in
theorem q_271 : (Jvm.Cond.code ({ cls := "TrapDesk$Numbers", name := "isOfS", desc := "(I)Z" } : Jvm.MethodName) prog_5_method_3_code (1 : Nat) (Option.some Jvm.ClassFile.FieldType.boolean)) ∈ gtb := List.mem_filter.mpr ⟨List.mem_of_getElem? (i := 271) (rfl), rfl⟩
theorem q_269 : (Jvm.Cond.methodLink "TrapDesk$Numbers" (9 : Nat) ({ cls := "TrapDesk$Numbers", name := "isOfS", desc := "(I)Z" } : Jvm.MethodName)) ∈ gtb := List.mem_filter.mpr ⟨List.mem_of_getElem? (i := 269) (by decide +kernel), rfl⟩
theorem q_270 : (Jvm.Cond.static ({ cls := "TrapDesk$Numbers", name := "isOfS", desc := "(I)Z" } : Jvm.MethodName)) ∈ gtb := List.mem_filter.mpr ⟨List.mem_of_getElem? (i := 270) (by decide +kernel), rfl⟩
set_option maxRecDepth 20000 in
theorem q_283 : (Jvm.Cond.code ({ cls := "TrapDesk$Numbers", name := "isOfVs", desc := "(I)Z" } : Jvm.MethodName) prog_5_method_4_code (1 : Nat) (Option.some Jvm.ClassFile.FieldType.boolean)) ∈ gtb := List.mem_filter.mpr ⟨List.mem_of_getElem? (i := 283) (rfl), rfl⟩
theorem q_281 : (Jvm.Cond.methodLink "TrapDesk$Numbers" (13 : Nat) ({ cls := "TrapDesk$Numbers", name := "isOfVs", desc := "(I)Z" } : Jvm.MethodName)) ∈ gtb := List.mem_filter.mpr ⟨List.mem_of_getElem? (i := 281) (by decide +kernel), rfl⟩
theorem q_282 : (Jvm.Cond.static ({ cls := "TrapDesk$Numbers", name := "isOfVs", desc := "(I)Z" } : Jvm.MethodName)) ∈ gtb := List.mem_filter.mpr ⟨List.mem_of_getElem? (i := 282) (by decide +kernel), rfl⟩
set_option maxRecDepth 20000 in
theorem q_286 : (Jvm.Cond.code ({ cls := "TrapDesk$Numbers", name := "isOfH", desc := "(I)Z" } : Jvm.MethodName) prog_5_method_8_code (1 : Nat) (Option.some Jvm.ClassFile.FieldType.boolean)) ∈ gtb := List.mem_filter.mpr ⟨List.mem_of_getElem? (i := 286) (rfl), rfl⟩
theorem q_284 : (Jvm.Cond.methodLink "TrapDesk$Numbers" (16 : Nat) ({ cls := "TrapDesk$Numbers", name := "isOfH", desc := "(I)Z" } : Jvm.MethodName)) ∈ gtb := List.mem_filter.mpr ⟨List.mem_of_getElem? (i := 284) (by decide +kernel), rfl⟩
theorem q_285 : (Jvm.Cond.static ({ cls := "TrapDesk$Numbers", name := "isOfH", desc := "(I)Z" } : Jvm.MethodName)) ∈ gtb := List.mem_filter.mpr ⟨List.mem_of_getElem? (i := 285) (by decide +kernel), rfl⟩
set_option maxRecDepth 20000 in
theorem q_289 : (Jvm.Cond.code ({ cls := "TrapDesk$Numbers", name := "isTime", desc := "(I)Z" } : Jvm.MethodName) prog_5_method_9_code (1 : Nat) (Option.some Jvm.ClassFile.FieldType.boolean)) ∈ gtb := List.mem_filter.mpr ⟨List.mem_of_getElem? (i := 289) (rfl), rfl⟩
theorem q_287 : (Jvm.Cond.methodLink "TrapDesk$Numbers" (19 : Nat) ({ cls := "TrapDesk$Numbers", name := "isTime", desc := "(I)Z" } : Jvm.MethodName)) ∈ gtb := List.mem_filter.mpr ⟨List.mem_of_getElem? (i := 287) (by decide +kernel), rfl⟩
theorem q_288 : (Jvm.Cond.static ({ cls := "TrapDesk$Numbers", name := "isTime", desc := "(I)Z" } : Jvm.MethodName)) ∈ gtb := List.mem_filter.mpr ⟨List.mem_of_getElem? (i := 288) (by decide +kernel), rfl⟩
set_option maxRecDepth 20000 in
theorem q_268 : (Jvm.Cond.code ({ cls := "TrapDesk$Numbers", name := "isKnown", desc := "(I)Z" } : Jvm.MethodName) prog_5_method_2_code (1 : Nat) (Option.some Jvm.ClassFile.FieldType.boolean)) ∈ gtb := List.mem_filter.mpr ⟨List.mem_of_getElem? (i := 268) (rfl), rfl⟩
theorem q_266 : (Jvm.Cond.methodLink "TrapDesk" (48 : Nat) ({ cls := "TrapDesk$Numbers", name := "isKnown", desc := "(I)Z" } : Jvm.MethodName)) ∈ gtb := List.mem_filter.mpr ⟨List.mem_of_getElem? (i := 266) (by decide +kernel), rfl⟩
theorem q_267 : (Jvm.Cond.static ({ cls := "TrapDesk$Numbers", name := "isKnown", desc := "(I)Z" } : Jvm.MethodName)) ∈ gtb := List.mem_filter.mpr ⟨List.mem_of_getElem? (i := 267) (by decide +kernel), rfl⟩
theorem q_290 : (Jvm.Cond.methodLink "TrapDesk" (54 : Nat) ({ cls := "TrapDesk$Numbers", name := "isTime", desc := "(I)Z" } : Jvm.MethodName)) ∈ gtb := List.mem_filter.mpr ⟨List.mem_of_getElem? (i := 290) (by decide +kernel), rfl⟩
theorem q_295 : (Jvm.Cond.methodLink "TrapDesk$Controls" (45 : Nat) ({ cls := "TrapDesk$Numbers", name := "isOfS", desc := "(I)Z" } : Jvm.MethodName)) ∈ gtb := List.mem_filter.mpr ⟨List.mem_of_getElem? (i := 295) (by decide +kernel), rfl⟩
theorem q_307 : (Jvm.Cond.methodLink "TrapDesk$Controls" (58 : Nat) ({ cls := "TrapDesk$Numbers", name := "isOfVs", desc := "(I)Z" } : Jvm.MethodName)) ∈ gtb := List.mem_filter.mpr ⟨List.mem_of_getElem? (i := 307) (by decide +kernel), rfl⟩
theorem q_327 : (Jvm.Cond.constant "TrapDesk$Hyper" (34 : Nat) (7340992 : Int32)) ∈ gtb := List.mem_filter.mpr ⟨List.mem_of_getElem? (i := 327) (by decide +kernel), rfl⟩
theorem q_328 : (Jvm.Cond.constant "TrapDesk$Hyper" (35 : Nat) (45567 : Int32)) ∈ gtb := List.mem_filter.mpr ⟨List.mem_of_getElem? (i := 328) (by decide +kernel), rfl⟩
set_option maxRecDepth 20000 in
theorem q_318 : (Jvm.Cond.code ({ cls := "TrapDesk$Hyper", name := "replaced", desc := "(III)I" } : Jvm.MethodName) prog_4_method_5_code (3 : Nat) (Option.some Jvm.ClassFile.FieldType.int)) ∈ gtb := List.mem_filter.mpr ⟨List.mem_of_getElem? (i := 318) (rfl), rfl⟩
theorem q_316 : (Jvm.Cond.methodLink "TrapDesk$Hyper" (36 : Nat) ({ cls := "TrapDesk$Hyper", name := "replaced", desc := "(III)I" } : Jvm.MethodName)) ∈ gtb := List.mem_filter.mpr ⟨List.mem_of_getElem? (i := 316) (by decide +kernel), rfl⟩
theorem q_317 : (Jvm.Cond.static ({ cls := "TrapDesk$Hyper", name := "replaced", desc := "(III)I" } : Jvm.MethodName)) ∈ gtb := List.mem_filter.mpr ⟨List.mem_of_getElem? (i := 317) (by decide +kernel), rfl⟩
theorem q_329 : (Jvm.Cond.constant "TrapDesk$Hyper" (40 : Nat) (-2143289348 : Int32)) ∈ gtb := List.mem_filter.mpr ⟨List.mem_of_getElem? (i := 329) (by decide +kernel), rfl⟩
set_option maxRecDepth 20000 in
theorem q_326 : (Jvm.Cond.code ({ cls := "TrapDesk$Hyper", name := "write", desc := "(II)V" } : Jvm.MethodName) prog_4_method_4_code (3 : Nat) (Option.none : Option Jvm.ClassFile.FieldType)) ∈ gtb := List.mem_filter.mpr ⟨List.mem_of_getElem? (i := 326) (rfl), rfl⟩
theorem q_323 : (Jvm.Cond.methodLink "TrapDesk$Controls" (89 : Nat) ({ cls := "TrapDesk$Hyper", name := "write", desc := "(II)V" } : Jvm.MethodName)) ∈ gtb := List.mem_filter.mpr ⟨List.mem_of_getElem? (i := 323) (by decide +kernel), rfl⟩
theorem q_324 : (Jvm.Cond.instanceMethod ({ cls := "TrapDesk$Hyper", name := "write", desc := "(II)V" } : Jvm.MethodName)) ∈ gtb := List.mem_filter.mpr ⟨List.mem_of_getElem? (i := 324) (by decide +kernel), rfl⟩
theorem q_325 : (Jvm.Cond.selects "TrapDesk$Hyper" ({ cls := "TrapDesk$Hyper", name := "write", desc := "(II)V" } : Jvm.MethodName) ({ cls := "TrapDesk$Hyper", name := "write", desc := "(II)V" } : Jvm.MethodName)) ∈ gtb := List.mem_filter.mpr ⟨List.mem_of_getElem? (i := 325) (by decide +kernel), rfl⟩
theorem q_296 : (Jvm.Cond.methodLink "TrapDesk$Controls" (51 : Nat) ({ cls := "TrapDesk$Numbers", name := "kindOf", desc := "(I)I" } : Jvm.MethodName)) ∈ gtb := List.mem_filter.mpr ⟨List.mem_of_getElem? (i := 296) (by decide +kernel), rfl⟩
set_option maxRecDepth 20000 in
theorem q_315 : (Jvm.Cond.code ({ cls := "TrapDesk$Hyper", name := "writeGuestIe", desc := "(I)V" } : Jvm.MethodName) prog_4_method_9_code (2 : Nat) (Option.none : Option Jvm.ClassFile.FieldType)) ∈ gtb := List.mem_filter.mpr ⟨List.mem_of_getElem? (i := 315) (rfl), rfl⟩
theorem q_312 : (Jvm.Cond.methodLink "TrapDesk$Controls" (93 : Nat) ({ cls := "TrapDesk$Hyper", name := "writeGuestIe", desc := "(I)V" } : Jvm.MethodName)) ∈ gtb := List.mem_filter.mpr ⟨List.mem_of_getElem? (i := 312) (by decide +kernel), rfl⟩
theorem q_313 : (Jvm.Cond.instanceMethod ({ cls := "TrapDesk$Hyper", name := "writeGuestIe", desc := "(I)V" } : Jvm.MethodName)) ∈ gtb := List.mem_filter.mpr ⟨List.mem_of_getElem? (i := 313) (by decide +kernel), rfl⟩
theorem q_314 : (Jvm.Cond.selects "TrapDesk$Hyper" ({ cls := "TrapDesk$Hyper", name := "writeGuestIe", desc := "(I)V" } : Jvm.MethodName) ({ cls := "TrapDesk$Hyper", name := "writeGuestIe", desc := "(I)V" } : Jvm.MethodName)) ∈ gtb := List.mem_filter.mpr ⟨List.mem_of_getElem? (i := 314) (by decide +kernel), rfl⟩
set_option maxRecDepth 20000 in
theorem q_322 : (Jvm.Cond.code ({ cls := "TrapDesk$Hyper", name := "writeGuestIp", desc := "(I)V" } : Jvm.MethodName) prog_4_method_10_code (2 : Nat) (Option.none : Option Jvm.ClassFile.FieldType)) ∈ gtb := List.mem_filter.mpr ⟨List.mem_of_getElem? (i := 322) (rfl), rfl⟩
theorem q_319 : (Jvm.Cond.methodLink "TrapDesk$Controls" (97 : Nat) ({ cls := "TrapDesk$Hyper", name := "writeGuestIp", desc := "(I)V" } : Jvm.MethodName)) ∈ gtb := List.mem_filter.mpr ⟨List.mem_of_getElem? (i := 319) (by decide +kernel), rfl⟩
theorem q_320 : (Jvm.Cond.instanceMethod ({ cls := "TrapDesk$Hyper", name := "writeGuestIp", desc := "(I)V" } : Jvm.MethodName)) ∈ gtb := List.mem_filter.mpr ⟨List.mem_of_getElem? (i := 320) (by decide +kernel), rfl⟩
theorem q_321 : (Jvm.Cond.selects "TrapDesk$Hyper" ({ cls := "TrapDesk$Hyper", name := "writeGuestIp", desc := "(I)V" } : Jvm.MethodName) ({ cls := "TrapDesk$Hyper", name := "writeGuestIp", desc := "(I)V" } : Jvm.MethodName)) ∈ gtb := List.mem_filter.mpr ⟨List.mem_of_getElem? (i := 321) (by decide +kernel), rfl⟩
theorem q_305 : (Jvm.Cond.constant "TrapDesk$Bank" (33 : Nat) (786722 : Int32)) ∈ gtb := List.mem_filter.mpr ⟨List.mem_of_getElem? (i := 305) (by decide +kernel), rfl⟩
theorem q_306 : (Jvm.Cond.constant "TrapDesk$Bank" (34 : Nat) (-2143289345 : Int32)) ∈ gtb := List.mem_filter.mpr ⟨List.mem_of_getElem? (i := 306) (by decide +kernel), rfl⟩
set_option maxRecDepth 20000 in
theorem q_304 : (Jvm.Cond.code ({ cls := "TrapDesk$Bank", name := "write", desc := "(II)V" } : Jvm.MethodName) prog_2_method_4_code (3 : Nat) (Option.none : Option Jvm.ClassFile.FieldType)) ∈ gtb := List.mem_filter.mpr ⟨List.mem_of_getElem? (i := 304) (rfl), rfl⟩
theorem q_301 : (Jvm.Cond.methodLink "TrapDesk$Controls" (92 : Nat) ({ cls := "TrapDesk$Bank", name := "write", desc := "(II)V" } : Jvm.MethodName)) ∈ gtb := List.mem_filter.mpr ⟨List.mem_of_getElem? (i := 301) (by decide +kernel), rfl⟩
theorem q_302 : (Jvm.Cond.instanceMethod ({ cls := "TrapDesk$Bank", name := "write", desc := "(II)V" } : Jvm.MethodName)) ∈ gtb := List.mem_filter.mpr ⟨List.mem_of_getElem? (i := 302) (by decide +kernel), rfl⟩
theorem q_303 : (Jvm.Cond.selects "TrapDesk$Bank" ({ cls := "TrapDesk$Bank", name := "write", desc := "(II)V" } : Jvm.MethodName) ({ cls := "TrapDesk$Bank", name := "write", desc := "(II)V" } : Jvm.MethodName)) ∈ gtb := List.mem_filter.mpr ⟨List.mem_of_getElem? (i := 303) (by decide +kernel), rfl⟩
set_option maxRecDepth 20000 in
theorem q_311 : (Jvm.Cond.code ({ cls := "TrapDesk$Controls", name := "writeGuest", desc := "(II)V" } : Jvm.MethodName) prog_3_method_8_code (3 : Nat) (Option.none : Option Jvm.ClassFile.FieldType)) ∈ gtb := List.mem_filter.mpr ⟨List.mem_of_getElem? (i := 311) (rfl), rfl⟩
theorem q_308 : (Jvm.Cond.methodLink "TrapDesk$Controls" (86 : Nat) ({ cls := "TrapDesk$Controls", name := "writeGuest", desc := "(II)V" } : Jvm.MethodName)) ∈ gtb := List.mem_filter.mpr ⟨List.mem_of_getElem? (i := 308) (by decide +kernel), rfl⟩
theorem q_309 : (Jvm.Cond.instanceMethod ({ cls := "TrapDesk$Controls", name := "writeGuest", desc := "(II)V" } : Jvm.MethodName)) ∈ gtb := List.mem_filter.mpr ⟨List.mem_of_getElem? (i := 309) (by decide +kernel), rfl⟩
theorem q_310 : (Jvm.Cond.selects "TrapDesk$Controls" ({ cls := "TrapDesk$Controls", name := "writeGuest", desc := "(II)V" } : Jvm.MethodName) ({ cls := "TrapDesk$Controls", name := "writeGuest", desc := "(II)V" } : Jvm.MethodName)) ∈ gtb := List.mem_filter.mpr ⟨List.mem_of_getElem? (i := 310) (by decide +kernel), rfl⟩
set_option maxRecDepth 20000 in
theorem q_300 : (Jvm.Cond.code ({ cls := "TrapDesk$Controls", name := "writeHost", desc := "(II)V" } : Jvm.MethodName) prog_3_method_7_code (3 : Nat) (Option.none : Option Jvm.ClassFile.FieldType)) ∈ gtb := List.mem_filter.mpr ⟨List.mem_of_getElem? (i := 300) (rfl), rfl⟩
theorem q_297 : (Jvm.Cond.methodLink "TrapDesk$Controls" (82 : Nat) ({ cls := "TrapDesk$Controls", name := "writeHost", desc := "(II)V" } : Jvm.MethodName)) ∈ gtb := List.mem_filter.mpr ⟨List.mem_of_getElem? (i := 297) (by decide +kernel), rfl⟩
theorem q_298 : (Jvm.Cond.instanceMethod ({ cls := "TrapDesk$Controls", name := "writeHost", desc := "(II)V" } : Jvm.MethodName)) ∈ gtb := List.mem_filter.mpr ⟨List.mem_of_getElem? (i := 298) (by decide +kernel), rfl⟩
theorem q_299 : (Jvm.Cond.selects "TrapDesk$Controls" ({ cls := "TrapDesk$Controls", name := "writeHost", desc := "(II)V" } : Jvm.MethodName) ({ cls := "TrapDesk$Controls", name := "writeHost", desc := "(II)V" } : Jvm.MethodName)) ∈ gtb := List.mem_filter.mpr ⟨List.mem_of_getElem? (i := 299) (by decide +kernel), rfl⟩
set_option maxRecDepth 20000 in
theorem q_294 : (Jvm.Cond.code ({ cls := "TrapDesk$Controls", name := "write", desc := "(II)V" } : Jvm.MethodName) prog_3_method_6_code (3 : Nat) (Option.none : Option Jvm.ClassFile.FieldType)) ∈ gtb := List.mem_filter.mpr ⟨List.mem_of_getElem? (i := 294) (rfl), rfl⟩
theorem q_291 : (Jvm.Cond.methodLink "TrapDesk" (57 : Nat) ({ cls := "TrapDesk$Controls", name := "write", desc := "(II)V" } : Jvm.MethodName)) ∈ gtb := List.mem_filter.mpr ⟨List.mem_of_getElem? (i := 291) (by decide +kernel), rfl⟩
theorem q_292 : (Jvm.Cond.instanceMethod ({ cls := "TrapDesk$Controls", name := "write", desc := "(II)V" } : Jvm.MethodName)) ∈ gtb := List.mem_filter.mpr ⟨List.mem_of_getElem? (i := 292) (by decide +kernel), rfl⟩
theorem q_293 : (Jvm.Cond.selects "TrapDesk$Controls" ({ cls := "TrapDesk$Controls", name := "write", desc := "(II)V" } : Jvm.MethodName) ({ cls := "TrapDesk$Controls", name := "write", desc := "(II)V" } : Jvm.MethodName)) ∈ gtb := List.mem_filter.mpr ⟨List.mem_of_getElem? (i := 293) (by decide +kernel), rfl⟩
theorem q_74 : (Jvm.Cond.fieldLink "TrapDesk$Controls" (64 : Nat) "TrapDesk$Outside" "now" "J") ∈ gtb := List.mem_filter.mpr ⟨List.mem_of_getElem? (i := 74) (by decide +kernel), rfl⟩
set_option maxRecDepth 20000 in
theorem q_369 : (Jvm.Cond.code ({ cls := "TrapDesk$Hyper", name := "read", desc := "(I)I" } : Jvm.MethodName) prog_4_method_3_code (2 : Nat) (Option.some Jvm.ClassFile.FieldType.int)) ∈ gtb := List.mem_filter.mpr ⟨List.mem_of_getElem? (i := 369) (rfl), rfl⟩
theorem q_366 : (Jvm.Cond.methodLink "TrapDesk$Controls" (68 : Nat) ({ cls := "TrapDesk$Hyper", name := "read", desc := "(I)I" } : Jvm.MethodName)) ∈ gtb := List.mem_filter.mpr ⟨List.mem_of_getElem? (i := 366) (by decide +kernel), rfl⟩
theorem q_367 : (Jvm.Cond.instanceMethod ({ cls := "TrapDesk$Hyper", name := "read", desc := "(I)I" } : Jvm.MethodName)) ∈ gtb := List.mem_filter.mpr ⟨List.mem_of_getElem? (i := 367) (by decide +kernel), rfl⟩
theorem q_368 : (Jvm.Cond.selects "TrapDesk$Hyper" ({ cls := "TrapDesk$Hyper", name := "read", desc := "(I)I" } : Jvm.MethodName) ({ cls := "TrapDesk$Hyper", name := "read", desc := "(I)I" } : Jvm.MethodName)) ∈ gtb := List.mem_filter.mpr ⟨List.mem_of_getElem? (i := 368) (by decide +kernel), rfl⟩
set_option maxRecDepth 20000 in
theorem q_361 : (Jvm.Cond.code ({ cls := "TrapDesk$Hyper", name := "guestIe", desc := "()I" } : Jvm.MethodName) prog_4_method_7_code (1 : Nat) (Option.some Jvm.ClassFile.FieldType.int)) ∈ gtb := List.mem_filter.mpr ⟨List.mem_of_getElem? (i := 361) (rfl), rfl⟩
theorem q_358 : (Jvm.Cond.methodLink "TrapDesk$Controls" (76 : Nat) ({ cls := "TrapDesk$Hyper", name := "guestIe", desc := "()I" } : Jvm.MethodName)) ∈ gtb := List.mem_filter.mpr ⟨List.mem_of_getElem? (i := 358) (by decide +kernel), rfl⟩
theorem q_359 : (Jvm.Cond.instanceMethod ({ cls := "TrapDesk$Hyper", name := "guestIe", desc := "()I" } : Jvm.MethodName)) ∈ gtb := List.mem_filter.mpr ⟨List.mem_of_getElem? (i := 359) (by decide +kernel), rfl⟩
theorem q_360 : (Jvm.Cond.selects "TrapDesk$Hyper" ({ cls := "TrapDesk$Hyper", name := "guestIe", desc := "()I" } : Jvm.MethodName) ({ cls := "TrapDesk$Hyper", name := "guestIe", desc := "()I" } : Jvm.MethodName)) ∈ gtb := List.mem_filter.mpr ⟨List.mem_of_getElem? (i := 360) (by decide +kernel), rfl⟩
set_option maxRecDepth 20000 in
theorem q_365 : (Jvm.Cond.code ({ cls := "TrapDesk$Hyper", name := "guestIp", desc := "()I" } : Jvm.MethodName) prog_4_method_8_code (1 : Nat) (Option.some Jvm.ClassFile.FieldType.int)) ∈ gtb := List.mem_filter.mpr ⟨List.mem_of_getElem? (i := 365) (rfl), rfl⟩
theorem q_362 : (Jvm.Cond.methodLink "TrapDesk$Controls" (79 : Nat) ({ cls := "TrapDesk$Hyper", name := "guestIp", desc := "()I" } : Jvm.MethodName)) ∈ gtb := List.mem_filter.mpr ⟨List.mem_of_getElem? (i := 362) (by decide +kernel), rfl⟩
theorem q_363 : (Jvm.Cond.instanceMethod ({ cls := "TrapDesk$Hyper", name := "guestIp", desc := "()I" } : Jvm.MethodName)) ∈ gtb := List.mem_filter.mpr ⟨List.mem_of_getElem? (i := 363) (by decide +kernel), rfl⟩
theorem q_364 : (Jvm.Cond.selects "TrapDesk$Hyper" ({ cls := "TrapDesk$Hyper", name := "guestIp", desc := "()I" } : Jvm.MethodName) ({ cls := "TrapDesk$Hyper", name := "guestIp", desc := "()I" } : Jvm.MethodName)) ∈ gtb := List.mem_filter.mpr ⟨List.mem_of_getElem? (i := 364) (by decide +kernel), rfl⟩
set_option maxRecDepth 20000 in
theorem q_353 : (Jvm.Cond.code ({ cls := "TrapDesk$Bank", name := "read", desc := "(I)I" } : Jvm.MethodName) prog_2_method_3_code (2 : Nat) (Option.some Jvm.ClassFile.FieldType.int)) ∈ gtb := List.mem_filter.mpr ⟨List.mem_of_getElem? (i := 353) (rfl), rfl⟩
theorem q_350 : (Jvm.Cond.methodLink "TrapDesk$Controls" (75 : Nat) ({ cls := "TrapDesk$Bank", name := "read", desc := "(I)I" } : Jvm.MethodName)) ∈ gtb := List.mem_filter.mpr ⟨List.mem_of_getElem? (i := 350) (by decide +kernel), rfl⟩
theorem q_351 : (Jvm.Cond.instanceMethod ({ cls := "TrapDesk$Bank", name := "read", desc := "(I)I" } : Jvm.MethodName)) ∈ gtb := List.mem_filter.mpr ⟨List.mem_of_getElem? (i := 351) (by decide +kernel), rfl⟩
theorem q_352 : (Jvm.Cond.selects "TrapDesk$Bank" ({ cls := "TrapDesk$Bank", name := "read", desc := "(I)I" } : Jvm.MethodName) ({ cls := "TrapDesk$Bank", name := "read", desc := "(I)I" } : Jvm.MethodName)) ∈ gtb := List.mem_filter.mpr ⟨List.mem_of_getElem? (i := 352) (by decide +kernel), rfl⟩
set_option maxRecDepth 20000 in
theorem q_357 : (Jvm.Cond.code ({ cls := "TrapDesk$Controls", name := "readGuest", desc := "(I)I" } : Jvm.MethodName) prog_3_method_5_code (2 : Nat) (Option.some Jvm.ClassFile.FieldType.int)) ∈ gtb := List.mem_filter.mpr ⟨List.mem_of_getElem? (i := 357) (rfl), rfl⟩
theorem q_354 : (Jvm.Cond.methodLink "TrapDesk$Controls" (61 : Nat) ({ cls := "TrapDesk$Controls", name := "readGuest", desc := "(I)I" } : Jvm.MethodName)) ∈ gtb := List.mem_filter.mpr ⟨List.mem_of_getElem? (i := 354) (by decide +kernel), rfl⟩
theorem q_355 : (Jvm.Cond.instanceMethod ({ cls := "TrapDesk$Controls", name := "readGuest", desc := "(I)I" } : Jvm.MethodName)) ∈ gtb := List.mem_filter.mpr ⟨List.mem_of_getElem? (i := 355) (by decide +kernel), rfl⟩
theorem q_356 : (Jvm.Cond.selects "TrapDesk$Controls" ({ cls := "TrapDesk$Controls", name := "readGuest", desc := "(I)I" } : Jvm.MethodName) ({ cls := "TrapDesk$Controls", name := "readGuest", desc := "(I)I" } : Jvm.MethodName)) ∈ gtb := List.mem_filter.mpr ⟨List.mem_of_getElem? (i := 356) (by decide +kernel), rfl⟩
set_option maxRecDepth 20000 in
theorem q_349 : (Jvm.Cond.code ({ cls := "TrapDesk$Outside", name := "alarmRings", desc := "()Z" } : Jvm.MethodName) prog_6_method_3_code (1 : Nat) (Option.some Jvm.ClassFile.FieldType.boolean)) ∈ gtb := List.mem_filter.mpr ⟨List.mem_of_getElem? (i := 349) (rfl), rfl⟩
theorem q_346 : (Jvm.Cond.methodLink "TrapDesk$Controls" (100 : Nat) ({ cls := "TrapDesk$Outside", name := "alarmRings", desc := "()Z" } : Jvm.MethodName)) ∈ gtb := List.mem_filter.mpr ⟨List.mem_of_getElem? (i := 346) (by decide +kernel), rfl⟩
theorem q_347 : (Jvm.Cond.instanceMethod ({ cls := "TrapDesk$Outside", name := "alarmRings", desc := "()Z" } : Jvm.MethodName)) ∈ gtb := List.mem_filter.mpr ⟨List.mem_of_getElem? (i := 347) (by decide +kernel), rfl⟩
theorem q_348 : (Jvm.Cond.selects "TrapDesk$Outside" ({ cls := "TrapDesk$Outside", name := "alarmRings", desc := "()Z" } : Jvm.MethodName) ({ cls := "TrapDesk$Outside", name := "alarmRings", desc := "()Z" } : Jvm.MethodName)) ∈ gtb := List.mem_filter.mpr ⟨List.mem_of_getElem? (i := 348) (by decide +kernel), rfl⟩
theorem q_80 : (Jvm.Cond.fieldLink "TrapDesk$Controls" (104 : Nat) "TrapDesk$Outside" "lineOn" "Z") ∈ gtb := List.mem_filter.mpr ⟨List.mem_of_getElem? (i := 80) (by decide +kernel), rfl⟩
set_option maxRecDepth 20000 in
theorem q_345 : (Jvm.Cond.code ({ cls := "TrapDesk$Controls", name := "hostIp", desc := "()I" } : Jvm.MethodName) prog_3_method_9_code (3 : Nat) (Option.some Jvm.ClassFile.FieldType.int)) ∈ gtb := List.mem_filter.mpr ⟨List.mem_of_getElem? (i := 345) (rfl), rfl⟩
theorem q_342 : (Jvm.Cond.methodLink "TrapDesk$Controls" (71 : Nat) ({ cls := "TrapDesk$Controls", name := "hostIp", desc := "()I" } : Jvm.MethodName)) ∈ gtb := List.mem_filter.mpr ⟨List.mem_of_getElem? (i := 342) (by decide +kernel), rfl⟩
theorem q_343 : (Jvm.Cond.instanceMethod ({ cls := "TrapDesk$Controls", name := "hostIp", desc := "()I" } : Jvm.MethodName)) ∈ gtb := List.mem_filter.mpr ⟨List.mem_of_getElem? (i := 343) (by decide +kernel), rfl⟩
theorem q_344 : (Jvm.Cond.selects "TrapDesk$Controls" ({ cls := "TrapDesk$Controls", name := "hostIp", desc := "()I" } : Jvm.MethodName) ({ cls := "TrapDesk$Controls", name := "hostIp", desc := "()I" } : Jvm.MethodName)) ∈ gtb := List.mem_filter.mpr ⟨List.mem_of_getElem? (i := 344) (by decide +kernel), rfl⟩
set_option maxRecDepth 20000 in
theorem q_341 : (Jvm.Cond.code ({ cls := "TrapDesk$Controls", name := "readHost", desc := "(I)I" } : Jvm.MethodName) prog_3_method_4_code (2 : Nat) (Option.some Jvm.ClassFile.FieldType.int)) ∈ gtb := List.mem_filter.mpr ⟨List.mem_of_getElem? (i := 341) (rfl), rfl⟩
theorem q_338 : (Jvm.Cond.methodLink "TrapDesk$Controls" (55 : Nat) ({ cls := "TrapDesk$Controls", name := "readHost", desc := "(I)I" } : Jvm.MethodName)) ∈ gtb := List.mem_filter.mpr ⟨List.mem_of_getElem? (i := 338) (by decide +kernel), rfl⟩
theorem q_339 : (Jvm.Cond.instanceMethod ({ cls := "TrapDesk$Controls", name := "readHost", desc := "(I)I" } : Jvm.MethodName)) ∈ gtb := List.mem_filter.mpr ⟨List.mem_of_getElem? (i := 339) (by decide +kernel), rfl⟩
theorem q_340 : (Jvm.Cond.selects "TrapDesk$Controls" ({ cls := "TrapDesk$Controls", name := "readHost", desc := "(I)I" } : Jvm.MethodName) ({ cls := "TrapDesk$Controls", name := "readHost", desc := "(I)I" } : Jvm.MethodName)) ∈ gtb := List.mem_filter.mpr ⟨List.mem_of_getElem? (i := 340) (by decide +kernel), rfl⟩
set_option maxRecDepth 20000 in
theorem q_337 : (Jvm.Cond.code ({ cls := "TrapDesk$Controls", name := "read", desc := "(I)I" } : Jvm.MethodName) prog_3_method_3_code (2 : Nat) (Option.some Jvm.ClassFile.FieldType.int)) ∈ gtb := List.mem_filter.mpr ⟨List.mem_of_getElem? (i := 337) (rfl), rfl⟩
theorem q_334 : (Jvm.Cond.methodLink "TrapDesk" (61 : Nat) ({ cls := "TrapDesk$Controls", name := "read", desc := "(I)I" } : Jvm.MethodName)) ∈ gtb := List.mem_filter.mpr ⟨List.mem_of_getElem? (i := 334) (by decide +kernel), rfl⟩
theorem q_335 : (Jvm.Cond.instanceMethod ({ cls := "TrapDesk$Controls", name := "read", desc := "(I)I" } : Jvm.MethodName)) ∈ gtb := List.mem_filter.mpr ⟨List.mem_of_getElem? (i := 335) (by decide +kernel), rfl⟩
theorem q_336 : (Jvm.Cond.selects "TrapDesk$Controls" ({ cls := "TrapDesk$Controls", name := "read", desc := "(I)I" } : Jvm.MethodName) ({ cls := "TrapDesk$Controls", name := "read", desc := "(I)I" } : Jvm.MethodName)) ∈ gtb := List.mem_filter.mpr ⟨List.mem_of_getElem? (i := 336) (by decide +kernel), rfl⟩
theorem q_206 : (Jvm.Cond.fieldLink "TrapDesk" (20 : Nat) "TrapDesk" "outside" "LTrapDesk$Outside;") ∈ gtb := List.mem_filter.mpr ⟨List.mem_of_getElem? (i := 206) (by decide +kernel), rfl⟩
theorem q_75 : (Jvm.Cond.fieldLink "TrapDesk" (67 : Nat) "TrapDesk$Outside" "now" "J") ∈ gtb := List.mem_filter.mpr ⟨List.mem_of_getElem? (i := 75) (by decide +kernel), rfl⟩
theorem q_374 : (Jvm.Cond.constantLong "TrapDesk" (65 : Nat) (-1 : Int64)) ∈ gtb := List.mem_filter.mpr ⟨List.mem_of_getElem? (i := 374) (by decide +kernel), rfl⟩
theorem q_79 : (Jvm.Cond.fieldLink "TrapDesk" (73 : Nat) "TrapDesk$Outside" "lineOn" "Z") ∈ gtb := List.mem_filter.mpr ⟨List.mem_of_getElem? (i := 79) (by decide +kernel), rfl⟩
set_option maxRecDepth 20000 in
theorem q_386 : (Jvm.Cond.code ({ cls := "TrapDesk$Registers", name := "read", desc := "(I)I" } : Jvm.MethodName) prog_7_method_3_code (2 : Nat) (Option.some Jvm.ClassFile.FieldType.int)) ∈ gtb := List.mem_filter.mpr ⟨List.mem_of_getElem? (i := 386) (rfl), rfl⟩
theorem q_383 : (Jvm.Cond.methodLink "TrapDesk" (77 : Nat) ({ cls := "TrapDesk$Registers", name := "read", desc := "(I)I" } : Jvm.MethodName)) ∈ gtb := List.mem_filter.mpr ⟨List.mem_of_getElem? (i := 383) (by decide +kernel), rfl⟩
theorem q_384 : (Jvm.Cond.instanceMethod ({ cls := "TrapDesk$Registers", name := "read", desc := "(I)I" } : Jvm.MethodName)) ∈ gtb := List.mem_filter.mpr ⟨List.mem_of_getElem? (i := 384) (by decide +kernel), rfl⟩
theorem q_385 : (Jvm.Cond.selects "TrapDesk$Registers" ({ cls := "TrapDesk$Registers", name := "read", desc := "(I)I" } : Jvm.MethodName) ({ cls := "TrapDesk$Registers", name := "read", desc := "(I)I" } : Jvm.MethodName)) ∈ gtb := List.mem_filter.mpr ⟨List.mem_of_getElem? (i := 385) (by decide +kernel), rfl⟩
set_option maxRecDepth 20000 in
theorem q_390 : (Jvm.Cond.code ({ cls := "TrapDesk$Registers", name := "write", desc := "(II)V" } : Jvm.MethodName) prog_7_method_4_code (3 : Nat) (Option.none : Option Jvm.ClassFile.FieldType)) ∈ gtb := List.mem_filter.mpr ⟨List.mem_of_getElem? (i := 390) (rfl), rfl⟩
theorem q_387 : (Jvm.Cond.methodLink "TrapDesk" (78 : Nat) ({ cls := "TrapDesk$Registers", name := "write", desc := "(II)V" } : Jvm.MethodName)) ∈ gtb := List.mem_filter.mpr ⟨List.mem_of_getElem? (i := 387) (by decide +kernel), rfl⟩
theorem q_388 : (Jvm.Cond.instanceMethod ({ cls := "TrapDesk$Registers", name := "write", desc := "(II)V" } : Jvm.MethodName)) ∈ gtb := List.mem_filter.mpr ⟨List.mem_of_getElem? (i := 388) (by decide +kernel), rfl⟩
theorem q_389 : (Jvm.Cond.selects "TrapDesk$Registers" ({ cls := "TrapDesk$Registers", name := "write", desc := "(II)V" } : Jvm.MethodName) ({ cls := "TrapDesk$Registers", name := "write", desc := "(II)V" } : Jvm.MethodName)) ∈ gtb := List.mem_filter.mpr ⟨List.mem_of_getElem? (i := 389) (by decide +kernel), rfl⟩
theorem q_82 : (Jvm.Cond.fieldLink "TrapDesk" (79 : Nat) "TrapDesk$Outside" "isOff" "Z") ∈ gtb := List.mem_filter.mpr ⟨List.mem_of_getElem? (i := 82) (by decide +kernel), rfl⟩
set_option maxRecDepth 20000 in
theorem q_444 : (Jvm.Cond.code ({ cls := "TrapDesk", name := "fieldA", desc := "(I)I" } : Jvm.MethodName) prog_1_method_32_code (1 : Nat) (Option.some Jvm.ClassFile.FieldType.int)) ∈ gtb := List.mem_filter.mpr ⟨List.mem_of_getElem? (i := 444) (rfl), rfl⟩
theorem q_442 : (Jvm.Cond.methodLink "TrapDesk" (151 : Nat) ({ cls := "TrapDesk", name := "fieldA", desc := "(I)I" } : Jvm.MethodName)) ∈ gtb := List.mem_filter.mpr ⟨List.mem_of_getElem? (i := 442) (by decide +kernel), rfl⟩
theorem q_41 : (Jvm.Cond.initialized "TrapDesk") ∈ gtb := List.mem_filter.mpr ⟨List.mem_of_getElem? (i := 41) (by decide +kernel), rfl⟩
theorem q_443 : (Jvm.Cond.static ({ cls := "TrapDesk", name := "fieldA", desc := "(I)I" } : Jvm.MethodName)) ∈ gtb := List.mem_filter.mpr ⟨List.mem_of_getElem? (i := 443) (by decide +kernel), rfl⟩
theorem q_499 : (Jvm.Cond.methodLink "TrapDesk" (228 : Nat) ({ cls := "TrapDesk$Numbers", name := "isOfS", desc := "(I)Z" } : Jvm.MethodName)) ∈ gtb := List.mem_filter.mpr ⟨List.mem_of_getElem? (i := 499) (by decide +kernel), rfl⟩
theorem q_170 : (Jvm.Cond.fieldLink "TrapDesk" (197 : Nat) "TrapDesk$Controls" "hyper" "LTrapDesk$Hyper;") ∈ gtb := List.mem_filter.mpr ⟨List.mem_of_getElem? (i := 170) (by decide +kernel), rfl⟩
theorem q_413 : (Jvm.Cond.constant "TrapDesk" (141 : Nat) (1048576 : Int32)) ∈ gtb := List.mem_filter.mpr ⟨List.mem_of_getElem? (i := 413) (by decide +kernel), rfl⟩
set_option maxRecDepth 20000 in
theorem q_425 : (Jvm.Cond.code ({ cls := "TrapDesk$Hyper", name := "hasStatus", desc := "(I)Z" } : Jvm.MethodName) prog_4_method_6_code (2 : Nat) (Option.some Jvm.ClassFile.FieldType.boolean)) ∈ gtb := List.mem_filter.mpr ⟨List.mem_of_getElem? (i := 425) (rfl), rfl⟩
theorem q_422 : (Jvm.Cond.methodLink "TrapDesk" (202 : Nat) ({ cls := "TrapDesk$Hyper", name := "hasStatus", desc := "(I)Z" } : Jvm.MethodName)) ∈ gtb := List.mem_filter.mpr ⟨List.mem_of_getElem? (i := 422) (by decide +kernel), rfl⟩
theorem q_423 : (Jvm.Cond.instanceMethod ({ cls := "TrapDesk$Hyper", name := "hasStatus", desc := "(I)Z" } : Jvm.MethodName)) ∈ gtb := List.mem_filter.mpr ⟨List.mem_of_getElem? (i := 423) (by decide +kernel), rfl⟩
theorem q_424 : (Jvm.Cond.selects "TrapDesk$Hyper" ({ cls := "TrapDesk$Hyper", name := "hasStatus", desc := "(I)Z" } : Jvm.MethodName) ({ cls := "TrapDesk$Hyper", name := "hasStatus", desc := "(I)Z" } : Jvm.MethodName)) ∈ gtb := List.mem_filter.mpr ⟨List.mem_of_getElem? (i := 424) (by decide +kernel), rfl⟩
set_option maxRecDepth 20000 in
theorem q_498 : (Jvm.Cond.code ({ cls := "TrapDesk", name := "isOpenToVs", desc := "(I)Z" } : Jvm.MethodName) prog_1_method_29_code (2 : Nat) (Option.some Jvm.ClassFile.FieldType.boolean)) ∈ gtb := List.mem_filter.mpr ⟨List.mem_of_getElem? (i := 498) (rfl), rfl⟩
theorem q_495 : (Jvm.Cond.methodLink "TrapDesk" (225 : Nat) ({ cls := "TrapDesk", name := "isOpenToVs", desc := "(I)Z" } : Jvm.MethodName)) ∈ gtb := List.mem_filter.mpr ⟨List.mem_of_getElem? (i := 495) (by decide +kernel), rfl⟩
theorem q_497 : (Jvm.Cond.instanceMethod ({ cls := "TrapDesk", name := "isOpenToVs", desc := "(I)Z" } : Jvm.MethodName)) ∈ gtb := List.mem_filter.mpr ⟨List.mem_of_getElem? (i := 497) (by decide +kernel), rfl⟩
theorem q_13 : (Jvm.Cond.selects "TrapDesk" ({ cls := "TrapDesk", name := "isOpenToVs", desc := "(I)Z" } : Jvm.MethodName) ({ cls := "TrapDesk", name := "isOpenToVs", desc := "(I)Z" } : Jvm.MethodName)) ∈ gtb := List.mem_filter.mpr ⟨List.mem_of_getElem? (i := 13) (by decide +kernel), rfl⟩
set_option maxRecDepth 20000 in
theorem q_494 : (Jvm.Cond.code ({ cls := "TrapDesk", name := "refusalOfAccess", desc := "(IZ)I" } : Jvm.MethodName) prog_1_method_28_code (3 : Nat) (Option.some Jvm.ClassFile.FieldType.int)) ∈ gtb := List.mem_filter.mpr ⟨List.mem_of_getElem? (i := 494) (rfl), rfl⟩
theorem q_491 : (Jvm.Cond.methodLink "TrapDesk" (215 : Nat) ({ cls := "TrapDesk", name := "refusalOfAccess", desc := "(IZ)I" } : Jvm.MethodName)) ∈ gtb := List.mem_filter.mpr ⟨List.mem_of_getElem? (i := 491) (by decide +kernel), rfl⟩
theorem q_493 : (Jvm.Cond.instanceMethod ({ cls := "TrapDesk", name := "refusalOfAccess", desc := "(IZ)I" } : Jvm.MethodName)) ∈ gtb := List.mem_filter.mpr ⟨List.mem_of_getElem? (i := 493) (by decide +kernel), rfl⟩
theorem q_12 : (Jvm.Cond.selects "TrapDesk" ({ cls := "TrapDesk", name := "refusalOfAccess", desc := "(IZ)I" } : Jvm.MethodName) ({ cls := "TrapDesk", name := "refusalOfAccess", desc := "(IZ)I" } : Jvm.MethodName)) ∈ gtb := List.mem_filter.mpr ⟨List.mem_of_getElem? (i := 12) (by decide +kernel), rfl⟩
set_option maxRecDepth 20000 in
theorem q_502 : (Jvm.Cond.code ({ cls := "TrapDesk$Numbers", name := "inVs", desc := "(I)I" } : Jvm.MethodName) prog_5_method_10_code (1 : Nat) (Option.some Jvm.ClassFile.FieldType.int)) ∈ gtb := List.mem_filter.mpr ⟨List.mem_of_getElem? (i := 502) (rfl), rfl⟩
theorem q_500 : (Jvm.Cond.methodLink "TrapDesk" (219 : Nat) ({ cls := "TrapDesk$Numbers", name := "inVs", desc := "(I)I" } : Jvm.MethodName)) ∈ gtb := List.mem_filter.mpr ⟨List.mem_of_getElem? (i := 500) (by decide +kernel), rfl⟩
theorem q_501 : (Jvm.Cond.static ({ cls := "TrapDesk$Numbers", name := "inVs", desc := "(I)I" } : Jvm.MethodName)) ∈ gtb := List.mem_filter.mpr ⟨List.mem_of_getElem? (i := 501) (by decide +kernel), rfl⟩
set_option maxRecDepth 20000 in
theorem q_505 : (Jvm.Cond.code ({ cls := "TrapDesk", name := "combined", desc := "(III)I" } : Jvm.MethodName) prog_1_method_27_code (3 : Nat) (Option.some Jvm.ClassFile.FieldType.int)) ∈ gtb := List.mem_filter.mpr ⟨List.mem_of_getElem? (i := 505) (rfl), rfl⟩
theorem q_503 : (Jvm.Cond.methodLink "TrapDesk" (222 : Nat) ({ cls := "TrapDesk", name := "combined", desc := "(III)I" } : Jvm.MethodName)) ∈ gtb := List.mem_filter.mpr ⟨List.mem_of_getElem? (i := 503) (by decide +kernel), rfl⟩
theorem q_504 : (Jvm.Cond.static ({ cls := "TrapDesk", name := "combined", desc := "(III)I" } : Jvm.MethodName)) ∈ gtb := List.mem_filter.mpr ⟨List.mem_of_getElem? (i := 504) (by decide +kernel), rfl⟩
set_option maxRecDepth 20000 in
theorem q_409 : (Jvm.Cond.code ({ cls := "TrapDesk", name := "fieldD", desc := "(I)I" } : Jvm.MethodName) prog_1_method_31_code (1 : Nat) (Option.some Jvm.ClassFile.FieldType.int)) ∈ gtb := List.mem_filter.mpr ⟨List.mem_of_getElem? (i := 409) (rfl), rfl⟩
theorem q_407 : (Jvm.Cond.methodLink "TrapDesk" (133 : Nat) ({ cls := "TrapDesk", name := "fieldD", desc := "(I)I" } : Jvm.MethodName)) ∈ gtb := List.mem_filter.mpr ⟨List.mem_of_getElem? (i := 407) (by decide +kernel), rfl⟩
theorem q_408 : (Jvm.Cond.static ({ cls := "TrapDesk", name := "fieldD", desc := "(I)I" } : Jvm.MethodName)) ∈ gtb := List.mem_filter.mpr ⟨List.mem_of_getElem? (i := 408) (by decide +kernel), rfl⟩
set_option maxRecDepth 20000 in
theorem q_429 : (Jvm.Cond.code ({ cls := "TrapDesk", name := "goOn", desc := "()I" } : Jvm.MethodName) prog_1_method_30_code (1 : Nat) (Option.some Jvm.ClassFile.FieldType.int)) ∈ gtb := List.mem_filter.mpr ⟨List.mem_of_getElem? (i := 429) (rfl), rfl⟩
theorem q_426 : (Jvm.Cond.methodLink "TrapDesk" (174 : Nat) ({ cls := "TrapDesk", name := "goOn", desc := "()I" } : Jvm.MethodName)) ∈ gtb := List.mem_filter.mpr ⟨List.mem_of_getElem? (i := 426) (by decide +kernel), rfl⟩
theorem q_428 : (Jvm.Cond.instanceMethod ({ cls := "TrapDesk", name := "goOn", desc := "()I" } : Jvm.MethodName)) ∈ gtb := List.mem_filter.mpr ⟨List.mem_of_getElem? (i := 428) (by decide +kernel), rfl⟩
theorem q_4 : (Jvm.Cond.selects "TrapDesk" ({ cls := "TrapDesk", name := "goOn", desc := "()I" } : Jvm.MethodName) ({ cls := "TrapDesk", name := "goOn", desc := "()I" } : Jvm.MethodName)) ∈ gtb := List.mem_filter.mpr ⟨List.mem_of_getElem? (i := 4) (by decide +kernel), rfl⟩
set_option maxRecDepth 20000 in
theorem q_490 : (Jvm.Cond.code ({ cls := "TrapDesk", name := "controlWord", desc := "(II)I" } : Jvm.MethodName) prog_1_method_26_code (11 : Nat) (Option.some Jvm.ClassFile.FieldType.int)) ∈ gtb := List.mem_filter.mpr ⟨List.mem_of_getElem? (i := 490) (rfl), rfl⟩
theorem q_487 : (Jvm.Cond.methodLink "TrapDesk" (130 : Nat) ({ cls := "TrapDesk", name := "controlWord", desc := "(II)I" } : Jvm.MethodName)) ∈ gtb := List.mem_filter.mpr ⟨List.mem_of_getElem? (i := 487) (by decide +kernel), rfl⟩
theorem q_489 : (Jvm.Cond.instanceMethod ({ cls := "TrapDesk", name := "controlWord", desc := "(II)I" } : Jvm.MethodName)) ∈ gtb := List.mem_filter.mpr ⟨List.mem_of_getElem? (i := 489) (by decide +kernel), rfl⟩
theorem q_11 : (Jvm.Cond.selects "TrapDesk" ({ cls := "TrapDesk", name := "controlWord", desc := "(II)I" } : Jvm.MethodName) ({ cls := "TrapDesk", name := "controlWord", desc := "(II)I" } : Jvm.MethodName)) ∈ gtb := List.mem_filter.mpr ⟨List.mem_of_getElem? (i := 11) (by decide +kernel), rfl⟩
set_option maxRecDepth 20000 in
theorem q_412 : (Jvm.Cond.code ({ cls := "TrapDesk", name := "fieldG", desc := "(I)I" } : Jvm.MethodName) prog_1_method_34_code (1 : Nat) (Option.some Jvm.ClassFile.FieldType.int)) ∈ gtb := List.mem_filter.mpr ⟨List.mem_of_getElem? (i := 412) (rfl), rfl⟩
theorem q_410 : (Jvm.Cond.methodLink "TrapDesk" (136 : Nat) ({ cls := "TrapDesk", name := "fieldG", desc := "(I)I" } : Jvm.MethodName)) ∈ gtb := List.mem_filter.mpr ⟨List.mem_of_getElem? (i := 410) (by decide +kernel), rfl⟩
theorem q_411 : (Jvm.Cond.static ({ cls := "TrapDesk", name := "fieldG", desc := "(I)I" } : Jvm.MethodName)) ∈ gtb := List.mem_filter.mpr ⟨List.mem_of_getElem? (i := 411) (by decide +kernel), rfl⟩
set_option maxRecDepth 20000 in
theorem q_483 : (Jvm.Cond.code ({ cls := "TrapDesk", name := "fieldB", desc := "(I)I" } : Jvm.MethodName) prog_1_method_33_code (1 : Nat) (Option.some Jvm.ClassFile.FieldType.int)) ∈ gtb := List.mem_filter.mpr ⟨List.mem_of_getElem? (i := 483) (rfl), rfl⟩
theorem q_481 : (Jvm.Cond.methodLink "TrapDesk" (208 : Nat) ({ cls := "TrapDesk", name := "fieldB", desc := "(I)I" } : Jvm.MethodName)) ∈ gtb := List.mem_filter.mpr ⟨List.mem_of_getElem? (i := 481) (by decide +kernel), rfl⟩
theorem q_482 : (Jvm.Cond.static ({ cls := "TrapDesk", name := "fieldB", desc := "(I)I" } : Jvm.MethodName)) ∈ gtb := List.mem_filter.mpr ⟨List.mem_of_getElem? (i := 482) (by decide +kernel), rfl⟩
set_option maxRecDepth 20000 in
theorem q_486 : (Jvm.Cond.code ({ cls := "TrapDesk", name := "isFarAccess", desc := "(III)Z" } : Jvm.MethodName) prog_1_method_25_code (3 : Nat) (Option.some Jvm.ClassFile.FieldType.boolean)) ∈ gtb := List.mem_filter.mpr ⟨List.mem_of_getElem? (i := 486) (rfl), rfl⟩
theorem q_484 : (Jvm.Cond.methodLink "TrapDesk" (211 : Nat) ({ cls := "TrapDesk", name := "isFarAccess", desc := "(III)Z" } : Jvm.MethodName)) ∈ gtb := List.mem_filter.mpr ⟨List.mem_of_getElem? (i := 484) (by decide +kernel), rfl⟩
theorem q_485 : (Jvm.Cond.static ({ cls := "TrapDesk", name := "isFarAccess", desc := "(III)Z" } : Jvm.MethodName)) ∈ gtb := List.mem_filter.mpr ⟨List.mem_of_getElem? (i := 485) (by decide +kernel), rfl⟩
set_option maxRecDepth 20000 in
theorem q_437 : (Jvm.Cond.code ({ cls := "TrapDesk", name := "isVirtual", desc := "()Z" } : Jvm.MethodName) prog_1_method_42_code (1 : Nat) (Option.some Jvm.ClassFile.FieldType.boolean)) ∈ gtb := List.mem_filter.mpr ⟨List.mem_of_getElem? (i := 437) (rfl), rfl⟩
theorem q_434 : (Jvm.Cond.methodLink "TrapDesk" (205 : Nat) ({ cls := "TrapDesk", name := "isVirtual", desc := "()Z" } : Jvm.MethodName)) ∈ gtb := List.mem_filter.mpr ⟨List.mem_of_getElem? (i := 434) (by decide +kernel), rfl⟩
theorem q_436 : (Jvm.Cond.instanceMethod ({ cls := "TrapDesk", name := "isVirtual", desc := "()Z" } : Jvm.MethodName)) ∈ gtb := List.mem_filter.mpr ⟨List.mem_of_getElem? (i := 436) (by decide +kernel), rfl⟩
theorem q_6 : (Jvm.Cond.selects "TrapDesk" ({ cls := "TrapDesk", name := "isVirtual", desc := "()Z" } : Jvm.MethodName) ({ cls := "TrapDesk", name := "isVirtual", desc := "()Z" } : Jvm.MethodName)) ∈ gtb := List.mem_filter.mpr ⟨List.mem_of_getElem? (i := 6) (by decide +kernel), rfl⟩
set_option maxRecDepth 20000 in
theorem q_480 : (Jvm.Cond.code ({ cls := "TrapDesk", name := "farAccessWord", desc := "(I)I" } : Jvm.MethodName) prog_1_method_24_code (2 : Nat) (Option.some Jvm.ClassFile.FieldType.int)) ∈ gtb := List.mem_filter.mpr ⟨List.mem_of_getElem? (i := 480) (rfl), rfl⟩
theorem q_477 : (Jvm.Cond.methodLink "TrapDesk" (127 : Nat) ({ cls := "TrapDesk", name := "farAccessWord", desc := "(I)I" } : Jvm.MethodName)) ∈ gtb := List.mem_filter.mpr ⟨List.mem_of_getElem? (i := 477) (by decide +kernel), rfl⟩
theorem q_479 : (Jvm.Cond.instanceMethod ({ cls := "TrapDesk", name := "farAccessWord", desc := "(I)I" } : Jvm.MethodName)) ∈ gtb := List.mem_filter.mpr ⟨List.mem_of_getElem? (i := 479) (by decide +kernel), rfl⟩
theorem q_10 : (Jvm.Cond.selects "TrapDesk" ({ cls := "TrapDesk", name := "farAccessWord", desc := "(I)I" } : Jvm.MethodName) ({ cls := "TrapDesk", name := "farAccessWord", desc := "(I)I" } : Jvm.MethodName)) ∈ gtb := List.mem_filter.mpr ⟨List.mem_of_getElem? (i := 10) (by decide +kernel), rfl⟩
set_option maxRecDepth 20000 in
theorem q_421 : (Jvm.Cond.code ({ cls := "TrapDesk", name := "refusalOfSupervisorWord", desc := "(I)I" } : Jvm.MethodName) prog_1_method_22_code (2 : Nat) (Option.some Jvm.ClassFile.FieldType.int)) ∈ gtb := List.mem_filter.mpr ⟨List.mem_of_getElem? (i := 421) (rfl), rfl⟩
theorem q_418 : (Jvm.Cond.methodLink "TrapDesk" (178 : Nat) ({ cls := "TrapDesk", name := "refusalOfSupervisorWord", desc := "(I)I" } : Jvm.MethodName)) ∈ gtb := List.mem_filter.mpr ⟨List.mem_of_getElem? (i := 418) (by decide +kernel), rfl⟩
theorem q_420 : (Jvm.Cond.instanceMethod ({ cls := "TrapDesk", name := "refusalOfSupervisorWord", desc := "(I)I" } : Jvm.MethodName)) ∈ gtb := List.mem_filter.mpr ⟨List.mem_of_getElem? (i := 420) (by decide +kernel), rfl⟩
theorem q_3 : (Jvm.Cond.selects "TrapDesk" ({ cls := "TrapDesk", name := "refusalOfSupervisorWord", desc := "(I)I" } : Jvm.MethodName) ({ cls := "TrapDesk", name := "refusalOfSupervisorWord", desc := "(I)I" } : Jvm.MethodName)) ∈ gtb := List.mem_filter.mpr ⟨List.mem_of_getElem? (i := 3) (by decide +kernel), rfl⟩
set_option maxRecDepth 20000 in
theorem q_417 : (Jvm.Cond.code ({ cls := "TrapDesk", name := "nothingUnless", desc := "(I)I" } : Jvm.MethodName) prog_1_method_21_code (3 : Nat) (Option.some Jvm.ClassFile.FieldType.int)) ∈ gtb := List.mem_filter.mpr ⟨List.mem_of_getElem? (i := 417) (rfl), rfl⟩
theorem q_414 : (Jvm.Cond.methodLink "TrapDesk" (142 : Nat) ({ cls := "TrapDesk", name := "nothingUnless", desc := "(I)I" } : Jvm.MethodName)) ∈ gtb := List.mem_filter.mpr ⟨List.mem_of_getElem? (i := 414) (by decide +kernel), rfl⟩
theorem q_416 : (Jvm.Cond.instanceMethod ({ cls := "TrapDesk", name := "nothingUnless", desc := "(I)I" } : Jvm.MethodName)) ∈ gtb := List.mem_filter.mpr ⟨List.mem_of_getElem? (i := 416) (by decide +kernel), rfl⟩
theorem q_2 : (Jvm.Cond.selects "TrapDesk" ({ cls := "TrapDesk", name := "nothingUnless", desc := "(I)I" } : Jvm.MethodName) ({ cls := "TrapDesk", name := "nothingUnless", desc := "(I)I" } : Jvm.MethodName)) ∈ gtb := List.mem_filter.mpr ⟨List.mem_of_getElem? (i := 2) (by decide +kernel), rfl⟩
set_option maxRecDepth 20000 in
theorem q_433 : (Jvm.Cond.code ({ cls := "TrapDesk", name := "hypervisorFence", desc := "()I" } : Jvm.MethodName) prog_1_method_23_code (1 : Nat) (Option.some Jvm.ClassFile.FieldType.int)) ∈ gtb := List.mem_filter.mpr ⟨List.mem_of_getElem? (i := 433) (rfl), rfl⟩
theorem q_430 : (Jvm.Cond.methodLink "TrapDesk" (145 : Nat) ({ cls := "TrapDesk", name := "hypervisorFence", desc := "()I" } : Jvm.MethodName)) ∈ gtb := List.mem_filter.mpr ⟨List.mem_of_getElem? (i := 430) (by decide +kernel), rfl⟩
theorem q_432 : (Jvm.Cond.instanceMethod ({ cls := "TrapDesk", name := "hypervisorFence", desc := "()I" } : Jvm.MethodName)) ∈ gtb := List.mem_filter.mpr ⟨List.mem_of_getElem? (i := 432) (by decide +kernel), rfl⟩
theorem q_5 : (Jvm.Cond.selects "TrapDesk" ({ cls := "TrapDesk", name := "hypervisorFence", desc := "()I" } : Jvm.MethodName) ({ cls := "TrapDesk", name := "hypervisorFence", desc := "()I" } : Jvm.MethodName)) ∈ gtb := List.mem_filter.mpr ⟨List.mem_of_getElem? (i := 5) (by decide +kernel), rfl⟩
theorem q_197 : (Jvm.Cond.fieldLink "TrapDesk" (161 : Nat) "TrapDesk$Registers" "x17" "I") ∈ gtb := List.mem_filter.mpr ⟨List.mem_of_getElem? (i := 197) (by decide +kernel), rfl⟩
theorem q_193 : (Jvm.Cond.fieldLink "TrapDesk" (164 : Nat) "TrapDesk$Registers" "x10" "I") ∈ gtb := List.mem_filter.mpr ⟨List.mem_of_getElem? (i := 193) (by decide +kernel), rfl⟩
theorem q_195 : (Jvm.Cond.fieldLink "TrapDesk" (167 : Nat) "TrapDesk$Registers" "x11" "I") ∈ gtb := List.mem_filter.mpr ⟨List.mem_of_getElem? (i := 195) (by decide +kernel), rfl⟩
theorem q_457 : (Jvm.Cond.constantLong "TrapDesk$Outside" (43 : Nat) (4294967295 : Int64)) ∈ gtb := List.mem_filter.mpr ⟨List.mem_of_getElem? (i := 457) (by decide +kernel), rfl⟩
set_option maxRecDepth 20000 in
theorem q_456 : (Jvm.Cond.code ({ cls := "TrapDesk$Outside", name := "setAlarm", desc := "(II)V" } : Jvm.MethodName) prog_6_method_5_code (3 : Nat) (Option.none : Option Jvm.ClassFile.FieldType)) ∈ gtb := List.mem_filter.mpr ⟨List.mem_of_getElem? (i := 456) (rfl), rfl⟩
theorem q_453 : (Jvm.Cond.methodLink "TrapDesk$Outside" (35 : Nat) ({ cls := "TrapDesk$Outside", name := "setAlarm", desc := "(II)V" } : Jvm.MethodName)) ∈ gtb := List.mem_filter.mpr ⟨List.mem_of_getElem? (i := 453) (by decide +kernel), rfl⟩
theorem q_454 : (Jvm.Cond.instanceMethod ({ cls := "TrapDesk$Outside", name := "setAlarm", desc := "(II)V" } : Jvm.MethodName)) ∈ gtb := List.mem_filter.mpr ⟨List.mem_of_getElem? (i := 454) (by decide +kernel), rfl⟩
theorem q_455 : (Jvm.Cond.selects "TrapDesk$Outside" ({ cls := "TrapDesk$Outside", name := "setAlarm", desc := "(II)V" } : Jvm.MethodName) ({ cls := "TrapDesk$Outside", name := "setAlarm", desc := "(II)V" } : Jvm.MethodName)) ∈ gtb := List.mem_filter.mpr ⟨List.mem_of_getElem? (i := 455) (by decide +kernel), rfl⟩
theorem q_70 : (Jvm.Cond.fieldLink "TrapDesk$Outside" (11 : Nat) "TrapDesk$Outside" "bytes" "[B") ∈ gtb := List.mem_filter.mpr ⟨List.mem_of_getElem? (i := 70) (by decide +kernel), rfl⟩
set_option maxRecDepth 20000 in
theorem q_461 : (Jvm.Cond.code ({ cls := "TrapDesk$Outside", name := "print", desc := "(I)V" } : Jvm.MethodName) prog_6_method_6_code (2 : Nat) (Option.none : Option Jvm.ClassFile.FieldType)) ∈ gtb := List.mem_filter.mpr ⟨List.mem_of_getElem? (i := 461) (rfl), rfl⟩
theorem q_458 : (Jvm.Cond.methodLink "TrapDesk$Outside" (39 : Nat) ({ cls := "TrapDesk$Outside", name := "print", desc := "(I)V" } : Jvm.MethodName)) ∈ gtb := List.mem_filter.mpr ⟨List.mem_of_getElem? (i := 458) (by decide +kernel), rfl⟩
theorem q_459 : (Jvm.Cond.instanceMethod ({ cls := "TrapDesk$Outside", name := "print", desc := "(I)V" } : Jvm.MethodName)) ∈ gtb := List.mem_filter.mpr ⟨List.mem_of_getElem? (i := 459) (by decide +kernel), rfl⟩
theorem q_460 : (Jvm.Cond.selects "TrapDesk$Outside" ({ cls := "TrapDesk$Outside", name := "print", desc := "(I)V" } : Jvm.MethodName) ({ cls := "TrapDesk$Outside", name := "print", desc := "(I)V" } : Jvm.MethodName)) ∈ gtb := List.mem_filter.mpr ⟨List.mem_of_getElem? (i := 460) (by decide +kernel), rfl⟩
set_option maxRecDepth 20000 in
theorem q_452 : (Jvm.Cond.code ({ cls := "TrapDesk$Outside", name := "serve", desc := "(III)I" } : Jvm.MethodName) prog_6_method_4_code (4 : Nat) (Option.some Jvm.ClassFile.FieldType.int)) ∈ gtb := List.mem_filter.mpr ⟨List.mem_of_getElem? (i := 452) (rfl), rfl⟩
theorem q_449 : (Jvm.Cond.methodLink "TrapDesk" (170 : Nat) ({ cls := "TrapDesk$Outside", name := "serve", desc := "(III)I" } : Jvm.MethodName)) ∈ gtb := List.mem_filter.mpr ⟨List.mem_of_getElem? (i := 449) (by decide +kernel), rfl⟩
theorem q_450 : (Jvm.Cond.instanceMethod ({ cls := "TrapDesk$Outside", name := "serve", desc := "(III)I" } : Jvm.MethodName)) ∈ gtb := List.mem_filter.mpr ⟨List.mem_of_getElem? (i := 450) (by decide +kernel), rfl⟩
theorem q_451 : (Jvm.Cond.selects "TrapDesk$Outside" ({ cls := "TrapDesk$Outside", name := "serve", desc := "(III)I" } : Jvm.MethodName) ({ cls := "TrapDesk$Outside", name := "serve", desc := "(III)I" } : Jvm.MethodName)) ∈ gtb := List.mem_filter.mpr ⟨List.mem_of_getElem? (i := 451) (by decide +kernel), rfl⟩
set_option maxRecDepth 20000 in
theorem q_448 : (Jvm.Cond.code ({ cls := "TrapDesk", name := "environmentCall", desc := "()I" } : Jvm.MethodName) prog_1_method_19_code (2 : Nat) (Option.some Jvm.ClassFile.FieldType.int)) ∈ gtb := List.mem_filter.mpr ⟨List.mem_of_getElem? (i := 448) (rfl), rfl⟩
theorem q_445 : (Jvm.Cond.methodLink "TrapDesk" (154 : Nat) ({ cls := "TrapDesk", name := "environmentCall", desc := "()I" } : Jvm.MethodName)) ∈ gtb := List.mem_filter.mpr ⟨List.mem_of_getElem? (i := 445) (by decide +kernel), rfl⟩
theorem q_447 : (Jvm.Cond.instanceMethod ({ cls := "TrapDesk", name := "environmentCall", desc := "()I" } : Jvm.MethodName)) ∈ gtb := List.mem_filter.mpr ⟨List.mem_of_getElem? (i := 447) (by decide +kernel), rfl⟩
theorem q_8 : (Jvm.Cond.selects "TrapDesk" ({ cls := "TrapDesk", name := "environmentCall", desc := "()I" } : Jvm.MethodName) ({ cls := "TrapDesk", name := "environmentCall", desc := "()I" } : Jvm.MethodName)) ∈ gtb := List.mem_filter.mpr ⟨List.mem_of_getElem? (i := 8) (by decide +kernel), rfl⟩
theorem q_466 : (Jvm.Cond.constant "TrapDesk" (177 : Nat) (4194304 : Int32)) ∈ gtb := List.mem_filter.mpr ⟨List.mem_of_getElem? (i := 466) (by decide +kernel), rfl⟩
theorem q_166 : (Jvm.Cond.fieldLink "TrapDesk" (194 : Nat) "TrapDesk$Controls" "host" "LTrapDesk$Bank;") ∈ gtb := List.mem_filter.mpr ⟨List.mem_of_getElem? (i := 166) (by decide +kernel), rfl⟩
theorem q_107 : (Jvm.Cond.fieldLink "TrapDesk" (185 : Nat) "TrapDesk$Bank" "epc" "I") ∈ gtb := List.mem_filter.mpr ⟨List.mem_of_getElem? (i := 107) (by decide +kernel), rfl⟩
set_option maxRecDepth 20000 in
theorem q_470 : (Jvm.Cond.code ({ cls := "TrapDesk$Bank", name := "leave", desc := "()Z" } : Jvm.MethodName) prog_2_method_8_code (3 : Nat) (Option.some Jvm.ClassFile.FieldType.boolean)) ∈ gtb := List.mem_filter.mpr ⟨List.mem_of_getElem? (i := 470) (rfl), rfl⟩
theorem q_467 : (Jvm.Cond.methodLink "TrapDesk" (190 : Nat) ({ cls := "TrapDesk$Bank", name := "leave", desc := "()Z" } : Jvm.MethodName)) ∈ gtb := List.mem_filter.mpr ⟨List.mem_of_getElem? (i := 467) (by decide +kernel), rfl⟩
theorem q_468 : (Jvm.Cond.instanceMethod ({ cls := "TrapDesk$Bank", name := "leave", desc := "()Z" } : Jvm.MethodName)) ∈ gtb := List.mem_filter.mpr ⟨List.mem_of_getElem? (i := 468) (by decide +kernel), rfl⟩
theorem q_469 : (Jvm.Cond.selects "TrapDesk$Bank" ({ cls := "TrapDesk$Bank", name := "leave", desc := "()Z" } : Jvm.MethodName) ({ cls := "TrapDesk$Bank", name := "leave", desc := "()Z" } : Jvm.MethodName)) ∈ gtb := List.mem_filter.mpr ⟨List.mem_of_getElem? (i := 469) (by decide +kernel), rfl⟩
theorem q_475 : (Jvm.Cond.methodLink "TrapDesk$Hyper" (41 : Nat) ({ cls := "TrapDesk$Hyper", name := "hasStatus", desc := "(I)Z" } : Jvm.MethodName)) ∈ gtb := List.mem_filter.mpr ⟨List.mem_of_getElem? (i := 475) (by decide +kernel), rfl⟩
set_option maxRecDepth 20000 in
theorem q_474 : (Jvm.Cond.code ({ cls := "TrapDesk$Hyper", name := "leave", desc := "()Z" } : Jvm.MethodName) prog_4_method_12_code (2 : Nat) (Option.some Jvm.ClassFile.FieldType.boolean)) ∈ gtb := List.mem_filter.mpr ⟨List.mem_of_getElem? (i := 474) (rfl), rfl⟩
theorem q_471 : (Jvm.Cond.methodLink "TrapDesk" (201 : Nat) ({ cls := "TrapDesk$Hyper", name := "leave", desc := "()Z" } : Jvm.MethodName)) ∈ gtb := List.mem_filter.mpr ⟨List.mem_of_getElem? (i := 471) (by decide +kernel), rfl⟩
theorem q_472 : (Jvm.Cond.instanceMethod ({ cls := "TrapDesk$Hyper", name := "leave", desc := "()Z" } : Jvm.MethodName)) ∈ gtb := List.mem_filter.mpr ⟨List.mem_of_getElem? (i := 472) (by decide +kernel), rfl⟩
theorem q_473 : (Jvm.Cond.selects "TrapDesk$Hyper" ({ cls := "TrapDesk$Hyper", name := "leave", desc := "()Z" } : Jvm.MethodName) ({ cls := "TrapDesk$Hyper", name := "leave", desc := "()Z" } : Jvm.MethodName)) ∈ gtb := List.mem_filter.mpr ⟨List.mem_of_getElem? (i := 473) (by decide +kernel), rfl⟩
theorem q_168 : (Jvm.Cond.fieldLink "TrapDesk" (181 : Nat) "TrapDesk$Controls" "guest" "LTrapDesk$Bank;") ∈ gtb := List.mem_filter.mpr ⟨List.mem_of_getElem? (i := 168) (by decide +kernel), rfl⟩
set_option maxRecDepth 20000 in
theorem q_465 : (Jvm.Cond.code ({ cls := "TrapDesk", name := "supervisorReturn", desc := "()I" } : Jvm.MethodName) prog_1_method_20_code (4 : Nat) (Option.some Jvm.ClassFile.FieldType.int)) ∈ gtb := List.mem_filter.mpr ⟨List.mem_of_getElem? (i := 465) (rfl), rfl⟩
theorem q_462 : (Jvm.Cond.methodLink "TrapDesk" (157 : Nat) ({ cls := "TrapDesk", name := "supervisorReturn", desc := "()I" } : Jvm.MethodName)) ∈ gtb := List.mem_filter.mpr ⟨List.mem_of_getElem? (i := 462) (by decide +kernel), rfl⟩
theorem q_464 : (Jvm.Cond.instanceMethod ({ cls := "TrapDesk", name := "supervisorReturn", desc := "()I" } : Jvm.MethodName)) ∈ gtb := List.mem_filter.mpr ⟨List.mem_of_getElem? (i := 464) (by decide +kernel), rfl⟩
theorem q_9 : (Jvm.Cond.selects "TrapDesk" ({ cls := "TrapDesk", name := "supervisorReturn", desc := "()I" } : Jvm.MethodName) ({ cls := "TrapDesk", name := "supervisorReturn", desc := "()I" } : Jvm.MethodName)) ∈ gtb := List.mem_filter.mpr ⟨List.mem_of_getElem? (i := 9) (by decide +kernel), rfl⟩
theorem q_476 : (Jvm.Cond.constant "TrapDesk" (160 : Nat) (2097152 : Int32)) ∈ gtb := List.mem_filter.mpr ⟨List.mem_of_getElem? (i := 476) (by decide +kernel), rfl⟩
set_option maxRecDepth 20000 in
theorem q_441 : (Jvm.Cond.code ({ cls := "TrapDesk", name := "wordWithoutA", desc := "(I)I" } : Jvm.MethodName) prog_1_method_18_code (2 : Nat) (Option.some Jvm.ClassFile.FieldType.int)) ∈ gtb := List.mem_filter.mpr ⟨List.mem_of_getElem? (i := 441) (rfl), rfl⟩
theorem q_438 : (Jvm.Cond.methodLink "TrapDesk" (148 : Nat) ({ cls := "TrapDesk", name := "wordWithoutA", desc := "(I)I" } : Jvm.MethodName)) ∈ gtb := List.mem_filter.mpr ⟨List.mem_of_getElem? (i := 438) (by decide +kernel), rfl⟩
theorem q_440 : (Jvm.Cond.instanceMethod ({ cls := "TrapDesk", name := "wordWithoutA", desc := "(I)I" } : Jvm.MethodName)) ∈ gtb := List.mem_filter.mpr ⟨List.mem_of_getElem? (i := 440) (by decide +kernel), rfl⟩
theorem q_7 : (Jvm.Cond.selects "TrapDesk" ({ cls := "TrapDesk", name := "wordWithoutA", desc := "(I)I" } : Jvm.MethodName) ({ cls := "TrapDesk", name := "wordWithoutA", desc := "(I)I" } : Jvm.MethodName)) ∈ gtb := List.mem_filter.mpr ⟨List.mem_of_getElem? (i := 7) (by decide +kernel), rfl⟩
set_option maxRecDepth 20000 in
theorem q_406 : (Jvm.Cond.code ({ cls := "TrapDesk", name := "systemWord", desc := "(I)I" } : Jvm.MethodName) prog_1_method_17_code (2 : Nat) (Option.some Jvm.ClassFile.FieldType.int)) ∈ gtb := List.mem_filter.mpr ⟨List.mem_of_getElem? (i := 406) (rfl), rfl⟩
theorem q_403 : (Jvm.Cond.methodLink "TrapDesk" (124 : Nat) ({ cls := "TrapDesk", name := "systemWord", desc := "(I)I" } : Jvm.MethodName)) ∈ gtb := List.mem_filter.mpr ⟨List.mem_of_getElem? (i := 403) (by decide +kernel), rfl⟩
theorem q_405 : (Jvm.Cond.instanceMethod ({ cls := "TrapDesk", name := "systemWord", desc := "(I)I" } : Jvm.MethodName)) ∈ gtb := List.mem_filter.mpr ⟨List.mem_of_getElem? (i := 405) (by decide +kernel), rfl⟩
theorem q_1 : (Jvm.Cond.selects "TrapDesk" ({ cls := "TrapDesk", name := "systemWord", desc := "(I)I" } : Jvm.MethodName) ({ cls := "TrapDesk", name := "systemWord", desc := "(I)I" } : Jvm.MethodName)) ∈ gtb := List.mem_filter.mpr ⟨List.mem_of_getElem? (i := 1) (by decide +kernel), rfl⟩
set_option maxRecDepth 20000 in
theorem q_402 : (Jvm.Cond.code ({ cls := "TrapDesk", name := "perform", desc := "(I)I" } : Jvm.MethodName) prog_1_method_16_code (3 : Nat) (Option.some Jvm.ClassFile.FieldType.int)) ∈ gtb := List.mem_filter.mpr ⟨List.mem_of_getElem? (i := 402) (rfl), rfl⟩
theorem q_399 : (Jvm.Cond.methodLink "TrapDesk" (82 : Nat) ({ cls := "TrapDesk", name := "perform", desc := "(I)I" } : Jvm.MethodName)) ∈ gtb := List.mem_filter.mpr ⟨List.mem_of_getElem? (i := 399) (by decide +kernel), rfl⟩
theorem q_401 : (Jvm.Cond.instanceMethod ({ cls := "TrapDesk", name := "perform", desc := "(I)I" } : Jvm.MethodName)) ∈ gtb := List.mem_filter.mpr ⟨List.mem_of_getElem? (i := 401) (by decide +kernel), rfl⟩
theorem q_0 : (Jvm.Cond.selects "TrapDesk" ({ cls := "TrapDesk", name := "perform", desc := "(I)I" } : Jvm.MethodName) ({ cls := "TrapDesk", name := "perform", desc := "(I)I" } : Jvm.MethodName)) ∈ gtb := List.mem_filter.mpr ⟨List.mem_of_getElem? (i := 0) (by decide +kernel), rfl⟩
set_option maxRecDepth 20000 in
theorem q_509 : (Jvm.Cond.code ({ cls := "TrapDesk", name := "trapValue", desc := "(II)I" } : Jvm.MethodName) prog_1_method_35_code (3 : Nat) (Option.some Jvm.ClassFile.FieldType.int)) ∈ gtb := List.mem_filter.mpr ⟨List.mem_of_getElem? (i := 509) (rfl), rfl⟩
theorem q_506 : (Jvm.Cond.methodLink "TrapDesk" (85 : Nat) ({ cls := "TrapDesk", name := "trapValue", desc := "(II)I" } : Jvm.MethodName)) ∈ gtb := List.mem_filter.mpr ⟨List.mem_of_getElem? (i := 506) (by decide +kernel), rfl⟩
theorem q_508 : (Jvm.Cond.instanceMethod ({ cls := "TrapDesk", name := "trapValue", desc := "(II)I" } : Jvm.MethodName)) ∈ gtb := List.mem_filter.mpr ⟨List.mem_of_getElem? (i := 508) (by decide +kernel), rfl⟩
theorem q_14 : (Jvm.Cond.selects "TrapDesk" ({ cls := "TrapDesk", name := "trapValue", desc := "(II)I" } : Jvm.MethodName) ({ cls := "TrapDesk", name := "trapValue", desc := "(II)I" } : Jvm.MethodName)) ∈ gtb := List.mem_filter.mpr ⟨List.mem_of_getElem? (i := 14) (by decide +kernel), rfl⟩
theorem q_134 : (Jvm.Cond.fieldLink "TrapDesk" (231 : Nat) "TrapDesk$Hyper" "edeleg" "I") ∈ gtb := List.mem_filter.mpr ⟨List.mem_of_getElem? (i := 134) (by decide +kernel), rfl⟩
set_option maxRecDepth 20000 in
theorem q_516 : (Jvm.Cond.code ({ cls := "TrapDesk", name := "isIn", desc := "(II)Z" } : Jvm.MethodName) prog_1_method_44_code (2 : Nat) (Option.some Jvm.ClassFile.FieldType.boolean)) ∈ gtb := List.mem_filter.mpr ⟨List.mem_of_getElem? (i := 516) (rfl), rfl⟩
theorem q_514 : (Jvm.Cond.methodLink "TrapDesk" (94 : Nat) ({ cls := "TrapDesk", name := "isIn", desc := "(II)Z" } : Jvm.MethodName)) ∈ gtb := List.mem_filter.mpr ⟨List.mem_of_getElem? (i := 514) (by decide +kernel), rfl⟩
theorem q_515 : (Jvm.Cond.static ({ cls := "TrapDesk", name := "isIn", desc := "(II)Z" } : Jvm.MethodName)) ∈ gtb := List.mem_filter.mpr ⟨List.mem_of_getElem? (i := 515) (by decide +kernel), rfl⟩
set_option maxRecDepth 20000 in
theorem q_524 : (Jvm.Cond.code ({ cls := "TrapDesk", name := "isSupervisor", desc := "()Z" } : Jvm.MethodName) prog_1_method_43_code (1 : Nat) (Option.some Jvm.ClassFile.FieldType.boolean)) ∈ gtb := List.mem_filter.mpr ⟨List.mem_of_getElem? (i := 524) (rfl), rfl⟩
theorem q_521 : (Jvm.Cond.methodLink "TrapDesk" (235 : Nat) ({ cls := "TrapDesk", name := "isSupervisor", desc := "()Z" } : Jvm.MethodName)) ∈ gtb := List.mem_filter.mpr ⟨List.mem_of_getElem? (i := 521) (by decide +kernel), rfl⟩
theorem q_523 : (Jvm.Cond.instanceMethod ({ cls := "TrapDesk", name := "isSupervisor", desc := "()Z" } : Jvm.MethodName)) ∈ gtb := List.mem_filter.mpr ⟨List.mem_of_getElem? (i := 523) (by decide +kernel), rfl⟩
theorem q_17 : (Jvm.Cond.selects "TrapDesk" ({ cls := "TrapDesk", name := "isSupervisor", desc := "()Z" } : Jvm.MethodName) ({ cls := "TrapDesk", name := "isSupervisor", desc := "()Z" } : Jvm.MethodName)) ∈ gtb := List.mem_filter.mpr ⟨List.mem_of_getElem? (i := 17) (by decide +kernel), rfl⟩
set_option maxRecDepth 20000 in
theorem q_532 : (Jvm.Cond.code ({ cls := "TrapDesk$Bank", name := "hasInterruptsOn", desc := "()Z" } : Jvm.MethodName) prog_2_method_5_code (1 : Nat) (Option.some Jvm.ClassFile.FieldType.boolean)) ∈ gtb := List.mem_filter.mpr ⟨List.mem_of_getElem? (i := 532) (rfl), rfl⟩
theorem q_529 : (Jvm.Cond.methodLink "TrapDesk$Bank" (35 : Nat) ({ cls := "TrapDesk$Bank", name := "hasInterruptsOn", desc := "()Z" } : Jvm.MethodName)) ∈ gtb := List.mem_filter.mpr ⟨List.mem_of_getElem? (i := 529) (by decide +kernel), rfl⟩
theorem q_530 : (Jvm.Cond.instanceMethod ({ cls := "TrapDesk$Bank", name := "hasInterruptsOn", desc := "()Z" } : Jvm.MethodName)) ∈ gtb := List.mem_filter.mpr ⟨List.mem_of_getElem? (i := 530) (by decide +kernel), rfl⟩
theorem q_531 : (Jvm.Cond.selects "TrapDesk$Bank" ({ cls := "TrapDesk$Bank", name := "hasInterruptsOn", desc := "()Z" } : Jvm.MethodName) ({ cls := "TrapDesk$Bank", name := "hasInterruptsOn", desc := "()Z" } : Jvm.MethodName)) ∈ gtb := List.mem_filter.mpr ⟨List.mem_of_getElem? (i := 531) (by decide +kernel), rfl⟩
theorem q_537 : (Jvm.Cond.constant "TrapDesk$Bank" (43 : Nat) (-2147483648 : Int32)) ∈ gtb := List.mem_filter.mpr ⟨List.mem_of_getElem? (i := 537) (by decide +kernel), rfl⟩
theorem q_538 : (Jvm.Cond.constant "TrapDesk$Bank" (44 : Nat) (2147483647 : Int32)) ∈ gtb := List.mem_filter.mpr ⟨List.mem_of_getElem? (i := 538) (by decide +kernel), rfl⟩
set_option maxRecDepth 20000 in
theorem q_536 : (Jvm.Cond.code ({ cls := "TrapDesk$Bank", name := "handlerOf", desc := "(I)I" } : Jvm.MethodName) prog_2_method_7_code (4 : Nat) (Option.some Jvm.ClassFile.FieldType.int)) ∈ gtb := List.mem_filter.mpr ⟨List.mem_of_getElem? (i := 536) (rfl), rfl⟩
theorem q_533 : (Jvm.Cond.methodLink "TrapDesk$Bank" (39 : Nat) ({ cls := "TrapDesk$Bank", name := "handlerOf", desc := "(I)I" } : Jvm.MethodName)) ∈ gtb := List.mem_filter.mpr ⟨List.mem_of_getElem? (i := 533) (by decide +kernel), rfl⟩
theorem q_534 : (Jvm.Cond.instanceMethod ({ cls := "TrapDesk$Bank", name := "handlerOf", desc := "(I)I" } : Jvm.MethodName)) ∈ gtb := List.mem_filter.mpr ⟨List.mem_of_getElem? (i := 534) (by decide +kernel), rfl⟩
theorem q_535 : (Jvm.Cond.selects "TrapDesk$Bank" ({ cls := "TrapDesk$Bank", name := "handlerOf", desc := "(I)I" } : Jvm.MethodName) ({ cls := "TrapDesk$Bank", name := "handlerOf", desc := "(I)I" } : Jvm.MethodName)) ∈ gtb := List.mem_filter.mpr ⟨List.mem_of_getElem? (i := 535) (by decide +kernel), rfl⟩
set_option maxRecDepth 20000 in
theorem q_528 : (Jvm.Cond.code ({ cls := "TrapDesk$Bank", name := "enter", desc := "(IIIZ)I" } : Jvm.MethodName) prog_2_method_6_code (7 : Nat) (Option.some Jvm.ClassFile.FieldType.int)) ∈ gtb := List.mem_filter.mpr ⟨List.mem_of_getElem? (i := 528) (rfl), rfl⟩
theorem q_525 : (Jvm.Cond.methodLink "TrapDesk" (248 : Nat) ({ cls := "TrapDesk$Bank", name := "enter", desc := "(IIIZ)I" } : Jvm.MethodName)) ∈ gtb := List.mem_filter.mpr ⟨List.mem_of_getElem? (i := 525) (by decide +kernel), rfl⟩
theorem q_526 : (Jvm.Cond.instanceMethod ({ cls := "TrapDesk$Bank", name := "enter", desc := "(IIIZ)I" } : Jvm.MethodName)) ∈ gtb := List.mem_filter.mpr ⟨List.mem_of_getElem? (i := 526) (by decide +kernel), rfl⟩
theorem q_527 : (Jvm.Cond.selects "TrapDesk$Bank" ({ cls := "TrapDesk$Bank", name := "enter", desc := "(IIIZ)I" } : Jvm.MethodName) ({ cls := "TrapDesk$Bank", name := "enter", desc := "(IIIZ)I" } : Jvm.MethodName)) ∈ gtb := List.mem_filter.mpr ⟨List.mem_of_getElem? (i := 527) (by decide +kernel), rfl⟩
set_option maxRecDepth 20000 in
theorem q_520 : (Jvm.Cond.code ({ cls := "TrapDesk", name := "enterVs", desc := "(II)V" } : Jvm.MethodName) prog_1_method_38_code (3 : Nat) (Option.none : Option Jvm.ClassFile.FieldType)) ∈ gtb := List.mem_filter.mpr ⟨List.mem_of_getElem? (i := 520) (rfl), rfl⟩
theorem q_517 : (Jvm.Cond.methodLink "TrapDesk" (112 : Nat) ({ cls := "TrapDesk", name := "enterVs", desc := "(II)V" } : Jvm.MethodName)) ∈ gtb := List.mem_filter.mpr ⟨List.mem_of_getElem? (i := 517) (by decide +kernel), rfl⟩
theorem q_519 : (Jvm.Cond.instanceMethod ({ cls := "TrapDesk", name := "enterVs", desc := "(II)V" } : Jvm.MethodName)) ∈ gtb := List.mem_filter.mpr ⟨List.mem_of_getElem? (i := 519) (by decide +kernel), rfl⟩
theorem q_16 : (Jvm.Cond.selects "TrapDesk" ({ cls := "TrapDesk", name := "enterVs", desc := "(II)V" } : Jvm.MethodName) ({ cls := "TrapDesk", name := "enterVs", desc := "(II)V" } : Jvm.MethodName)) ∈ gtb := List.mem_filter.mpr ⟨List.mem_of_getElem? (i := 16) (by decide +kernel), rfl⟩
theorem q_539 : (Jvm.Cond.constant "TrapDesk" (234 : Nat) (11579643 : Int32)) ∈ gtb := List.mem_filter.mpr ⟨List.mem_of_getElem? (i := 539) (by decide +kernel), rfl⟩
set_option maxRecDepth 20000 in
theorem q_547 : (Jvm.Cond.code ({ cls := "TrapDesk$Hyper", name := "enter", desc := "(ZZZ)V" } : Jvm.MethodName) prog_4_method_11_code (4 : Nat) (Option.none : Option Jvm.ClassFile.FieldType)) ∈ gtb := List.mem_filter.mpr ⟨List.mem_of_getElem? (i := 547) (rfl), rfl⟩
theorem q_544 : (Jvm.Cond.methodLink "TrapDesk" (238 : Nat) ({ cls := "TrapDesk$Hyper", name := "enter", desc := "(ZZZ)V" } : Jvm.MethodName)) ∈ gtb := List.mem_filter.mpr ⟨List.mem_of_getElem? (i := 544) (by decide +kernel), rfl⟩
theorem q_545 : (Jvm.Cond.instanceMethod ({ cls := "TrapDesk$Hyper", name := "enter", desc := "(ZZZ)V" } : Jvm.MethodName)) ∈ gtb := List.mem_filter.mpr ⟨List.mem_of_getElem? (i := 545) (by decide +kernel), rfl⟩
theorem q_546 : (Jvm.Cond.selects "TrapDesk$Hyper" ({ cls := "TrapDesk$Hyper", name := "enter", desc := "(ZZZ)V" } : Jvm.MethodName) ({ cls := "TrapDesk$Hyper", name := "enter", desc := "(ZZZ)V" } : Jvm.MethodName)) ∈ gtb := List.mem_filter.mpr ⟨List.mem_of_getElem? (i := 546) (by decide +kernel), rfl⟩
theorem q_140 : (Jvm.Cond.fieldLink "TrapDesk" (242 : Nat) "TrapDesk$Hyper" "tval" "I") ∈ gtb := List.mem_filter.mpr ⟨List.mem_of_getElem? (i := 140) (by decide +kernel), rfl⟩
theorem q_144 : (Jvm.Cond.fieldLink "TrapDesk" (245 : Nat) "TrapDesk$Hyper" "tinst" "I") ∈ gtb := List.mem_filter.mpr ⟨List.mem_of_getElem? (i := 144) (by decide +kernel), rfl⟩
set_option maxRecDepth 20000 in
theorem q_543 : (Jvm.Cond.code ({ cls := "TrapDesk", name := "enterS", desc := "(IIZII)V" } : Jvm.MethodName) prog_1_method_37_code (6 : Nat) (Option.none : Option Jvm.ClassFile.FieldType)) ∈ gtb := List.mem_filter.mpr ⟨List.mem_of_getElem? (i := 543) (rfl), rfl⟩
theorem q_540 : (Jvm.Cond.methodLink "TrapDesk" (106 : Nat) ({ cls := "TrapDesk", name := "enterS", desc := "(IIZII)V" } : Jvm.MethodName)) ∈ gtb := List.mem_filter.mpr ⟨List.mem_of_getElem? (i := 540) (by decide +kernel), rfl⟩
theorem q_542 : (Jvm.Cond.instanceMethod ({ cls := "TrapDesk", name := "enterS", desc := "(IIZII)V" } : Jvm.MethodName)) ∈ gtb := List.mem_filter.mpr ⟨List.mem_of_getElem? (i := 542) (by decide +kernel), rfl⟩
theorem q_18 : (Jvm.Cond.selects "TrapDesk" ({ cls := "TrapDesk", name := "enterS", desc := "(IIZII)V" } : Jvm.MethodName) ({ cls := "TrapDesk", name := "enterS", desc := "(IIZII)V" } : Jvm.MethodName)) ∈ gtb := List.mem_filter.mpr ⟨List.mem_of_getElem? (i := 18) (by decide +kernel), rfl⟩
set_option maxRecDepth 20000 in
theorem q_513 : (Jvm.Cond.code ({ cls := "TrapDesk", name := "raise", desc := "(IIZII)V" } : Jvm.MethodName) prog_1_method_36_code (7 : Nat) (Option.none : Option Jvm.ClassFile.FieldType)) ∈ gtb := List.mem_filter.mpr ⟨List.mem_of_getElem? (i := 513) (rfl), rfl⟩
theorem q_510 : (Jvm.Cond.methodLink "TrapDesk" (89 : Nat) ({ cls := "TrapDesk", name := "raise", desc := "(IIZII)V" } : Jvm.MethodName)) ∈ gtb := List.mem_filter.mpr ⟨List.mem_of_getElem? (i := 510) (by decide +kernel), rfl⟩
theorem q_512 : (Jvm.Cond.instanceMethod ({ cls := "TrapDesk", name := "raise", desc := "(IIZII)V" } : Jvm.MethodName)) ∈ gtb := List.mem_filter.mpr ⟨List.mem_of_getElem? (i := 512) (by decide +kernel), rfl⟩
theorem q_15 : (Jvm.Cond.selects "TrapDesk" ({ cls := "TrapDesk", name := "raise", desc := "(IIZII)V" } : Jvm.MethodName) ({ cls := "TrapDesk", name := "raise", desc := "(IIZII)V" } : Jvm.MethodName)) ∈ gtb := List.mem_filter.mpr ⟨List.mem_of_getElem? (i := 15) (by decide +kernel), rfl⟩
theorem q_552 : (Jvm.Cond.constant "TrapDesk" (93 : Nat) (11579635 : Int32)) ∈ gtb := List.mem_filter.mpr ⟨List.mem_of_getElem? (i := 552) (by decide +kernel), rfl⟩
theorem q_553 : (Jvm.Cond.constantLong "TrapDesk" (98 : Nat) (17179869184 : Int64)) ∈ gtb := List.mem_filter.mpr ⟨List.mem_of_getElem? (i := 553) (by decide +kernel), rfl⟩
theorem q_554 : (Jvm.Cond.constant "TrapDesk" (100 : Nat) (11534336 : Int32)) ∈ gtb := List.mem_filter.mpr ⟨List.mem_of_getElem? (i := 554) (by decide +kernel), rfl⟩
theorem q_563 : (Jvm.Cond.methodLink "TrapDesk" (251 : Nat) ({ cls := "TrapDesk$Bank", name := "hasInterruptsOn", desc := "()Z" } : Jvm.MethodName)) ∈ gtb := List.mem_filter.mpr ⟨List.mem_of_getElem? (i := 563) (by decide +kernel), rfl⟩
theorem q_564 : (Jvm.Cond.fieldLink "TrapDesk" (254 : Nat) "TrapDesk" "ORDER_FOR_S" "[I") ∈ gtb := List.mem_filter.mpr ⟨List.mem_of_getElem? (i := 564) (by decide +kernel), rfl⟩
theorem q_142 : (Jvm.Cond.fieldLink "TrapDesk$Controls" (108 : Nat) "TrapDesk$Hyper" "vip" "I") ∈ gtb := List.mem_filter.mpr ⟨List.mem_of_getElem? (i := 142) (by decide +kernel), rfl⟩
theorem q_138 : (Jvm.Cond.fieldLink "TrapDesk$Controls" (111 : Nat) "TrapDesk$Hyper" "ie" "I") ∈ gtb := List.mem_filter.mpr ⟨List.mem_of_getElem? (i := 138) (by decide +kernel), rfl⟩
theorem q_136 : (Jvm.Cond.fieldLink "TrapDesk$Controls" (114 : Nat) "TrapDesk$Hyper" "ideleg" "I") ∈ gtb := List.mem_filter.mpr ⟨List.mem_of_getElem? (i := 136) (by decide +kernel), rfl⟩
set_option maxRecDepth 20000 in
theorem q_569 : (Jvm.Cond.code ({ cls := "TrapDesk$Controls", name := "waitingForS", desc := "()I" } : Jvm.MethodName) prog_3_method_10_code (1 : Nat) (Option.some Jvm.ClassFile.FieldType.int)) ∈ gtb := List.mem_filter.mpr ⟨List.mem_of_getElem? (i := 569) (rfl), rfl⟩
theorem q_566 : (Jvm.Cond.methodLink "TrapDesk" (258 : Nat) ({ cls := "TrapDesk$Controls", name := "waitingForS", desc := "()I" } : Jvm.MethodName)) ∈ gtb := List.mem_filter.mpr ⟨List.mem_of_getElem? (i := 566) (by decide +kernel), rfl⟩
theorem q_567 : (Jvm.Cond.instanceMethod ({ cls := "TrapDesk$Controls", name := "waitingForS", desc := "()I" } : Jvm.MethodName)) ∈ gtb := List.mem_filter.mpr ⟨List.mem_of_getElem? (i := 567) (by decide +kernel), rfl⟩
theorem q_568 : (Jvm.Cond.selects "TrapDesk$Controls" ({ cls := "TrapDesk$Controls", name := "waitingForS", desc := "()I" } : Jvm.MethodName) ({ cls := "TrapDesk$Controls", name := "waitingForS", desc := "()I" } : Jvm.MethodName)) ∈ gtb := List.mem_filter.mpr ⟨List.mem_of_getElem? (i := 568) (by decide +kernel), rfl⟩
set_option maxRecDepth 20000 in
theorem q_572 : (Jvm.Cond.code ({ cls := "TrapDesk", name := "firstOf", desc := "([II)I" } : Jvm.MethodName) prog_1_method_41_code (3 : Nat) (Option.some Jvm.ClassFile.FieldType.int)) ∈ gtb := List.mem_filter.mpr ⟨List.mem_of_getElem? (i := 572) (rfl), rfl⟩
theorem q_570 : (Jvm.Cond.methodLink "TrapDesk" (261 : Nat) ({ cls := "TrapDesk", name := "firstOf", desc := "([II)I" } : Jvm.MethodName)) ∈ gtb := List.mem_filter.mpr ⟨List.mem_of_getElem? (i := 570) (by decide +kernel), rfl⟩
theorem q_571 : (Jvm.Cond.static ({ cls := "TrapDesk", name := "firstOf", desc := "([II)I" } : Jvm.MethodName)) ∈ gtb := List.mem_filter.mpr ⟨List.mem_of_getElem? (i := 571) (by decide +kernel), rfl⟩
set_option maxRecDepth 20000 in
theorem q_562 : (Jvm.Cond.code ({ cls := "TrapDesk", name := "dueForS", desc := "()I" } : Jvm.MethodName) prog_1_method_39_code (1 : Nat) (Option.some Jvm.ClassFile.FieldType.int)) ∈ gtb := List.mem_filter.mpr ⟨List.mem_of_getElem? (i := 562) (rfl), rfl⟩
theorem q_559 : (Jvm.Cond.methodLink "TrapDesk" (101 : Nat) ({ cls := "TrapDesk", name := "dueForS", desc := "()I" } : Jvm.MethodName)) ∈ gtb := List.mem_filter.mpr ⟨List.mem_of_getElem? (i := 559) (by decide +kernel), rfl⟩
theorem q_561 : (Jvm.Cond.instanceMethod ({ cls := "TrapDesk", name := "dueForS", desc := "()I" } : Jvm.MethodName)) ∈ gtb := List.mem_filter.mpr ⟨List.mem_of_getElem? (i := 561) (by decide +kernel), rfl⟩
theorem q_19 : (Jvm.Cond.selects "TrapDesk" ({ cls := "TrapDesk", name := "dueForS", desc := "()I" } : Jvm.MethodName) ({ cls := "TrapDesk", name := "dueForS", desc := "()I" } : Jvm.MethodName)) ∈ gtb := List.mem_filter.mpr ⟨List.mem_of_getElem? (i := 19) (by decide +kernel), rfl⟩
theorem q_578 : (Jvm.Cond.fieldLink "TrapDesk" (265 : Nat) "TrapDesk" "ORDER_FOR_VS" "[I") ∈ gtb := List.mem_filter.mpr ⟨List.mem_of_getElem? (i := 578) (by decide +kernel), rfl⟩
set_option maxRecDepth 20000 in
theorem q_583 : (Jvm.Cond.code ({ cls := "TrapDesk$Controls", name := "waitingForVs", desc := "()I" } : Jvm.MethodName) prog_3_method_11_code (1 : Nat) (Option.some Jvm.ClassFile.FieldType.int)) ∈ gtb := List.mem_filter.mpr ⟨List.mem_of_getElem? (i := 583) (rfl), rfl⟩
theorem q_580 : (Jvm.Cond.methodLink "TrapDesk" (268 : Nat) ({ cls := "TrapDesk$Controls", name := "waitingForVs", desc := "()I" } : Jvm.MethodName)) ∈ gtb := List.mem_filter.mpr ⟨List.mem_of_getElem? (i := 580) (by decide +kernel), rfl⟩
theorem q_581 : (Jvm.Cond.instanceMethod ({ cls := "TrapDesk$Controls", name := "waitingForVs", desc := "()I" } : Jvm.MethodName)) ∈ gtb := List.mem_filter.mpr ⟨List.mem_of_getElem? (i := 581) (by decide +kernel), rfl⟩
theorem q_582 : (Jvm.Cond.selects "TrapDesk$Controls" ({ cls := "TrapDesk$Controls", name := "waitingForVs", desc := "()I" } : Jvm.MethodName) ({ cls := "TrapDesk$Controls", name := "waitingForVs", desc := "()I" } : Jvm.MethodName)) ∈ gtb := List.mem_filter.mpr ⟨List.mem_of_getElem? (i := 582) (by decide +kernel), rfl⟩
set_option maxRecDepth 20000 in
theorem q_577 : (Jvm.Cond.code ({ cls := "TrapDesk", name := "dueForVs", desc := "()I" } : Jvm.MethodName) prog_1_method_40_code (2 : Nat) (Option.some Jvm.ClassFile.FieldType.int)) ∈ gtb := List.mem_filter.mpr ⟨List.mem_of_getElem? (i := 577) (rfl), rfl⟩
theorem q_574 : (Jvm.Cond.methodLink "TrapDesk" (109 : Nat) ({ cls := "TrapDesk", name := "dueForVs", desc := "()I" } : Jvm.MethodName)) ∈ gtb := List.mem_filter.mpr ⟨List.mem_of_getElem? (i := 574) (by decide +kernel), rfl⟩
theorem q_576 : (Jvm.Cond.instanceMethod ({ cls := "TrapDesk", name := "dueForVs", desc := "()I" } : Jvm.MethodName)) ∈ gtb := List.mem_filter.mpr ⟨List.mem_of_getElem? (i := 576) (by decide +kernel), rfl⟩
theorem q_20 : (Jvm.Cond.selects "TrapDesk" ({ cls := "TrapDesk", name := "dueForVs", desc := "()I" } : Jvm.MethodName) ({ cls := "TrapDesk", name := "dueForVs", desc := "()I" } : Jvm.MethodName)) ∈ gtb := List.mem_filter.mpr ⟨List.mem_of_getElem? (i := 20) (by decide +kernel), rfl⟩
theorem q_573 : (Jvm.Cond.constant "TrapDesk" (105 : Nat) (-2147483648 : Int32)) ∈ gtb := List.mem_filter.mpr ⟨List.mem_of_getElem? (i := 573) (by decide +kernel), rfl⟩
theorem q_72 : (Jvm.Cond.fieldLink "TrapDesk" (115 : Nat) "TrapDesk$Outside" "printed" "I") ∈ gtb := List.mem_filter.mpr ⟨List.mem_of_getElem? (i := 72) (by decide +kernel), rfl⟩
theorem q_77 : (Jvm.Cond.fieldLink "TrapDesk" (118 : Nat) "TrapDesk$Outside" "alarm" "J") ∈ gtb := List.mem_filter.mpr ⟨List.mem_of_getElem? (i := 77) (by decide +kernel), rfl⟩
set_option maxRecDepth 20000 in
theorem q_595 : (Jvm.Cond.code ({ cls := "TrapDesk$Outside", name := "printedByte", desc := "(I)I" } : Jvm.MethodName) prog_6_method_7_code (2 : Nat) (Option.some Jvm.ClassFile.FieldType.int)) ∈ gtb := List.mem_filter.mpr ⟨List.mem_of_getElem? (i := 595) (rfl), rfl⟩
theorem q_592 : (Jvm.Cond.methodLink "TrapDesk" (121 : Nat) ({ cls := "TrapDesk$Outside", name := "printedByte", desc := "(I)I" } : Jvm.MethodName)) ∈ gtb := List.mem_filter.mpr ⟨List.mem_of_getElem? (i := 592) (by decide +kernel), rfl⟩
theorem q_593 : (Jvm.Cond.instanceMethod ({ cls := "TrapDesk$Outside", name := "printedByte", desc := "(I)I" } : Jvm.MethodName)) ∈ gtb := List.mem_filter.mpr ⟨List.mem_of_getElem? (i := 593) (by decide +kernel), rfl⟩
theorem q_594 : (Jvm.Cond.selects "TrapDesk$Outside" ({ cls := "TrapDesk$Outside", name := "printedByte", desc := "(I)I" } : Jvm.MethodName) ({ cls := "TrapDesk$Outside", name := "printedByte", desc := "(I)I" } : Jvm.MethodName)) ∈ gtb := List.mem_filter.mpr ⟨List.mem_of_getElem? (i := 594) (by decide +kernel), rfl⟩
