/-! NAMES: the good words of the tables, classes, fields, methods (written by a program out of the Statement and the listing) -/
def gtb : List Cond := lw_tbl.filter goodWord
theorem gd_sub {cw : Cond} : ∀ w ∈ gtb, w ∈ cw :: gtb := fun _ h => List.mem_cons_of_mem _ h
theorem gd_gd {cw : Cond} : GoodIn (cw :: gtb) gtb := fun w h => ⟨List.mem_cons_of_mem _ h, good_of_word (List.mem_filter.mp h).2⟩
theorem gd_gg : GoodIn gtb gtb := fun w h => ⟨h, good_of_word (List.mem_filter.mp h).2⟩
theorem gd_c {big : List Cond} {w0 : Cond} (hg : GoodIn big gtb) (h : w0 ∈ gtb) : GoodIn big (w0 :: gtb) := fun w hw => (List.mem_cons.mp hw).elim (fun e => e ▸ hg w0 h) (hg w)
theorem gdV {big : List Cond} {own C : String} {idx : Nat} {y : MethodName} {w0 : Cond} (hg : GoodIn big gtb) (h1 : Cond.methodLink own idx y ∈ gtb) (h2 : Cond.instanceMethod y ∈ gtb) (h3 : Cond.selects C y y ∈ gtb) (h4 : Cond.initialized C ∈ gtb) (h5 : w0 ∈ gtb) : GoodIn big (wsV own idx C y (w0 :: gtb)) := by
  intro w hw
  simp only [wsV, List.cons_append, List.nil_append, List.mem_cons] at hw
  rcases hw with rfl | rfl | rfl | rfl | rfl | hw
  · exact hg _ h1
  · exact hg _ h2
  · exact hg _ h3
  · exact hg _ h4
  · exact hg _ h5
  · exact hg _ hw
theorem gdS {big : List Cond} {own : String} {idx : Nat} {y : MethodName} {w0 : Cond} (hg : GoodIn big gtb) (h1 : Cond.methodLink own idx y ∈ gtb) (h2 : Cond.static y ∈ gtb) (h4 : Cond.initialized y.cls ∈ gtb) (h5 : w0 ∈ gtb) : GoodIn big (va_wsS own idx y (w0 :: gtb)) := by
  intro w hw
  simp only [va_wsS, List.cons_append, List.nil_append, List.mem_cons] at hw
  rcases hw with rfl | rfl | rfl | rfl | hw
  · exact hg _ h1
  · exact hg _ h2
  · exact hg _ h4
  · exact hg _ h5
  · exact hg _ hw
abbrev R_Bank : String := "TrapDesk$Bank"
def T_Bank : u_T := fun k => match k with
  | 0 => ("TrapDesk$Bank", "status", "I", false)
  | 1 => ("TrapDesk$Bank", "tvec", "I", false)
  | 2 => ("TrapDesk$Bank", "scratch", "I", false)
  | 3 => ("TrapDesk$Bank", "epc", "I", false)
  | 4 => ("TrapDesk$Bank", "cause", "I", false)
  | 5 => ("TrapDesk$Bank", "tval", "I", false)
  | _ => ("TrapDesk$Bank", "atp", "I", false)
def ty_Bank : Nat → FieldType := fun k => match k with
  | 0 => .int
  | 1 => .int
  | 2 => .int
  | 3 => .int
  | 4 => .int
  | 5 => .int
  | _ => .int
theorem nm_Bank : ∀ a, a < 7 → ∀ b, b < 7 → a ≠ b → (T_Bank a).2.1 ≠ (T_Bank b).2.1 := by decide +kernel
theorem tyok_Bank : ∀ k, k < 7 → parseFieldDescriptor (T_Bank k).2.2.1 = some (ty_Bank k) := by decide +kernel
theorem iw_Bank : ∀ w ∈ u_ws R_Bank T_Bank 7, w ∈ gtb := by decide +kernel
abbrev R_Controls : String := "TrapDesk$Controls"
def T_Controls : u_T := fun k => match k with
  | 0 => ("TrapDesk$Controls", "outside", "LTrapDesk$Outside;", true)
  | 1 => ("TrapDesk$Controls", "host", "LTrapDesk$Bank;", true)
  | 2 => ("TrapDesk$Controls", "guest", "LTrapDesk$Bank;", true)
  | 3 => ("TrapDesk$Controls", "hyper", "LTrapDesk$Hyper;", true)
  | 4 => ("TrapDesk$Controls", "hostIe", "I", false)
  | _ => ("TrapDesk$Controls", "hostSoftware", "I", false)
def ty_Controls : Nat → FieldType := fun k => match k with
  | 0 => .object "TrapDesk$Outside"
  | 1 => .object "TrapDesk$Bank"
  | 2 => .object "TrapDesk$Bank"
  | 3 => .object "TrapDesk$Hyper"
  | 4 => .int
  | _ => .int
theorem nm_Controls : ∀ a, a < 6 → ∀ b, b < 6 → a ≠ b → (T_Controls a).2.1 ≠ (T_Controls b).2.1 := by decide +kernel
theorem tyok_Controls : ∀ k, k < 6 → parseFieldDescriptor (T_Controls k).2.2.1 = some (ty_Controls k) := by decide +kernel
theorem iw_Controls : ∀ w ∈ u_ws R_Controls T_Controls 6, w ∈ gtb := by decide +kernel
abbrev R_Hyper : String := "TrapDesk$Hyper"
def T_Hyper : u_T := fun k => match k with
  | 0 => ("TrapDesk$Hyper", "status", "I", false)
  | 1 => ("TrapDesk$Hyper", "edeleg", "I", false)
  | 2 => ("TrapDesk$Hyper", "ideleg", "I", false)
  | 3 => ("TrapDesk$Hyper", "ie", "I", false)
  | 4 => ("TrapDesk$Hyper", "tval", "I", false)
  | 5 => ("TrapDesk$Hyper", "vip", "I", false)
  | 6 => ("TrapDesk$Hyper", "tinst", "I", false)
  | _ => ("TrapDesk$Hyper", "gatp", "I", false)
def ty_Hyper : Nat → FieldType := fun k => match k with
  | 0 => .int
  | 1 => .int
  | 2 => .int
  | 3 => .int
  | 4 => .int
  | 5 => .int
  | 6 => .int
  | _ => .int
theorem nm_Hyper : ∀ a, a < 8 → ∀ b, b < 8 → a ≠ b → (T_Hyper a).2.1 ≠ (T_Hyper b).2.1 := by decide +kernel
theorem tyok_Hyper : ∀ k, k < 8 → parseFieldDescriptor (T_Hyper k).2.2.1 = some (ty_Hyper k) := by decide +kernel
theorem iw_Hyper : ∀ w ∈ u_ws R_Hyper T_Hyper 8, w ∈ gtb := by decide +kernel
abbrev R_Outside : String := "TrapDesk$Outside"
def T_Outside : u_T := fun k => match k with
  | 0 => ("TrapDesk$Outside", "bytes", "[B", true)
  | 1 => ("TrapDesk$Outside", "printed", "I", false)
  | 2 => ("TrapDesk$Outside", "now", "J", false)
  | 3 => ("TrapDesk$Outside", "alarm", "J", false)
  | 4 => ("TrapDesk$Outside", "lineOn", "Z", false)
  | _ => ("TrapDesk$Outside", "isOff", "Z", false)
def ty_Outside : Nat → FieldType := fun k => match k with
  | 0 => .array .byte
  | 1 => .int
  | 2 => .long
  | 3 => .long
  | 4 => .boolean
  | _ => .boolean
theorem nm_Outside : ∀ a, a < 6 → ∀ b, b < 6 → a ≠ b → (T_Outside a).2.1 ≠ (T_Outside b).2.1 := by decide +kernel
theorem tyok_Outside : ∀ k, k < 6 → parseFieldDescriptor (T_Outside k).2.2.1 = some (ty_Outside k) := by decide +kernel
theorem iw_Outside : ∀ w ∈ u_ws R_Outside T_Outside 6, w ∈ gtb := by decide +kernel
abbrev R_Registers : String := "TrapDesk$Registers"
def T_Registers : u_T := fun k => match k with
  | 0 => ("TrapDesk$Registers", "x10", "I", false)
  | 1 => ("TrapDesk$Registers", "x11", "I", false)
  | _ => ("TrapDesk$Registers", "x17", "I", false)
def ty_Registers : Nat → FieldType := fun k => match k with
  | 0 => .int
  | 1 => .int
  | _ => .int
theorem nm_Registers : ∀ a, a < 3 → ∀ b, b < 3 → a ≠ b → (T_Registers a).2.1 ≠ (T_Registers b).2.1 := by decide +kernel
theorem tyok_Registers : ∀ k, k < 3 → parseFieldDescriptor (T_Registers k).2.2.1 = some (ty_Registers k) := by decide +kernel
theorem iw_Registers : ∀ w ∈ u_ws R_Registers T_Registers 3, w ∈ gtb := by decide +kernel
abbrev R_Desk : String := "TrapDesk"
def T_Desk : u_T := fun k => match k with
  | 0 => ("TrapDesk", "controls", "LTrapDesk$Controls;", true)
  | 1 => ("TrapDesk", "outside", "LTrapDesk$Outside;", true)
  | 2 => ("TrapDesk", "registers", "LTrapDesk$Registers;", true)
  | 3 => ("TrapDesk", "current", "I", false)
  | 4 => ("TrapDesk", "pc", "I", false)
  | 5 => ("TrapDesk", "trapsToS", "I", false)
  | 6 => ("TrapDesk", "trapsToVs", "I", false)
  | _ => ("TrapDesk", "interrupts", "I", false)
def ty_Desk : Nat → FieldType := fun k => match k with
  | 0 => .object "TrapDesk$Controls"
  | 1 => .object "TrapDesk$Outside"
  | 2 => .object "TrapDesk$Registers"
  | 3 => .int
  | 4 => .int
  | 5 => .int
  | 6 => .int
  | _ => .int
theorem nm_Desk : ∀ a, a < 8 → ∀ b, b < 8 → a ≠ b → (T_Desk a).2.1 ≠ (T_Desk b).2.1 := by decide +kernel
theorem tyok_Desk : ∀ k, k < 8 → parseFieldDescriptor (T_Desk k).2.2.1 = some (ty_Desk k) := by decide +kernel
theorem iw_Desk : ∀ w ∈ u_ws R_Desk T_Desk 8, w ∈ gtb := by decide +kernel
abbrev R_Model : String := "TrapDeskModel"
def T_Model : u_T := fun k => match k with
  | 0 => ("TrapDeskModel", "mode", "I", false)
  | 1 => ("TrapDeskModel", "pc", "I", false)
  | 2 => ("TrapDeskModel", "time", "J", false)
  | 3 => ("TrapDeskModel", "alarm", "J", false)
  | 4 => ("TrapDeskModel", "lineOn", "Z", false)
  | 5 => ("TrapDeskModel", "x10", "I", false)
  | 6 => ("TrapDeskModel", "x11", "I", false)
  | 7 => ("TrapDeskModel", "x17", "I", false)
  | 8 => ("TrapDeskModel", "printed", "[I", true)
  | 9 => ("TrapDeskModel", "printedCount", "I", false)
  | 10 => ("TrapDeskModel", "off", "Z", false)
  | 11 => ("TrapDeskModel", "trapsToS", "I", false)
  | 12 => ("TrapDeskModel", "trapsToVs", "I", false)
  | 13 => ("TrapDeskModel", "interrupts", "I", false)
  | 14 => ("TrapDeskModel", "cells", "[I", true)
  | 15 => ("TrapDeskModel", "hstatus", "I", false)
  | 16 => ("TrapDeskModel", "hedeleg", "I", false)
  | 17 => ("TrapDeskModel", "hideleg", "I", false)
  | 18 => ("TrapDeskModel", "hie", "I", false)
  | 19 => ("TrapDeskModel", "htval", "I", false)
  | 20 => ("TrapDeskModel", "hvip", "I", false)
  | 21 => ("TrapDeskModel", "htinst", "I", false)
  | _ => ("TrapDeskModel", "hgatp", "I", false)
def ty_Model : Nat → FieldType := fun k => match k with
  | 0 => .int
  | 1 => .int
  | 2 => .long
  | 3 => .long
  | 4 => .boolean
  | 5 => .int
  | 6 => .int
  | 7 => .int
  | 8 => .array .int
  | 9 => .int
  | 10 => .boolean
  | 11 => .int
  | 12 => .int
  | 13 => .int
  | 14 => .array .int
  | 15 => .int
  | 16 => .int
  | 17 => .int
  | 18 => .int
  | 19 => .int
  | 20 => .int
  | 21 => .int
  | _ => .int
theorem nm_Model : ∀ a, a < 23 → ∀ b, b < 23 → a ≠ b → (T_Model a).2.1 ≠ (T_Model b).2.1 := by decide +kernel
theorem tyok_Model : ∀ k, k < 23 → parseFieldDescriptor (T_Model k).2.2.1 = some (ty_Model k) := by decide +kernel
theorem iw_Model : ∀ w ∈ u_ws R_Model T_Model 23, w ∈ gtb := by decide +kernel
abbrev R_Numbers : String := "TrapDesk$Numbers"
abbrev R_Law : String := "TrapDeskLaw"
abbrev vwCl : List vw_C := [(R_Bank, T_Bank, 7), (R_Controls, T_Controls, 6), (R_Hyper, T_Hyper, 8), (R_Outside, T_Outside, 6), (R_Registers, T_Registers, 3), (R_Desk, T_Desk, 8), (R_Model, T_Model, 23)]
