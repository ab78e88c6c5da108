section
-- ===== PART A: goes FIRST, ahead of the names: the tables' words, and 'selects' of the private methods out of them =====
/-- a private method of a class that the tables say can be made, by its rows of tables_1 -/
def lw_okq (q : MethodName × Nat) : Prop := (q.1.cls ≠ "java/lang/invoke/MethodHandle" ∧ q.1.cls ≠ "java/lang/invoke/VarHandle") ∧ Cond.instantiable q.1.cls q.2 ∈ tables_1 ∧ Cond.privateMethod q.1 ∈ tables_1 ∧ Cond.instanceMethod q.1 ∈ tables_1
theorem lw_p0 : lw_okq (⟨"TrapDesk", "perform", "(I)I"⟩, 8) := ⟨⟨by decide +kernel, by decide +kernel⟩, List.mem_of_getElem? (i := 10) (by decide +kernel), List.mem_of_getElem? (i := 360) (by decide +kernel), List.mem_of_getElem? (i := 361) (by decide +kernel)⟩
theorem lw_p1 : lw_okq (⟨"TrapDesk", "systemWord", "(I)I"⟩, 8) := ⟨⟨by decide +kernel, by decide +kernel⟩, List.mem_of_getElem? (i := 10) (by decide +kernel), List.mem_of_getElem? (i := 364) (by decide +kernel), List.mem_of_getElem? (i := 365) (by decide +kernel)⟩
theorem lw_p2 : lw_okq (⟨"TrapDesk", "nothingUnless", "(I)I"⟩, 8) := ⟨⟨by decide +kernel, by decide +kernel⟩, List.mem_of_getElem? (i := 10) (by decide +kernel), List.mem_of_getElem? (i := 375) (by decide +kernel), List.mem_of_getElem? (i := 376) (by decide +kernel)⟩
theorem lw_p3 : lw_okq (⟨"TrapDesk", "refusalOfSupervisorWord", "(I)I"⟩, 8) := ⟨⟨by decide +kernel, by decide +kernel⟩, List.mem_of_getElem? (i := 10) (by decide +kernel), List.mem_of_getElem? (i := 379) (by decide +kernel), List.mem_of_getElem? (i := 380) (by decide +kernel)⟩
theorem lw_p4 : lw_okq (⟨"TrapDesk", "goOn", "()I"⟩, 8) := ⟨⟨by decide +kernel, by decide +kernel⟩, List.mem_of_getElem? (i := 10) (by decide +kernel), List.mem_of_getElem? (i := 387) (by decide +kernel), List.mem_of_getElem? (i := 388) (by decide +kernel)⟩
theorem lw_p5 : lw_okq (⟨"TrapDesk", "hypervisorFence", "()I"⟩, 8) := ⟨⟨by decide +kernel, by decide +kernel⟩, List.mem_of_getElem? (i := 10) (by decide +kernel), List.mem_of_getElem? (i := 391) (by decide +kernel), List.mem_of_getElem? (i := 392) (by decide +kernel)⟩
theorem lw_p6 : lw_okq (⟨"TrapDesk", "isVirtual", "()Z"⟩, 8) := ⟨⟨by decide +kernel, by decide +kernel⟩, List.mem_of_getElem? (i := 10) (by decide +kernel), List.mem_of_getElem? (i := 395) (by decide +kernel), List.mem_of_getElem? (i := 396) (by decide +kernel)⟩
theorem lw_p7 : lw_okq (⟨"TrapDesk", "wordWithoutA", "(I)I"⟩, 8) := ⟨⟨by decide +kernel, by decide +kernel⟩, List.mem_of_getElem? (i := 10) (by decide +kernel), List.mem_of_getElem? (i := 399) (by decide +kernel), List.mem_of_getElem? (i := 400) (by decide +kernel)⟩
theorem lw_p8 : lw_okq (⟨"TrapDesk", "environmentCall", "()I"⟩, 8) := ⟨⟨by decide +kernel, by decide +kernel⟩, List.mem_of_getElem? (i := 10) (by decide +kernel), List.mem_of_getElem? (i := 406) (by decide +kernel), List.mem_of_getElem? (i := 407) (by decide +kernel)⟩
theorem lw_p9 : lw_okq (⟨"TrapDesk", "supervisorReturn", "()I"⟩, 8) := ⟨⟨by decide +kernel, by decide +kernel⟩, List.mem_of_getElem? (i := 10) (by decide +kernel), List.mem_of_getElem? (i := 423) (by decide +kernel), List.mem_of_getElem? (i := 424) (by decide +kernel)⟩
theorem lw_p10 : lw_okq (⟨"TrapDesk", "farAccessWord", "(I)I"⟩, 8) := ⟨⟨by decide +kernel, by decide +kernel⟩, List.mem_of_getElem? (i := 10) (by decide +kernel), List.mem_of_getElem? (i := 438) (by decide +kernel), List.mem_of_getElem? (i := 439) (by decide +kernel)⟩
theorem lw_p11 : lw_okq (⟨"TrapDesk", "controlWord", "(II)I"⟩, 8) := ⟨⟨by decide +kernel, by decide +kernel⟩, List.mem_of_getElem? (i := 10) (by decide +kernel), List.mem_of_getElem? (i := 448) (by decide +kernel), List.mem_of_getElem? (i := 449) (by decide +kernel)⟩
theorem lw_p12 : lw_okq (⟨"TrapDesk", "refusalOfAccess", "(IZ)I"⟩, 8) := ⟨⟨by decide +kernel, by decide +kernel⟩, List.mem_of_getElem? (i := 10) (by decide +kernel), List.mem_of_getElem? (i := 452) (by decide +kernel), List.mem_of_getElem? (i := 453) (by decide +kernel)⟩
theorem lw_p13 : lw_okq (⟨"TrapDesk", "isOpenToVs", "(I)Z"⟩, 8) := ⟨⟨by decide +kernel, by decide +kernel⟩, List.mem_of_getElem? (i := 10) (by decide +kernel), List.mem_of_getElem? (i := 456) (by decide +kernel), List.mem_of_getElem? (i := 457) (by decide +kernel)⟩
theorem lw_p14 : lw_okq (⟨"TrapDesk", "trapValue", "(II)I"⟩, 8) := ⟨⟨by decide +kernel, by decide +kernel⟩, List.mem_of_getElem? (i := 10) (by decide +kernel), List.mem_of_getElem? (i := 467) (by decide +kernel), List.mem_of_getElem? (i := 468) (by decide +kernel)⟩
theorem lw_p15 : lw_okq (⟨"TrapDesk", "raise", "(IIZII)V"⟩, 8) := ⟨⟨by decide +kernel, by decide +kernel⟩, List.mem_of_getElem? (i := 10) (by decide +kernel), List.mem_of_getElem? (i := 471) (by decide +kernel), List.mem_of_getElem? (i := 472) (by decide +kernel)⟩
def lw_privs_1 : List (MethodName × Nat) := [(⟨"TrapDesk", "perform", "(I)I"⟩, 8), (⟨"TrapDesk", "systemWord", "(I)I"⟩, 8), (⟨"TrapDesk", "nothingUnless", "(I)I"⟩, 8), (⟨"TrapDesk", "refusalOfSupervisorWord", "(I)I"⟩, 8), (⟨"TrapDesk", "goOn", "()I"⟩, 8), (⟨"TrapDesk", "hypervisorFence", "()I"⟩, 8), (⟨"TrapDesk", "isVirtual", "()Z"⟩, 8), (⟨"TrapDesk", "wordWithoutA", "(I)I"⟩, 8), (⟨"TrapDesk", "environmentCall", "()I"⟩, 8), (⟨"TrapDesk", "supervisorReturn", "()I"⟩, 8), (⟨"TrapDesk", "farAccessWord", "(I)I"⟩, 8), (⟨"TrapDesk", "controlWord", "(II)I"⟩, 8), (⟨"TrapDesk", "refusalOfAccess", "(IZ)I"⟩, 8), (⟨"TrapDesk", "isOpenToVs", "(I)Z"⟩, 8), (⟨"TrapDesk", "trapValue", "(II)I"⟩, 8), (⟨"TrapDesk", "raise", "(IIZII)V"⟩, 8)]
theorem lw_r1 : ∀ q ∈ lw_privs_1, lw_okq q := List.forall_mem_cons.mpr ⟨lw_p0, List.forall_mem_cons.mpr ⟨lw_p1, List.forall_mem_cons.mpr ⟨lw_p2, List.forall_mem_cons.mpr ⟨lw_p3, List.forall_mem_cons.mpr ⟨lw_p4, List.forall_mem_cons.mpr ⟨lw_p5, List.forall_mem_cons.mpr ⟨lw_p6, List.forall_mem_cons.mpr ⟨lw_p7, List.forall_mem_cons.mpr ⟨lw_p8, List.forall_mem_cons.mpr ⟨lw_p9, List.forall_mem_cons.mpr ⟨lw_p10, List.forall_mem_cons.mpr ⟨lw_p11, List.forall_mem_cons.mpr ⟨lw_p12, List.forall_mem_cons.mpr ⟨lw_p13, List.forall_mem_cons.mpr ⟨lw_p14, List.forall_mem_cons.mpr ⟨lw_p15, fun _ h => absurd h List.not_mem_nil⟩⟩⟩⟩⟩⟩⟩⟩⟩⟩⟩⟩⟩⟩⟩⟩
theorem lw_p16 : lw_okq (⟨"TrapDesk", "enterVs", "(II)V"⟩, 8) := ⟨⟨by decide +kernel, by decide +kernel⟩, List.mem_of_getElem? (i := 10) (by decide +kernel), List.mem_of_getElem? (i := 478) (by decide +kernel), List.mem_of_getElem? (i := 479) (by decide +kernel)⟩
theorem lw_p17 : lw_okq (⟨"TrapDesk", "isSupervisor", "()Z"⟩, 8) := ⟨⟨by decide +kernel, by decide +kernel⟩, List.mem_of_getElem? (i := 10) (by decide +kernel), List.mem_of_getElem? (i := 482) (by decide +kernel), List.mem_of_getElem? (i := 483) (by decide +kernel)⟩
theorem lw_p18 : lw_okq (⟨"TrapDesk", "enterS", "(IIZII)V"⟩, 8) := ⟨⟨by decide +kernel, by decide +kernel⟩, List.mem_of_getElem? (i := 10) (by decide +kernel), List.mem_of_getElem? (i := 501) (by decide +kernel), List.mem_of_getElem? (i := 502) (by decide +kernel)⟩
theorem lw_p19 : lw_okq (⟨"TrapDesk", "dueForS", "()I"⟩, 8) := ⟨⟨by decide +kernel, by decide +kernel⟩, List.mem_of_getElem? (i := 10) (by decide +kernel), List.mem_of_getElem? (i := 520) (by decide +kernel), List.mem_of_getElem? (i := 521) (by decide +kernel)⟩
theorem lw_p20 : lw_okq (⟨"TrapDesk", "dueForVs", "()I"⟩, 8) := ⟨⟨by decide +kernel, by decide +kernel⟩, List.mem_of_getElem? (i := 10) (by decide +kernel), List.mem_of_getElem? (i := 535) (by decide +kernel), List.mem_of_getElem? (i := 536) (by decide +kernel)⟩
theorem lw_p21 : lw_okq (⟨"TrapDeskModel", "write", "(II)V"⟩, 23) := ⟨⟨by decide +kernel, by decide +kernel⟩, List.mem_of_getElem? (i := 557) (by decide +kernel), List.mem_of_getElem? (i := 656) (by decide +kernel), List.mem_of_getElem? (i := 657) (by decide +kernel)⟩
theorem lw_p22 : lw_okq (⟨"TrapDeskModel", "tells", "(I)I"⟩, 23) := ⟨⟨by decide +kernel, by decide +kernel⟩, List.mem_of_getElem? (i := 557) (by decide +kernel), List.mem_of_getElem? (i := 672) (by decide +kernel), List.mem_of_getElem? (i := 673) (by decide +kernel)⟩
theorem lw_p23 : lw_okq (⟨"TrapDeskModel", "sip", "()I"⟩, 23) := ⟨⟨by decide +kernel, by decide +kernel⟩, List.mem_of_getElem? (i := 557) (by decide +kernel), List.mem_of_getElem? (i := 676) (by decide +kernel), List.mem_of_getElem? (i := 677) (by decide +kernel)⟩
theorem lw_p24 : lw_okq (⟨"TrapDeskModel", "trap", "(IIZIZ)V"⟩, 23) := ⟨⟨by decide +kernel, by decide +kernel⟩, List.mem_of_getElem? (i := 557) (by decide +kernel), List.mem_of_getElem? (i := 688) (by decide +kernel), List.mem_of_getElem? (i := 689) (by decide +kernel)⟩
theorem lw_p25 : lw_okq (⟨"TrapDeskModel", "isVirtual", "()Z"⟩, 23) := ⟨⟨by decide +kernel, by decide +kernel⟩, List.mem_of_getElem? (i := 557) (by decide +kernel), List.mem_of_getElem? (i := 692) (by decide +kernel), List.mem_of_getElem? (i := 693) (by decide +kernel)⟩
theorem lw_p26 : lw_okq (⟨"TrapDeskModel", "toVs", "(II)V"⟩, 23) := ⟨⟨by decide +kernel, by decide +kernel⟩, List.mem_of_getElem? (i := 557) (by decide +kernel), List.mem_of_getElem? (i := 696) (by decide +kernel), List.mem_of_getElem? (i := 697) (by decide +kernel)⟩
theorem lw_p27 : lw_okq (⟨"TrapDeskModel", "leave", "(III)V"⟩, 23) := ⟨⟨by decide +kernel, by decide +kernel⟩, List.mem_of_getElem? (i := 557) (by decide +kernel), List.mem_of_getElem? (i := 700) (by decide +kernel), List.mem_of_getElem? (i := 701) (by decide +kernel)⟩
theorem lw_p28 : lw_okq (⟨"TrapDeskModel", "toS", "(IIZIZ)V"⟩, 23) := ⟨⟨by decide +kernel, by decide +kernel⟩, List.mem_of_getElem? (i := 557) (by decide +kernel), List.mem_of_getElem? (i := 705) (by decide +kernel), List.mem_of_getElem? (i := 706) (by decide +kernel)⟩
theorem lw_p29 : lw_okq (⟨"TrapDeskModel", "has", "(I)Z"⟩, 23) := ⟨⟨by decide +kernel, by decide +kernel⟩, List.mem_of_getElem? (i := 557) (by decide +kernel), List.mem_of_getElem? (i := 724) (by decide +kernel), List.mem_of_getElem? (i := 725) (by decide +kernel)⟩
theorem lw_p30 : lw_okq (⟨"TrapDeskModel", "system", "(III)I"⟩, 23) := ⟨⟨by decide +kernel, by decide +kernel⟩, List.mem_of_getElem? (i := 557) (by decide +kernel), List.mem_of_getElem? (i := 728) (by decide +kernel), List.mem_of_getElem? (i := 729) (by decide +kernel)⟩
theorem lw_p31 : lw_okq (⟨"TrapDeskModel", "allowed", "(I)I"⟩, 23) := ⟨⟨by decide +kernel, by decide +kernel⟩, List.mem_of_getElem? (i := 557) (by decide +kernel), List.mem_of_getElem? (i := 733) (by decide +kernel), List.mem_of_getElem? (i := 734) (by decide +kernel)⟩
def lw_privs_2 : List (MethodName × Nat) := [(⟨"TrapDesk", "enterVs", "(II)V"⟩, 8), (⟨"TrapDesk", "isSupervisor", "()Z"⟩, 8), (⟨"TrapDesk", "enterS", "(IIZII)V"⟩, 8), (⟨"TrapDesk", "dueForS", "()I"⟩, 8), (⟨"TrapDesk", "dueForVs", "()I"⟩, 8), (⟨"TrapDeskModel", "write", "(II)V"⟩, 23), (⟨"TrapDeskModel", "tells", "(I)I"⟩, 23), (⟨"TrapDeskModel", "sip", "()I"⟩, 23), (⟨"TrapDeskModel", "trap", "(IIZIZ)V"⟩, 23), (⟨"TrapDeskModel", "isVirtual", "()Z"⟩, 23), (⟨"TrapDeskModel", "toVs", "(II)V"⟩, 23), (⟨"TrapDeskModel", "leave", "(III)V"⟩, 23), (⟨"TrapDeskModel", "toS", "(IIZIZ)V"⟩, 23), (⟨"TrapDeskModel", "has", "(I)Z"⟩, 23), (⟨"TrapDeskModel", "system", "(III)I"⟩, 23), (⟨"TrapDeskModel", "allowed", "(I)I"⟩, 23)]
theorem lw_r2 : ∀ q ∈ lw_privs_2, lw_okq q := List.forall_mem_cons.mpr ⟨lw_p16, List.forall_mem_cons.mpr ⟨lw_p17, List.forall_mem_cons.mpr ⟨lw_p18, List.forall_mem_cons.mpr ⟨lw_p19, List.forall_mem_cons.mpr ⟨lw_p20, List.forall_mem_cons.mpr ⟨lw_p21, List.forall_mem_cons.mpr ⟨lw_p22, List.forall_mem_cons.mpr ⟨lw_p23, List.forall_mem_cons.mpr ⟨lw_p24, List.forall_mem_cons.mpr ⟨lw_p25, List.forall_mem_cons.mpr ⟨lw_p26, List.forall_mem_cons.mpr ⟨lw_p27, List.forall_mem_cons.mpr ⟨lw_p28, List.forall_mem_cons.mpr ⟨lw_p29, List.forall_mem_cons.mpr ⟨lw_p30, List.forall_mem_cons.mpr ⟨lw_p31, fun _ h => absurd h List.not_mem_nil⟩⟩⟩⟩⟩⟩⟩⟩⟩⟩⟩⟩⟩⟩⟩⟩
theorem lw_p32 : lw_okq (⟨"TrapDeskModel", "call", "()I"⟩, 23) := ⟨⟨by decide +kernel, by decide +kernel⟩, List.mem_of_getElem? (i := 557) (by decide +kernel), List.mem_of_getElem? (i := 737) (by decide +kernel), List.mem_of_getElem? (i := 738) (by decide +kernel)⟩
theorem lw_p33 : lw_okq (⟨"TrapDeskModel", "firmware", "()V"⟩, 23) := ⟨⟨by decide +kernel, by decide +kernel⟩, List.mem_of_getElem? (i := 557) (by decide +kernel), List.mem_of_getElem? (i := 741) (by decide +kernel), List.mem_of_getElem? (i := 742) (by decide +kernel)⟩
theorem lw_p34 : lw_okq (⟨"TrapDeskModel", "sret", "()I"⟩, 23) := ⟨⟨by decide +kernel, by decide +kernel⟩, List.mem_of_getElem? (i := 557) (by decide +kernel), List.mem_of_getElem? (i := 746) (by decide +kernel), List.mem_of_getElem? (i := 747) (by decide +kernel)⟩
theorem lw_p35 : lw_okq (⟨"TrapDeskModel", "back", "(IZ)V"⟩, 23) := ⟨⟨by decide +kernel, by decide +kernel⟩, List.mem_of_getElem? (i := 557) (by decide +kernel), List.mem_of_getElem? (i := 751) (by decide +kernel), List.mem_of_getElem? (i := 752) (by decide +kernel)⟩
theorem lw_p36 : lw_okq (⟨"TrapDeskModel", "control", "(IIII)I"⟩, 23) := ⟨⟨by decide +kernel, by decide +kernel⟩, List.mem_of_getElem? (i := 557) (by decide +kernel), List.mem_of_getElem? (i := 756) (by decide +kernel), List.mem_of_getElem? (i := 757) (by decide +kernel)⟩
theorem lw_p37 : lw_okq (⟨"TrapDeskModel", "access", "(IZ)I"⟩, 23) := ⟨⟨by decide +kernel, by decide +kernel⟩, List.mem_of_getElem? (i := 557) (by decide +kernel), List.mem_of_getElem? (i := 760) (by decide +kernel), List.mem_of_getElem? (i := 761) (by decide +kernel)⟩
theorem lw_p38 : lw_okq (⟨"TrapDeskModel", "x", "(I)I"⟩, 23) := ⟨⟨by decide +kernel, by decide +kernel⟩, List.mem_of_getElem? (i := 557) (by decide +kernel), List.mem_of_getElem? (i := 764) (by decide +kernel), List.mem_of_getElem? (i := 765) (by decide +kernel)⟩
theorem lw_p39 : lw_okq (⟨"TrapDeskModel", "setX", "(II)V"⟩, 23) := ⟨⟨by decide +kernel, by decide +kernel⟩, List.mem_of_getElem? (i := 557) (by decide +kernel), List.mem_of_getElem? (i := 768) (by decide +kernel), List.mem_of_getElem? (i := 769) (by decide +kernel)⟩
def lw_privs_3 : List (MethodName × Nat) := [(⟨"TrapDeskModel", "call", "()I"⟩, 23), (⟨"TrapDeskModel", "firmware", "()V"⟩, 23), (⟨"TrapDeskModel", "sret", "()I"⟩, 23), (⟨"TrapDeskModel", "back", "(IZ)V"⟩, 23), (⟨"TrapDeskModel", "control", "(IIII)I"⟩, 23), (⟨"TrapDeskModel", "access", "(IZ)I"⟩, 23), (⟨"TrapDeskModel", "x", "(I)I"⟩, 23), (⟨"TrapDeskModel", "setX", "(II)V"⟩, 23)]
theorem lw_r3 : ∀ q ∈ lw_privs_3, lw_okq q := List.forall_mem_cons.mpr ⟨lw_p32, List.forall_mem_cons.mpr ⟨lw_p33, List.forall_mem_cons.mpr ⟨lw_p34, List.forall_mem_cons.mpr ⟨lw_p35, List.forall_mem_cons.mpr ⟨lw_p36, List.forall_mem_cons.mpr ⟨lw_p37, List.forall_mem_cons.mpr ⟨lw_p38, List.forall_mem_cons.mpr ⟨lw_p39, fun _ h => absurd h List.not_mem_nil⟩⟩⟩⟩⟩⟩⟩⟩
def lw_privs : List (MethodName × Nat) := lw_privs_1 ++ (lw_privs_2 ++ (lw_privs_3))
def lw_tbl : List Cond := k2_sels lw_privs ++ tables_1
theorem lw_privs_ok : ∀ q ∈ lw_privs, lw_okq q := by
  show ∀ q ∈ lw_privs_1 ++ (lw_privs_2 ++ (lw_privs_3)), lw_okq q
  exact List.forall_mem_append.mpr ⟨lw_r1, List.forall_mem_append.mpr ⟨lw_r2, lw_r3⟩⟩
end
section
/-! NAMES: the good words of the tables, classes, fields, methods (written by a program out of the Statement and the listing) -/
def gtb : List Cond := lw_tbl.filter goodWord
theorem gd_sub {cw : Cond} : ∀ w ∈ gtb, w ∈ cw :: gtb := fun _ h => List.mem_cons_of_mem _ h
theorem gd_gd {cw : Cond} : GoodIn (cw :: gtb) gtb := fun w h => ⟨List.mem_cons_of_mem _ h, good_of_word (List.mem_filter.mp h).2⟩
theorem gd_gg : GoodIn gtb gtb := fun w h => ⟨h, good_of_word (List.mem_filter.mp h).2⟩
theorem gd_c {big : List Cond} {w0 : Cond} (hg : GoodIn big gtb) (h : w0 ∈ gtb) : GoodIn big (w0 :: gtb) := fun w hw => (List.mem_cons.mp hw).elim (fun e => e ▸ hg w0 h) (hg w)
theorem gdV {big : List Cond} {own C : String} {idx : Nat} {y : MethodName} {w0 : Cond} (hg : GoodIn big gtb) (h1 : Cond.methodLink own idx y ∈ gtb) (h2 : Cond.instanceMethod y ∈ gtb) (h3 : Cond.selects C y y ∈ gtb) (h4 : Cond.initialized C ∈ gtb) (h5 : w0 ∈ gtb) : GoodIn big (wsV own idx C y (w0 :: gtb)) := by
  intro w hw
  simp only [wsV, List.cons_append, List.nil_append, List.mem_cons] at hw
  rcases hw with rfl | rfl | rfl | rfl | rfl | hw
  · exact hg _ h1
  · exact hg _ h2
  · exact hg _ h3
  · exact hg _ h4
  · exact hg _ h5
  · exact hg _ hw
theorem gdS {big : List Cond} {own : String} {idx : Nat} {y : MethodName} {w0 : Cond} (hg : GoodIn big gtb) (h1 : Cond.methodLink own idx y ∈ gtb) (h2 : Cond.static y ∈ gtb) (h4 : Cond.initialized y.cls ∈ gtb) (h5 : w0 ∈ gtb) : GoodIn big (va_wsS own idx y (w0 :: gtb)) := by
  intro w hw
  simp only [va_wsS, List.cons_append, List.nil_append, List.mem_cons] at hw
  rcases hw with rfl | rfl | rfl | rfl | hw
  · exact hg _ h1
  · exact hg _ h2
  · exact hg _ h4
  · exact hg _ h5
  · exact hg _ hw
abbrev R_Bank : String := "TrapDesk$Bank"
def T_Bank : u_T := fun k => match k with
  | 0 => ("TrapDesk$Bank", "status", "I", false)
  | 1 => ("TrapDesk$Bank", "tvec", "I", false)
  | 2 => ("TrapDesk$Bank", "scratch", "I", false)
  | 3 => ("TrapDesk$Bank", "epc", "I", false)
  | 4 => ("TrapDesk$Bank", "cause", "I", false)
  | 5 => ("TrapDesk$Bank", "tval", "I", false)
  | _ => ("TrapDesk$Bank", "atp", "I", false)
def ty_Bank : Nat → FieldType := fun k => match k with
  | 0 => .int
  | 1 => .int
  | 2 => .int
  | 3 => .int
  | 4 => .int
  | 5 => .int
  | _ => .int
theorem nm_Bank : ∀ a, a < 7 → ∀ b, b < 7 → a ≠ b → (T_Bank a).2.1 ≠ (T_Bank b).2.1 := by decide +kernel
theorem tyok_Bank : ∀ k, k < 7 → parseFieldDescriptor (T_Bank k).2.2.1 = some (ty_Bank k) := by decide +kernel
theorem iw_Bank : ∀ w ∈ u_ws R_Bank T_Bank 7, w ∈ gtb := by decide +kernel
abbrev R_Controls : String := "TrapDesk$Controls"
def T_Controls : u_T := fun k => match k with
  | 0 => ("TrapDesk$Controls", "outside", "LTrapDesk$Outside;", true)
  | 1 => ("TrapDesk$Controls", "host", "LTrapDesk$Bank;", true)
  | 2 => ("TrapDesk$Controls", "guest", "LTrapDesk$Bank;", true)
  | 3 => ("TrapDesk$Controls", "hyper", "LTrapDesk$Hyper;", true)
  | 4 => ("TrapDesk$Controls", "hostIe", "I", false)
  | _ => ("TrapDesk$Controls", "hostSoftware", "I", false)
def ty_Controls : Nat → FieldType := fun k => match k with
  | 0 => .object "TrapDesk$Outside"
  | 1 => .object "TrapDesk$Bank"
  | 2 => .object "TrapDesk$Bank"
  | 3 => .object "TrapDesk$Hyper"
  | 4 => .int
  | _ => .int
theorem nm_Controls : ∀ a, a < 6 → ∀ b, b < 6 → a ≠ b → (T_Controls a).2.1 ≠ (T_Controls b).2.1 := by decide +kernel
theorem tyok_Controls : ∀ k, k < 6 → parseFieldDescriptor (T_Controls k).2.2.1 = some (ty_Controls k) := by decide +kernel
theorem iw_Controls : ∀ w ∈ u_ws R_Controls T_Controls 6, w ∈ gtb := by decide +kernel
abbrev R_Hyper : String := "TrapDesk$Hyper"
def T_Hyper : u_T := fun k => match k with
  | 0 => ("TrapDesk$Hyper", "status", "I", false)
  | 1 => ("TrapDesk$Hyper", "edeleg", "I", false)
  | 2 => ("TrapDesk$Hyper", "ideleg", "I", false)
  | 3 => ("TrapDesk$Hyper", "ie", "I", false)
  | 4 => ("TrapDesk$Hyper", "tval", "I", false)
  | 5 => ("TrapDesk$Hyper", "vip", "I", false)
  | 6 => ("TrapDesk$Hyper", "tinst", "I", false)
  | _ => ("TrapDesk$Hyper", "gatp", "I", false)
def ty_Hyper : Nat → FieldType := fun k => match k with
  | 0 => .int
  | 1 => .int
  | 2 => .int
  | 3 => .int
  | 4 => .int
  | 5 => .int
  | 6 => .int
  | _ => .int
theorem nm_Hyper : ∀ a, a < 8 → ∀ b, b < 8 → a ≠ b → (T_Hyper a).2.1 ≠ (T_Hyper b).2.1 := by decide +kernel
theorem tyok_Hyper : ∀ k, k < 8 → parseFieldDescriptor (T_Hyper k).2.2.1 = some (ty_Hyper k) := by decide +kernel
theorem iw_Hyper : ∀ w ∈ u_ws R_Hyper T_Hyper 8, w ∈ gtb := by decide +kernel
abbrev R_Outside : String := "TrapDesk$Outside"
def T_Outside : u_T := fun k => match k with
  | 0 => ("TrapDesk$Outside", "bytes", "[B", true)
  | 1 => ("TrapDesk$Outside", "printed", "I", false)
  | 2 => ("TrapDesk$Outside", "now", "J", false)
  | 3 => ("TrapDesk$Outside", "alarm", "J", false)
  | 4 => ("TrapDesk$Outside", "lineOn", "Z", false)
  | _ => ("TrapDesk$Outside", "isOff", "Z", false)
def ty_Outside : Nat → FieldType := fun k => match k with
  | 0 => .array .byte
  | 1 => .int
  | 2 => .long
  | 3 => .long
  | 4 => .boolean
  | _ => .boolean
theorem nm_Outside : ∀ a, a < 6 → ∀ b, b < 6 → a ≠ b → (T_Outside a).2.1 ≠ (T_Outside b).2.1 := by decide +kernel
theorem tyok_Outside : ∀ k, k < 6 → parseFieldDescriptor (T_Outside k).2.2.1 = some (ty_Outside k) := by decide +kernel
theorem iw_Outside : ∀ w ∈ u_ws R_Outside T_Outside 6, w ∈ gtb := by decide +kernel
abbrev R_Registers : String := "TrapDesk$Registers"
def T_Registers : u_T := fun k => match k with
  | 0 => ("TrapDesk$Registers", "x10", "I", false)
  | 1 => ("TrapDesk$Registers", "x11", "I", false)
  | _ => ("TrapDesk$Registers", "x17", "I", false)
def ty_Registers : Nat → FieldType := fun k => match k with
  | 0 => .int
  | 1 => .int
  | _ => .int
theorem nm_Registers : ∀ a, a < 3 → ∀ b, b < 3 → a ≠ b → (T_Registers a).2.1 ≠ (T_Registers b).2.1 := by decide +kernel
theorem tyok_Registers : ∀ k, k < 3 → parseFieldDescriptor (T_Registers k).2.2.1 = some (ty_Registers k) := by decide +kernel
theorem iw_Registers : ∀ w ∈ u_ws R_Registers T_Registers 3, w ∈ gtb := by decide +kernel
abbrev R_Desk : String := "TrapDesk"
def T_Desk : u_T := fun k => match k with
  | 0 => ("TrapDesk", "controls", "LTrapDesk$Controls;", true)
  | 1 => ("TrapDesk", "outside", "LTrapDesk$Outside;", true)
  | 2 => ("TrapDesk", "registers", "LTrapDesk$Registers;", true)
  | 3 => ("TrapDesk", "current", "I", false)
  | 4 => ("TrapDesk", "pc", "I", false)
  | 5 => ("TrapDesk", "trapsToS", "I", false)
  | 6 => ("TrapDesk", "trapsToVs", "I", false)
  | _ => ("TrapDesk", "interrupts", "I", false)
def ty_Desk : Nat → FieldType := fun k => match k with
  | 0 => .object "TrapDesk$Controls"
  | 1 => .object "TrapDesk$Outside"
  | 2 => .object "TrapDesk$Registers"
  | 3 => .int
  | 4 => .int
  | 5 => .int
  | 6 => .int
  | _ => .int
theorem nm_Desk : ∀ a, a < 8 → ∀ b, b < 8 → a ≠ b → (T_Desk a).2.1 ≠ (T_Desk b).2.1 := by decide +kernel
theorem tyok_Desk : ∀ k, k < 8 → parseFieldDescriptor (T_Desk k).2.2.1 = some (ty_Desk k) := by decide +kernel
theorem iw_Desk : ∀ w ∈ u_ws R_Desk T_Desk 8, w ∈ gtb := by decide +kernel
abbrev R_Model : String := "TrapDeskModel"
def T_Model : u_T := fun k => match k with
  | 0 => ("TrapDeskModel", "mode", "I", false)
  | 1 => ("TrapDeskModel", "pc", "I", false)
  | 2 => ("TrapDeskModel", "time", "J", false)
  | 3 => ("TrapDeskModel", "alarm", "J", false)
  | 4 => ("TrapDeskModel", "lineOn", "Z", false)
  | 5 => ("TrapDeskModel", "x10", "I", false)
  | 6 => ("TrapDeskModel", "x11", "I", false)
  | 7 => ("TrapDeskModel", "x17", "I", false)
  | 8 => ("TrapDeskModel", "printed", "[I", true)
  | 9 => ("TrapDeskModel", "printedCount", "I", false)
  | 10 => ("TrapDeskModel", "off", "Z", false)
  | 11 => ("TrapDeskModel", "trapsToS", "I", false)
  | 12 => ("TrapDeskModel", "trapsToVs", "I", false)
  | 13 => ("TrapDeskModel", "interrupts", "I", false)
  | 14 => ("TrapDeskModel", "cells", "[I", true)
  | 15 => ("TrapDeskModel", "hstatus", "I", false)
  | 16 => ("TrapDeskModel", "hedeleg", "I", false)
  | 17 => ("TrapDeskModel", "hideleg", "I", false)
  | 18 => ("TrapDeskModel", "hie", "I", false)
  | 19 => ("TrapDeskModel", "htval", "I", false)
  | 20 => ("TrapDeskModel", "hvip", "I", false)
  | 21 => ("TrapDeskModel", "htinst", "I", false)
  | _ => ("TrapDeskModel", "hgatp", "I", false)
def ty_Model : Nat → FieldType := fun k => match k with
  | 0 => .int
  | 1 => .int
  | 2 => .long
  | 3 => .long
  | 4 => .boolean
  | 5 => .int
  | 6 => .int
  | 7 => .int
  | 8 => .array .int
  | 9 => .int
  | 10 => .boolean
  | 11 => .int
  | 12 => .int
  | 13 => .int
  | 14 => .array .int
  | 15 => .int
  | 16 => .int
  | 17 => .int
  | 18 => .int
  | 19 => .int
  | 20 => .int
  | 21 => .int
  | _ => .int
theorem nm_Model : ∀ a, a < 23 → ∀ b, b < 23 → a ≠ b → (T_Model a).2.1 ≠ (T_Model b).2.1 := by decide +kernel
theorem tyok_Model : ∀ k, k < 23 → parseFieldDescriptor (T_Model k).2.2.1 = some (ty_Model k) := by decide +kernel
theorem iw_Model : ∀ w ∈ u_ws R_Model T_Model 23, w ∈ gtb := by decide +kernel
abbrev R_Numbers : String := "TrapDesk$Numbers"
abbrev R_Law : String := "TrapDeskLaw"
abbrev vwCl : List vw_C := [(R_Bank, T_Bank, 7), (R_Controls, T_Controls, 6), (R_Hyper, T_Hyper, 8), (R_Outside, T_Outside, 6), (R_Registers, T_Registers, 3), (R_Desk, T_Desk, 8), (R_Model, T_Model, 23)]
end
section

/-! THE FRAME: booleans, objects' states, the contracts' form, calls and ends in one row each -/
def bI (b : Bool) : Int32 := match b with
  | true => 1
  | false => 0
theorem bI_n (b : Bool) : narrow .boolean (.int (bI b)) = .int (bI b) := by cases b <;> rfl
theorem bI_f (b : Bool) : fits .boolean (.int (bI b)) = true := by cases b <;> rfl
/-- an object's fields by their slots: ints, longs, booleans -/
abbrev ob : Type := (Nat → Int32) × (Nat → Int64) × (Nat → Bool)
def oi (b : ob) (k : Nat) (x : Int32) : ob := (fun j => if j = k then x else b.1 j, b.2)
def ol (b : ob) (k : Nat) (x : Int64) : ob := (b.1, fun j => if j = k then x else b.2.1 j, b.2.2)
def oz (b : ob) (k : Nat) (x : Bool) : ob := (b.1, b.2.1, fun j => if j = k then x else b.2.2 j)
def ush (x y : Int32) : Int32 := (x.toUInt32 >>> (y.toUInt32 &&& Int32.toUInt32 31)).toInt32
def lush (x : Int64) (y : Int32) : Int64 := (x.toUInt64 >>> (y.toInt64.toUInt64 &&& Int64.toUInt64 63)).toInt64
def lsh (x : Int64) (y : Int32) : Int64 := x <<< (y.toInt64 &&& 63)
def lshr (x : Int64) (y : Int32) : Int64 := x >>> (y.toInt64 &&& 63)
theorem ct_mf {α : Type} (f : Nat → Option α) : ∀ (is : List Nat) (ws : List α), is.map f = ws.map some → is.filterMap f = ws
  | [], [], _ => rfl
  | [], _ :: _, h => by simp at h
  | _ :: _, [], h => by simp at h
  | i :: is, w :: ws, h => by
    simp only [List.map_cons, List.cons.injEq] at h
    rw [List.filterMap_cons, h.1]
    simp only [ct_mf f is ws h.2]

/-- what a contract's start also gives: the class's tables that nobody writes, and the links of nest mates -/
abbrev gx : Type := va_G × Nat × Nat
def ordS (j : Nat) : Int32 := ([9, 1, 5, 10, 2, 6] : List Int32).getD j 0
def ordV (j : Nat) : Int32 := ([10, 2, 6] : List Int32).getD j 0

def ex (G : gx) (A : Nat → Prop) (U : State) : Prop :=
  va_Z "TrapDesk" "ORDER_FOR_S" "[I" (.ref G.2.1) A U U.heap ∧ va_T .int G.2.1 6 (fun j => .int (ordS j)) A U U.heap ∧ va_Z "TrapDesk" "ORDER_FOR_VS" "[I" (.ref G.2.2) A U U.heap ∧ va_T .int G.2.2 3 (fun j => .int (ordV j)) A U U.heap
theorem ex_step {G : gx} {A B : Nat → Prop} {s U : State} {H : Heap} {locs : List Loc} (h : ex G A s) (hS : va_S A s.heap H locs) (hB : ∀ q, B q → A q) (hU : U.heap = H) (hW : s.WarmedH U.vm) : ex G B U := by
  obtain ⟨z1, t1, z2, t2⟩ := h
  have hq : ∀ a : Nat, a < s.heap.size → ¬ A a → U.heap[a]? = s.heap[a]? := fun a h1 h2 => by rw [hU]; exact hS.2.1 a h1 h2
  exact ⟨((z1.kept hq).narrow hB).moved hW.alike, ((t1.kept hq).narrow hB).moved hW.alike, ((z2.kept hq).narrow hB).moved hW.alike, ((t2.kept hq).narrow hB).moved hW.alike⟩
theorem ex_calling {G : gx} {A : Nat → Prop} {U : State} (g : JFrame) (mk : MethodId) (a : Array Value) (h : ex G A U) : ex G A (U.calling g mk a) := by
  obtain ⟨z1, t1, z2, t2⟩ := h
  exact ⟨va_Z.moved (u := U) (U := U.calling g mk a) (Vm.Alike.refl U.vm) z1, va_T.moved (u := U) (U := U.calling g mk a) (Vm.Alike.refl U.vm) t1, va_Z.moved (u := U) (U := U.calling g mk a) (Vm.Alike.refl U.vm) z2, va_T.moved (u := U) (U := U.calling g mk a) (Vm.Alike.refl U.vm) t2⟩

def ct_pre (G : gx) (tys : List (ClassId × FieldType)) (As : List Value) (w : va_W) (sz : Nat) : Array Value → State → Prop :=
  va_Pc As (fun U => U.heap.size = sz ∧ va_P G.1 vwCl w U.heap ∧ va_K G.1 vwCl tys U ∧ va_D (fun _ => True) w ∧ ex G (va_A w sz) U)
def ct_at (G : gx) (tys : List (ClassId × FieldType)) (A : Nat → Prop) (w : va_W) (t : State) : Prop := va_P G.1 vwCl w t.heap ∧ va_K G.1 vwCl tys t ∧ va_D A w
def ct_qi (G : gx) (tys : List (ClassId × FieldType)) (A : Nat → Prop) (r : Int32) (w1 : va_W) : Array Value → State → Outcome → State → Prop := va_Qi (fun (r' : Int32) (_ : Unit) => r' = r) (fun _ t => ct_at G tys A w1 t) A
def ct_ql (G : gx) (tys : List (ClassId × FieldType)) (A : Nat → Prop) (r : Int64) (w1 : va_W) : Array Value → State → Outcome → State → Prop := va_Ql (fun (r' : Int64) (_ : Unit) => r' = r) (fun _ t => ct_at G tys A w1 t) A
def ct_qv (G : gx) (tys : List (ClassId × FieldType)) (A : Nat → Prop) (w1 : va_W) : Array Value → State → Outcome → State → Prop := va_Qv (fun (_ : Unit) => True) (fun _ t => ct_at G tys A w1 t) A
def ct_I (l : Launch) (y : MethodName) (ws : List Cond) (rm : Room) (G : gx) (tys : List (ClassId × FieldType)) (As : List Value) (w : va_W) (r : Int32) (w1 : va_W) : Prop := ∀ sz : Nat, Met l y ws rm (ct_pre G tys As w sz) (ct_qi G tys (va_A w sz) r w1) 0 0 (va_A w sz)
def ct_L (l : Launch) (y : MethodName) (ws : List Cond) (rm : Room) (G : gx) (tys : List (ClassId × FieldType)) (As : List Value) (w : va_W) (r : Int64) (w1 : va_W) : Prop := ∀ sz : Nat, Met l y ws rm (ct_pre G tys As w sz) (ct_ql G tys (va_A w sz) r w1) 0 0 (va_A w sz)
def ct_V (l : Launch) (y : MethodName) (ws : List Cond) (rm : Room) (G : gx) (tys : List (ClassId × FieldType)) (As : List Value) (w : va_W) (w1 : va_W) : Prop := ∀ sz : Nat, Met l y ws rm (ct_pre G tys As w sz) (ct_qv G tys (va_A w sz) w1) 0 0 (va_A w sz)
/-- a constructor's contract: new cells at addresses u, the world w1 u behind it, its arrays' classes tys1 u -/
def ct_qn {Sg : Type} (G : gx) (A : Nat → Prop) (tys1 : Sg → List (ClassId × FieldType)) (w1 : Sg → va_W) : Array Value → State → Outcome → State → Prop := va_Qv (fun (_ : Sg) => True) (fun u t => ct_at G (tys1 u) A (w1 u) t) A
def ct_N {Sg : Type} (l : Launch) (y : MethodName) (ws : List Cond) (rm : Room) (G : gx) (tys : List (ClassId × FieldType)) (As : List Value) (w : va_W) (mc ms : Nat) (tys1 : Sg → List (ClassId × FieldType)) (w1 : Sg → va_W) : Prop := ∀ sz : Nat, Met l y ws rm (ct_pre G tys As w sz) (ct_qn G (va_A w sz) tys1 w1) mc ms (va_A w sz)
theorem ct_blind {G : gx} {tys : List (ClassId × FieldType)} {As : List Value} {w : va_W} {sz : Nat} : FrameBlind (ct_pre G tys As w sz) := fun a U g mk q => by
  obtain ⟨q0, q1, qP, qK, qD, qE⟩ := q
  exact ⟨q0, q1, qP, va_K.moved (u := U) (U := U.calling g mk a) (Vm.Alike.refl U.vm) qK, qD, ex_calling g mk a qE⟩
section CTH
variable {l : Launch} {y : MethodName} {cc : ByteArray} {maxL : Nat} {ws ws' : List Cond} {rm : Room} {G : gx} {tys : List (ClassId × FieldType)} {As : List Value} {w w1 : va_W}
/-- a walk's start, whatever the end is -/
theorem ct_head {mc ms : Nat} {ret : Option FieldType} {Qc : (Nat → Prop) → Array Value → State → Outcome → State → Prop} (hy : plainName y.cls = true) (hw : ws = Cond.code y cc maxL ret :: ws') (hn : (lg_sl As).length ≤ maxL)
    (body : ∀ (p : Program) (e : Env) (s : State) (m : MethodId) (below : List Frame) (meth : Method) (c : Code) (A : Nat → Prop) (ls : Array Slot), p.tables.exec = Jvm.exec → c.code = cc → meth.sig.returnType = ret → c.maxLocals = maxL → (∀ w ∈ ws, w.before As.toArray s = true) → s.vm.findClass y.cls = some m.cls → meth.locks = false →
      va_P G.1 vwCl w s.heap → va_K G.1 vwCl tys s → va_D A w → (∀ q : Nat, s.heap.size ≤ q → A q) → ex G A s → va_S A s.heap s.heap [] → lv_has ls maxL (lv_args 0 As) →
      W p l e rm s m As.toArray below meth c s.heap [] 0 0 (MQ below (Qc A) As.toArray s mc ms A) (F0 m 0 ls [])) : ∀ sz : Nat, Met l y ws rm (ct_pre G tys As w sz) (Qc (va_A w sz)) mc ms (va_A w sz) := by
  intro sz
  refine Met.ofW (cc := cc) (maxL := maxL) (ret := ret) hy hw ?_
  intro p e s m args below meth c s₁ B hml hv
  obtain ⟨rfl, hsz, hP, hK, hD0, hE⟩ := hv
  have hts := atoms_spec (ws := ws) B.pre
  have hown : s.vm.findClass y.cls = some m.cls := findClass_of_methodNamed B.named
  subst hsz
  have hD := hD0.self (sz := s.heap.size)
  have hA : ∀ q : Nat, s.heap.size ≤ q → va_A w s.heap.size q := fun q h => Or.inr h
  rw [lg_entry_eq]
  exact body p e s m below meth c (va_A w s.heap.size) _ B.exec B.bytes B.returns hml hts hown B.notSynchronized hP hK hD hA hE va_S.rf (lv_entry As hn)
theorem ct_hI {ret : Option FieldType} {r : Int32} (hy : plainName y.cls = true) (hw : ws = Cond.code y cc maxL ret :: ws') (hn : (lg_sl As).length ≤ maxL)
    (body : ∀ (p : Program) (e : Env) (s : State) (m : MethodId) (below : List Frame) (meth : Method) (c : Code) (A : Nat → Prop) (ls : Array Slot), p.tables.exec = Jvm.exec → c.code = cc → meth.sig.returnType = ret → c.maxLocals = maxL → (∀ w ∈ ws, w.before As.toArray s = true) → s.vm.findClass y.cls = some m.cls → meth.locks = false →
      va_P G.1 vwCl w s.heap → va_K G.1 vwCl tys s → va_D A w → (∀ q : Nat, s.heap.size ≤ q → A q) → ex G A s → va_S A s.heap s.heap [] → lv_has ls maxL (lv_args 0 As) →
      W p l e rm s m As.toArray below meth c s.heap [] 0 0 (MQ below (ct_qi G tys A r w1) As.toArray s 0 0 A) (F0 m 0 ls [])) : ct_I l y ws rm G tys As w r w1 :=
  ct_head (Qc := fun A => ct_qi G tys A r w1) hy hw hn body
theorem ct_hL {ret : Option FieldType} {r : Int64} (hy : plainName y.cls = true) (hw : ws = Cond.code y cc maxL ret :: ws') (hn : (lg_sl As).length ≤ maxL)
    (body : ∀ (p : Program) (e : Env) (s : State) (m : MethodId) (below : List Frame) (meth : Method) (c : Code) (A : Nat → Prop) (ls : Array Slot), p.tables.exec = Jvm.exec → c.code = cc → meth.sig.returnType = ret → c.maxLocals = maxL → (∀ w ∈ ws, w.before As.toArray s = true) → s.vm.findClass y.cls = some m.cls → meth.locks = false →
      va_P G.1 vwCl w s.heap → va_K G.1 vwCl tys s → va_D A w → (∀ q : Nat, s.heap.size ≤ q → A q) → ex G A s → va_S A s.heap s.heap [] → lv_has ls maxL (lv_args 0 As) →
      W p l e rm s m As.toArray below meth c s.heap [] 0 0 (MQ below (ct_ql G tys A r w1) As.toArray s 0 0 A) (F0 m 0 ls [])) : ct_L l y ws rm G tys As w r w1 :=
  ct_head (Qc := fun A => ct_ql G tys A r w1) hy hw hn body
theorem ct_hV {ret : Option FieldType} (hy : plainName y.cls = true) (hw : ws = Cond.code y cc maxL ret :: ws') (hn : (lg_sl As).length ≤ maxL)
    (body : ∀ (p : Program) (e : Env) (s : State) (m : MethodId) (below : List Frame) (meth : Method) (c : Code) (A : Nat → Prop) (ls : Array Slot), p.tables.exec = Jvm.exec → c.code = cc → meth.sig.returnType = ret → c.maxLocals = maxL → (∀ w ∈ ws, w.before As.toArray s = true) → s.vm.findClass y.cls = some m.cls → meth.locks = false →
      va_P G.1 vwCl w s.heap → va_K G.1 vwCl tys s → va_D A w → (∀ q : Nat, s.heap.size ≤ q → A q) → ex G A s → va_S A s.heap s.heap [] → lv_has ls maxL (lv_args 0 As) →
      W p l e rm s m As.toArray below meth c s.heap [] 0 0 (MQ below (ct_qv G tys A w1) As.toArray s 0 0 A) (F0 m 0 ls [])) : ct_V l y ws rm G tys As w w1 :=
  ct_head (Qc := fun A => ct_qv G tys A w1) hy hw hn body
theorem ct_hN {Sg : Type} {tys1 : Sg → List (ClassId × FieldType)} {wn : Sg → va_W} {mc ms : Nat} {ret : Option FieldType} (hy : plainName y.cls = true) (hw : ws = Cond.code y cc maxL ret :: ws') (hn : (lg_sl As).length ≤ maxL)
    (body : ∀ (p : Program) (e : Env) (s : State) (m : MethodId) (below : List Frame) (meth : Method) (c : Code) (A : Nat → Prop) (ls : Array Slot), p.tables.exec = Jvm.exec → c.code = cc → meth.sig.returnType = ret → c.maxLocals = maxL → (∀ w ∈ ws, w.before As.toArray s = true) → s.vm.findClass y.cls = some m.cls → meth.locks = false →
      va_P G.1 vwCl w s.heap → va_K G.1 vwCl tys s → va_D A w → (∀ q : Nat, s.heap.size ≤ q → A q) → ex G A s → va_S A s.heap s.heap [] → lv_has ls maxL (lv_args 0 As) →
      W p l e rm s m As.toArray below meth c s.heap [] 0 0 (MQ below (ct_qn G A tys1 wn) As.toArray s mc ms A) (F0 m 0 ls [])) : ct_N l y ws rm G tys As w mc ms tys1 wn :=
  ct_head (Qc := fun A => ct_qn G A tys1 wn) hy hw hn body
end CTH
section CTC
variable {p : Program} {l : Launch} {e : Env} {R : Room} {s : State} {m : MethodId} {args : Array Value} {below : List Frame} {meth : Method} {c : Code} {H : Heap} {locs : List Loc} {cells slots : Nat} {Q : State → Prop}
variable {pc : Nat} {ls : Array Slot} {rest st0 : List Value} {A : Nat → Prop} {G : gx} {tys : List (ClassId × FieldType)} {cc : ByteArray}
theorem ct_ri (hx : p.tables.exec = Jvm.exec) (hb : c.code = cc) (hr : meth.sig.returnType = some .int) (hlocks : meth.locks = false) {v r : Int32} {w9 w1 : va_W} (hP : va_P G.1 vwCl w9 H) (hD : va_D A w9) (hK : va_K G.1 vwCl tys s) (hS : va_S A s.heap H locs) (hdg : decode cc pc = .ok (.ireturn, 1)) (hv : v = r) (hw : w9 = w1) :
    W p l e R s m args below meth c H locs cells slots (MQ below (ct_qi G tys A r w1) args s cells slots A) (F0 m pc ls [.int v]) := by
  subst hv
  subst hw
  exact W.iret hx hb hr (fun t ht hW => ⟨⟨v, (), rfl, rfl, by rw [ht]; exact hP, va_K.moved hW.alike hK, hD⟩, hS.F ht⟩) hS.2.2 hdg hlocks
theorem ct_rz (hx : p.tables.exec = Jvm.exec) (hb : c.code = cc) (hr : meth.sig.returnType = some .boolean) (hlocks : meth.locks = false) {v r : Int32} {w9 w1 : va_W} (hP : va_P G.1 vwCl w9 H) (hD : va_D A w9) (hK : va_K G.1 vwCl tys s) (hS : va_S A s.heap H locs) (hdg : decode cc pc = .ok (.ireturn, 1)) (hn : narrow .boolean (.int v) = .int v) (hv : v = r) (hw : w9 = w1) :
    W p l e R s m args below meth c H locs cells slots (MQ below (ct_qi G tys A r w1) args s cells slots A) (F0 m pc ls [.int v]) := by
  subst hv
  subst hw
  exact W.zret hx hb hr hn (fun t ht hW => ⟨⟨v, (), rfl, rfl, by rw [ht]; exact hP, va_K.moved hW.alike hK, hD⟩, hS.F ht⟩) hS.2.2 hdg hlocks
theorem ct_rl (hx : p.tables.exec = Jvm.exec) (hb : c.code = cc) (hr : meth.sig.returnType = some .long) (hlocks : meth.locks = false) {v r : Int64} {w9 w1 : va_W} (hP : va_P G.1 vwCl w9 H) (hD : va_D A w9) (hK : va_K G.1 vwCl tys s) (hS : va_S A s.heap H locs) (hdg : decode cc pc = .ok (.lreturn, 1)) (hv : v = r) (hw : w9 = w1) :
    W p l e R s m args below meth c H locs cells slots (MQ below (ct_ql G tys A r w1) args s cells slots A) (F0 m pc ls [.long v]) := by
  subst hv
  subst hw
  exact W.lret hx hb hr (fun t ht hW => ⟨⟨v, (), rfl, rfl, by rw [ht]; exact hP, va_K.moved hW.alike hK, hD⟩, hS.F ht⟩) hS.2.2 hdg hlocks
theorem ct_rv (hx : p.tables.exec = Jvm.exec) (hb : c.code = cc) (hr : meth.sig.returnType = none) (hlocks : meth.locks = false) {w9 w1 : va_W} (hP : va_P G.1 vwCl w9 H) (hD : va_D A w9) (hK : va_K G.1 vwCl tys s) (hS : va_S A s.heap H locs) (hdg : decode cc pc = .ok (.return_, 1)) (hw : w9 = w1) :
    W p l e R s m args below meth c H locs cells slots (MQ below (ct_qv G tys A w1) args s cells slots A) (F0 m pc ls []) := by
  subst hw
  exact W.vret hx hb hr (fun t ht hW => ⟨⟨(), rfl, trivial, by rw [ht]; exact hP, va_K.moved hW.alike hK, hD⟩, hS.F ht⟩) hS.2.2 hdg hlocks

theorem ct_goi {w0 wc wr w1 w2 : va_W} {r : Int32} {a : Array Value} {H0 : Heap} (hr : va_Run p l e R s m args below meth c H locs cells slots 0 0 (F0 m pc ls st0) rest (ct_qi G tys (va_A wc H.size) r w1 a) (va_A wc H.size)) (hP : va_P G.1 vwCl w0 H) (hD : va_D A w0) (hS : va_S A H0 H locs) (hA : ∀ q : Nat, H0.size ≤ q → A q) (isC isR isZ : List Nat) (hC : isC.map (fun i => w0[i]?) = wc.map some) (hR : isR.map (fun i => w0[i]?) = wr.map some) (hn : va_nd isR = true) (hdis : ∀ i ∈ isR, i ∉ isC) (hZ : isZ.map (fun i => (wr ++ w1)[i]?) = w2.map some) (hnz : va_nd isZ = true)
    (kk : ∀ (H1 : Heap) (locs1 : List Loc), va_P G.1 vwCl w2 H1 → va_D A w2 → va_S A H0 H1 locs1 → W p l e R s m args below meth c H1 locs1 cells slots Q (F0 m (pc + 3) ls (.int r :: rest))) : W p l e R s m args below meth c H locs cells slots Q (F0 m pc ls st0) := by
  have hFc := va_free (wc := wc) hD hS hA isC hC
  refine va_calli hr hS (fun q _ h => hFc q h) hFc (fun r' u t H1 locs1 ht hvm hw hB hz1 hk1 hS1 => ?_)
  subst hw
  obtain ⟨hP1, hK1, hD1⟩ := hB
  rw [ht] at hP1
  obtain ⟨hP2, hD2⟩ := va_join (wr := wr) (w1 := w1) hP hD isC isR hC hR hn hdis hk1 hFc hP1 hD1
  exact kk H1 locs1 (hP2.sub isZ (ct_mf _ _ _ hZ)) (hD2.sub isZ hnz hZ) hS1

theorem ct_cVi {w0 wc wr w1 w2 : va_W} {r : Int32} {own C : String} {b : Addr} {index maxL nL n : Nat} {y : MethodName} {bytes : ByteArray} {ret : Option FieldType} {ws Ts : List Cond} {rm : Room} {As : List Value} (S : CallFix p m c cc nL s args Ts own) (hM : ct_I l y ws rm G tys (.ref b :: As) wc r w1) (cw : CallW R s args own C index y bytes maxL ret ws rm 0 0 n) (hE : ex G A s) (hK : va_K G.1 vwCl tys s) (hP : va_P G.1 vwCl w0 H) (hD : va_D A w0) (hS : va_S A s.heap H locs) (hA : ∀ q : Nat, s.heap.size ≤ q → A q) (isC isR isZ : List Nat) (hC : isC.map (fun i => w0[i]?) = wc.map some) (hCn : va_nd isC = true) (hR : isR.map (fun i => w0[i]?) = wr.map some) (hn : va_nd isR = true) (hdis : ∀ i ∈ isR, i ∉ isC) (hZ : isZ.map (fun i => (wr ++ w1)[i]?) = w2.map some) (hnz : va_nd isZ = true) {ci q0 : Nat} {T : u_T} {N : Nat} {fs : List Value} (hc : vwCl[ci]? = some (C, T, N)) (he : wc[q0]? = some (b, .inr (ci, fs))) (hAs : As.length = n) (hl : ls.size = nL) (hst : st0 = As.reverse ++ .ref b :: rest) (hroom : (rest.map fun v => v.category).sum ≤ 8) (hdg : decode cc pc = .ok (.invokevirtual index, 3)) (hcl : cells ≤ R.cells ∧ slots ≤ R.slots)
    (kk : ∀ (H1 : Heap) (locs1 : List Loc), va_P G.1 vwCl w2 H1 → va_D A w2 → va_S A s.heap H1 locs1 → W p l e R s m args below meth c H1 locs1 cells slots Q (F0 m (pc + 3) ls (.int r :: rest))) : W p l e R s m args below meth c H locs cells slots Q (F0 m pc ls st0) := by
  have hPc := hP.sub (ws' := wc) isC (ct_mf _ _ _ hC)
  have hDc := hD.sub (ws' := wc) isC hCn hC
  have hFc := va_free (wc := wc) hD hS hA isC hC
  refine ct_goi (va_runV (As := As) (rest := rest) S (hM H.size) cw ⟨ct_blind, va_recv hK hPc hc he, fun U hU hW => ⟨rfl, by rw [hU], by rw [hU]; exact hPc, va_K.moved hW.alike hK, hDc.weaken (fun _ _ _ _ => trivial), ex_step hE hS hFc hU hW⟩⟩ rfl hAs hl hst (lv_room hroom) hdg hcl) hP hD hS hA isC isR isZ hC hR hn hdis hZ hnz kk

theorem ct_cSi {w0 wc wr w1 w2 : va_W} {r : Int32} {own : String} {index maxL nL n : Nat} {y : MethodName} {bytes : ByteArray} {ret : Option FieldType} {ws Ts : List Cond} {rm : Room} {As : List Value} (S : CallFix p m c cc nL s args Ts own) (hM : ct_I l y ws rm G tys As wc r w1) (cw : CallB R s args own index y bytes maxL ret ws rm 0 0 n ∧ (Cond.static y).before args s = true) (hE : ex G A s) (hK : va_K G.1 vwCl tys s) (hP : va_P G.1 vwCl w0 H) (hD : va_D A w0) (hS : va_S A s.heap H locs) (hA : ∀ q : Nat, s.heap.size ≤ q → A q) (isC isR isZ : List Nat) (hC : isC.map (fun i => w0[i]?) = wc.map some) (hCn : va_nd isC = true) (hR : isR.map (fun i => w0[i]?) = wr.map some) (hn : va_nd isR = true) (hdis : ∀ i ∈ isR, i ∉ isC) (hZ : isZ.map (fun i => (wr ++ w1)[i]?) = w2.map some) (hnz : va_nd isZ = true) (hAs : As.length = n) (hl : ls.size = nL) (hst : st0 = As.reverse ++ rest) (hroom : (rest.map fun v => v.category).sum ≤ 8) (hdg : decode cc pc = .ok (.invokestatic index, 3)) (hcl : cells ≤ R.cells ∧ slots ≤ R.slots)
    (kk : ∀ (H1 : Heap) (locs1 : List Loc), va_P G.1 vwCl w2 H1 → va_D A w2 → va_S A s.heap H1 locs1 → W p l e R s m args below meth c H1 locs1 cells slots Q (F0 m (pc + 3) ls (.int r :: rest))) : W p l e R s m args below meth c H locs cells slots Q (F0 m pc ls st0) := by
  have hPc := hP.sub (ws' := wc) isC (ct_mf _ _ _ hC)
  have hDc := hD.sub (ws' := wc) isC hCn hC
  have hFc := va_free (wc := wc) hD hS hA isC hC
  refine ct_goi (va_runS (As := As) (rest := rest) S (hM H.size) cw ⟨ct_blind, fun U hU hW => ⟨rfl, by rw [hU], by rw [hU]; exact hPc, va_K.moved hW.alike hK, hDc.weaken (fun _ _ _ _ => trivial), ex_step hE hS hFc hU hW⟩⟩ rfl hAs hl hst (lv_room hroom) hdg hcl) hP hD hS hA isC isR isZ hC hR hn hdis hZ hnz kk

theorem ct_gol {w0 wc wr w1 w2 : va_W} {r : Int64} {a : Array Value} {H0 : Heap} (hr : va_Run p l e R s m args below meth c H locs cells slots 0 0 (F0 m pc ls st0) rest (ct_ql G tys (va_A wc H.size) r w1 a) (va_A wc H.size)) (hP : va_P G.1 vwCl w0 H) (hD : va_D A w0) (hS : va_S A H0 H locs) (hA : ∀ q : Nat, H0.size ≤ q → A q) (isC isR isZ : List Nat) (hC : isC.map (fun i => w0[i]?) = wc.map some) (hR : isR.map (fun i => w0[i]?) = wr.map some) (hn : va_nd isR = true) (hdis : ∀ i ∈ isR, i ∉ isC) (hZ : isZ.map (fun i => (wr ++ w1)[i]?) = w2.map some) (hnz : va_nd isZ = true)
    (kk : ∀ (H1 : Heap) (locs1 : List Loc), va_P G.1 vwCl w2 H1 → va_D A w2 → va_S A H0 H1 locs1 → W p l e R s m args below meth c H1 locs1 cells slots Q (F0 m (pc + 3) ls (.long r :: rest))) : W p l e R s m args below meth c H locs cells slots Q (F0 m pc ls st0) := by
  have hFc := va_free (wc := wc) hD hS hA isC hC
  refine va_calll hr hS (fun q _ h => hFc q h) hFc (fun r' u t H1 locs1 ht hvm hw hB hz1 hk1 hS1 => ?_)
  subst hw
  obtain ⟨hP1, hK1, hD1⟩ := hB
  rw [ht] at hP1
  obtain ⟨hP2, hD2⟩ := va_join (wr := wr) (w1 := w1) hP hD isC isR hC hR hn hdis hk1 hFc hP1 hD1
  exact kk H1 locs1 (hP2.sub isZ (ct_mf _ _ _ hZ)) (hD2.sub isZ hnz hZ) hS1

theorem ct_cVl {w0 wc wr w1 w2 : va_W} {r : Int64} {own C : String} {b : Addr} {index maxL nL n : Nat} {y : MethodName} {bytes : ByteArray} {ret : Option FieldType} {ws Ts : List Cond} {rm : Room} {As : List Value} (S : CallFix p m c cc nL s args Ts own) (hM : ct_L l y ws rm G tys (.ref b :: As) wc r w1) (cw : CallW R s args own C index y bytes maxL ret ws rm 0 0 n) (hE : ex G A s) (hK : va_K G.1 vwCl tys s) (hP : va_P G.1 vwCl w0 H) (hD : va_D A w0) (hS : va_S A s.heap H locs) (hA : ∀ q : Nat, s.heap.size ≤ q → A q) (isC isR isZ : List Nat) (hC : isC.map (fun i => w0[i]?) = wc.map some) (hCn : va_nd isC = true) (hR : isR.map (fun i => w0[i]?) = wr.map some) (hn : va_nd isR = true) (hdis : ∀ i ∈ isR, i ∉ isC) (hZ : isZ.map (fun i => (wr ++ w1)[i]?) = w2.map some) (hnz : va_nd isZ = true) {ci q0 : Nat} {T : u_T} {N : Nat} {fs : List Value} (hc : vwCl[ci]? = some (C, T, N)) (he : wc[q0]? = some (b, .inr (ci, fs))) (hAs : As.length = n) (hl : ls.size = nL) (hst : st0 = As.reverse ++ .ref b :: rest) (hroom : (rest.map fun v => v.category).sum ≤ 8) (hdg : decode cc pc = .ok (.invokevirtual index, 3)) (hcl : cells ≤ R.cells ∧ slots ≤ R.slots)
    (kk : ∀ (H1 : Heap) (locs1 : List Loc), va_P G.1 vwCl w2 H1 → va_D A w2 → va_S A s.heap H1 locs1 → W p l e R s m args below meth c H1 locs1 cells slots Q (F0 m (pc + 3) ls (.long r :: rest))) : W p l e R s m args below meth c H locs cells slots Q (F0 m pc ls st0) := by
  have hPc := hP.sub (ws' := wc) isC (ct_mf _ _ _ hC)
  have hDc := hD.sub (ws' := wc) isC hCn hC
  have hFc := va_free (wc := wc) hD hS hA isC hC
  refine ct_gol (va_runV (As := As) (rest := rest) S (hM H.size) cw ⟨ct_blind, va_recv hK hPc hc he, fun U hU hW => ⟨rfl, by rw [hU], by rw [hU]; exact hPc, va_K.moved hW.alike hK, hDc.weaken (fun _ _ _ _ => trivial), ex_step hE hS hFc hU hW⟩⟩ rfl hAs hl hst (lv_room hroom) hdg hcl) hP hD hS hA isC isR isZ hC hR hn hdis hZ hnz kk

theorem ct_cSl {w0 wc wr w1 w2 : va_W} {r : Int64} {own : String} {index maxL nL n : Nat} {y : MethodName} {bytes : ByteArray} {ret : Option FieldType} {ws Ts : List Cond} {rm : Room} {As : List Value} (S : CallFix p m c cc nL s args Ts own) (hM : ct_L l y ws rm G tys As wc r w1) (cw : CallB R s args own index y bytes maxL ret ws rm 0 0 n ∧ (Cond.static y).before args s = true) (hE : ex G A s) (hK : va_K G.1 vwCl tys s) (hP : va_P G.1 vwCl w0 H) (hD : va_D A w0) (hS : va_S A s.heap H locs) (hA : ∀ q : Nat, s.heap.size ≤ q → A q) (isC isR isZ : List Nat) (hC : isC.map (fun i => w0[i]?) = wc.map some) (hCn : va_nd isC = true) (hR : isR.map (fun i => w0[i]?) = wr.map some) (hn : va_nd isR = true) (hdis : ∀ i ∈ isR, i ∉ isC) (hZ : isZ.map (fun i => (wr ++ w1)[i]?) = w2.map some) (hnz : va_nd isZ = true) (hAs : As.length = n) (hl : ls.size = nL) (hst : st0 = As.reverse ++ rest) (hroom : (rest.map fun v => v.category).sum ≤ 8) (hdg : decode cc pc = .ok (.invokestatic index, 3)) (hcl : cells ≤ R.cells ∧ slots ≤ R.slots)
    (kk : ∀ (H1 : Heap) (locs1 : List Loc), va_P G.1 vwCl w2 H1 → va_D A w2 → va_S A s.heap H1 locs1 → W p l e R s m args below meth c H1 locs1 cells slots Q (F0 m (pc + 3) ls (.long r :: rest))) : W p l e R s m args below meth c H locs cells slots Q (F0 m pc ls st0) := by
  have hPc := hP.sub (ws' := wc) isC (ct_mf _ _ _ hC)
  have hDc := hD.sub (ws' := wc) isC hCn hC
  have hFc := va_free (wc := wc) hD hS hA isC hC
  refine ct_gol (va_runS (As := As) (rest := rest) S (hM H.size) cw ⟨ct_blind, fun U hU hW => ⟨rfl, by rw [hU], by rw [hU]; exact hPc, va_K.moved hW.alike hK, hDc.weaken (fun _ _ _ _ => trivial), ex_step hE hS hFc hU hW⟩⟩ rfl hAs hl hst (lv_room hroom) hdg hcl) hP hD hS hA isC isR isZ hC hR hn hdis hZ hnz kk

theorem ct_gov {w0 wc wr w1 w2 : va_W} {a : Array Value} {H0 : Heap} (hr : va_Run p l e R s m args below meth c H locs cells slots 0 0 (F0 m pc ls st0) rest (ct_qv G tys (va_A wc H.size) w1 a) (va_A wc H.size)) (hP : va_P G.1 vwCl w0 H) (hD : va_D A w0) (hS : va_S A H0 H locs) (hA : ∀ q : Nat, H0.size ≤ q → A q) (isC isR isZ : List Nat) (hC : isC.map (fun i => w0[i]?) = wc.map some) (hR : isR.map (fun i => w0[i]?) = wr.map some) (hn : va_nd isR = true) (hdis : ∀ i ∈ isR, i ∉ isC) (hZ : isZ.map (fun i => (wr ++ w1)[i]?) = w2.map some) (hnz : va_nd isZ = true)
    (kk : ∀ (H1 : Heap) (locs1 : List Loc), va_P G.1 vwCl w2 H1 → va_D A w2 → va_S A H0 H1 locs1 → W p l e R s m args below meth c H1 locs1 cells slots Q (F0 m (pc + 3) ls (rest))) : W p l e R s m args below meth c H locs cells slots Q (F0 m pc ls st0) := by
  have hFc := va_free (wc := wc) hD hS hA isC hC
  refine va_callv hr hS (fun q _ h => hFc q h) hFc (fun u t H1 locs1 ht hvm hw hB hz1 hk1 hS1 => ?_)
  obtain ⟨hP1, hK1, hD1⟩ := hB
  rw [ht] at hP1
  obtain ⟨hP2, hD2⟩ := va_join (wr := wr) (w1 := w1) hP hD isC isR hC hR hn hdis hk1 hFc hP1 hD1
  exact kk H1 locs1 (hP2.sub isZ (ct_mf _ _ _ hZ)) (hD2.sub isZ hnz hZ) hS1

theorem ct_cVv {w0 wc wr w1 w2 : va_W} {own C : String} {b : Addr} {index maxL nL n : Nat} {y : MethodName} {bytes : ByteArray} {ret : Option FieldType} {ws Ts : List Cond} {rm : Room} {As : List Value} (S : CallFix p m c cc nL s args Ts own) (hM : ct_V l y ws rm G tys (.ref b :: As) wc w1) (cw : CallW R s args own C index y bytes maxL ret ws rm 0 0 n) (hE : ex G A s) (hK : va_K G.1 vwCl tys s) (hP : va_P G.1 vwCl w0 H) (hD : va_D A w0) (hS : va_S A s.heap H locs) (hA : ∀ q : Nat, s.heap.size ≤ q → A q) (isC isR isZ : List Nat) (hC : isC.map (fun i => w0[i]?) = wc.map some) (hCn : va_nd isC = true) (hR : isR.map (fun i => w0[i]?) = wr.map some) (hn : va_nd isR = true) (hdis : ∀ i ∈ isR, i ∉ isC) (hZ : isZ.map (fun i => (wr ++ w1)[i]?) = w2.map some) (hnz : va_nd isZ = true) {ci q0 : Nat} {T : u_T} {N : Nat} {fs : List Value} (hc : vwCl[ci]? = some (C, T, N)) (he : wc[q0]? = some (b, .inr (ci, fs))) (hAs : As.length = n) (hl : ls.size = nL) (hst : st0 = As.reverse ++ .ref b :: rest) (hroom : (rest.map fun v => v.category).sum ≤ 8) (hdg : decode cc pc = .ok (.invokevirtual index, 3)) (hcl : cells ≤ R.cells ∧ slots ≤ R.slots)
    (kk : ∀ (H1 : Heap) (locs1 : List Loc), va_P G.1 vwCl w2 H1 → va_D A w2 → va_S A s.heap H1 locs1 → W p l e R s m args below meth c H1 locs1 cells slots Q (F0 m (pc + 3) ls (rest))) : W p l e R s m args below meth c H locs cells slots Q (F0 m pc ls st0) := by
  have hPc := hP.sub (ws' := wc) isC (ct_mf _ _ _ hC)
  have hDc := hD.sub (ws' := wc) isC hCn hC
  have hFc := va_free (wc := wc) hD hS hA isC hC
  refine ct_gov (va_runV (As := As) (rest := rest) S (hM H.size) cw ⟨ct_blind, va_recv hK hPc hc he, fun U hU hW => ⟨rfl, by rw [hU], by rw [hU]; exact hPc, va_K.moved hW.alike hK, hDc.weaken (fun _ _ _ _ => trivial), ex_step hE hS hFc hU hW⟩⟩ rfl hAs hl hst (lv_room hroom) hdg hcl) hP hD hS hA isC isR isZ hC hR hn hdis hZ hnz kk

theorem ct_cSv {w0 wc wr w1 w2 : va_W} {own : String} {index maxL nL n : Nat} {y : MethodName} {bytes : ByteArray} {ret : Option FieldType} {ws Ts : List Cond} {rm : Room} {As : List Value} (S : CallFix p m c cc nL s args Ts own) (hM : ct_V l y ws rm G tys As wc w1) (cw : CallB R s args own index y bytes maxL ret ws rm 0 0 n ∧ (Cond.static y).before args s = true) (hE : ex G A s) (hK : va_K G.1 vwCl tys s) (hP : va_P G.1 vwCl w0 H) (hD : va_D A w0) (hS : va_S A s.heap H locs) (hA : ∀ q : Nat, s.heap.size ≤ q → A q) (isC isR isZ : List Nat) (hC : isC.map (fun i => w0[i]?) = wc.map some) (hCn : va_nd isC = true) (hR : isR.map (fun i => w0[i]?) = wr.map some) (hn : va_nd isR = true) (hdis : ∀ i ∈ isR, i ∉ isC) (hZ : isZ.map (fun i => (wr ++ w1)[i]?) = w2.map some) (hnz : va_nd isZ = true) (hAs : As.length = n) (hl : ls.size = nL) (hst : st0 = As.reverse ++ rest) (hroom : (rest.map fun v => v.category).sum ≤ 8) (hdg : decode cc pc = .ok (.invokestatic index, 3)) (hcl : cells ≤ R.cells ∧ slots ≤ R.slots)
    (kk : ∀ (H1 : Heap) (locs1 : List Loc), va_P G.1 vwCl w2 H1 → va_D A w2 → va_S A s.heap H1 locs1 → W p l e R s m args below meth c H1 locs1 cells slots Q (F0 m (pc + 3) ls (rest))) : W p l e R s m args below meth c H locs cells slots Q (F0 m pc ls st0) := by
  have hPc := hP.sub (ws' := wc) isC (ct_mf _ _ _ hC)
  have hDc := hD.sub (ws' := wc) isC hCn hC
  have hFc := va_free (wc := wc) hD hS hA isC hC
  refine ct_gov (va_runS (As := As) (rest := rest) S (hM H.size) cw ⟨ct_blind, fun U hU hW => ⟨rfl, by rw [hU], by rw [hU]; exact hPc, va_K.moved hW.alike hK, hDc.weaken (fun _ _ _ _ => trivial), ex_step hE hS hFc hU hW⟩⟩ rfl hAs hl hst (lv_room hroom) hdg hcl) hP hD hS hA isC isR isZ hC hR hn hdis hZ hnz kk

theorem ct_rn {Sg : Type} {tys1 : Sg → List (ClassId × FieldType)} {wn : Sg → va_W} (hx : p.tables.exec = Jvm.exec) (hb : c.code = cc) (hr : meth.sig.returnType = none) (hlocks : meth.locks = false) (u : Sg) {w9 : va_W} {tys9 : List (ClassId × FieldType)} (hP : va_P G.1 vwCl w9 H) (hD : va_D A w9) (hK : va_K G.1 vwCl tys9 s) (hS : va_S A s.heap H locs) (hdg : decode cc pc = .ok (.return_, 1)) (hw : w9 = wn u) (ht9 : tys9 = tys1 u) :
    W p l e R s m args below meth c H locs cells slots (MQ below (ct_qn G A tys1 wn) args s cells slots A) (F0 m pc ls []) := by
  subst hw
  subst ht9
  exact W.vret hx hb hr (fun t ht hW => ⟨⟨u, rfl, trivial, by rw [ht]; exact hP, va_K.moved hW.alike hK, hD⟩, hS.F ht⟩) hS.2.2 hdg hlocks
theorem ct_gon {Sg : Type} {tys1 : Sg → List (ClassId × FieldType)} {wn : Sg → va_W} {w0 wc wr : va_W} {mc ms : Nat} {a : Array Value} {H0 : Heap} (hr : va_Run p l e R s m args below meth c H locs cells slots mc ms (F0 m pc ls st0) rest (ct_qn G (va_A wc H.size) tys1 wn a) (va_A wc H.size)) (hP : va_P G.1 vwCl w0 H) (hD : va_D A w0) (hS : va_S A H0 H locs) (hA : ∀ q : Nat, H0.size ≤ q → A q) (isC isR : List Nat) (hC : isC.map (fun i => w0[i]?) = wc.map some) (hR : isR.map (fun i => w0[i]?) = wr.map some) (hn : va_nd isR = true) (hdis : ∀ i ∈ isR, i ∉ isC)
    (kk : ∀ (u : Sg) (H1 : Heap) (locs1 : List Loc), va_P G.1 vwCl (wr ++ wn u) H1 → va_D A (wr ++ wn u) → va_K G.1 vwCl (tys1 u) s → va_S A H0 H1 locs1 → W p l e R s m args below meth c H1 locs1 (cells + mc) (slots + ms) Q (F0 m (pc + 3) ls rest)) : W p l e R s m args below meth c H locs cells slots Q (F0 m pc ls st0) := by
  have hFc := va_free (wc := wc) hD hS hA isC hC
  refine va_callv hr hS (fun q _ h => hFc q h) hFc (fun u t H1 locs1 ht hvm hw hB hz1 hk1 hS1 => ?_)
  obtain ⟨hP1, hK1, hD1⟩ := hB
  rw [ht] at hP1
  have hK1 := va_K.moved hvm.symm hK1
  obtain ⟨hP2, hD2⟩ := va_join (wr := wr) (w1 := wn u) hP hD isC isR hC hR hn hdis hk1 hFc hP1 hD1
  exact kk u H1 locs1 hP2 hD2 hK1 hS1
theorem ct_preI {w0 wc : va_W} {As : List Value} (hE : ex G A s) (hK : va_K G.1 vwCl tys s) (hP : va_P G.1 vwCl w0 H) (hD : va_D A w0) (hS : va_S A s.heap H locs) (hA : ∀ q : Nat, s.heap.size ≤ q → A q) (isC : List Nat) (hC : isC.map (fun i => w0[i]?) = wc.map some) (hCn : va_nd isC = true) : PreS s H (ct_pre G tys As wc H.size) As := by
  have hPc := hP.sub (ws' := wc) isC (ct_mf _ _ _ hC)
  have hDc := hD.sub (ws' := wc) isC hCn hC
  have hFc := va_free (wc := wc) hD hS hA isC hC
  exact ⟨ct_blind, fun U hU hW => ⟨rfl, by rw [hU], by rw [hU]; exact hPc, va_K.moved hW.alike hK, hDc.weaken (fun _ _ _ _ => trivial), ex_step hE hS hFc hU hW⟩⟩
end CTC
/-- x != 0 as a boolean -/
def bz (x : Int32) : Bool := if x = 0 then false else true
section LWN
variable {p : Program} {l : Launch} {e : Env} {R : Room} {s : State} {m : MethodId} {args : Array Value} {below : List Frame} {meth : Method} {c : Code} {H : Heap} {locs : List Loc} {cells slots : Nat} {Q : State → Prop}
theorem lw_nz {cc : ByteArray} {pc : Nat} {ls : Array Slot} {rest : List Value} {v : Int32} (hx : p.tables.exec = Jvm.exec) (hb : c.code = cc) (d1 : decode cc pc = .ok (.ifCond .eq 7, 3)) (d2 : decode cc (pc + 3) = .ok (.iconst 1, 1)) (d3 : decode cc (pc + 4) = .ok (.goto 4, 3)) (d4 : decode cc (pc + 7) = .ok (.iconst 0, 1))
    (k : W p l e R s m args below meth c H locs cells slots Q (F0 m (pc + 8) ls (.int (bI (bz v)) :: rest))) : W p l e R s m args below meth c H locs cells slots Q (F0 m pc ls (.int v :: rest)) := by
  refine lv_if_eq (tgt := pc + 7) hx hb d1 (by omega) (fun h => ?_) (fun h => ?_)
  · refine lv_iconst (v := 0) hx hb d4 (by decide) ?_
    have e1 : bI (bz v) = 0 := by rw [bz, if_pos h]; rfl
    rw [e1] at k
    exact k
  · refine lv_iconst (v := 1) hx hb d2 (by decide) ?_
    refine lv_goto (tgt := pc + 8) hx hb d3 (by omega) ?_
    have e1 : bI (bz v) = 1 := by rw [bz, if_neg h]; rfl
    rw [e1] at k
    exact k
end LWN
theorem in256 {x : Int32} (h0 : ¬ x < 0) (h : ¬ (256 : Int32) ≤ x) : vp_in x 256 := by
  rcases pk_ix x (n := 256) (by decide) with h1 | h1 | ⟨j, hj, rfl⟩
  · exact absurd h1 h0
  · exact absurd h1 h
  · exact vp_in_nI hj (by decide)
end
section
abbrev y_Desk_init : MethodName := ⟨"TrapDesk", "<init>", "()V"⟩
abbrev cc_Desk_init : ByteArray := prog_1_method_1_code
abbrev ws_Desk_init : List Cond := Cond.code y_Desk_init cc_Desk_init 1 none :: gtb
theorem d_Desk_init_0 : decode cc_Desk_init 0 = .ok (.aload_n 0, 1) := by decide +kernel
theorem d_Desk_init_1 : decode cc_Desk_init 1 = .ok (.invokespecial 3, 3) := by decide +kernel
theorem d_Desk_init_4 : decode cc_Desk_init 4 = .ok (.aload_n 0, 1) := by decide +kernel
theorem d_Desk_init_5 : decode cc_Desk_init 5 = .ok (.new 9, 3) := by decide +kernel
theorem d_Desk_init_8 : decode cc_Desk_init 8 = .ok (.dup, 1) := by decide +kernel
theorem d_Desk_init_9 : decode cc_Desk_init 9 = .ok (.invokespecial 11, 3) := by decide +kernel
theorem d_Desk_init_12 : decode cc_Desk_init 12 = .ok (.putfield 12, 3) := by decide +kernel
theorem d_Desk_init_15 : decode cc_Desk_init 15 = .ok (.aload_n 0, 1) := by decide +kernel
theorem d_Desk_init_16 : decode cc_Desk_init 16 = .ok (.aload_n 0, 1) := by decide +kernel
theorem d_Desk_init_17 : decode cc_Desk_init 17 = .ok (.getfield 12, 3) := by decide +kernel
theorem d_Desk_init_20 : decode cc_Desk_init 20 = .ok (.getfield 16, 3) := by decide +kernel
theorem d_Desk_init_23 : decode cc_Desk_init 23 = .ok (.putfield 20, 3) := by decide +kernel
theorem d_Desk_init_26 : decode cc_Desk_init 26 = .ok (.aload_n 0, 1) := by decide +kernel
theorem d_Desk_init_27 : decode cc_Desk_init 27 = .ok (.new 21, 3) := by decide +kernel
theorem d_Desk_init_30 : decode cc_Desk_init 30 = .ok (.dup, 1) := by decide +kernel
theorem d_Desk_init_31 : decode cc_Desk_init 31 = .ok (.invokespecial 23, 3) := by decide +kernel
theorem d_Desk_init_34 : decode cc_Desk_init 34 = .ok (.putfield 24, 3) := by decide +kernel
theorem d_Desk_init_37 : decode cc_Desk_init 37 = .ok (.aload_n 0, 1) := by decide +kernel
theorem d_Desk_init_38 : decode cc_Desk_init 38 = .ok (.iconst 1, 1) := by decide +kernel
theorem d_Desk_init_39 : decode cc_Desk_init 39 = .ok (.putfield 28, 3) := by decide +kernel
theorem d_Desk_init_42 : decode cc_Desk_init 42 = .ok (.return_, 1) := by decide +kernel
abbrev y_Desk_begin : MethodName := ⟨"TrapDesk", "begin", "()V"⟩
abbrev cc_Desk_begin : ByteArray := prog_1_method_2_code
abbrev ws_Desk_begin : List Cond := Cond.code y_Desk_begin cc_Desk_begin 1 none :: gtb
theorem d_Desk_begin_0 : decode cc_Desk_begin 0 = .ok (.aload_n 0, 1) := by decide +kernel
theorem d_Desk_begin_1 : decode cc_Desk_begin 1 = .ok (.getfield 12, 3) := by decide +kernel
theorem d_Desk_begin_4 : decode cc_Desk_begin 4 = .ok (.invokevirtual 32, 3) := by decide +kernel
theorem d_Desk_begin_7 : decode cc_Desk_begin 7 = .ok (.aload_n 0, 1) := by decide +kernel
theorem d_Desk_begin_8 : decode cc_Desk_begin 8 = .ok (.getfield 24, 3) := by decide +kernel
theorem d_Desk_begin_11 : decode cc_Desk_begin 11 = .ok (.invokevirtual 35, 3) := by decide +kernel
theorem d_Desk_begin_14 : decode cc_Desk_begin 14 = .ok (.aload_n 0, 1) := by decide +kernel
theorem d_Desk_begin_15 : decode cc_Desk_begin 15 = .ok (.iconst 1, 1) := by decide +kernel
theorem d_Desk_begin_16 : decode cc_Desk_begin 16 = .ok (.putfield 28, 3) := by decide +kernel
theorem d_Desk_begin_19 : decode cc_Desk_begin 19 = .ok (.aload_n 0, 1) := by decide +kernel
theorem d_Desk_begin_20 : decode cc_Desk_begin 20 = .ok (.iconst 0, 1) := by decide +kernel
theorem d_Desk_begin_21 : decode cc_Desk_begin 21 = .ok (.putfield 36, 3) := by decide +kernel
theorem d_Desk_begin_24 : decode cc_Desk_begin 24 = .ok (.aload_n 0, 1) := by decide +kernel
theorem d_Desk_begin_25 : decode cc_Desk_begin 25 = .ok (.iconst 0, 1) := by decide +kernel
theorem d_Desk_begin_26 : decode cc_Desk_begin 26 = .ok (.putfield 39, 3) := by decide +kernel
theorem d_Desk_begin_29 : decode cc_Desk_begin 29 = .ok (.aload_n 0, 1) := by decide +kernel
theorem d_Desk_begin_30 : decode cc_Desk_begin 30 = .ok (.iconst 0, 1) := by decide +kernel
theorem d_Desk_begin_31 : decode cc_Desk_begin 31 = .ok (.putfield 42, 3) := by decide +kernel
theorem d_Desk_begin_34 : decode cc_Desk_begin 34 = .ok (.aload_n 0, 1) := by decide +kernel
theorem d_Desk_begin_35 : decode cc_Desk_begin 35 = .ok (.iconst 0, 1) := by decide +kernel
theorem d_Desk_begin_36 : decode cc_Desk_begin 36 = .ok (.putfield 45, 3) := by decide +kernel
theorem d_Desk_begin_39 : decode cc_Desk_begin 39 = .ok (.return_, 1) := by decide +kernel
abbrev y_Desk_mode : MethodName := ⟨"TrapDesk", "mode", "(I)I"⟩
abbrev cc_Desk_mode : ByteArray := prog_1_method_3_code
abbrev ws_Desk_mode : List Cond := Cond.code y_Desk_mode cc_Desk_mode 3 (some .int) :: gtb
theorem d_Desk_mode_0 : decode cc_Desk_mode 0 = .ok (.iload_n 1, 1) := by decide +kernel
theorem d_Desk_mode_1 : decode cc_Desk_mode 1 = .ok (.ifCond .lt 8, 3) := by decide +kernel
theorem d_Desk_mode_4 : decode cc_Desk_mode 4 = .ok (.iload_n 1, 1) := by decide +kernel
theorem d_Desk_mode_5 : decode cc_Desk_mode 5 = .ok (.iconst 3, 1) := by decide +kernel
theorem d_Desk_mode_6 : decode cc_Desk_mode 6 = .ok (.if_icmp .le 5, 3) := by decide +kernel
theorem d_Desk_mode_9 : decode cc_Desk_mode 9 = .ok (.iconst (-1), 1) := by decide +kernel
theorem d_Desk_mode_10 : decode cc_Desk_mode 10 = .ok (.ireturn, 1) := by decide +kernel
theorem d_Desk_mode_11 : decode cc_Desk_mode 11 = .ok (.aload_n 0, 1) := by decide +kernel
theorem d_Desk_mode_12 : decode cc_Desk_mode 12 = .ok (.getfield 28, 3) := by decide +kernel
theorem d_Desk_mode_15 : decode cc_Desk_mode 15 = .ok (.istore_n 2, 1) := by decide +kernel
theorem d_Desk_mode_16 : decode cc_Desk_mode 16 = .ok (.aload_n 0, 1) := by decide +kernel
theorem d_Desk_mode_17 : decode cc_Desk_mode 17 = .ok (.iload_n 1, 1) := by decide +kernel
theorem d_Desk_mode_18 : decode cc_Desk_mode 18 = .ok (.putfield 28, 3) := by decide +kernel
theorem d_Desk_mode_21 : decode cc_Desk_mode 21 = .ok (.iload_n 2, 1) := by decide +kernel
theorem d_Desk_mode_22 : decode cc_Desk_mode 22 = .ok (.ireturn, 1) := by decide +kernel
abbrev y_Desk_go : MethodName := ⟨"TrapDesk", "go", "(I)I"⟩
abbrev cc_Desk_go : ByteArray := prog_1_method_4_code
abbrev ws_Desk_go : List Cond := Cond.code y_Desk_go cc_Desk_go 2 (some .int) :: gtb
theorem d_Desk_go_0 : decode cc_Desk_go 0 = .ok (.iload_n 1, 1) := by decide +kernel
theorem d_Desk_go_1 : decode cc_Desk_go 1 = .ok (.iconst 3, 1) := by decide +kernel
theorem d_Desk_go_2 : decode cc_Desk_go 2 = .ok (.iand, 1) := by decide +kernel
theorem d_Desk_go_3 : decode cc_Desk_go 3 = .ok (.ifCond .eq 5, 3) := by decide +kernel
theorem d_Desk_go_6 : decode cc_Desk_go 6 = .ok (.iconst (-1), 1) := by decide +kernel
theorem d_Desk_go_7 : decode cc_Desk_go 7 = .ok (.ireturn, 1) := by decide +kernel
theorem d_Desk_go_8 : decode cc_Desk_go 8 = .ok (.aload_n 0, 1) := by decide +kernel
theorem d_Desk_go_9 : decode cc_Desk_go 9 = .ok (.iload_n 1, 1) := by decide +kernel
theorem d_Desk_go_10 : decode cc_Desk_go 10 = .ok (.putfield 36, 3) := by decide +kernel
theorem d_Desk_go_13 : decode cc_Desk_go 13 = .ok (.iconst 0, 1) := by decide +kernel
theorem d_Desk_go_14 : decode cc_Desk_go 14 = .ok (.ireturn, 1) := by decide +kernel
abbrev y_Desk_put : MethodName := ⟨"TrapDesk", "put", "(II)I"⟩
abbrev cc_Desk_put : ByteArray := prog_1_method_5_code
abbrev ws_Desk_put : List Cond := Cond.code y_Desk_put cc_Desk_put 3 (some .int) :: gtb
theorem d_Desk_put_0 : decode cc_Desk_put 0 = .ok (.iload_n 1, 1) := by decide +kernel
theorem d_Desk_put_1 : decode cc_Desk_put 1 = .ok (.invokestatic 48, 3) := by decide +kernel
theorem d_Desk_put_4 : decode cc_Desk_put 4 = .ok (.ifCond .eq 10, 3) := by decide +kernel
theorem d_Desk_put_7 : decode cc_Desk_put 7 = .ok (.iload_n 1, 1) := by decide +kernel
theorem d_Desk_put_8 : decode cc_Desk_put 8 = .ok (.invokestatic 54, 3) := by decide +kernel
theorem d_Desk_put_11 : decode cc_Desk_put 11 = .ok (.ifCond .eq 5, 3) := by decide +kernel
theorem d_Desk_put_14 : decode cc_Desk_put 14 = .ok (.iconst (-1), 1) := by decide +kernel
theorem d_Desk_put_15 : decode cc_Desk_put 15 = .ok (.ireturn, 1) := by decide +kernel
theorem d_Desk_put_16 : decode cc_Desk_put 16 = .ok (.aload_n 0, 1) := by decide +kernel
theorem d_Desk_put_17 : decode cc_Desk_put 17 = .ok (.getfield 12, 3) := by decide +kernel
theorem d_Desk_put_20 : decode cc_Desk_put 20 = .ok (.iload_n 1, 1) := by decide +kernel
theorem d_Desk_put_21 : decode cc_Desk_put 21 = .ok (.iload_n 2, 1) := by decide +kernel
theorem d_Desk_put_22 : decode cc_Desk_put 22 = .ok (.invokevirtual 57, 3) := by decide +kernel
theorem d_Desk_put_25 : decode cc_Desk_put 25 = .ok (.iconst 0, 1) := by decide +kernel
theorem d_Desk_put_26 : decode cc_Desk_put 26 = .ok (.ireturn, 1) := by decide +kernel
abbrev y_Desk_get : MethodName := ⟨"TrapDesk", "get", "(I)I"⟩
abbrev cc_Desk_get : ByteArray := prog_1_method_6_code
abbrev ws_Desk_get : List Cond := Cond.code y_Desk_get cc_Desk_get 2 (some .int) :: gtb
theorem d_Desk_get_0 : decode cc_Desk_get 0 = .ok (.aload_n 0, 1) := by decide +kernel
theorem d_Desk_get_1 : decode cc_Desk_get 1 = .ok (.getfield 12, 3) := by decide +kernel
theorem d_Desk_get_4 : decode cc_Desk_get 4 = .ok (.iload_n 1, 1) := by decide +kernel
theorem d_Desk_get_5 : decode cc_Desk_get 5 = .ok (.invokevirtual 61, 3) := by decide +kernel
theorem d_Desk_get_8 : decode cc_Desk_get 8 = .ok (.ireturn, 1) := by decide +kernel
abbrev y_Desk_time : MethodName := ⟨"TrapDesk", "time", "(J)J"⟩
abbrev cc_Desk_time : ByteArray := prog_1_method_7_code
abbrev ws_Desk_time : List Cond := Cond.code y_Desk_time cc_Desk_time 5 (some .long) :: gtb
theorem d_Desk_time_0 : decode cc_Desk_time 0 = .ok (.lload_n 1, 1) := by decide +kernel
theorem d_Desk_time_1 : decode cc_Desk_time 1 = .ok (.lconst 0, 1) := by decide +kernel
theorem d_Desk_time_2 : decode cc_Desk_time 2 = .ok (.lcmp, 1) := by decide +kernel
theorem d_Desk_time_3 : decode cc_Desk_time 3 = .ok (.ifCond .ge 7, 3) := by decide +kernel
theorem d_Desk_time_6 : decode cc_Desk_time 6 = .ok (.ldc2_w 65, 3) := by decide +kernel
theorem d_Desk_time_9 : decode cc_Desk_time 9 = .ok (.lreturn, 1) := by decide +kernel
theorem d_Desk_time_10 : decode cc_Desk_time 10 = .ok (.aload_n 0, 1) := by decide +kernel
theorem d_Desk_time_11 : decode cc_Desk_time 11 = .ok (.getfield 20, 3) := by decide +kernel
theorem d_Desk_time_14 : decode cc_Desk_time 14 = .ok (.getfield 67, 3) := by decide +kernel
theorem d_Desk_time_17 : decode cc_Desk_time 17 = .ok (.lstore_n 3, 1) := by decide +kernel
theorem d_Desk_time_18 : decode cc_Desk_time 18 = .ok (.aload_n 0, 1) := by decide +kernel
theorem d_Desk_time_19 : decode cc_Desk_time 19 = .ok (.getfield 20, 3) := by decide +kernel
theorem d_Desk_time_22 : decode cc_Desk_time 22 = .ok (.lload_n 1, 1) := by decide +kernel
theorem d_Desk_time_23 : decode cc_Desk_time 23 = .ok (.putfield 67, 3) := by decide +kernel
theorem d_Desk_time_26 : decode cc_Desk_time 26 = .ok (.lload_n 3, 1) := by decide +kernel
theorem d_Desk_time_27 : decode cc_Desk_time 27 = .ok (.lreturn, 1) := by decide +kernel
abbrev y_Desk_line : MethodName := ⟨"TrapDesk", "line", "(Z)Z"⟩
abbrev cc_Desk_line : ByteArray := prog_1_method_8_code
abbrev ws_Desk_line : List Cond := Cond.code y_Desk_line cc_Desk_line 3 (some .boolean) :: gtb
theorem d_Desk_line_0 : decode cc_Desk_line 0 = .ok (.aload_n 0, 1) := by decide +kernel
theorem d_Desk_line_1 : decode cc_Desk_line 1 = .ok (.getfield 20, 3) := by decide +kernel
theorem d_Desk_line_4 : decode cc_Desk_line 4 = .ok (.getfield 73, 3) := by decide +kernel
theorem d_Desk_line_7 : decode cc_Desk_line 7 = .ok (.istore_n 2, 1) := by decide +kernel
theorem d_Desk_line_8 : decode cc_Desk_line 8 = .ok (.aload_n 0, 1) := by decide +kernel
theorem d_Desk_line_9 : decode cc_Desk_line 9 = .ok (.getfield 20, 3) := by decide +kernel
theorem d_Desk_line_12 : decode cc_Desk_line 12 = .ok (.iload_n 1, 1) := by decide +kernel
theorem d_Desk_line_13 : decode cc_Desk_line 13 = .ok (.putfield 73, 3) := by decide +kernel
theorem d_Desk_line_16 : decode cc_Desk_line 16 = .ok (.iload_n 2, 1) := by decide +kernel
theorem d_Desk_line_17 : decode cc_Desk_line 17 = .ok (.ireturn, 1) := by decide +kernel
abbrev y_Desk_set : MethodName := ⟨"TrapDesk", "set", "(II)I"⟩
abbrev cc_Desk_set : ByteArray := prog_1_method_9_code
abbrev ws_Desk_set : List Cond := Cond.code y_Desk_set cc_Desk_set 4 (some .int) :: gtb
theorem d_Desk_set_0 : decode cc_Desk_set 0 = .ok (.aload_n 0, 1) := by decide +kernel
theorem d_Desk_set_1 : decode cc_Desk_set 1 = .ok (.getfield 24, 3) := by decide +kernel
theorem d_Desk_set_4 : decode cc_Desk_set 4 = .ok (.iload_n 1, 1) := by decide +kernel
theorem d_Desk_set_5 : decode cc_Desk_set 5 = .ok (.invokevirtual 77, 3) := by decide +kernel
theorem d_Desk_set_8 : decode cc_Desk_set 8 = .ok (.istore_n 3, 1) := by decide +kernel
theorem d_Desk_set_9 : decode cc_Desk_set 9 = .ok (.aload_n 0, 1) := by decide +kernel
theorem d_Desk_set_10 : decode cc_Desk_set 10 = .ok (.getfield 24, 3) := by decide +kernel
theorem d_Desk_set_13 : decode cc_Desk_set 13 = .ok (.iload_n 1, 1) := by decide +kernel
theorem d_Desk_set_14 : decode cc_Desk_set 14 = .ok (.iload_n 2, 1) := by decide +kernel
theorem d_Desk_set_15 : decode cc_Desk_set 15 = .ok (.invokevirtual 78, 3) := by decide +kernel
theorem d_Desk_set_18 : decode cc_Desk_set 18 = .ok (.iload_n 3, 1) := by decide +kernel
theorem d_Desk_set_19 : decode cc_Desk_set 19 = .ok (.ireturn, 1) := by decide +kernel
abbrev y_Desk_register : MethodName := ⟨"TrapDesk", "register", "(I)I"⟩
abbrev cc_Desk_register : ByteArray := prog_1_method_10_code
abbrev ws_Desk_register : List Cond := Cond.code y_Desk_register cc_Desk_register 2 (some .int) :: gtb
theorem d_Desk_register_0 : decode cc_Desk_register 0 = .ok (.aload_n 0, 1) := by decide +kernel
theorem d_Desk_register_1 : decode cc_Desk_register 1 = .ok (.getfield 24, 3) := by decide +kernel
theorem d_Desk_register_4 : decode cc_Desk_register 4 = .ok (.iload_n 1, 1) := by decide +kernel
theorem d_Desk_register_5 : decode cc_Desk_register 5 = .ok (.invokevirtual 77, 3) := by decide +kernel
theorem d_Desk_register_8 : decode cc_Desk_register 8 = .ok (.ireturn, 1) := by decide +kernel
abbrev y_Desk_doWord : MethodName := ⟨"TrapDesk", "doWord", "(I)I"⟩
abbrev cc_Desk_doWord : ByteArray := prog_1_method_11_code
abbrev ws_Desk_doWord : List Cond := Cond.code y_Desk_doWord cc_Desk_doWord 3 (some .int) :: gtb
theorem d_Desk_doWord_0 : decode cc_Desk_doWord 0 = .ok (.aload_n 0, 1) := by decide +kernel
theorem d_Desk_doWord_1 : decode cc_Desk_doWord 1 = .ok (.getfield 20, 3) := by decide +kernel
theorem d_Desk_doWord_4 : decode cc_Desk_doWord 4 = .ok (.getfield 79, 3) := by decide +kernel
theorem d_Desk_doWord_7 : decode cc_Desk_doWord 7 = .ok (.ifCond .eq 6, 3) := by decide +kernel
theorem d_Desk_doWord_10 : decode cc_Desk_doWord 10 = .ok (.bipush (-3), 2) := by decide +kernel
theorem d_Desk_doWord_12 : decode cc_Desk_doWord 12 = .ok (.ireturn, 1) := by decide +kernel
theorem d_Desk_doWord_13 : decode cc_Desk_doWord 13 = .ok (.aload_n 0, 1) := by decide +kernel
theorem d_Desk_doWord_14 : decode cc_Desk_doWord 14 = .ok (.iload_n 1, 1) := by decide +kernel
theorem d_Desk_doWord_15 : decode cc_Desk_doWord 15 = .ok (.invokevirtual 82, 3) := by decide +kernel
theorem d_Desk_doWord_18 : decode cc_Desk_doWord 18 = .ok (.istore_n 2, 1) := by decide +kernel
theorem d_Desk_doWord_19 : decode cc_Desk_doWord 19 = .ok (.iload_n 2, 1) := by decide +kernel
theorem d_Desk_doWord_20 : decode cc_Desk_doWord 20 = .ok (.ifCond .lt 17, 3) := by decide +kernel
theorem d_Desk_doWord_23 : decode cc_Desk_doWord 23 = .ok (.aload_n 0, 1) := by decide +kernel
theorem d_Desk_doWord_24 : decode cc_Desk_doWord 24 = .ok (.iload_n 2, 1) := by decide +kernel
theorem d_Desk_doWord_25 : decode cc_Desk_doWord 25 = .ok (.aload_n 0, 1) := by decide +kernel
theorem d_Desk_doWord_26 : decode cc_Desk_doWord 26 = .ok (.iload_n 2, 1) := by decide +kernel
theorem d_Desk_doWord_27 : decode cc_Desk_doWord 27 = .ok (.iload_n 1, 1) := by decide +kernel
theorem d_Desk_doWord_28 : decode cc_Desk_doWord 28 = .ok (.invokevirtual 85, 3) := by decide +kernel
theorem d_Desk_doWord_31 : decode cc_Desk_doWord 31 = .ok (.iconst 0, 1) := by decide +kernel
theorem d_Desk_doWord_32 : decode cc_Desk_doWord 32 = .ok (.iconst 0, 1) := by decide +kernel
theorem d_Desk_doWord_33 : decode cc_Desk_doWord 33 = .ok (.iconst 0, 1) := by decide +kernel
theorem d_Desk_doWord_34 : decode cc_Desk_doWord 34 = .ok (.invokevirtual 89, 3) := by decide +kernel
theorem d_Desk_doWord_37 : decode cc_Desk_doWord 37 = .ok (.iload_n 2, 1) := by decide +kernel
theorem d_Desk_doWord_38 : decode cc_Desk_doWord 38 = .ok (.ireturn, 1) := by decide +kernel
abbrev y_Desk_fail : MethodName := ⟨"TrapDesk", "fail", "(IIZJZ)I"⟩
abbrev cc_Desk_fail : ByteArray := prog_1_method_12_code
abbrev ws_Desk_fail : List Cond := Cond.code y_Desk_fail cc_Desk_fail 7 (some .int) :: gtb
theorem d_Desk_fail_0 : decode cc_Desk_fail 0 = .ok (.ldc 93, 2) := by decide +kernel
theorem d_Desk_fail_2 : decode cc_Desk_fail 2 = .ok (.iload_n 1, 1) := by decide +kernel
theorem d_Desk_fail_3 : decode cc_Desk_fail 3 = .ok (.invokestatic 94, 3) := by decide +kernel
theorem d_Desk_fail_6 : decode cc_Desk_fail 6 = .ok (.ifCond .eq 19, 3) := by decide +kernel
theorem d_Desk_fail_9 : decode cc_Desk_fail 9 = .ok (.lload 4, 2) := by decide +kernel
theorem d_Desk_fail_11 : decode cc_Desk_fail 11 = .ok (.lconst 0, 1) := by decide +kernel
theorem d_Desk_fail_12 : decode cc_Desk_fail 12 = .ok (.lcmp, 1) := by decide +kernel
theorem d_Desk_fail_13 : decode cc_Desk_fail 13 = .ok (.ifCond .lt 12, 3) := by decide +kernel
theorem d_Desk_fail_16 : decode cc_Desk_fail 16 = .ok (.lload 4, 2) := by decide +kernel
theorem d_Desk_fail_18 : decode cc_Desk_fail 18 = .ok (.ldc2_w 98, 3) := by decide +kernel
theorem d_Desk_fail_21 : decode cc_Desk_fail 21 = .ok (.lcmp, 1) := by decide +kernel
theorem d_Desk_fail_22 : decode cc_Desk_fail 22 = .ok (.ifCond .lt 5, 3) := by decide +kernel
theorem d_Desk_fail_25 : decode cc_Desk_fail 25 = .ok (.iconst (-1), 1) := by decide +kernel
theorem d_Desk_fail_26 : decode cc_Desk_fail 26 = .ok (.ireturn, 1) := by decide +kernel
theorem d_Desk_fail_27 : decode cc_Desk_fail 27 = .ok (.aload_n 0, 1) := by decide +kernel
theorem d_Desk_fail_28 : decode cc_Desk_fail 28 = .ok (.getfield 20, 3) := by decide +kernel
theorem d_Desk_fail_31 : decode cc_Desk_fail 31 = .ok (.getfield 79, 3) := by decide +kernel
theorem d_Desk_fail_34 : decode cc_Desk_fail 34 = .ok (.ifCond .eq 6, 3) := by decide +kernel
theorem d_Desk_fail_37 : decode cc_Desk_fail 37 = .ok (.bipush (-3), 2) := by decide +kernel
theorem d_Desk_fail_39 : decode cc_Desk_fail 39 = .ok (.ireturn, 1) := by decide +kernel
theorem d_Desk_fail_40 : decode cc_Desk_fail 40 = .ok (.ldc 100, 2) := by decide +kernel
theorem d_Desk_fail_42 : decode cc_Desk_fail 42 = .ok (.iload_n 1, 1) := by decide +kernel
theorem d_Desk_fail_43 : decode cc_Desk_fail 43 = .ok (.invokestatic 94, 3) := by decide +kernel
theorem d_Desk_fail_46 : decode cc_Desk_fail 46 = .ok (.ifCond .eq 30, 3) := by decide +kernel
theorem d_Desk_fail_49 : decode cc_Desk_fail 49 = .ok (.aload_n 0, 1) := by decide +kernel
theorem d_Desk_fail_50 : decode cc_Desk_fail 50 = .ok (.iload_n 1, 1) := by decide +kernel
theorem d_Desk_fail_51 : decode cc_Desk_fail 51 = .ok (.iload_n 2, 1) := by decide +kernel
theorem d_Desk_fail_52 : decode cc_Desk_fail 52 = .ok (.iload_n 3, 1) := by decide +kernel
theorem d_Desk_fail_53 : decode cc_Desk_fail 53 = .ok (.lload 4, 2) := by decide +kernel
theorem d_Desk_fail_55 : decode cc_Desk_fail 55 = .ok (.iconst 2, 1) := by decide +kernel
theorem d_Desk_fail_56 : decode cc_Desk_fail 56 = .ok (.lushr, 1) := by decide +kernel
theorem d_Desk_fail_57 : decode cc_Desk_fail 57 = .ok (.l2i, 1) := by decide +kernel
theorem d_Desk_fail_58 : decode cc_Desk_fail 58 = .ok (.iload 6, 2) := by decide +kernel
theorem d_Desk_fail_60 : decode cc_Desk_fail 60 = .ok (.ifCond .eq 9, 3) := by decide +kernel
theorem d_Desk_fail_63 : decode cc_Desk_fail 63 = .ok (.sipush 8192, 3) := by decide +kernel
theorem d_Desk_fail_66 : decode cc_Desk_fail 66 = .ok (.goto 4, 3) := by decide +kernel
theorem d_Desk_fail_69 : decode cc_Desk_fail 69 = .ok (.iconst 0, 1) := by decide +kernel
theorem d_Desk_fail_70 : decode cc_Desk_fail 70 = .ok (.invokevirtual 89, 3) := by decide +kernel
theorem d_Desk_fail_73 : decode cc_Desk_fail 73 = .ok (.goto 12, 3) := by decide +kernel
theorem d_Desk_fail_76 : decode cc_Desk_fail 76 = .ok (.aload_n 0, 1) := by decide +kernel
theorem d_Desk_fail_77 : decode cc_Desk_fail 77 = .ok (.iload_n 1, 1) := by decide +kernel
theorem d_Desk_fail_78 : decode cc_Desk_fail 78 = .ok (.iload_n 2, 1) := by decide +kernel
theorem d_Desk_fail_79 : decode cc_Desk_fail 79 = .ok (.iload_n 3, 1) := by decide +kernel
theorem d_Desk_fail_80 : decode cc_Desk_fail 80 = .ok (.iconst 0, 1) := by decide +kernel
theorem d_Desk_fail_81 : decode cc_Desk_fail 81 = .ok (.iconst 0, 1) := by decide +kernel
theorem d_Desk_fail_82 : decode cc_Desk_fail 82 = .ok (.invokevirtual 89, 3) := by decide +kernel
theorem d_Desk_fail_85 : decode cc_Desk_fail 85 = .ok (.aload_n 0, 1) := by decide +kernel
theorem d_Desk_fail_86 : decode cc_Desk_fail 86 = .ok (.getfield 28, 3) := by decide +kernel
theorem d_Desk_fail_89 : decode cc_Desk_fail 89 = .ok (.ireturn, 1) := by decide +kernel
abbrev y_Desk_interrupt : MethodName := ⟨"TrapDesk", "interrupt", "()I"⟩
abbrev cc_Desk_interrupt : ByteArray := prog_1_method_13_code
abbrev ws_Desk_interrupt : List Cond := Cond.code y_Desk_interrupt cc_Desk_interrupt 3 (some .int) :: gtb
theorem d_Desk_interrupt_0 : decode cc_Desk_interrupt 0 = .ok (.aload_n 0, 1) := by decide +kernel
theorem d_Desk_interrupt_1 : decode cc_Desk_interrupt 1 = .ok (.getfield 20, 3) := by decide +kernel
theorem d_Desk_interrupt_4 : decode cc_Desk_interrupt 4 = .ok (.getfield 79, 3) := by decide +kernel
theorem d_Desk_interrupt_7 : decode cc_Desk_interrupt 7 = .ok (.ifCond .eq 6, 3) := by decide +kernel
theorem d_Desk_interrupt_10 : decode cc_Desk_interrupt 10 = .ok (.bipush (-3), 2) := by decide +kernel
theorem d_Desk_interrupt_12 : decode cc_Desk_interrupt 12 = .ok (.ireturn, 1) := by decide +kernel
theorem d_Desk_interrupt_13 : decode cc_Desk_interrupt 13 = .ok (.aload_n 0, 1) := by decide +kernel
theorem d_Desk_interrupt_14 : decode cc_Desk_interrupt 14 = .ok (.invokevirtual 101, 3) := by decide +kernel
theorem d_Desk_interrupt_17 : decode cc_Desk_interrupt 17 = .ok (.istore_n 1, 1) := by decide +kernel
theorem d_Desk_interrupt_18 : decode cc_Desk_interrupt 18 = .ok (.iload_n 1, 1) := by decide +kernel
theorem d_Desk_interrupt_19 : decode cc_Desk_interrupt 19 = .ok (.iconst (-1), 1) := by decide +kernel
theorem d_Desk_interrupt_20 : decode cc_Desk_interrupt 20 = .ok (.if_icmp .eq 27, 3) := by decide +kernel
theorem d_Desk_interrupt_23 : decode cc_Desk_interrupt 23 = .ok (.aload_n 0, 1) := by decide +kernel
theorem d_Desk_interrupt_24 : decode cc_Desk_interrupt 24 = .ok (.dup, 1) := by decide +kernel
theorem d_Desk_interrupt_25 : decode cc_Desk_interrupt 25 = .ok (.getfield 45, 3) := by decide +kernel
theorem d_Desk_interrupt_28 : decode cc_Desk_interrupt 28 = .ok (.iconst 1, 1) := by decide +kernel
theorem d_Desk_interrupt_29 : decode cc_Desk_interrupt 29 = .ok (.iadd, 1) := by decide +kernel
theorem d_Desk_interrupt_30 : decode cc_Desk_interrupt 30 = .ok (.putfield 45, 3) := by decide +kernel
theorem d_Desk_interrupt_33 : decode cc_Desk_interrupt 33 = .ok (.aload_n 0, 1) := by decide +kernel
theorem d_Desk_interrupt_34 : decode cc_Desk_interrupt 34 = .ok (.ldc 105, 2) := by decide +kernel
theorem d_Desk_interrupt_36 : decode cc_Desk_interrupt 36 = .ok (.iload_n 1, 1) := by decide +kernel
theorem d_Desk_interrupt_37 : decode cc_Desk_interrupt 37 = .ok (.ior, 1) := by decide +kernel
theorem d_Desk_interrupt_38 : decode cc_Desk_interrupt 38 = .ok (.iconst 0, 1) := by decide +kernel
theorem d_Desk_interrupt_39 : decode cc_Desk_interrupt 39 = .ok (.iconst 0, 1) := by decide +kernel
theorem d_Desk_interrupt_40 : decode cc_Desk_interrupt 40 = .ok (.iconst 0, 1) := by decide +kernel
theorem d_Desk_interrupt_41 : decode cc_Desk_interrupt 41 = .ok (.iconst 0, 1) := by decide +kernel
theorem d_Desk_interrupt_42 : decode cc_Desk_interrupt 42 = .ok (.invokevirtual 106, 3) := by decide +kernel
theorem d_Desk_interrupt_45 : decode cc_Desk_interrupt 45 = .ok (.iload_n 1, 1) := by decide +kernel
theorem d_Desk_interrupt_46 : decode cc_Desk_interrupt 46 = .ok (.ireturn, 1) := by decide +kernel
theorem d_Desk_interrupt_47 : decode cc_Desk_interrupt 47 = .ok (.aload_n 0, 1) := by decide +kernel
theorem d_Desk_interrupt_48 : decode cc_Desk_interrupt 48 = .ok (.invokevirtual 109, 3) := by decide +kernel
theorem d_Desk_interrupt_51 : decode cc_Desk_interrupt 51 = .ok (.istore_n 2, 1) := by decide +kernel
theorem d_Desk_interrupt_52 : decode cc_Desk_interrupt 52 = .ok (.iload_n 2, 1) := by decide +kernel
theorem d_Desk_interrupt_53 : decode cc_Desk_interrupt 53 = .ok (.iconst (-1), 1) := by decide +kernel
theorem d_Desk_interrupt_54 : decode cc_Desk_interrupt 54 = .ok (.if_icmp .eq 27, 3) := by decide +kernel
theorem d_Desk_interrupt_57 : decode cc_Desk_interrupt 57 = .ok (.aload_n 0, 1) := by decide +kernel
theorem d_Desk_interrupt_58 : decode cc_Desk_interrupt 58 = .ok (.dup, 1) := by decide +kernel
theorem d_Desk_interrupt_59 : decode cc_Desk_interrupt 59 = .ok (.getfield 45, 3) := by decide +kernel
theorem d_Desk_interrupt_62 : decode cc_Desk_interrupt 62 = .ok (.iconst 1, 1) := by decide +kernel
theorem d_Desk_interrupt_63 : decode cc_Desk_interrupt 63 = .ok (.iadd, 1) := by decide +kernel
theorem d_Desk_interrupt_64 : decode cc_Desk_interrupt 64 = .ok (.putfield 45, 3) := by decide +kernel
theorem d_Desk_interrupt_67 : decode cc_Desk_interrupt 67 = .ok (.aload_n 0, 1) := by decide +kernel
theorem d_Desk_interrupt_68 : decode cc_Desk_interrupt 68 = .ok (.ldc 105, 2) := by decide +kernel
theorem d_Desk_interrupt_70 : decode cc_Desk_interrupt 70 = .ok (.iload_n 2, 1) := by decide +kernel
theorem d_Desk_interrupt_71 : decode cc_Desk_interrupt 71 = .ok (.ior, 1) := by decide +kernel
theorem d_Desk_interrupt_72 : decode cc_Desk_interrupt 72 = .ok (.iconst 0, 1) := by decide +kernel
theorem d_Desk_interrupt_73 : decode cc_Desk_interrupt 73 = .ok (.invokevirtual 112, 3) := by decide +kernel
theorem d_Desk_interrupt_76 : decode cc_Desk_interrupt 76 = .ok (.bipush 100, 2) := by decide +kernel
theorem d_Desk_interrupt_78 : decode cc_Desk_interrupt 78 = .ok (.iload_n 2, 1) := by decide +kernel
theorem d_Desk_interrupt_79 : decode cc_Desk_interrupt 79 = .ok (.iadd, 1) := by decide +kernel
theorem d_Desk_interrupt_80 : decode cc_Desk_interrupt 80 = .ok (.ireturn, 1) := by decide +kernel
theorem d_Desk_interrupt_81 : decode cc_Desk_interrupt 81 = .ok (.iconst (-1), 1) := by decide +kernel
theorem d_Desk_interrupt_82 : decode cc_Desk_interrupt 82 = .ok (.ireturn, 1) := by decide +kernel
abbrev y_Desk_count : MethodName := ⟨"TrapDesk", "count", "(I)I"⟩
abbrev cc_Desk_count : ByteArray := prog_1_method_14_code
abbrev ws_Desk_count : List Cond := Cond.code y_Desk_count cc_Desk_count 2 (some .int) :: gtb
theorem d_Desk_count_0 : decode cc_Desk_count 0 = .ok (.iload_n 1, 1) := by decide +kernel
theorem d_Desk_count_1 : decode cc_Desk_count 1 = .ok (.tableswitch 121 0 8 #[51, 56, 61, 66, 71, 76, 84, 100, 109], 51) := by decide +kernel
theorem d_Desk_count_52 : decode cc_Desk_count 52 = .ok (.aload_n 0, 1) := by decide +kernel
theorem d_Desk_count_53 : decode cc_Desk_count 53 = .ok (.getfield 28, 3) := by decide +kernel
theorem d_Desk_count_56 : decode cc_Desk_count 56 = .ok (.ireturn, 1) := by decide +kernel
theorem d_Desk_count_57 : decode cc_Desk_count 57 = .ok (.aload_n 0, 1) := by decide +kernel
theorem d_Desk_count_58 : decode cc_Desk_count 58 = .ok (.getfield 36, 3) := by decide +kernel
theorem d_Desk_count_61 : decode cc_Desk_count 61 = .ok (.ireturn, 1) := by decide +kernel
theorem d_Desk_count_62 : decode cc_Desk_count 62 = .ok (.aload_n 0, 1) := by decide +kernel
theorem d_Desk_count_63 : decode cc_Desk_count 63 = .ok (.getfield 39, 3) := by decide +kernel
theorem d_Desk_count_66 : decode cc_Desk_count 66 = .ok (.ireturn, 1) := by decide +kernel
theorem d_Desk_count_67 : decode cc_Desk_count 67 = .ok (.aload_n 0, 1) := by decide +kernel
theorem d_Desk_count_68 : decode cc_Desk_count 68 = .ok (.getfield 42, 3) := by decide +kernel
theorem d_Desk_count_71 : decode cc_Desk_count 71 = .ok (.ireturn, 1) := by decide +kernel
theorem d_Desk_count_72 : decode cc_Desk_count 72 = .ok (.aload_n 0, 1) := by decide +kernel
theorem d_Desk_count_73 : decode cc_Desk_count 73 = .ok (.getfield 45, 3) := by decide +kernel
theorem d_Desk_count_76 : decode cc_Desk_count 76 = .ok (.ireturn, 1) := by decide +kernel
theorem d_Desk_count_77 : decode cc_Desk_count 77 = .ok (.aload_n 0, 1) := by decide +kernel
theorem d_Desk_count_78 : decode cc_Desk_count 78 = .ok (.getfield 20, 3) := by decide +kernel
theorem d_Desk_count_81 : decode cc_Desk_count 81 = .ok (.getfield 115, 3) := by decide +kernel
theorem d_Desk_count_84 : decode cc_Desk_count 84 = .ok (.ireturn, 1) := by decide +kernel
theorem d_Desk_count_85 : decode cc_Desk_count 85 = .ok (.aload_n 0, 1) := by decide +kernel
theorem d_Desk_count_86 : decode cc_Desk_count 86 = .ok (.getfield 20, 3) := by decide +kernel
theorem d_Desk_count_89 : decode cc_Desk_count 89 = .ok (.getfield 79, 3) := by decide +kernel
theorem d_Desk_count_92 : decode cc_Desk_count 92 = .ok (.ifCond .eq 7, 3) := by decide +kernel
theorem d_Desk_count_95 : decode cc_Desk_count 95 = .ok (.iconst 1, 1) := by decide +kernel
theorem d_Desk_count_96 : decode cc_Desk_count 96 = .ok (.goto 4, 3) := by decide +kernel
theorem d_Desk_count_99 : decode cc_Desk_count 99 = .ok (.iconst 0, 1) := by decide +kernel
theorem d_Desk_count_100 : decode cc_Desk_count 100 = .ok (.ireturn, 1) := by decide +kernel
theorem d_Desk_count_101 : decode cc_Desk_count 101 = .ok (.aload_n 0, 1) := by decide +kernel
theorem d_Desk_count_102 : decode cc_Desk_count 102 = .ok (.getfield 20, 3) := by decide +kernel
theorem d_Desk_count_105 : decode cc_Desk_count 105 = .ok (.getfield 118, 3) := by decide +kernel
theorem d_Desk_count_108 : decode cc_Desk_count 108 = .ok (.l2i, 1) := by decide +kernel
theorem d_Desk_count_109 : decode cc_Desk_count 109 = .ok (.ireturn, 1) := by decide +kernel
theorem d_Desk_count_110 : decode cc_Desk_count 110 = .ok (.aload_n 0, 1) := by decide +kernel
theorem d_Desk_count_111 : decode cc_Desk_count 111 = .ok (.getfield 20, 3) := by decide +kernel
theorem d_Desk_count_114 : decode cc_Desk_count 114 = .ok (.getfield 118, 3) := by decide +kernel
theorem d_Desk_count_117 : decode cc_Desk_count 117 = .ok (.bipush 32, 2) := by decide +kernel
theorem d_Desk_count_119 : decode cc_Desk_count 119 = .ok (.lushr, 1) := by decide +kernel
theorem d_Desk_count_120 : decode cc_Desk_count 120 = .ok (.l2i, 1) := by decide +kernel
theorem d_Desk_count_121 : decode cc_Desk_count 121 = .ok (.ireturn, 1) := by decide +kernel
theorem d_Desk_count_122 : decode cc_Desk_count 122 = .ok (.iconst (-1), 1) := by decide +kernel
theorem d_Desk_count_123 : decode cc_Desk_count 123 = .ok (.ireturn, 1) := by decide +kernel
abbrev y_Desk_console : MethodName := ⟨"TrapDesk", "console", "(I)I"⟩
abbrev cc_Desk_console : ByteArray := prog_1_method_15_code
abbrev ws_Desk_console : List Cond := Cond.code y_Desk_console cc_Desk_console 2 (some .int) :: gtb
theorem d_Desk_console_0 : decode cc_Desk_console 0 = .ok (.aload_n 0, 1) := by decide +kernel
theorem d_Desk_console_1 : decode cc_Desk_console 1 = .ok (.getfield 20, 3) := by decide +kernel
theorem d_Desk_console_4 : decode cc_Desk_console 4 = .ok (.iload_n 1, 1) := by decide +kernel
theorem d_Desk_console_5 : decode cc_Desk_console 5 = .ok (.invokevirtual 121, 3) := by decide +kernel
theorem d_Desk_console_8 : decode cc_Desk_console 8 = .ok (.ireturn, 1) := by decide +kernel
abbrev y_Desk_perform : MethodName := ⟨"TrapDesk", "perform", "(I)I"⟩
abbrev cc_Desk_perform : ByteArray := prog_1_method_16_code
abbrev ws_Desk_perform : List Cond := Cond.code y_Desk_perform cc_Desk_perform 3 (some .int) :: gtb
theorem d_Desk_perform_0 : decode cc_Desk_perform 0 = .ok (.iload_n 1, 1) := by decide +kernel
theorem d_Desk_perform_1 : decode cc_Desk_perform 1 = .ok (.bipush 127, 2) := by decide +kernel
theorem d_Desk_perform_3 : decode cc_Desk_perform 3 = .ok (.iand, 1) := by decide +kernel
theorem d_Desk_perform_4 : decode cc_Desk_perform 4 = .ok (.bipush 115, 2) := by decide +kernel
theorem d_Desk_perform_6 : decode cc_Desk_perform 6 = .ok (.if_icmp .eq 5, 3) := by decide +kernel
theorem d_Desk_perform_9 : decode cc_Desk_perform 9 = .ok (.iconst 2, 1) := by decide +kernel
theorem d_Desk_perform_10 : decode cc_Desk_perform 10 = .ok (.ireturn, 1) := by decide +kernel
theorem d_Desk_perform_11 : decode cc_Desk_perform 11 = .ok (.iload_n 1, 1) := by decide +kernel
theorem d_Desk_perform_12 : decode cc_Desk_perform 12 = .ok (.bipush 12, 2) := by decide +kernel
theorem d_Desk_perform_14 : decode cc_Desk_perform 14 = .ok (.iushr, 1) := by decide +kernel
theorem d_Desk_perform_15 : decode cc_Desk_perform 15 = .ok (.bipush 7, 2) := by decide +kernel
theorem d_Desk_perform_17 : decode cc_Desk_perform 17 = .ok (.iand, 1) := by decide +kernel
theorem d_Desk_perform_18 : decode cc_Desk_perform 18 = .ok (.istore_n 2, 1) := by decide +kernel
theorem d_Desk_perform_19 : decode cc_Desk_perform 19 = .ok (.iload_n 2, 1) := by decide +kernel
theorem d_Desk_perform_20 : decode cc_Desk_perform 20 = .ok (.ifCond .ne 9, 3) := by decide +kernel
theorem d_Desk_perform_23 : decode cc_Desk_perform 23 = .ok (.aload_n 0, 1) := by decide +kernel
theorem d_Desk_perform_24 : decode cc_Desk_perform 24 = .ok (.iload_n 1, 1) := by decide +kernel
theorem d_Desk_perform_25 : decode cc_Desk_perform 25 = .ok (.invokevirtual 124, 3) := by decide +kernel
theorem d_Desk_perform_28 : decode cc_Desk_perform 28 = .ok (.ireturn, 1) := by decide +kernel
theorem d_Desk_perform_29 : decode cc_Desk_perform 29 = .ok (.iload_n 2, 1) := by decide +kernel
theorem d_Desk_perform_30 : decode cc_Desk_perform 30 = .ok (.iconst 4, 1) := by decide +kernel
theorem d_Desk_perform_31 : decode cc_Desk_perform 31 = .ok (.if_icmp .ne 9, 3) := by decide +kernel
theorem d_Desk_perform_34 : decode cc_Desk_perform 34 = .ok (.aload_n 0, 1) := by decide +kernel
theorem d_Desk_perform_35 : decode cc_Desk_perform 35 = .ok (.iload_n 1, 1) := by decide +kernel
theorem d_Desk_perform_36 : decode cc_Desk_perform 36 = .ok (.invokevirtual 127, 3) := by decide +kernel
theorem d_Desk_perform_39 : decode cc_Desk_perform 39 = .ok (.ireturn, 1) := by decide +kernel
theorem d_Desk_perform_40 : decode cc_Desk_perform 40 = .ok (.aload_n 0, 1) := by decide +kernel
theorem d_Desk_perform_41 : decode cc_Desk_perform 41 = .ok (.iload_n 1, 1) := by decide +kernel
theorem d_Desk_perform_42 : decode cc_Desk_perform 42 = .ok (.iload_n 2, 1) := by decide +kernel
theorem d_Desk_perform_43 : decode cc_Desk_perform 43 = .ok (.invokevirtual 130, 3) := by decide +kernel
theorem d_Desk_perform_46 : decode cc_Desk_perform 46 = .ok (.ireturn, 1) := by decide +kernel
abbrev y_Desk_systemWord : MethodName := ⟨"TrapDesk", "systemWord", "(I)I"⟩
abbrev cc_Desk_systemWord : ByteArray := prog_1_method_17_code
abbrev ws_Desk_systemWord : List Cond := Cond.code y_Desk_systemWord cc_Desk_systemWord 2 (some .int) :: gtb
theorem d_Desk_systemWord_0 : decode cc_Desk_systemWord 0 = .ok (.iload_n 1, 1) := by decide +kernel
theorem d_Desk_systemWord_1 : decode cc_Desk_systemWord 1 = .ok (.invokestatic 133, 3) := by decide +kernel
theorem d_Desk_systemWord_4 : decode cc_Desk_systemWord 4 = .ok (.ifCond .eq 5, 3) := by decide +kernel
theorem d_Desk_systemWord_7 : decode cc_Desk_systemWord 7 = .ok (.iconst 2, 1) := by decide +kernel
theorem d_Desk_systemWord_8 : decode cc_Desk_systemWord 8 = .ok (.ireturn, 1) := by decide +kernel
theorem d_Desk_systemWord_9 : decode cc_Desk_systemWord 9 = .ok (.iload_n 1, 1) := by decide +kernel
theorem d_Desk_systemWord_10 : decode cc_Desk_systemWord 10 = .ok (.invokestatic 136, 3) := by decide +kernel
theorem d_Desk_systemWord_13 : decode cc_Desk_systemWord 13 = .ok (.lookupswitch 47 #[(9, 35), (17, 42), (49, 42)], 35) := by decide +kernel
theorem d_Desk_systemWord_48 : decode cc_Desk_systemWord 48 = .ok (.aload_n 0, 1) := by decide +kernel
theorem d_Desk_systemWord_49 : decode cc_Desk_systemWord 49 = .ok (.ldc 141, 2) := by decide +kernel
theorem d_Desk_systemWord_51 : decode cc_Desk_systemWord 51 = .ok (.invokevirtual 142, 3) := by decide +kernel
theorem d_Desk_systemWord_54 : decode cc_Desk_systemWord 54 = .ok (.ireturn, 1) := by decide +kernel
theorem d_Desk_systemWord_55 : decode cc_Desk_systemWord 55 = .ok (.aload_n 0, 1) := by decide +kernel
theorem d_Desk_systemWord_56 : decode cc_Desk_systemWord 56 = .ok (.invokevirtual 145, 3) := by decide +kernel
theorem d_Desk_systemWord_59 : decode cc_Desk_systemWord 59 = .ok (.ireturn, 1) := by decide +kernel
theorem d_Desk_systemWord_60 : decode cc_Desk_systemWord 60 = .ok (.aload_n 0, 1) := by decide +kernel
theorem d_Desk_systemWord_61 : decode cc_Desk_systemWord 61 = .ok (.iload_n 1, 1) := by decide +kernel
theorem d_Desk_systemWord_62 : decode cc_Desk_systemWord 62 = .ok (.invokevirtual 148, 3) := by decide +kernel
theorem d_Desk_systemWord_65 : decode cc_Desk_systemWord 65 = .ok (.ireturn, 1) := by decide +kernel
abbrev y_Desk_wordWithoutA : MethodName := ⟨"TrapDesk", "wordWithoutA", "(I)I"⟩
abbrev cc_Desk_wordWithoutA : ByteArray := prog_1_method_18_code
abbrev ws_Desk_wordWithoutA : List Cond := Cond.code y_Desk_wordWithoutA cc_Desk_wordWithoutA 2 (some .int) :: gtb
theorem d_Desk_wordWithoutA_0 : decode cc_Desk_wordWithoutA 0 = .ok (.iload_n 1, 1) := by decide +kernel
theorem d_Desk_wordWithoutA_1 : decode cc_Desk_wordWithoutA 1 = .ok (.invokestatic 151, 3) := by decide +kernel
theorem d_Desk_wordWithoutA_4 : decode cc_Desk_wordWithoutA 4 = .ok (.ifCond .eq 5, 3) := by decide +kernel
theorem d_Desk_wordWithoutA_7 : decode cc_Desk_wordWithoutA 7 = .ok (.iconst 2, 1) := by decide +kernel
theorem d_Desk_wordWithoutA_8 : decode cc_Desk_wordWithoutA 8 = .ok (.ireturn, 1) := by decide +kernel
theorem d_Desk_wordWithoutA_9 : decode cc_Desk_wordWithoutA 9 = .ok (.iload_n 1, 1) := by decide +kernel
theorem d_Desk_wordWithoutA_10 : decode cc_Desk_wordWithoutA 10 = .ok (.bipush 20, 2) := by decide +kernel
theorem d_Desk_wordWithoutA_12 : decode cc_Desk_wordWithoutA 12 = .ok (.iushr, 1) := by decide +kernel
theorem d_Desk_wordWithoutA_13 : decode cc_Desk_wordWithoutA 13 = .ok (.lookupswitch 62 #[(0, 43), (1, 48), (258, 50), (261, 55)], 43) := by decide +kernel
theorem d_Desk_wordWithoutA_56 : decode cc_Desk_wordWithoutA 56 = .ok (.aload_n 0, 1) := by decide +kernel
theorem d_Desk_wordWithoutA_57 : decode cc_Desk_wordWithoutA 57 = .ok (.invokevirtual 154, 3) := by decide +kernel
theorem d_Desk_wordWithoutA_60 : decode cc_Desk_wordWithoutA 60 = .ok (.ireturn, 1) := by decide +kernel
theorem d_Desk_wordWithoutA_61 : decode cc_Desk_wordWithoutA 61 = .ok (.iconst 3, 1) := by decide +kernel
theorem d_Desk_wordWithoutA_62 : decode cc_Desk_wordWithoutA 62 = .ok (.ireturn, 1) := by decide +kernel
theorem d_Desk_wordWithoutA_63 : decode cc_Desk_wordWithoutA 63 = .ok (.aload_n 0, 1) := by decide +kernel
theorem d_Desk_wordWithoutA_64 : decode cc_Desk_wordWithoutA 64 = .ok (.invokevirtual 157, 3) := by decide +kernel
theorem d_Desk_wordWithoutA_67 : decode cc_Desk_wordWithoutA 67 = .ok (.ireturn, 1) := by decide +kernel
theorem d_Desk_wordWithoutA_68 : decode cc_Desk_wordWithoutA 68 = .ok (.aload_n 0, 1) := by decide +kernel
theorem d_Desk_wordWithoutA_69 : decode cc_Desk_wordWithoutA 69 = .ok (.ldc 160, 2) := by decide +kernel
theorem d_Desk_wordWithoutA_71 : decode cc_Desk_wordWithoutA 71 = .ok (.invokevirtual 142, 3) := by decide +kernel
theorem d_Desk_wordWithoutA_74 : decode cc_Desk_wordWithoutA 74 = .ok (.ireturn, 1) := by decide +kernel
theorem d_Desk_wordWithoutA_75 : decode cc_Desk_wordWithoutA 75 = .ok (.iconst 2, 1) := by decide +kernel
theorem d_Desk_wordWithoutA_76 : decode cc_Desk_wordWithoutA 76 = .ok (.ireturn, 1) := by decide +kernel
abbrev y_Desk_environmentCall : MethodName := ⟨"TrapDesk", "environmentCall", "()I"⟩
abbrev cc_Desk_environmentCall : ByteArray := prog_1_method_19_code
abbrev ws_Desk_environmentCall : List Cond := Cond.code y_Desk_environmentCall cc_Desk_environmentCall 2 (some .int) :: gtb
theorem d_Desk_environmentCall_0 : decode cc_Desk_environmentCall 0 = .ok (.aload_n 0, 1) := by decide +kernel
theorem d_Desk_environmentCall_1 : decode cc_Desk_environmentCall 1 = .ok (.getfield 28, 3) := by decide +kernel
theorem d_Desk_environmentCall_4 : decode cc_Desk_environmentCall 4 = .ok (.iconst 3, 1) := by decide +kernel
theorem d_Desk_environmentCall_5 : decode cc_Desk_environmentCall 5 = .ok (.if_icmp .ne 6, 3) := by decide +kernel
theorem d_Desk_environmentCall_8 : decode cc_Desk_environmentCall 8 = .ok (.bipush 10, 2) := by decide +kernel
theorem d_Desk_environmentCall_10 : decode cc_Desk_environmentCall 10 = .ok (.ireturn, 1) := by decide +kernel
theorem d_Desk_environmentCall_11 : decode cc_Desk_environmentCall 11 = .ok (.aload_n 0, 1) := by decide +kernel
theorem d_Desk_environmentCall_12 : decode cc_Desk_environmentCall 12 = .ok (.getfield 28, 3) := by decide +kernel
theorem d_Desk_environmentCall_15 : decode cc_Desk_environmentCall 15 = .ok (.iconst 1, 1) := by decide +kernel
theorem d_Desk_environmentCall_16 : decode cc_Desk_environmentCall 16 = .ok (.if_icmp .eq 6, 3) := by decide +kernel
theorem d_Desk_environmentCall_19 : decode cc_Desk_environmentCall 19 = .ok (.bipush 8, 2) := by decide +kernel
theorem d_Desk_environmentCall_21 : decode cc_Desk_environmentCall 21 = .ok (.ireturn, 1) := by decide +kernel
theorem d_Desk_environmentCall_22 : decode cc_Desk_environmentCall 22 = .ok (.aload_n 0, 1) := by decide +kernel
theorem d_Desk_environmentCall_23 : decode cc_Desk_environmentCall 23 = .ok (.getfield 20, 3) := by decide +kernel
theorem d_Desk_environmentCall_26 : decode cc_Desk_environmentCall 26 = .ok (.aload_n 0, 1) := by decide +kernel
theorem d_Desk_environmentCall_27 : decode cc_Desk_environmentCall 27 = .ok (.getfield 24, 3) := by decide +kernel
theorem d_Desk_environmentCall_30 : decode cc_Desk_environmentCall 30 = .ok (.getfield 161, 3) := by decide +kernel
theorem d_Desk_environmentCall_33 : decode cc_Desk_environmentCall 33 = .ok (.aload_n 0, 1) := by decide +kernel
theorem d_Desk_environmentCall_34 : decode cc_Desk_environmentCall 34 = .ok (.getfield 24, 3) := by decide +kernel
theorem d_Desk_environmentCall_37 : decode cc_Desk_environmentCall 37 = .ok (.getfield 164, 3) := by decide +kernel
theorem d_Desk_environmentCall_40 : decode cc_Desk_environmentCall 40 = .ok (.aload_n 0, 1) := by decide +kernel
theorem d_Desk_environmentCall_41 : decode cc_Desk_environmentCall 41 = .ok (.getfield 24, 3) := by decide +kernel
theorem d_Desk_environmentCall_44 : decode cc_Desk_environmentCall 44 = .ok (.getfield 167, 3) := by decide +kernel
theorem d_Desk_environmentCall_47 : decode cc_Desk_environmentCall 47 = .ok (.invokevirtual 170, 3) := by decide +kernel
theorem d_Desk_environmentCall_50 : decode cc_Desk_environmentCall 50 = .ok (.istore_n 1, 1) := by decide +kernel
theorem d_Desk_environmentCall_51 : decode cc_Desk_environmentCall 51 = .ok (.aload_n 0, 1) := by decide +kernel
theorem d_Desk_environmentCall_52 : decode cc_Desk_environmentCall 52 = .ok (.getfield 24, 3) := by decide +kernel
theorem d_Desk_environmentCall_55 : decode cc_Desk_environmentCall 55 = .ok (.iload_n 1, 1) := by decide +kernel
theorem d_Desk_environmentCall_56 : decode cc_Desk_environmentCall 56 = .ok (.putfield 164, 3) := by decide +kernel
theorem d_Desk_environmentCall_59 : decode cc_Desk_environmentCall 59 = .ok (.aload_n 0, 1) := by decide +kernel
theorem d_Desk_environmentCall_60 : decode cc_Desk_environmentCall 60 = .ok (.invokevirtual 174, 3) := by decide +kernel
theorem d_Desk_environmentCall_63 : decode cc_Desk_environmentCall 63 = .ok (.ireturn, 1) := by decide +kernel
abbrev y_Desk_supervisorReturn : MethodName := ⟨"TrapDesk", "supervisorReturn", "()I"⟩
abbrev cc_Desk_supervisorReturn : ByteArray := prog_1_method_20_code
abbrev ws_Desk_supervisorReturn : List Cond := Cond.code y_Desk_supervisorReturn cc_Desk_supervisorReturn 4 (some .int) :: gtb
theorem d_Desk_supervisorReturn_0 : decode cc_Desk_supervisorReturn 0 = .ok (.aload_n 0, 1) := by decide +kernel
theorem d_Desk_supervisorReturn_1 : decode cc_Desk_supervisorReturn 1 = .ok (.ldc 177, 2) := by decide +kernel
theorem d_Desk_supervisorReturn_3 : decode cc_Desk_supervisorReturn 3 = .ok (.invokevirtual 178, 3) := by decide +kernel
theorem d_Desk_supervisorReturn_6 : decode cc_Desk_supervisorReturn 6 = .ok (.istore_n 1, 1) := by decide +kernel
theorem d_Desk_supervisorReturn_7 : decode cc_Desk_supervisorReturn 7 = .ok (.iload_n 1, 1) := by decide +kernel
theorem d_Desk_supervisorReturn_8 : decode cc_Desk_supervisorReturn 8 = .ok (.iconst (-1), 1) := by decide +kernel
theorem d_Desk_supervisorReturn_9 : decode cc_Desk_supervisorReturn 9 = .ok (.if_icmp .eq 5, 3) := by decide +kernel
theorem d_Desk_supervisorReturn_12 : decode cc_Desk_supervisorReturn 12 = .ok (.iload_n 1, 1) := by decide +kernel
theorem d_Desk_supervisorReturn_13 : decode cc_Desk_supervisorReturn 13 = .ok (.ireturn, 1) := by decide +kernel
theorem d_Desk_supervisorReturn_14 : decode cc_Desk_supervisorReturn 14 = .ok (.aload_n 0, 1) := by decide +kernel
theorem d_Desk_supervisorReturn_15 : decode cc_Desk_supervisorReturn 15 = .ok (.getfield 28, 3) := by decide +kernel
theorem d_Desk_supervisorReturn_18 : decode cc_Desk_supervisorReturn 18 = .ok (.iconst 3, 1) := by decide +kernel
theorem d_Desk_supervisorReturn_19 : decode cc_Desk_supervisorReturn 19 = .ok (.if_icmp .ne 41, 3) := by decide +kernel
theorem d_Desk_supervisorReturn_22 : decode cc_Desk_supervisorReturn 22 = .ok (.aload_n 0, 1) := by decide +kernel
theorem d_Desk_supervisorReturn_23 : decode cc_Desk_supervisorReturn 23 = .ok (.aload_n 0, 1) := by decide +kernel
theorem d_Desk_supervisorReturn_24 : decode cc_Desk_supervisorReturn 24 = .ok (.getfield 12, 3) := by decide +kernel
theorem d_Desk_supervisorReturn_27 : decode cc_Desk_supervisorReturn 27 = .ok (.getfield 181, 3) := by decide +kernel
theorem d_Desk_supervisorReturn_30 : decode cc_Desk_supervisorReturn 30 = .ok (.getfield 185, 3) := by decide +kernel
theorem d_Desk_supervisorReturn_33 : decode cc_Desk_supervisorReturn 33 = .ok (.putfield 36, 3) := by decide +kernel
theorem d_Desk_supervisorReturn_36 : decode cc_Desk_supervisorReturn 36 = .ok (.aload_n 0, 1) := by decide +kernel
theorem d_Desk_supervisorReturn_37 : decode cc_Desk_supervisorReturn 37 = .ok (.aload_n 0, 1) := by decide +kernel
theorem d_Desk_supervisorReturn_38 : decode cc_Desk_supervisorReturn 38 = .ok (.getfield 12, 3) := by decide +kernel
theorem d_Desk_supervisorReturn_41 : decode cc_Desk_supervisorReturn 41 = .ok (.getfield 181, 3) := by decide +kernel
theorem d_Desk_supervisorReturn_44 : decode cc_Desk_supervisorReturn 44 = .ok (.invokevirtual 190, 3) := by decide +kernel
theorem d_Desk_supervisorReturn_47 : decode cc_Desk_supervisorReturn 47 = .ok (.ifCond .eq 7, 3) := by decide +kernel
theorem d_Desk_supervisorReturn_50 : decode cc_Desk_supervisorReturn 50 = .ok (.iconst 3, 1) := by decide +kernel
theorem d_Desk_supervisorReturn_51 : decode cc_Desk_supervisorReturn 51 = .ok (.goto 4, 3) := by decide +kernel
theorem d_Desk_supervisorReturn_54 : decode cc_Desk_supervisorReturn 54 = .ok (.iconst 2, 1) := by decide +kernel
theorem d_Desk_supervisorReturn_55 : decode cc_Desk_supervisorReturn 55 = .ok (.putfield 28, 3) := by decide +kernel
theorem d_Desk_supervisorReturn_58 : decode cc_Desk_supervisorReturn 58 = .ok (.iconst (-1), 1) := by decide +kernel
theorem d_Desk_supervisorReturn_59 : decode cc_Desk_supervisorReturn 59 = .ok (.ireturn, 1) := by decide +kernel
theorem d_Desk_supervisorReturn_60 : decode cc_Desk_supervisorReturn 60 = .ok (.aload_n 0, 1) := by decide +kernel
theorem d_Desk_supervisorReturn_61 : decode cc_Desk_supervisorReturn 61 = .ok (.aload_n 0, 1) := by decide +kernel
theorem d_Desk_supervisorReturn_62 : decode cc_Desk_supervisorReturn 62 = .ok (.getfield 12, 3) := by decide +kernel
theorem d_Desk_supervisorReturn_65 : decode cc_Desk_supervisorReturn 65 = .ok (.getfield 194, 3) := by decide +kernel
theorem d_Desk_supervisorReturn_68 : decode cc_Desk_supervisorReturn 68 = .ok (.getfield 185, 3) := by decide +kernel
theorem d_Desk_supervisorReturn_71 : decode cc_Desk_supervisorReturn 71 = .ok (.putfield 36, 3) := by decide +kernel
theorem d_Desk_supervisorReturn_74 : decode cc_Desk_supervisorReturn 74 = .ok (.aload_n 0, 1) := by decide +kernel
theorem d_Desk_supervisorReturn_75 : decode cc_Desk_supervisorReturn 75 = .ok (.getfield 12, 3) := by decide +kernel
theorem d_Desk_supervisorReturn_78 : decode cc_Desk_supervisorReturn 78 = .ok (.getfield 194, 3) := by decide +kernel
theorem d_Desk_supervisorReturn_81 : decode cc_Desk_supervisorReturn 81 = .ok (.invokevirtual 190, 3) := by decide +kernel
theorem d_Desk_supervisorReturn_84 : decode cc_Desk_supervisorReturn 84 = .ok (.istore_n 2, 1) := by decide +kernel
theorem d_Desk_supervisorReturn_85 : decode cc_Desk_supervisorReturn 85 = .ok (.aload_n 0, 1) := by decide +kernel
theorem d_Desk_supervisorReturn_86 : decode cc_Desk_supervisorReturn 86 = .ok (.getfield 12, 3) := by decide +kernel
theorem d_Desk_supervisorReturn_89 : decode cc_Desk_supervisorReturn 89 = .ok (.getfield 197, 3) := by decide +kernel
theorem d_Desk_supervisorReturn_92 : decode cc_Desk_supervisorReturn 92 = .ok (.invokevirtual 201, 3) := by decide +kernel
theorem d_Desk_supervisorReturn_95 : decode cc_Desk_supervisorReturn 95 = .ok (.istore_n 3, 1) := by decide +kernel
theorem d_Desk_supervisorReturn_96 : decode cc_Desk_supervisorReturn 96 = .ok (.iload_n 3, 1) := by decide +kernel
theorem d_Desk_supervisorReturn_97 : decode cc_Desk_supervisorReturn 97 = .ok (.ifCond .eq 19, 3) := by decide +kernel
theorem d_Desk_supervisorReturn_100 : decode cc_Desk_supervisorReturn 100 = .ok (.aload_n 0, 1) := by decide +kernel
theorem d_Desk_supervisorReturn_101 : decode cc_Desk_supervisorReturn 101 = .ok (.iload_n 2, 1) := by decide +kernel
theorem d_Desk_supervisorReturn_102 : decode cc_Desk_supervisorReturn 102 = .ok (.ifCond .eq 7, 3) := by decide +kernel
theorem d_Desk_supervisorReturn_105 : decode cc_Desk_supervisorReturn 105 = .ok (.iconst 3, 1) := by decide +kernel
theorem d_Desk_supervisorReturn_106 : decode cc_Desk_supervisorReturn 106 = .ok (.goto 4, 3) := by decide +kernel
theorem d_Desk_supervisorReturn_109 : decode cc_Desk_supervisorReturn 109 = .ok (.iconst 2, 1) := by decide +kernel
theorem d_Desk_supervisorReturn_110 : decode cc_Desk_supervisorReturn 110 = .ok (.putfield 28, 3) := by decide +kernel
theorem d_Desk_supervisorReturn_113 : decode cc_Desk_supervisorReturn 113 = .ok (.goto 16, 3) := by decide +kernel
theorem d_Desk_supervisorReturn_116 : decode cc_Desk_supervisorReturn 116 = .ok (.aload_n 0, 1) := by decide +kernel
theorem d_Desk_supervisorReturn_117 : decode cc_Desk_supervisorReturn 117 = .ok (.iload_n 2, 1) := by decide +kernel
theorem d_Desk_supervisorReturn_118 : decode cc_Desk_supervisorReturn 118 = .ok (.ifCond .eq 7, 3) := by decide +kernel
theorem d_Desk_supervisorReturn_121 : decode cc_Desk_supervisorReturn 121 = .ok (.iconst 1, 1) := by decide +kernel
theorem d_Desk_supervisorReturn_122 : decode cc_Desk_supervisorReturn 122 = .ok (.goto 4, 3) := by decide +kernel
theorem d_Desk_supervisorReturn_125 : decode cc_Desk_supervisorReturn 125 = .ok (.iconst 0, 1) := by decide +kernel
theorem d_Desk_supervisorReturn_126 : decode cc_Desk_supervisorReturn 126 = .ok (.putfield 28, 3) := by decide +kernel
theorem d_Desk_supervisorReturn_129 : decode cc_Desk_supervisorReturn 129 = .ok (.iconst (-1), 1) := by decide +kernel
theorem d_Desk_supervisorReturn_130 : decode cc_Desk_supervisorReturn 130 = .ok (.ireturn, 1) := by decide +kernel
abbrev y_Desk_nothingUnless : MethodName := ⟨"TrapDesk", "nothingUnless", "(I)I"⟩
abbrev cc_Desk_nothingUnless : ByteArray := prog_1_method_21_code
abbrev ws_Desk_nothingUnless : List Cond := Cond.code y_Desk_nothingUnless cc_Desk_nothingUnless 3 (some .int) :: gtb
theorem d_Desk_nothingUnless_0 : decode cc_Desk_nothingUnless 0 = .ok (.aload_n 0, 1) := by decide +kernel
theorem d_Desk_nothingUnless_1 : decode cc_Desk_nothingUnless 1 = .ok (.iload_n 1, 1) := by decide +kernel
theorem d_Desk_nothingUnless_2 : decode cc_Desk_nothingUnless 2 = .ok (.invokevirtual 178, 3) := by decide +kernel
theorem d_Desk_nothingUnless_5 : decode cc_Desk_nothingUnless 5 = .ok (.istore_n 2, 1) := by decide +kernel
theorem d_Desk_nothingUnless_6 : decode cc_Desk_nothingUnless 6 = .ok (.iload_n 2, 1) := by decide +kernel
theorem d_Desk_nothingUnless_7 : decode cc_Desk_nothingUnless 7 = .ok (.iconst (-1), 1) := by decide +kernel
theorem d_Desk_nothingUnless_8 : decode cc_Desk_nothingUnless 8 = .ok (.if_icmp .ne 10, 3) := by decide +kernel
theorem d_Desk_nothingUnless_11 : decode cc_Desk_nothingUnless 11 = .ok (.aload_n 0, 1) := by decide +kernel
theorem d_Desk_nothingUnless_12 : decode cc_Desk_nothingUnless 12 = .ok (.invokevirtual 174, 3) := by decide +kernel
theorem d_Desk_nothingUnless_15 : decode cc_Desk_nothingUnless 15 = .ok (.goto 4, 3) := by decide +kernel
theorem d_Desk_nothingUnless_18 : decode cc_Desk_nothingUnless 18 = .ok (.iload_n 2, 1) := by decide +kernel
theorem d_Desk_nothingUnless_19 : decode cc_Desk_nothingUnless 19 = .ok (.ireturn, 1) := by decide +kernel
abbrev y_Desk_refusalOfSupervisorWord : MethodName := ⟨"TrapDesk", "refusalOfSupervisorWord", "(I)I"⟩
abbrev cc_Desk_refusalOfSupervisorWord : ByteArray := prog_1_method_22_code
abbrev ws_Desk_refusalOfSupervisorWord : List Cond := Cond.code y_Desk_refusalOfSupervisorWord cc_Desk_refusalOfSupervisorWord 2 (some .int) :: gtb
theorem d_Desk_refusalOfSupervisorWord_0 : decode cc_Desk_refusalOfSupervisorWord 0 = .ok (.aload_n 0, 1) := by decide +kernel
theorem d_Desk_refusalOfSupervisorWord_1 : decode cc_Desk_refusalOfSupervisorWord 1 = .ok (.getfield 28, 3) := by decide +kernel
theorem d_Desk_refusalOfSupervisorWord_4 : decode cc_Desk_refusalOfSupervisorWord 4 = .ok (.tableswitch 54 1 3 #[28, 51, 30], 28) := by decide +kernel
theorem d_Desk_refusalOfSupervisorWord_32 : decode cc_Desk_refusalOfSupervisorWord 32 = .ok (.iconst (-1), 1) := by decide +kernel
theorem d_Desk_refusalOfSupervisorWord_33 : decode cc_Desk_refusalOfSupervisorWord 33 = .ok (.ireturn, 1) := by decide +kernel
theorem d_Desk_refusalOfSupervisorWord_34 : decode cc_Desk_refusalOfSupervisorWord 34 = .ok (.aload_n 0, 1) := by decide +kernel
theorem d_Desk_refusalOfSupervisorWord_35 : decode cc_Desk_refusalOfSupervisorWord 35 = .ok (.getfield 12, 3) := by decide +kernel
theorem d_Desk_refusalOfSupervisorWord_38 : decode cc_Desk_refusalOfSupervisorWord 38 = .ok (.getfield 197, 3) := by decide +kernel
theorem d_Desk_refusalOfSupervisorWord_41 : decode cc_Desk_refusalOfSupervisorWord 41 = .ok (.iload_n 1, 1) := by decide +kernel
theorem d_Desk_refusalOfSupervisorWord_42 : decode cc_Desk_refusalOfSupervisorWord 42 = .ok (.invokevirtual 202, 3) := by decide +kernel
theorem d_Desk_refusalOfSupervisorWord_45 : decode cc_Desk_refusalOfSupervisorWord 45 = .ok (.ifCond .eq 8, 3) := by decide +kernel
theorem d_Desk_refusalOfSupervisorWord_48 : decode cc_Desk_refusalOfSupervisorWord 48 = .ok (.bipush 22, 2) := by decide +kernel
theorem d_Desk_refusalOfSupervisorWord_50 : decode cc_Desk_refusalOfSupervisorWord 50 = .ok (.goto 4, 3) := by decide +kernel
theorem d_Desk_refusalOfSupervisorWord_53 : decode cc_Desk_refusalOfSupervisorWord 53 = .ok (.iconst (-1), 1) := by decide +kernel
theorem d_Desk_refusalOfSupervisorWord_54 : decode cc_Desk_refusalOfSupervisorWord 54 = .ok (.ireturn, 1) := by decide +kernel
theorem d_Desk_refusalOfSupervisorWord_55 : decode cc_Desk_refusalOfSupervisorWord 55 = .ok (.bipush 22, 2) := by decide +kernel
theorem d_Desk_refusalOfSupervisorWord_57 : decode cc_Desk_refusalOfSupervisorWord 57 = .ok (.ireturn, 1) := by decide +kernel
theorem d_Desk_refusalOfSupervisorWord_58 : decode cc_Desk_refusalOfSupervisorWord 58 = .ok (.iconst 2, 1) := by decide +kernel
theorem d_Desk_refusalOfSupervisorWord_59 : decode cc_Desk_refusalOfSupervisorWord 59 = .ok (.ireturn, 1) := by decide +kernel
abbrev y_Desk_hypervisorFence : MethodName := ⟨"TrapDesk", "hypervisorFence", "()I"⟩
abbrev cc_Desk_hypervisorFence : ByteArray := prog_1_method_23_code
abbrev ws_Desk_hypervisorFence : List Cond := Cond.code y_Desk_hypervisorFence cc_Desk_hypervisorFence 1 (some .int) :: gtb
theorem d_Desk_hypervisorFence_0 : decode cc_Desk_hypervisorFence 0 = .ok (.aload_n 0, 1) := by decide +kernel
theorem d_Desk_hypervisorFence_1 : decode cc_Desk_hypervisorFence 1 = .ok (.invokevirtual 205, 3) := by decide +kernel
theorem d_Desk_hypervisorFence_4 : decode cc_Desk_hypervisorFence 4 = .ok (.ifCond .eq 6, 3) := by decide +kernel
theorem d_Desk_hypervisorFence_7 : decode cc_Desk_hypervisorFence 7 = .ok (.bipush 22, 2) := by decide +kernel
theorem d_Desk_hypervisorFence_9 : decode cc_Desk_hypervisorFence 9 = .ok (.ireturn, 1) := by decide +kernel
theorem d_Desk_hypervisorFence_10 : decode cc_Desk_hypervisorFence 10 = .ok (.aload_n 0, 1) := by decide +kernel
theorem d_Desk_hypervisorFence_11 : decode cc_Desk_hypervisorFence 11 = .ok (.getfield 28, 3) := by decide +kernel
theorem d_Desk_hypervisorFence_14 : decode cc_Desk_hypervisorFence 14 = .ok (.ifCond .ne 7, 3) := by decide +kernel
theorem d_Desk_hypervisorFence_17 : decode cc_Desk_hypervisorFence 17 = .ok (.iconst 2, 1) := by decide +kernel
theorem d_Desk_hypervisorFence_18 : decode cc_Desk_hypervisorFence 18 = .ok (.goto 7, 3) := by decide +kernel
theorem d_Desk_hypervisorFence_21 : decode cc_Desk_hypervisorFence 21 = .ok (.aload_n 0, 1) := by decide +kernel
theorem d_Desk_hypervisorFence_22 : decode cc_Desk_hypervisorFence 22 = .ok (.invokevirtual 174, 3) := by decide +kernel
theorem d_Desk_hypervisorFence_25 : decode cc_Desk_hypervisorFence 25 = .ok (.ireturn, 1) := by decide +kernel
abbrev y_Desk_farAccessWord : MethodName := ⟨"TrapDesk", "farAccessWord", "(I)I"⟩
abbrev cc_Desk_farAccessWord : ByteArray := prog_1_method_24_code
abbrev ws_Desk_farAccessWord : List Cond := Cond.code y_Desk_farAccessWord cc_Desk_farAccessWord 2 (some .int) :: gtb
theorem d_Desk_farAccessWord_0 : decode cc_Desk_farAccessWord 0 = .ok (.iload_n 1, 1) := by decide +kernel
theorem d_Desk_farAccessWord_1 : decode cc_Desk_farAccessWord 1 = .ok (.invokestatic 136, 3) := by decide +kernel
theorem d_Desk_farAccessWord_4 : decode cc_Desk_farAccessWord 4 = .ok (.iload_n 1, 1) := by decide +kernel
theorem d_Desk_farAccessWord_5 : decode cc_Desk_farAccessWord 5 = .ok (.invokestatic 208, 3) := by decide +kernel
theorem d_Desk_farAccessWord_8 : decode cc_Desk_farAccessWord 8 = .ok (.iload_n 1, 1) := by decide +kernel
theorem d_Desk_farAccessWord_9 : decode cc_Desk_farAccessWord 9 = .ok (.invokestatic 133, 3) := by decide +kernel
theorem d_Desk_farAccessWord_12 : decode cc_Desk_farAccessWord 12 = .ok (.invokestatic 211, 3) := by decide +kernel
theorem d_Desk_farAccessWord_15 : decode cc_Desk_farAccessWord 15 = .ok (.ifCond .ne 5, 3) := by decide +kernel
theorem d_Desk_farAccessWord_18 : decode cc_Desk_farAccessWord 18 = .ok (.iconst 2, 1) := by decide +kernel
theorem d_Desk_farAccessWord_19 : decode cc_Desk_farAccessWord 19 = .ok (.ireturn, 1) := by decide +kernel
theorem d_Desk_farAccessWord_20 : decode cc_Desk_farAccessWord 20 = .ok (.aload_n 0, 1) := by decide +kernel
theorem d_Desk_farAccessWord_21 : decode cc_Desk_farAccessWord 21 = .ok (.invokevirtual 205, 3) := by decide +kernel
theorem d_Desk_farAccessWord_24 : decode cc_Desk_farAccessWord 24 = .ok (.ifCond .eq 6, 3) := by decide +kernel
theorem d_Desk_farAccessWord_27 : decode cc_Desk_farAccessWord 27 = .ok (.bipush 22, 2) := by decide +kernel
theorem d_Desk_farAccessWord_29 : decode cc_Desk_farAccessWord 29 = .ok (.ireturn, 1) := by decide +kernel
theorem d_Desk_farAccessWord_30 : decode cc_Desk_farAccessWord 30 = .ok (.aload_n 0, 1) := by decide +kernel
theorem d_Desk_farAccessWord_31 : decode cc_Desk_farAccessWord 31 = .ok (.getfield 28, 3) := by decide +kernel
theorem d_Desk_farAccessWord_34 : decode cc_Desk_farAccessWord 34 = .ok (.ifCond .ne 21, 3) := by decide +kernel
theorem d_Desk_farAccessWord_37 : decode cc_Desk_farAccessWord 37 = .ok (.aload_n 0, 1) := by decide +kernel
theorem d_Desk_farAccessWord_38 : decode cc_Desk_farAccessWord 38 = .ok (.getfield 12, 3) := by decide +kernel
theorem d_Desk_farAccessWord_41 : decode cc_Desk_farAccessWord 41 = .ok (.getfield 197, 3) := by decide +kernel
theorem d_Desk_farAccessWord_44 : decode cc_Desk_farAccessWord 44 = .ok (.sipush 512, 3) := by decide +kernel
theorem d_Desk_farAccessWord_47 : decode cc_Desk_farAccessWord 47 = .ok (.invokevirtual 202, 3) := by decide +kernel
theorem d_Desk_farAccessWord_50 : decode cc_Desk_farAccessWord 50 = .ok (.ifCond .ne 5, 3) := by decide +kernel
theorem d_Desk_farAccessWord_53 : decode cc_Desk_farAccessWord 53 = .ok (.iconst 2, 1) := by decide +kernel
theorem d_Desk_farAccessWord_54 : decode cc_Desk_farAccessWord 54 = .ok (.ireturn, 1) := by decide +kernel
theorem d_Desk_farAccessWord_55 : decode cc_Desk_farAccessWord 55 = .ok (.bipush (-2), 2) := by decide +kernel
theorem d_Desk_farAccessWord_57 : decode cc_Desk_farAccessWord 57 = .ok (.ireturn, 1) := by decide +kernel
abbrev y_Desk_isFarAccess : MethodName := ⟨"TrapDesk", "isFarAccess", "(III)Z"⟩
abbrev cc_Desk_isFarAccess : ByteArray := prog_1_method_25_code
abbrev ws_Desk_isFarAccess : List Cond := Cond.code y_Desk_isFarAccess cc_Desk_isFarAccess 3 (some .boolean) :: gtb
theorem d_Desk_isFarAccess_0 : decode cc_Desk_isFarAccess 0 = .ok (.iload_n 0, 1) := by decide +kernel
theorem d_Desk_isFarAccess_1 : decode cc_Desk_isFarAccess 1 = .ok (.tableswitch 99 48 53 #[39, 89, 54, 89, 74, 89], 39) := by decide +kernel
theorem d_Desk_isFarAccess_40 : decode cc_Desk_isFarAccess 40 = .ok (.iload_n 1, 1) := by decide +kernel
theorem d_Desk_isFarAccess_41 : decode cc_Desk_isFarAccess 41 = .ok (.ifCond .eq 8, 3) := by decide +kernel
theorem d_Desk_isFarAccess_44 : decode cc_Desk_isFarAccess 44 = .ok (.iload_n 1, 1) := by decide +kernel
theorem d_Desk_isFarAccess_45 : decode cc_Desk_isFarAccess 45 = .ok (.iconst 1, 1) := by decide +kernel
theorem d_Desk_isFarAccess_46 : decode cc_Desk_isFarAccess 46 = .ok (.if_icmp .ne 7, 3) := by decide +kernel
theorem d_Desk_isFarAccess_49 : decode cc_Desk_isFarAccess 49 = .ok (.iconst 1, 1) := by decide +kernel
theorem d_Desk_isFarAccess_50 : decode cc_Desk_isFarAccess 50 = .ok (.goto 4, 3) := by decide +kernel
theorem d_Desk_isFarAccess_53 : decode cc_Desk_isFarAccess 53 = .ok (.iconst 0, 1) := by decide +kernel
theorem d_Desk_isFarAccess_54 : decode cc_Desk_isFarAccess 54 = .ok (.ireturn, 1) := by decide +kernel
theorem d_Desk_isFarAccess_55 : decode cc_Desk_isFarAccess 55 = .ok (.iload_n 1, 1) := by decide +kernel
theorem d_Desk_isFarAccess_56 : decode cc_Desk_isFarAccess 56 = .ok (.ifCond .eq 13, 3) := by decide +kernel
theorem d_Desk_isFarAccess_59 : decode cc_Desk_isFarAccess 59 = .ok (.iload_n 1, 1) := by decide +kernel
theorem d_Desk_isFarAccess_60 : decode cc_Desk_isFarAccess 60 = .ok (.iconst 1, 1) := by decide +kernel
theorem d_Desk_isFarAccess_61 : decode cc_Desk_isFarAccess 61 = .ok (.if_icmp .eq 8, 3) := by decide +kernel
theorem d_Desk_isFarAccess_64 : decode cc_Desk_isFarAccess 64 = .ok (.iload_n 1, 1) := by decide +kernel
theorem d_Desk_isFarAccess_65 : decode cc_Desk_isFarAccess 65 = .ok (.iconst 3, 1) := by decide +kernel
theorem d_Desk_isFarAccess_66 : decode cc_Desk_isFarAccess 66 = .ok (.if_icmp .ne 7, 3) := by decide +kernel
theorem d_Desk_isFarAccess_69 : decode cc_Desk_isFarAccess 69 = .ok (.iconst 1, 1) := by decide +kernel
theorem d_Desk_isFarAccess_70 : decode cc_Desk_isFarAccess 70 = .ok (.goto 4, 3) := by decide +kernel
theorem d_Desk_isFarAccess_73 : decode cc_Desk_isFarAccess 73 = .ok (.iconst 0, 1) := by decide +kernel
theorem d_Desk_isFarAccess_74 : decode cc_Desk_isFarAccess 74 = .ok (.ireturn, 1) := by decide +kernel
theorem d_Desk_isFarAccess_75 : decode cc_Desk_isFarAccess 75 = .ok (.iload_n 1, 1) := by decide +kernel
theorem d_Desk_isFarAccess_76 : decode cc_Desk_isFarAccess 76 = .ok (.ifCond .eq 8, 3) := by decide +kernel
theorem d_Desk_isFarAccess_79 : decode cc_Desk_isFarAccess 79 = .ok (.iload_n 1, 1) := by decide +kernel
theorem d_Desk_isFarAccess_80 : decode cc_Desk_isFarAccess 80 = .ok (.iconst 3, 1) := by decide +kernel
theorem d_Desk_isFarAccess_81 : decode cc_Desk_isFarAccess 81 = .ok (.if_icmp .ne 7, 3) := by decide +kernel
theorem d_Desk_isFarAccess_84 : decode cc_Desk_isFarAccess 84 = .ok (.iconst 1, 1) := by decide +kernel
theorem d_Desk_isFarAccess_85 : decode cc_Desk_isFarAccess 85 = .ok (.goto 4, 3) := by decide +kernel
theorem d_Desk_isFarAccess_88 : decode cc_Desk_isFarAccess 88 = .ok (.iconst 0, 1) := by decide +kernel
theorem d_Desk_isFarAccess_89 : decode cc_Desk_isFarAccess 89 = .ok (.ireturn, 1) := by decide +kernel
theorem d_Desk_isFarAccess_90 : decode cc_Desk_isFarAccess 90 = .ok (.iload_n 2, 1) := by decide +kernel
theorem d_Desk_isFarAccess_91 : decode cc_Desk_isFarAccess 91 = .ok (.ifCond .ne 7, 3) := by decide +kernel
theorem d_Desk_isFarAccess_94 : decode cc_Desk_isFarAccess 94 = .ok (.iconst 1, 1) := by decide +kernel
theorem d_Desk_isFarAccess_95 : decode cc_Desk_isFarAccess 95 = .ok (.goto 4, 3) := by decide +kernel
theorem d_Desk_isFarAccess_98 : decode cc_Desk_isFarAccess 98 = .ok (.iconst 0, 1) := by decide +kernel
theorem d_Desk_isFarAccess_99 : decode cc_Desk_isFarAccess 99 = .ok (.ireturn, 1) := by decide +kernel
theorem d_Desk_isFarAccess_100 : decode cc_Desk_isFarAccess 100 = .ok (.iconst 0, 1) := by decide +kernel
theorem d_Desk_isFarAccess_101 : decode cc_Desk_isFarAccess 101 = .ok (.ireturn, 1) := by decide +kernel
abbrev y_Desk_controlWord : MethodName := ⟨"TrapDesk", "controlWord", "(II)I"⟩
abbrev cc_Desk_controlWord : ByteArray := prog_1_method_26_code
abbrev ws_Desk_controlWord : List Cond := Cond.code y_Desk_controlWord cc_Desk_controlWord 11 (some .int) :: gtb
theorem d_Desk_controlWord_0 : decode cc_Desk_controlWord 0 = .ok (.iload_n 1, 1) := by decide +kernel
theorem d_Desk_controlWord_1 : decode cc_Desk_controlWord 1 = .ok (.bipush 20, 2) := by decide +kernel
theorem d_Desk_controlWord_3 : decode cc_Desk_controlWord 3 = .ok (.iushr, 1) := by decide +kernel
theorem d_Desk_controlWord_4 : decode cc_Desk_controlWord 4 = .ok (.istore_n 3, 1) := by decide +kernel
theorem d_Desk_controlWord_5 : decode cc_Desk_controlWord 5 = .ok (.iload_n 1, 1) := by decide +kernel
theorem d_Desk_controlWord_6 : decode cc_Desk_controlWord 6 = .ok (.invokestatic 151, 3) := by decide +kernel
theorem d_Desk_controlWord_9 : decode cc_Desk_controlWord 9 = .ok (.istore 4, 2) := by decide +kernel
theorem d_Desk_controlWord_11 : decode cc_Desk_controlWord 11 = .ok (.iload_n 2, 1) := by decide +kernel
theorem d_Desk_controlWord_12 : decode cc_Desk_controlWord 12 = .ok (.iconst 3, 1) := by decide +kernel
theorem d_Desk_controlWord_13 : decode cc_Desk_controlWord 13 = .ok (.iand, 1) := by decide +kernel
theorem d_Desk_controlWord_14 : decode cc_Desk_controlWord 14 = .ok (.istore 5, 2) := by decide +kernel
theorem d_Desk_controlWord_16 : decode cc_Desk_controlWord 16 = .ok (.iload 5, 2) := by decide +kernel
theorem d_Desk_controlWord_18 : decode cc_Desk_controlWord 18 = .ok (.iconst 1, 1) := by decide +kernel
theorem d_Desk_controlWord_19 : decode cc_Desk_controlWord 19 = .ok (.if_icmp .eq 8, 3) := by decide +kernel
theorem d_Desk_controlWord_22 : decode cc_Desk_controlWord 22 = .ok (.iload 4, 2) := by decide +kernel
theorem d_Desk_controlWord_24 : decode cc_Desk_controlWord 24 = .ok (.ifCond .eq 7, 3) := by decide +kernel
theorem d_Desk_controlWord_27 : decode cc_Desk_controlWord 27 = .ok (.iconst 1, 1) := by decide +kernel
theorem d_Desk_controlWord_28 : decode cc_Desk_controlWord 28 = .ok (.goto 4, 3) := by decide +kernel
theorem d_Desk_controlWord_31 : decode cc_Desk_controlWord 31 = .ok (.iconst 0, 1) := by decide +kernel
theorem d_Desk_controlWord_32 : decode cc_Desk_controlWord 32 = .ok (.istore 6, 2) := by decide +kernel
theorem d_Desk_controlWord_34 : decode cc_Desk_controlWord 34 = .ok (.aload_n 0, 1) := by decide +kernel
theorem d_Desk_controlWord_35 : decode cc_Desk_controlWord 35 = .ok (.iload_n 3, 1) := by decide +kernel
theorem d_Desk_controlWord_36 : decode cc_Desk_controlWord 36 = .ok (.iload 6, 2) := by decide +kernel
theorem d_Desk_controlWord_38 : decode cc_Desk_controlWord 38 = .ok (.invokevirtual 215, 3) := by decide +kernel
theorem d_Desk_controlWord_41 : decode cc_Desk_controlWord 41 = .ok (.istore 7, 2) := by decide +kernel
theorem d_Desk_controlWord_43 : decode cc_Desk_controlWord 43 = .ok (.iload 7, 2) := by decide +kernel
theorem d_Desk_controlWord_45 : decode cc_Desk_controlWord 45 = .ok (.iconst (-1), 1) := by decide +kernel
theorem d_Desk_controlWord_46 : decode cc_Desk_controlWord 46 = .ok (.if_icmp .eq 6, 3) := by decide +kernel
theorem d_Desk_controlWord_49 : decode cc_Desk_controlWord 49 = .ok (.iload 7, 2) := by decide +kernel
theorem d_Desk_controlWord_51 : decode cc_Desk_controlWord 51 = .ok (.ireturn, 1) := by decide +kernel
theorem d_Desk_controlWord_52 : decode cc_Desk_controlWord 52 = .ok (.aload_n 0, 1) := by decide +kernel
theorem d_Desk_controlWord_53 : decode cc_Desk_controlWord 53 = .ok (.getfield 28, 3) := by decide +kernel
theorem d_Desk_controlWord_56 : decode cc_Desk_controlWord 56 = .ok (.iconst 3, 1) := by decide +kernel
theorem d_Desk_controlWord_57 : decode cc_Desk_controlWord 57 = .ok (.if_icmp .ne 10, 3) := by decide +kernel
theorem d_Desk_controlWord_60 : decode cc_Desk_controlWord 60 = .ok (.iload_n 3, 1) := by decide +kernel
theorem d_Desk_controlWord_61 : decode cc_Desk_controlWord 61 = .ok (.invokestatic 219, 3) := by decide +kernel
theorem d_Desk_controlWord_64 : decode cc_Desk_controlWord 64 = .ok (.goto 4, 3) := by decide +kernel
theorem d_Desk_controlWord_67 : decode cc_Desk_controlWord 67 = .ok (.iload_n 3, 1) := by decide +kernel
theorem d_Desk_controlWord_68 : decode cc_Desk_controlWord 68 = .ok (.istore 8, 2) := by decide +kernel
theorem d_Desk_controlWord_70 : decode cc_Desk_controlWord 70 = .ok (.iload_n 2, 1) := by decide +kernel
theorem d_Desk_controlWord_71 : decode cc_Desk_controlWord 71 = .ok (.iconst 4, 1) := by decide +kernel
theorem d_Desk_controlWord_72 : decode cc_Desk_controlWord 72 = .ok (.if_icmp .le 8, 3) := by decide +kernel
theorem d_Desk_controlWord_75 : decode cc_Desk_controlWord 75 = .ok (.iload 4, 2) := by decide +kernel
theorem d_Desk_controlWord_77 : decode cc_Desk_controlWord 77 = .ok (.goto 12, 3) := by decide +kernel
theorem d_Desk_controlWord_80 : decode cc_Desk_controlWord 80 = .ok (.aload_n 0, 1) := by decide +kernel
theorem d_Desk_controlWord_81 : decode cc_Desk_controlWord 81 = .ok (.getfield 24, 3) := by decide +kernel
theorem d_Desk_controlWord_84 : decode cc_Desk_controlWord 84 = .ok (.iload 4, 2) := by decide +kernel
theorem d_Desk_controlWord_86 : decode cc_Desk_controlWord 86 = .ok (.invokevirtual 77, 3) := by decide +kernel
theorem d_Desk_controlWord_89 : decode cc_Desk_controlWord 89 = .ok (.istore 9, 2) := by decide +kernel
theorem d_Desk_controlWord_91 : decode cc_Desk_controlWord 91 = .ok (.aload_n 0, 1) := by decide +kernel
theorem d_Desk_controlWord_92 : decode cc_Desk_controlWord 92 = .ok (.getfield 12, 3) := by decide +kernel
theorem d_Desk_controlWord_95 : decode cc_Desk_controlWord 95 = .ok (.iload 8, 2) := by decide +kernel
theorem d_Desk_controlWord_97 : decode cc_Desk_controlWord 97 = .ok (.invokevirtual 61, 3) := by decide +kernel
theorem d_Desk_controlWord_100 : decode cc_Desk_controlWord 100 = .ok (.istore 10, 2) := by decide +kernel
theorem d_Desk_controlWord_102 : decode cc_Desk_controlWord 102 = .ok (.iload 6, 2) := by decide +kernel
theorem d_Desk_controlWord_104 : decode cc_Desk_controlWord 104 = .ok (.ifCond .eq 21, 3) := by decide +kernel
theorem d_Desk_controlWord_107 : decode cc_Desk_controlWord 107 = .ok (.aload_n 0, 1) := by decide +kernel
theorem d_Desk_controlWord_108 : decode cc_Desk_controlWord 108 = .ok (.getfield 12, 3) := by decide +kernel
theorem d_Desk_controlWord_111 : decode cc_Desk_controlWord 111 = .ok (.iload 8, 2) := by decide +kernel
theorem d_Desk_controlWord_113 : decode cc_Desk_controlWord 113 = .ok (.iload 5, 2) := by decide +kernel
theorem d_Desk_controlWord_115 : decode cc_Desk_controlWord 115 = .ok (.iload 10, 2) := by decide +kernel
theorem d_Desk_controlWord_117 : decode cc_Desk_controlWord 117 = .ok (.iload 9, 2) := by decide +kernel
theorem d_Desk_controlWord_119 : decode cc_Desk_controlWord 119 = .ok (.invokestatic 222, 3) := by decide +kernel
theorem d_Desk_controlWord_122 : decode cc_Desk_controlWord 122 = .ok (.invokevirtual 57, 3) := by decide +kernel
theorem d_Desk_controlWord_125 : decode cc_Desk_controlWord 125 = .ok (.aload_n 0, 1) := by decide +kernel
theorem d_Desk_controlWord_126 : decode cc_Desk_controlWord 126 = .ok (.getfield 24, 3) := by decide +kernel
theorem d_Desk_controlWord_129 : decode cc_Desk_controlWord 129 = .ok (.iload_n 1, 1) := by decide +kernel
theorem d_Desk_controlWord_130 : decode cc_Desk_controlWord 130 = .ok (.invokestatic 133, 3) := by decide +kernel
theorem d_Desk_controlWord_133 : decode cc_Desk_controlWord 133 = .ok (.iload 10, 2) := by decide +kernel
theorem d_Desk_controlWord_135 : decode cc_Desk_controlWord 135 = .ok (.invokevirtual 78, 3) := by decide +kernel
theorem d_Desk_controlWord_138 : decode cc_Desk_controlWord 138 = .ok (.aload_n 0, 1) := by decide +kernel
theorem d_Desk_controlWord_139 : decode cc_Desk_controlWord 139 = .ok (.invokevirtual 174, 3) := by decide +kernel
theorem d_Desk_controlWord_142 : decode cc_Desk_controlWord 142 = .ok (.ireturn, 1) := by decide +kernel
abbrev y_Desk_combined : MethodName := ⟨"TrapDesk", "combined", "(III)I"⟩
abbrev cc_Desk_combined : ByteArray := prog_1_method_27_code
abbrev ws_Desk_combined : List Cond := Cond.code y_Desk_combined cc_Desk_combined 3 (some .int) :: gtb
theorem d_Desk_combined_0 : decode cc_Desk_combined 0 = .ok (.iload_n 0, 1) := by decide +kernel
theorem d_Desk_combined_1 : decode cc_Desk_combined 1 = .ok (.lookupswitch 33 #[(1, 27), (2, 29)], 27) := by decide +kernel
theorem d_Desk_combined_28 : decode cc_Desk_combined 28 = .ok (.iload_n 2, 1) := by decide +kernel
theorem d_Desk_combined_29 : decode cc_Desk_combined 29 = .ok (.ireturn, 1) := by decide +kernel
theorem d_Desk_combined_30 : decode cc_Desk_combined 30 = .ok (.iload_n 1, 1) := by decide +kernel
theorem d_Desk_combined_31 : decode cc_Desk_combined 31 = .ok (.iload_n 2, 1) := by decide +kernel
theorem d_Desk_combined_32 : decode cc_Desk_combined 32 = .ok (.ior, 1) := by decide +kernel
theorem d_Desk_combined_33 : decode cc_Desk_combined 33 = .ok (.ireturn, 1) := by decide +kernel
theorem d_Desk_combined_34 : decode cc_Desk_combined 34 = .ok (.iload_n 1, 1) := by decide +kernel
theorem d_Desk_combined_35 : decode cc_Desk_combined 35 = .ok (.iload_n 2, 1) := by decide +kernel
theorem d_Desk_combined_36 : decode cc_Desk_combined 36 = .ok (.iconst (-1), 1) := by decide +kernel
theorem d_Desk_combined_37 : decode cc_Desk_combined 37 = .ok (.ixor, 1) := by decide +kernel
theorem d_Desk_combined_38 : decode cc_Desk_combined 38 = .ok (.iand, 1) := by decide +kernel
theorem d_Desk_combined_39 : decode cc_Desk_combined 39 = .ok (.ireturn, 1) := by decide +kernel
abbrev y_Desk_refusalOfAccess : MethodName := ⟨"TrapDesk", "refusalOfAccess", "(IZ)I"⟩
abbrev cc_Desk_refusalOfAccess : ByteArray := prog_1_method_28_code
abbrev ws_Desk_refusalOfAccess : List Cond := Cond.code y_Desk_refusalOfAccess cc_Desk_refusalOfAccess 3 (some .int) :: gtb
theorem d_Desk_refusalOfAccess_0 : decode cc_Desk_refusalOfAccess 0 = .ok (.iload_n 1, 1) := by decide +kernel
theorem d_Desk_refusalOfAccess_1 : decode cc_Desk_refusalOfAccess 1 = .ok (.invokestatic 48, 3) := by decide +kernel
theorem d_Desk_refusalOfAccess_4 : decode cc_Desk_refusalOfAccess 4 = .ok (.ifCond .ne 5, 3) := by decide +kernel
theorem d_Desk_refusalOfAccess_7 : decode cc_Desk_refusalOfAccess 7 = .ok (.iconst 2, 1) := by decide +kernel
theorem d_Desk_refusalOfAccess_8 : decode cc_Desk_refusalOfAccess 8 = .ok (.ireturn, 1) := by decide +kernel
theorem d_Desk_refusalOfAccess_9 : decode cc_Desk_refusalOfAccess 9 = .ok (.iload_n 1, 1) := by decide +kernel
theorem d_Desk_refusalOfAccess_10 : decode cc_Desk_refusalOfAccess 10 = .ok (.invokestatic 54, 3) := by decide +kernel
theorem d_Desk_refusalOfAccess_13 : decode cc_Desk_refusalOfAccess 13 = .ok (.ifCond .eq 13, 3) := by decide +kernel
theorem d_Desk_refusalOfAccess_16 : decode cc_Desk_refusalOfAccess 16 = .ok (.iload_n 2, 1) := by decide +kernel
theorem d_Desk_refusalOfAccess_17 : decode cc_Desk_refusalOfAccess 17 = .ok (.ifCond .eq 7, 3) := by decide +kernel
theorem d_Desk_refusalOfAccess_20 : decode cc_Desk_refusalOfAccess 20 = .ok (.iconst 2, 1) := by decide +kernel
theorem d_Desk_refusalOfAccess_21 : decode cc_Desk_refusalOfAccess 21 = .ok (.goto 4, 3) := by decide +kernel
theorem d_Desk_refusalOfAccess_24 : decode cc_Desk_refusalOfAccess 24 = .ok (.iconst (-1), 1) := by decide +kernel
theorem d_Desk_refusalOfAccess_25 : decode cc_Desk_refusalOfAccess 25 = .ok (.ireturn, 1) := by decide +kernel
theorem d_Desk_refusalOfAccess_26 : decode cc_Desk_refusalOfAccess 26 = .ok (.aload_n 0, 1) := by decide +kernel
theorem d_Desk_refusalOfAccess_27 : decode cc_Desk_refusalOfAccess 27 = .ok (.getfield 28, 3) := by decide +kernel
theorem d_Desk_refusalOfAccess_30 : decode cc_Desk_refusalOfAccess 30 = .ok (.tableswitch 49 0 3 #[32, 30, 49, 34], 30) := by decide +kernel
theorem d_Desk_refusalOfAccess_60 : decode cc_Desk_refusalOfAccess 60 = .ok (.iconst (-1), 1) := by decide +kernel
theorem d_Desk_refusalOfAccess_61 : decode cc_Desk_refusalOfAccess 61 = .ok (.ireturn, 1) := by decide +kernel
theorem d_Desk_refusalOfAccess_62 : decode cc_Desk_refusalOfAccess 62 = .ok (.iconst 2, 1) := by decide +kernel
theorem d_Desk_refusalOfAccess_63 : decode cc_Desk_refusalOfAccess 63 = .ok (.ireturn, 1) := by decide +kernel
theorem d_Desk_refusalOfAccess_64 : decode cc_Desk_refusalOfAccess 64 = .ok (.aload_n 0, 1) := by decide +kernel
theorem d_Desk_refusalOfAccess_65 : decode cc_Desk_refusalOfAccess 65 = .ok (.iload_n 1, 1) := by decide +kernel
theorem d_Desk_refusalOfAccess_66 : decode cc_Desk_refusalOfAccess 66 = .ok (.invokevirtual 225, 3) := by decide +kernel
theorem d_Desk_refusalOfAccess_69 : decode cc_Desk_refusalOfAccess 69 = .ok (.ifCond .eq 7, 3) := by decide +kernel
theorem d_Desk_refusalOfAccess_72 : decode cc_Desk_refusalOfAccess 72 = .ok (.iconst (-1), 1) := by decide +kernel
theorem d_Desk_refusalOfAccess_73 : decode cc_Desk_refusalOfAccess 73 = .ok (.goto 5, 3) := by decide +kernel
theorem d_Desk_refusalOfAccess_76 : decode cc_Desk_refusalOfAccess 76 = .ok (.bipush 22, 2) := by decide +kernel
theorem d_Desk_refusalOfAccess_78 : decode cc_Desk_refusalOfAccess 78 = .ok (.ireturn, 1) := by decide +kernel
theorem d_Desk_refusalOfAccess_79 : decode cc_Desk_refusalOfAccess 79 = .ok (.bipush 22, 2) := by decide +kernel
theorem d_Desk_refusalOfAccess_81 : decode cc_Desk_refusalOfAccess 81 = .ok (.ireturn, 1) := by decide +kernel
abbrev y_Desk_isOpenToVs : MethodName := ⟨"TrapDesk", "isOpenToVs", "(I)Z"⟩
abbrev cc_Desk_isOpenToVs : ByteArray := prog_1_method_29_code
abbrev ws_Desk_isOpenToVs : List Cond := Cond.code y_Desk_isOpenToVs cc_Desk_isOpenToVs 2 (some .boolean) :: gtb
theorem d_Desk_isOpenToVs_0 : decode cc_Desk_isOpenToVs 0 = .ok (.iload_n 1, 1) := by decide +kernel
theorem d_Desk_isOpenToVs_1 : decode cc_Desk_isOpenToVs 1 = .ok (.invokestatic 228, 3) := by decide +kernel
theorem d_Desk_isOpenToVs_4 : decode cc_Desk_isOpenToVs 4 = .ok (.ifCond .ne 5, 3) := by decide +kernel
theorem d_Desk_isOpenToVs_7 : decode cc_Desk_isOpenToVs 7 = .ok (.iconst 0, 1) := by decide +kernel
theorem d_Desk_isOpenToVs_8 : decode cc_Desk_isOpenToVs 8 = .ok (.ireturn, 1) := by decide +kernel
theorem d_Desk_isOpenToVs_9 : decode cc_Desk_isOpenToVs 9 = .ok (.iload_n 1, 1) := by decide +kernel
theorem d_Desk_isOpenToVs_10 : decode cc_Desk_isOpenToVs 10 = .ok (.sipush 384, 3) := by decide +kernel
theorem d_Desk_isOpenToVs_13 : decode cc_Desk_isOpenToVs 13 = .ok (.if_icmp .ne 18, 3) := by decide +kernel
theorem d_Desk_isOpenToVs_16 : decode cc_Desk_isOpenToVs 16 = .ok (.aload_n 0, 1) := by decide +kernel
theorem d_Desk_isOpenToVs_17 : decode cc_Desk_isOpenToVs 17 = .ok (.getfield 12, 3) := by decide +kernel
theorem d_Desk_isOpenToVs_20 : decode cc_Desk_isOpenToVs 20 = .ok (.getfield 197, 3) := by decide +kernel
theorem d_Desk_isOpenToVs_23 : decode cc_Desk_isOpenToVs 23 = .ok (.ldc 141, 2) := by decide +kernel
theorem d_Desk_isOpenToVs_25 : decode cc_Desk_isOpenToVs 25 = .ok (.invokevirtual 202, 3) := by decide +kernel
theorem d_Desk_isOpenToVs_28 : decode cc_Desk_isOpenToVs 28 = .ok (.ifCond .ne 7, 3) := by decide +kernel
theorem d_Desk_isOpenToVs_31 : decode cc_Desk_isOpenToVs 31 = .ok (.iconst 1, 1) := by decide +kernel
theorem d_Desk_isOpenToVs_32 : decode cc_Desk_isOpenToVs 32 = .ok (.goto 4, 3) := by decide +kernel
theorem d_Desk_isOpenToVs_35 : decode cc_Desk_isOpenToVs 35 = .ok (.iconst 0, 1) := by decide +kernel
theorem d_Desk_isOpenToVs_36 : decode cc_Desk_isOpenToVs 36 = .ok (.ireturn, 1) := by decide +kernel
abbrev y_Desk_goOn : MethodName := ⟨"TrapDesk", "goOn", "()I"⟩
abbrev cc_Desk_goOn : ByteArray := prog_1_method_30_code
abbrev ws_Desk_goOn : List Cond := Cond.code y_Desk_goOn cc_Desk_goOn 1 (some .int) :: gtb
theorem d_Desk_goOn_0 : decode cc_Desk_goOn 0 = .ok (.aload_n 0, 1) := by decide +kernel
theorem d_Desk_goOn_1 : decode cc_Desk_goOn 1 = .ok (.dup, 1) := by decide +kernel
theorem d_Desk_goOn_2 : decode cc_Desk_goOn 2 = .ok (.getfield 36, 3) := by decide +kernel
theorem d_Desk_goOn_5 : decode cc_Desk_goOn 5 = .ok (.iconst 4, 1) := by decide +kernel
theorem d_Desk_goOn_6 : decode cc_Desk_goOn 6 = .ok (.iadd, 1) := by decide +kernel
theorem d_Desk_goOn_7 : decode cc_Desk_goOn 7 = .ok (.putfield 36, 3) := by decide +kernel
theorem d_Desk_goOn_10 : decode cc_Desk_goOn 10 = .ok (.iconst (-1), 1) := by decide +kernel
theorem d_Desk_goOn_11 : decode cc_Desk_goOn 11 = .ok (.ireturn, 1) := by decide +kernel
abbrev y_Desk_fieldD : MethodName := ⟨"TrapDesk", "fieldD", "(I)I"⟩
abbrev cc_Desk_fieldD : ByteArray := prog_1_method_31_code
abbrev ws_Desk_fieldD : List Cond := Cond.code y_Desk_fieldD cc_Desk_fieldD 1 (some .int) :: gtb
theorem d_Desk_fieldD_0 : decode cc_Desk_fieldD 0 = .ok (.iload_n 0, 1) := by decide +kernel
theorem d_Desk_fieldD_1 : decode cc_Desk_fieldD 1 = .ok (.bipush 7, 2) := by decide +kernel
theorem d_Desk_fieldD_3 : decode cc_Desk_fieldD 3 = .ok (.iushr, 1) := by decide +kernel
theorem d_Desk_fieldD_4 : decode cc_Desk_fieldD 4 = .ok (.bipush 31, 2) := by decide +kernel
theorem d_Desk_fieldD_6 : decode cc_Desk_fieldD 6 = .ok (.iand, 1) := by decide +kernel
theorem d_Desk_fieldD_7 : decode cc_Desk_fieldD 7 = .ok (.ireturn, 1) := by decide +kernel
abbrev y_Desk_fieldA : MethodName := ⟨"TrapDesk", "fieldA", "(I)I"⟩
abbrev cc_Desk_fieldA : ByteArray := prog_1_method_32_code
abbrev ws_Desk_fieldA : List Cond := Cond.code y_Desk_fieldA cc_Desk_fieldA 1 (some .int) :: gtb
theorem d_Desk_fieldA_0 : decode cc_Desk_fieldA 0 = .ok (.iload_n 0, 1) := by decide +kernel
theorem d_Desk_fieldA_1 : decode cc_Desk_fieldA 1 = .ok (.bipush 15, 2) := by decide +kernel
theorem d_Desk_fieldA_3 : decode cc_Desk_fieldA 3 = .ok (.iushr, 1) := by decide +kernel
theorem d_Desk_fieldA_4 : decode cc_Desk_fieldA 4 = .ok (.bipush 31, 2) := by decide +kernel
theorem d_Desk_fieldA_6 : decode cc_Desk_fieldA 6 = .ok (.iand, 1) := by decide +kernel
theorem d_Desk_fieldA_7 : decode cc_Desk_fieldA 7 = .ok (.ireturn, 1) := by decide +kernel
abbrev y_Desk_fieldB : MethodName := ⟨"TrapDesk", "fieldB", "(I)I"⟩
abbrev cc_Desk_fieldB : ByteArray := prog_1_method_33_code
abbrev ws_Desk_fieldB : List Cond := Cond.code y_Desk_fieldB cc_Desk_fieldB 1 (some .int) :: gtb
theorem d_Desk_fieldB_0 : decode cc_Desk_fieldB 0 = .ok (.iload_n 0, 1) := by decide +kernel
theorem d_Desk_fieldB_1 : decode cc_Desk_fieldB 1 = .ok (.bipush 20, 2) := by decide +kernel
theorem d_Desk_fieldB_3 : decode cc_Desk_fieldB 3 = .ok (.iushr, 1) := by decide +kernel
theorem d_Desk_fieldB_4 : decode cc_Desk_fieldB 4 = .ok (.bipush 31, 2) := by decide +kernel
theorem d_Desk_fieldB_6 : decode cc_Desk_fieldB 6 = .ok (.iand, 1) := by decide +kernel
theorem d_Desk_fieldB_7 : decode cc_Desk_fieldB 7 = .ok (.ireturn, 1) := by decide +kernel
abbrev y_Desk_fieldG : MethodName := ⟨"TrapDesk", "fieldG", "(I)I"⟩
abbrev cc_Desk_fieldG : ByteArray := prog_1_method_34_code
abbrev ws_Desk_fieldG : List Cond := Cond.code y_Desk_fieldG cc_Desk_fieldG 1 (some .int) :: gtb
theorem d_Desk_fieldG_0 : decode cc_Desk_fieldG 0 = .ok (.iload_n 0, 1) := by decide +kernel
theorem d_Desk_fieldG_1 : decode cc_Desk_fieldG 1 = .ok (.bipush 25, 2) := by decide +kernel
theorem d_Desk_fieldG_3 : decode cc_Desk_fieldG 3 = .ok (.iushr, 1) := by decide +kernel
theorem d_Desk_fieldG_4 : decode cc_Desk_fieldG 4 = .ok (.ireturn, 1) := by decide +kernel
abbrev y_Desk_trapValue : MethodName := ⟨"TrapDesk", "trapValue", "(II)I"⟩
abbrev cc_Desk_trapValue : ByteArray := prog_1_method_35_code
abbrev ws_Desk_trapValue : List Cond := Cond.code y_Desk_trapValue cc_Desk_trapValue 3 (some .int) :: gtb
theorem d_Desk_trapValue_0 : decode cc_Desk_trapValue 0 = .ok (.iload_n 1, 1) := by decide +kernel
theorem d_Desk_trapValue_1 : decode cc_Desk_trapValue 1 = .ok (.lookupswitch 42 #[(2, 35), (3, 37), (22, 35)], 35) := by decide +kernel
theorem d_Desk_trapValue_36 : decode cc_Desk_trapValue 36 = .ok (.iload_n 2, 1) := by decide +kernel
theorem d_Desk_trapValue_37 : decode cc_Desk_trapValue 37 = .ok (.ireturn, 1) := by decide +kernel
theorem d_Desk_trapValue_38 : decode cc_Desk_trapValue 38 = .ok (.aload_n 0, 1) := by decide +kernel
theorem d_Desk_trapValue_39 : decode cc_Desk_trapValue 39 = .ok (.getfield 36, 3) := by decide +kernel
theorem d_Desk_trapValue_42 : decode cc_Desk_trapValue 42 = .ok (.ireturn, 1) := by decide +kernel
theorem d_Desk_trapValue_43 : decode cc_Desk_trapValue 43 = .ok (.iconst 0, 1) := by decide +kernel
theorem d_Desk_trapValue_44 : decode cc_Desk_trapValue 44 = .ok (.ireturn, 1) := by decide +kernel
abbrev y_Desk_raise : MethodName := ⟨"TrapDesk", "raise", "(IIZII)V"⟩
abbrev cc_Desk_raise : ByteArray := prog_1_method_36_code
abbrev ws_Desk_raise : List Cond := Cond.code y_Desk_raise cc_Desk_raise 7 none :: gtb
theorem d_Desk_raise_0 : decode cc_Desk_raise 0 = .ok (.aload_n 0, 1) := by decide +kernel
theorem d_Desk_raise_1 : decode cc_Desk_raise 1 = .ok (.invokevirtual 205, 3) := by decide +kernel
theorem d_Desk_raise_4 : decode cc_Desk_raise 4 = .ok (.ifCond .eq 27, 3) := by decide +kernel
theorem d_Desk_raise_7 : decode cc_Desk_raise 7 = .ok (.aload_n 0, 1) := by decide +kernel
theorem d_Desk_raise_8 : decode cc_Desk_raise 8 = .ok (.getfield 12, 3) := by decide +kernel
theorem d_Desk_raise_11 : decode cc_Desk_raise 11 = .ok (.getfield 197, 3) := by decide +kernel
theorem d_Desk_raise_14 : decode cc_Desk_raise 14 = .ok (.getfield 231, 3) := by decide +kernel
theorem d_Desk_raise_17 : decode cc_Desk_raise 17 = .ok (.iload_n 1, 1) := by decide +kernel
theorem d_Desk_raise_18 : decode cc_Desk_raise 18 = .ok (.invokestatic 94, 3) := by decide +kernel
theorem d_Desk_raise_21 : decode cc_Desk_raise 21 = .ok (.ifCond .eq 10, 3) := by decide +kernel
theorem d_Desk_raise_24 : decode cc_Desk_raise 24 = .ok (.aload_n 0, 1) := by decide +kernel
theorem d_Desk_raise_25 : decode cc_Desk_raise 25 = .ok (.iload_n 1, 1) := by decide +kernel
theorem d_Desk_raise_26 : decode cc_Desk_raise 26 = .ok (.iload_n 2, 1) := by decide +kernel
theorem d_Desk_raise_27 : decode cc_Desk_raise 27 = .ok (.invokevirtual 112, 3) := by decide +kernel
theorem d_Desk_raise_30 : decode cc_Desk_raise 30 = .ok (.return_, 1) := by decide +kernel
theorem d_Desk_raise_31 : decode cc_Desk_raise 31 = .ok (.ldc 234, 2) := by decide +kernel
theorem d_Desk_raise_33 : decode cc_Desk_raise 33 = .ok (.iload_n 1, 1) := by decide +kernel
theorem d_Desk_raise_34 : decode cc_Desk_raise 34 = .ok (.invokestatic 94, 3) := by decide +kernel
theorem d_Desk_raise_37 : decode cc_Desk_raise 37 = .ok (.ifCond .eq 18, 3) := by decide +kernel
theorem d_Desk_raise_40 : decode cc_Desk_raise 40 = .ok (.iload_n 3, 1) := by decide +kernel
theorem d_Desk_raise_41 : decode cc_Desk_raise 41 = .ok (.ifCond .ne 10, 3) := by decide +kernel
theorem d_Desk_raise_44 : decode cc_Desk_raise 44 = .ok (.aload_n 0, 1) := by decide +kernel
theorem d_Desk_raise_45 : decode cc_Desk_raise 45 = .ok (.invokevirtual 205, 3) := by decide +kernel
theorem d_Desk_raise_48 : decode cc_Desk_raise 48 = .ok (.ifCond .eq 7, 3) := by decide +kernel
theorem d_Desk_raise_51 : decode cc_Desk_raise 51 = .ok (.iconst 1, 1) := by decide +kernel
theorem d_Desk_raise_52 : decode cc_Desk_raise 52 = .ok (.goto 4, 3) := by decide +kernel
theorem d_Desk_raise_55 : decode cc_Desk_raise 55 = .ok (.iconst 0, 1) := by decide +kernel
theorem d_Desk_raise_56 : decode cc_Desk_raise 56 = .ok (.istore 6, 2) := by decide +kernel
theorem d_Desk_raise_58 : decode cc_Desk_raise 58 = .ok (.aload_n 0, 1) := by decide +kernel
theorem d_Desk_raise_59 : decode cc_Desk_raise 59 = .ok (.iload_n 1, 1) := by decide +kernel
theorem d_Desk_raise_60 : decode cc_Desk_raise 60 = .ok (.iload_n 2, 1) := by decide +kernel
theorem d_Desk_raise_61 : decode cc_Desk_raise 61 = .ok (.iload 6, 2) := by decide +kernel
theorem d_Desk_raise_63 : decode cc_Desk_raise 63 = .ok (.iload 4, 2) := by decide +kernel
theorem d_Desk_raise_65 : decode cc_Desk_raise 65 = .ok (.iload 5, 2) := by decide +kernel
theorem d_Desk_raise_67 : decode cc_Desk_raise 67 = .ok (.invokevirtual 106, 3) := by decide +kernel
theorem d_Desk_raise_70 : decode cc_Desk_raise 70 = .ok (.return_, 1) := by decide +kernel
abbrev y_Desk_enterS : MethodName := ⟨"TrapDesk", "enterS", "(IIZII)V"⟩
abbrev cc_Desk_enterS : ByteArray := prog_1_method_37_code
abbrev ws_Desk_enterS : List Cond := Cond.code y_Desk_enterS cc_Desk_enterS 6 none :: gtb
theorem d_Desk_enterS_0 : decode cc_Desk_enterS 0 = .ok (.aload_n 0, 1) := by decide +kernel
theorem d_Desk_enterS_1 : decode cc_Desk_enterS 1 = .ok (.getfield 12, 3) := by decide +kernel
theorem d_Desk_enterS_4 : decode cc_Desk_enterS 4 = .ok (.getfield 197, 3) := by decide +kernel
theorem d_Desk_enterS_7 : decode cc_Desk_enterS 7 = .ok (.aload_n 0, 1) := by decide +kernel
theorem d_Desk_enterS_8 : decode cc_Desk_enterS 8 = .ok (.invokevirtual 205, 3) := by decide +kernel
theorem d_Desk_enterS_11 : decode cc_Desk_enterS 11 = .ok (.aload_n 0, 1) := by decide +kernel
theorem d_Desk_enterS_12 : decode cc_Desk_enterS 12 = .ok (.invokevirtual 235, 3) := by decide +kernel
theorem d_Desk_enterS_15 : decode cc_Desk_enterS 15 = .ok (.iload_n 3, 1) := by decide +kernel
theorem d_Desk_enterS_16 : decode cc_Desk_enterS 16 = .ok (.invokevirtual 238, 3) := by decide +kernel
theorem d_Desk_enterS_19 : decode cc_Desk_enterS 19 = .ok (.aload_n 0, 1) := by decide +kernel
theorem d_Desk_enterS_20 : decode cc_Desk_enterS 20 = .ok (.getfield 12, 3) := by decide +kernel
theorem d_Desk_enterS_23 : decode cc_Desk_enterS 23 = .ok (.getfield 197, 3) := by decide +kernel
theorem d_Desk_enterS_26 : decode cc_Desk_enterS 26 = .ok (.iload 4, 2) := by decide +kernel
theorem d_Desk_enterS_28 : decode cc_Desk_enterS 28 = .ok (.putfield 242, 3) := by decide +kernel
theorem d_Desk_enterS_31 : decode cc_Desk_enterS 31 = .ok (.aload_n 0, 1) := by decide +kernel
theorem d_Desk_enterS_32 : decode cc_Desk_enterS 32 = .ok (.getfield 12, 3) := by decide +kernel
theorem d_Desk_enterS_35 : decode cc_Desk_enterS 35 = .ok (.getfield 197, 3) := by decide +kernel
theorem d_Desk_enterS_38 : decode cc_Desk_enterS 38 = .ok (.iload 5, 2) := by decide +kernel
theorem d_Desk_enterS_40 : decode cc_Desk_enterS 40 = .ok (.putfield 245, 3) := by decide +kernel
theorem d_Desk_enterS_43 : decode cc_Desk_enterS 43 = .ok (.aload_n 0, 1) := by decide +kernel
theorem d_Desk_enterS_44 : decode cc_Desk_enterS 44 = .ok (.aload_n 0, 1) := by decide +kernel
theorem d_Desk_enterS_45 : decode cc_Desk_enterS 45 = .ok (.getfield 12, 3) := by decide +kernel
theorem d_Desk_enterS_48 : decode cc_Desk_enterS 48 = .ok (.getfield 194, 3) := by decide +kernel
theorem d_Desk_enterS_51 : decode cc_Desk_enterS 51 = .ok (.aload_n 0, 1) := by decide +kernel
theorem d_Desk_enterS_52 : decode cc_Desk_enterS 52 = .ok (.getfield 36, 3) := by decide +kernel
theorem d_Desk_enterS_55 : decode cc_Desk_enterS 55 = .ok (.iload_n 1, 1) := by decide +kernel
theorem d_Desk_enterS_56 : decode cc_Desk_enterS 56 = .ok (.iload_n 2, 1) := by decide +kernel
theorem d_Desk_enterS_57 : decode cc_Desk_enterS 57 = .ok (.aload_n 0, 1) := by decide +kernel
theorem d_Desk_enterS_58 : decode cc_Desk_enterS 58 = .ok (.invokevirtual 235, 3) := by decide +kernel
theorem d_Desk_enterS_61 : decode cc_Desk_enterS 61 = .ok (.invokevirtual 248, 3) := by decide +kernel
theorem d_Desk_enterS_64 : decode cc_Desk_enterS 64 = .ok (.putfield 36, 3) := by decide +kernel
theorem d_Desk_enterS_67 : decode cc_Desk_enterS 67 = .ok (.aload_n 0, 1) := by decide +kernel
theorem d_Desk_enterS_68 : decode cc_Desk_enterS 68 = .ok (.iconst 1, 1) := by decide +kernel
theorem d_Desk_enterS_69 : decode cc_Desk_enterS 69 = .ok (.putfield 28, 3) := by decide +kernel
theorem d_Desk_enterS_72 : decode cc_Desk_enterS 72 = .ok (.aload_n 0, 1) := by decide +kernel
theorem d_Desk_enterS_73 : decode cc_Desk_enterS 73 = .ok (.dup, 1) := by decide +kernel
theorem d_Desk_enterS_74 : decode cc_Desk_enterS 74 = .ok (.getfield 39, 3) := by decide +kernel
theorem d_Desk_enterS_77 : decode cc_Desk_enterS 77 = .ok (.iconst 1, 1) := by decide +kernel
theorem d_Desk_enterS_78 : decode cc_Desk_enterS 78 = .ok (.iadd, 1) := by decide +kernel
theorem d_Desk_enterS_79 : decode cc_Desk_enterS 79 = .ok (.putfield 39, 3) := by decide +kernel
theorem d_Desk_enterS_82 : decode cc_Desk_enterS 82 = .ok (.return_, 1) := by decide +kernel
abbrev y_Desk_enterVs : MethodName := ⟨"TrapDesk", "enterVs", "(II)V"⟩
abbrev cc_Desk_enterVs : ByteArray := prog_1_method_38_code
abbrev ws_Desk_enterVs : List Cond := Cond.code y_Desk_enterVs cc_Desk_enterVs 3 none :: gtb
theorem d_Desk_enterVs_0 : decode cc_Desk_enterVs 0 = .ok (.aload_n 0, 1) := by decide +kernel
theorem d_Desk_enterVs_1 : decode cc_Desk_enterVs 1 = .ok (.aload_n 0, 1) := by decide +kernel
theorem d_Desk_enterVs_2 : decode cc_Desk_enterVs 2 = .ok (.getfield 12, 3) := by decide +kernel
theorem d_Desk_enterVs_5 : decode cc_Desk_enterVs 5 = .ok (.getfield 181, 3) := by decide +kernel
theorem d_Desk_enterVs_8 : decode cc_Desk_enterVs 8 = .ok (.aload_n 0, 1) := by decide +kernel
theorem d_Desk_enterVs_9 : decode cc_Desk_enterVs 9 = .ok (.getfield 36, 3) := by decide +kernel
theorem d_Desk_enterVs_12 : decode cc_Desk_enterVs 12 = .ok (.iload_n 1, 1) := by decide +kernel
theorem d_Desk_enterVs_13 : decode cc_Desk_enterVs 13 = .ok (.iload_n 2, 1) := by decide +kernel
theorem d_Desk_enterVs_14 : decode cc_Desk_enterVs 14 = .ok (.aload_n 0, 1) := by decide +kernel
theorem d_Desk_enterVs_15 : decode cc_Desk_enterVs 15 = .ok (.invokevirtual 235, 3) := by decide +kernel
theorem d_Desk_enterVs_18 : decode cc_Desk_enterVs 18 = .ok (.invokevirtual 248, 3) := by decide +kernel
theorem d_Desk_enterVs_21 : decode cc_Desk_enterVs 21 = .ok (.putfield 36, 3) := by decide +kernel
theorem d_Desk_enterVs_24 : decode cc_Desk_enterVs 24 = .ok (.aload_n 0, 1) := by decide +kernel
theorem d_Desk_enterVs_25 : decode cc_Desk_enterVs 25 = .ok (.iconst 3, 1) := by decide +kernel
theorem d_Desk_enterVs_26 : decode cc_Desk_enterVs 26 = .ok (.putfield 28, 3) := by decide +kernel
theorem d_Desk_enterVs_29 : decode cc_Desk_enterVs 29 = .ok (.aload_n 0, 1) := by decide +kernel
theorem d_Desk_enterVs_30 : decode cc_Desk_enterVs 30 = .ok (.dup, 1) := by decide +kernel
theorem d_Desk_enterVs_31 : decode cc_Desk_enterVs 31 = .ok (.getfield 42, 3) := by decide +kernel
theorem d_Desk_enterVs_34 : decode cc_Desk_enterVs 34 = .ok (.iconst 1, 1) := by decide +kernel
theorem d_Desk_enterVs_35 : decode cc_Desk_enterVs 35 = .ok (.iadd, 1) := by decide +kernel
theorem d_Desk_enterVs_36 : decode cc_Desk_enterVs 36 = .ok (.putfield 42, 3) := by decide +kernel
theorem d_Desk_enterVs_39 : decode cc_Desk_enterVs 39 = .ok (.return_, 1) := by decide +kernel
abbrev y_Desk_dueForS : MethodName := ⟨"TrapDesk", "dueForS", "()I"⟩
abbrev cc_Desk_dueForS : ByteArray := prog_1_method_39_code
abbrev ws_Desk_dueForS : List Cond := Cond.code y_Desk_dueForS cc_Desk_dueForS 1 (some .int) :: gtb
theorem d_Desk_dueForS_0 : decode cc_Desk_dueForS 0 = .ok (.aload_n 0, 1) := by decide +kernel
theorem d_Desk_dueForS_1 : decode cc_Desk_dueForS 1 = .ok (.getfield 28, 3) := by decide +kernel
theorem d_Desk_dueForS_4 : decode cc_Desk_dueForS 4 = .ok (.iconst 1, 1) := by decide +kernel
theorem d_Desk_dueForS_5 : decode cc_Desk_dueForS 5 = .ok (.if_icmp .ne 18, 3) := by decide +kernel
theorem d_Desk_dueForS_8 : decode cc_Desk_dueForS 8 = .ok (.aload_n 0, 1) := by decide +kernel
theorem d_Desk_dueForS_9 : decode cc_Desk_dueForS 9 = .ok (.getfield 12, 3) := by decide +kernel
theorem d_Desk_dueForS_12 : decode cc_Desk_dueForS 12 = .ok (.getfield 194, 3) := by decide +kernel
theorem d_Desk_dueForS_15 : decode cc_Desk_dueForS 15 = .ok (.invokevirtual 251, 3) := by decide +kernel
theorem d_Desk_dueForS_18 : decode cc_Desk_dueForS 18 = .ok (.ifCond .ne 5, 3) := by decide +kernel
theorem d_Desk_dueForS_21 : decode cc_Desk_dueForS 21 = .ok (.iconst (-1), 1) := by decide +kernel
theorem d_Desk_dueForS_22 : decode cc_Desk_dueForS 22 = .ok (.ireturn, 1) := by decide +kernel
theorem d_Desk_dueForS_23 : decode cc_Desk_dueForS 23 = .ok (.getstatic 254, 3) := by decide +kernel
theorem d_Desk_dueForS_26 : decode cc_Desk_dueForS 26 = .ok (.aload_n 0, 1) := by decide +kernel
theorem d_Desk_dueForS_27 : decode cc_Desk_dueForS 27 = .ok (.getfield 12, 3) := by decide +kernel
theorem d_Desk_dueForS_30 : decode cc_Desk_dueForS 30 = .ok (.invokevirtual 258, 3) := by decide +kernel
theorem d_Desk_dueForS_33 : decode cc_Desk_dueForS 33 = .ok (.invokestatic 261, 3) := by decide +kernel
theorem d_Desk_dueForS_36 : decode cc_Desk_dueForS 36 = .ok (.ireturn, 1) := by decide +kernel
abbrev y_Desk_dueForVs : MethodName := ⟨"TrapDesk", "dueForVs", "()I"⟩
abbrev cc_Desk_dueForVs : ByteArray := prog_1_method_40_code
abbrev ws_Desk_dueForVs : List Cond := Cond.code y_Desk_dueForVs cc_Desk_dueForVs 2 (some .int) :: gtb
theorem d_Desk_dueForVs_0 : decode cc_Desk_dueForVs 0 = .ok (.aload_n 0, 1) := by decide +kernel
theorem d_Desk_dueForVs_1 : decode cc_Desk_dueForVs 1 = .ok (.invokevirtual 205, 3) := by decide +kernel
theorem d_Desk_dueForVs_4 : decode cc_Desk_dueForVs 4 = .ok (.ifCond .eq 24, 3) := by decide +kernel
theorem d_Desk_dueForVs_7 : decode cc_Desk_dueForVs 7 = .ok (.aload_n 0, 1) := by decide +kernel
theorem d_Desk_dueForVs_8 : decode cc_Desk_dueForVs 8 = .ok (.getfield 28, 3) := by decide +kernel
theorem d_Desk_dueForVs_11 : decode cc_Desk_dueForVs 11 = .ok (.iconst 3, 1) := by decide +kernel
theorem d_Desk_dueForVs_12 : decode cc_Desk_dueForVs 12 = .ok (.if_icmp .ne 18, 3) := by decide +kernel
theorem d_Desk_dueForVs_15 : decode cc_Desk_dueForVs 15 = .ok (.aload_n 0, 1) := by decide +kernel
theorem d_Desk_dueForVs_16 : decode cc_Desk_dueForVs 16 = .ok (.getfield 12, 3) := by decide +kernel
theorem d_Desk_dueForVs_19 : decode cc_Desk_dueForVs 19 = .ok (.getfield 181, 3) := by decide +kernel
theorem d_Desk_dueForVs_22 : decode cc_Desk_dueForVs 22 = .ok (.invokevirtual 251, 3) := by decide +kernel
theorem d_Desk_dueForVs_25 : decode cc_Desk_dueForVs 25 = .ok (.ifCond .ne 5, 3) := by decide +kernel
theorem d_Desk_dueForVs_28 : decode cc_Desk_dueForVs 28 = .ok (.iconst (-1), 1) := by decide +kernel
theorem d_Desk_dueForVs_29 : decode cc_Desk_dueForVs 29 = .ok (.ireturn, 1) := by decide +kernel
theorem d_Desk_dueForVs_30 : decode cc_Desk_dueForVs 30 = .ok (.getstatic 265, 3) := by decide +kernel
theorem d_Desk_dueForVs_33 : decode cc_Desk_dueForVs 33 = .ok (.aload_n 0, 1) := by decide +kernel
theorem d_Desk_dueForVs_34 : decode cc_Desk_dueForVs 34 = .ok (.getfield 12, 3) := by decide +kernel
theorem d_Desk_dueForVs_37 : decode cc_Desk_dueForVs 37 = .ok (.invokevirtual 268, 3) := by decide +kernel
theorem d_Desk_dueForVs_40 : decode cc_Desk_dueForVs 40 = .ok (.invokestatic 261, 3) := by decide +kernel
theorem d_Desk_dueForVs_43 : decode cc_Desk_dueForVs 43 = .ok (.istore_n 1, 1) := by decide +kernel
theorem d_Desk_dueForVs_44 : decode cc_Desk_dueForVs 44 = .ok (.iload_n 1, 1) := by decide +kernel
theorem d_Desk_dueForVs_45 : decode cc_Desk_dueForVs 45 = .ok (.iconst (-1), 1) := by decide +kernel
theorem d_Desk_dueForVs_46 : decode cc_Desk_dueForVs 46 = .ok (.if_icmp .ne 7, 3) := by decide +kernel
theorem d_Desk_dueForVs_49 : decode cc_Desk_dueForVs 49 = .ok (.iconst (-1), 1) := by decide +kernel
theorem d_Desk_dueForVs_50 : decode cc_Desk_dueForVs 50 = .ok (.goto 6, 3) := by decide +kernel
theorem d_Desk_dueForVs_53 : decode cc_Desk_dueForVs 53 = .ok (.iload_n 1, 1) := by decide +kernel
theorem d_Desk_dueForVs_54 : decode cc_Desk_dueForVs 54 = .ok (.iconst 1, 1) := by decide +kernel
theorem d_Desk_dueForVs_55 : decode cc_Desk_dueForVs 55 = .ok (.isub, 1) := by decide +kernel
theorem d_Desk_dueForVs_56 : decode cc_Desk_dueForVs 56 = .ok (.ireturn, 1) := by decide +kernel
abbrev y_Desk_firstOf : MethodName := ⟨"TrapDesk", "firstOf", "([II)I"⟩
abbrev cc_Desk_firstOf : ByteArray := prog_1_method_41_code
abbrev ws_Desk_firstOf : List Cond := Cond.code y_Desk_firstOf cc_Desk_firstOf 3 (some .int) :: gtb
theorem d_Desk_firstOf_0 : decode cc_Desk_firstOf 0 = .ok (.iconst 0, 1) := by decide +kernel
theorem d_Desk_firstOf_1 : decode cc_Desk_firstOf 1 = .ok (.istore_n 2, 1) := by decide +kernel
theorem d_Desk_firstOf_2 : decode cc_Desk_firstOf 2 = .ok (.iload_n 2, 1) := by decide +kernel
theorem d_Desk_firstOf_3 : decode cc_Desk_firstOf 3 = .ok (.aload_n 0, 1) := by decide +kernel
theorem d_Desk_firstOf_4 : decode cc_Desk_firstOf 4 = .ok (.arraylength, 1) := by decide +kernel
theorem d_Desk_firstOf_5 : decode cc_Desk_firstOf 5 = .ok (.if_icmp .ge 23, 3) := by decide +kernel
theorem d_Desk_firstOf_8 : decode cc_Desk_firstOf 8 = .ok (.iload_n 1, 1) := by decide +kernel
theorem d_Desk_firstOf_9 : decode cc_Desk_firstOf 9 = .ok (.aload_n 0, 1) := by decide +kernel
theorem d_Desk_firstOf_10 : decode cc_Desk_firstOf 10 = .ok (.iload_n 2, 1) := by decide +kernel
theorem d_Desk_firstOf_11 : decode cc_Desk_firstOf 11 = .ok (.iaload, 1) := by decide +kernel
theorem d_Desk_firstOf_12 : decode cc_Desk_firstOf 12 = .ok (.invokestatic 94, 3) := by decide +kernel
theorem d_Desk_firstOf_15 : decode cc_Desk_firstOf 15 = .ok (.ifCond .eq 7, 3) := by decide +kernel
theorem d_Desk_firstOf_18 : decode cc_Desk_firstOf 18 = .ok (.aload_n 0, 1) := by decide +kernel
theorem d_Desk_firstOf_19 : decode cc_Desk_firstOf 19 = .ok (.iload_n 2, 1) := by decide +kernel
theorem d_Desk_firstOf_20 : decode cc_Desk_firstOf 20 = .ok (.iaload, 1) := by decide +kernel
theorem d_Desk_firstOf_21 : decode cc_Desk_firstOf 21 = .ok (.ireturn, 1) := by decide +kernel
theorem d_Desk_firstOf_22 : decode cc_Desk_firstOf 22 = .ok (.iinc 2 1, 3) := by decide +kernel
theorem d_Desk_firstOf_25 : decode cc_Desk_firstOf 25 = .ok (.goto (-23), 3) := by decide +kernel
theorem d_Desk_firstOf_28 : decode cc_Desk_firstOf 28 = .ok (.iconst (-1), 1) := by decide +kernel
theorem d_Desk_firstOf_29 : decode cc_Desk_firstOf 29 = .ok (.ireturn, 1) := by decide +kernel
abbrev y_Desk_isVirtual : MethodName := ⟨"TrapDesk", "isVirtual", "()Z"⟩
abbrev cc_Desk_isVirtual : ByteArray := prog_1_method_42_code
abbrev ws_Desk_isVirtual : List Cond := Cond.code y_Desk_isVirtual cc_Desk_isVirtual 1 (some .boolean) :: gtb
theorem d_Desk_isVirtual_0 : decode cc_Desk_isVirtual 0 = .ok (.aload_n 0, 1) := by decide +kernel
theorem d_Desk_isVirtual_1 : decode cc_Desk_isVirtual 1 = .ok (.getfield 28, 3) := by decide +kernel
theorem d_Desk_isVirtual_4 : decode cc_Desk_isVirtual 4 = .ok (.iconst 2, 1) := by decide +kernel
theorem d_Desk_isVirtual_5 : decode cc_Desk_isVirtual 5 = .ok (.if_icmp .eq 11, 3) := by decide +kernel
theorem d_Desk_isVirtual_8 : decode cc_Desk_isVirtual 8 = .ok (.aload_n 0, 1) := by decide +kernel
theorem d_Desk_isVirtual_9 : decode cc_Desk_isVirtual 9 = .ok (.getfield 28, 3) := by decide +kernel
theorem d_Desk_isVirtual_12 : decode cc_Desk_isVirtual 12 = .ok (.iconst 3, 1) := by decide +kernel
theorem d_Desk_isVirtual_13 : decode cc_Desk_isVirtual 13 = .ok (.if_icmp .ne 7, 3) := by decide +kernel
theorem d_Desk_isVirtual_16 : decode cc_Desk_isVirtual 16 = .ok (.iconst 1, 1) := by decide +kernel
theorem d_Desk_isVirtual_17 : decode cc_Desk_isVirtual 17 = .ok (.goto 4, 3) := by decide +kernel
theorem d_Desk_isVirtual_20 : decode cc_Desk_isVirtual 20 = .ok (.iconst 0, 1) := by decide +kernel
theorem d_Desk_isVirtual_21 : decode cc_Desk_isVirtual 21 = .ok (.ireturn, 1) := by decide +kernel
abbrev y_Desk_isSupervisor : MethodName := ⟨"TrapDesk", "isSupervisor", "()Z"⟩
abbrev cc_Desk_isSupervisor : ByteArray := prog_1_method_43_code
abbrev ws_Desk_isSupervisor : List Cond := Cond.code y_Desk_isSupervisor cc_Desk_isSupervisor 1 (some .boolean) :: gtb
theorem d_Desk_isSupervisor_0 : decode cc_Desk_isSupervisor 0 = .ok (.aload_n 0, 1) := by decide +kernel
theorem d_Desk_isSupervisor_1 : decode cc_Desk_isSupervisor 1 = .ok (.getfield 28, 3) := by decide +kernel
theorem d_Desk_isSupervisor_4 : decode cc_Desk_isSupervisor 4 = .ok (.iconst 1, 1) := by decide +kernel
theorem d_Desk_isSupervisor_5 : decode cc_Desk_isSupervisor 5 = .ok (.if_icmp .eq 11, 3) := by decide +kernel
theorem d_Desk_isSupervisor_8 : decode cc_Desk_isSupervisor 8 = .ok (.aload_n 0, 1) := by decide +kernel
theorem d_Desk_isSupervisor_9 : decode cc_Desk_isSupervisor 9 = .ok (.getfield 28, 3) := by decide +kernel
theorem d_Desk_isSupervisor_12 : decode cc_Desk_isSupervisor 12 = .ok (.iconst 3, 1) := by decide +kernel
theorem d_Desk_isSupervisor_13 : decode cc_Desk_isSupervisor 13 = .ok (.if_icmp .ne 7, 3) := by decide +kernel
theorem d_Desk_isSupervisor_16 : decode cc_Desk_isSupervisor 16 = .ok (.iconst 1, 1) := by decide +kernel
theorem d_Desk_isSupervisor_17 : decode cc_Desk_isSupervisor 17 = .ok (.goto 4, 3) := by decide +kernel
theorem d_Desk_isSupervisor_20 : decode cc_Desk_isSupervisor 20 = .ok (.iconst 0, 1) := by decide +kernel
theorem d_Desk_isSupervisor_21 : decode cc_Desk_isSupervisor 21 = .ok (.ireturn, 1) := by decide +kernel
abbrev y_Desk_isIn : MethodName := ⟨"TrapDesk", "isIn", "(II)Z"⟩
abbrev cc_Desk_isIn : ByteArray := prog_1_method_44_code
abbrev ws_Desk_isIn : List Cond := Cond.code y_Desk_isIn cc_Desk_isIn 2 (some .boolean) :: gtb
theorem d_Desk_isIn_0 : decode cc_Desk_isIn 0 = .ok (.iload_n 1, 1) := by decide +kernel
theorem d_Desk_isIn_1 : decode cc_Desk_isIn 1 = .ok (.ifCond .lt 21, 3) := by decide +kernel
theorem d_Desk_isIn_4 : decode cc_Desk_isIn 4 = .ok (.iload_n 1, 1) := by decide +kernel
theorem d_Desk_isIn_5 : decode cc_Desk_isIn 5 = .ok (.bipush 32, 2) := by decide +kernel
theorem d_Desk_isIn_7 : decode cc_Desk_isIn 7 = .ok (.if_icmp .ge 15, 3) := by decide +kernel
theorem d_Desk_isIn_10 : decode cc_Desk_isIn 10 = .ok (.iload_n 0, 1) := by decide +kernel
theorem d_Desk_isIn_11 : decode cc_Desk_isIn 11 = .ok (.iload_n 1, 1) := by decide +kernel
theorem d_Desk_isIn_12 : decode cc_Desk_isIn 12 = .ok (.iushr, 1) := by decide +kernel
theorem d_Desk_isIn_13 : decode cc_Desk_isIn 13 = .ok (.iconst 1, 1) := by decide +kernel
theorem d_Desk_isIn_14 : decode cc_Desk_isIn 14 = .ok (.iand, 1) := by decide +kernel
theorem d_Desk_isIn_15 : decode cc_Desk_isIn 15 = .ok (.ifCond .eq 7, 3) := by decide +kernel
theorem d_Desk_isIn_18 : decode cc_Desk_isIn 18 = .ok (.iconst 1, 1) := by decide +kernel
theorem d_Desk_isIn_19 : decode cc_Desk_isIn 19 = .ok (.goto 4, 3) := by decide +kernel
theorem d_Desk_isIn_22 : decode cc_Desk_isIn 22 = .ok (.iconst 0, 1) := by decide +kernel
theorem d_Desk_isIn_23 : decode cc_Desk_isIn 23 = .ok (.ireturn, 1) := by decide +kernel
abbrev y_Bank_init : MethodName := ⟨"TrapDesk$Bank", "<init>", "()V"⟩
abbrev cc_Bank_init : ByteArray := prog_2_method_1_code
abbrev ws_Bank_init : List Cond := Cond.code y_Bank_init cc_Bank_init 1 none :: gtb
theorem d_Bank_init_0 : decode cc_Bank_init 0 = .ok (.aload_n 0, 1) := by decide +kernel
theorem d_Bank_init_1 : decode cc_Bank_init 1 = .ok (.invokespecial 5, 3) := by decide +kernel
theorem d_Bank_init_4 : decode cc_Bank_init 4 = .ok (.return_, 1) := by decide +kernel
abbrev y_Bank_reset : MethodName := ⟨"TrapDesk$Bank", "reset", "()V"⟩
abbrev cc_Bank_reset : ByteArray := prog_2_method_2_code
abbrev ws_Bank_reset : List Cond := Cond.code y_Bank_reset cc_Bank_reset 1 none :: gtb
theorem d_Bank_reset_0 : decode cc_Bank_reset 0 = .ok (.aload_n 0, 1) := by decide +kernel
theorem d_Bank_reset_1 : decode cc_Bank_reset 1 = .ok (.iconst 0, 1) := by decide +kernel
theorem d_Bank_reset_2 : decode cc_Bank_reset 2 = .ok (.putfield 11, 3) := by decide +kernel
theorem d_Bank_reset_5 : decode cc_Bank_reset 5 = .ok (.aload_n 0, 1) := by decide +kernel
theorem d_Bank_reset_6 : decode cc_Bank_reset 6 = .ok (.iconst 0, 1) := by decide +kernel
theorem d_Bank_reset_7 : decode cc_Bank_reset 7 = .ok (.putfield 15, 3) := by decide +kernel
theorem d_Bank_reset_10 : decode cc_Bank_reset 10 = .ok (.aload_n 0, 1) := by decide +kernel
theorem d_Bank_reset_11 : decode cc_Bank_reset 11 = .ok (.iconst 0, 1) := by decide +kernel
theorem d_Bank_reset_12 : decode cc_Bank_reset 12 = .ok (.putfield 18, 3) := by decide +kernel
theorem d_Bank_reset_15 : decode cc_Bank_reset 15 = .ok (.aload_n 0, 1) := by decide +kernel
theorem d_Bank_reset_16 : decode cc_Bank_reset 16 = .ok (.iconst 0, 1) := by decide +kernel
theorem d_Bank_reset_17 : decode cc_Bank_reset 17 = .ok (.putfield 21, 3) := by decide +kernel
theorem d_Bank_reset_20 : decode cc_Bank_reset 20 = .ok (.aload_n 0, 1) := by decide +kernel
theorem d_Bank_reset_21 : decode cc_Bank_reset 21 = .ok (.iconst 0, 1) := by decide +kernel
theorem d_Bank_reset_22 : decode cc_Bank_reset 22 = .ok (.putfield 24, 3) := by decide +kernel
theorem d_Bank_reset_25 : decode cc_Bank_reset 25 = .ok (.aload_n 0, 1) := by decide +kernel
theorem d_Bank_reset_26 : decode cc_Bank_reset 26 = .ok (.iconst 0, 1) := by decide +kernel
theorem d_Bank_reset_27 : decode cc_Bank_reset 27 = .ok (.putfield 27, 3) := by decide +kernel
theorem d_Bank_reset_30 : decode cc_Bank_reset 30 = .ok (.aload_n 0, 1) := by decide +kernel
theorem d_Bank_reset_31 : decode cc_Bank_reset 31 = .ok (.iconst 0, 1) := by decide +kernel
theorem d_Bank_reset_32 : decode cc_Bank_reset 32 = .ok (.putfield 30, 3) := by decide +kernel
theorem d_Bank_reset_35 : decode cc_Bank_reset 35 = .ok (.return_, 1) := by decide +kernel
abbrev y_Bank_read : MethodName := ⟨"TrapDesk$Bank", "read", "(I)I"⟩
abbrev cc_Bank_read : ByteArray := prog_2_method_3_code
abbrev ws_Bank_read : List Cond := Cond.code y_Bank_read cc_Bank_read 2 (some .int) :: gtb
theorem d_Bank_read_0 : decode cc_Bank_read 0 = .ok (.iload_n 1, 1) := by decide +kernel
theorem d_Bank_read_1 : decode cc_Bank_read 1 = .ok (.lookupswitch 102 #[(0, 67), (5, 72), (64, 77), (65, 82), (66, 87), (67, 92), (128, 97)], 67) := by decide +kernel
theorem d_Bank_read_68 : decode cc_Bank_read 68 = .ok (.aload_n 0, 1) := by decide +kernel
theorem d_Bank_read_69 : decode cc_Bank_read 69 = .ok (.getfield 11, 3) := by decide +kernel
theorem d_Bank_read_72 : decode cc_Bank_read 72 = .ok (.ireturn, 1) := by decide +kernel
theorem d_Bank_read_73 : decode cc_Bank_read 73 = .ok (.aload_n 0, 1) := by decide +kernel
theorem d_Bank_read_74 : decode cc_Bank_read 74 = .ok (.getfield 15, 3) := by decide +kernel
theorem d_Bank_read_77 : decode cc_Bank_read 77 = .ok (.ireturn, 1) := by decide +kernel
theorem d_Bank_read_78 : decode cc_Bank_read 78 = .ok (.aload_n 0, 1) := by decide +kernel
theorem d_Bank_read_79 : decode cc_Bank_read 79 = .ok (.getfield 18, 3) := by decide +kernel
theorem d_Bank_read_82 : decode cc_Bank_read 82 = .ok (.ireturn, 1) := by decide +kernel
theorem d_Bank_read_83 : decode cc_Bank_read 83 = .ok (.aload_n 0, 1) := by decide +kernel
theorem d_Bank_read_84 : decode cc_Bank_read 84 = .ok (.getfield 21, 3) := by decide +kernel
theorem d_Bank_read_87 : decode cc_Bank_read 87 = .ok (.ireturn, 1) := by decide +kernel
theorem d_Bank_read_88 : decode cc_Bank_read 88 = .ok (.aload_n 0, 1) := by decide +kernel
theorem d_Bank_read_89 : decode cc_Bank_read 89 = .ok (.getfield 24, 3) := by decide +kernel
theorem d_Bank_read_92 : decode cc_Bank_read 92 = .ok (.ireturn, 1) := by decide +kernel
theorem d_Bank_read_93 : decode cc_Bank_read 93 = .ok (.aload_n 0, 1) := by decide +kernel
theorem d_Bank_read_94 : decode cc_Bank_read 94 = .ok (.getfield 27, 3) := by decide +kernel
theorem d_Bank_read_97 : decode cc_Bank_read 97 = .ok (.ireturn, 1) := by decide +kernel
theorem d_Bank_read_98 : decode cc_Bank_read 98 = .ok (.aload_n 0, 1) := by decide +kernel
theorem d_Bank_read_99 : decode cc_Bank_read 99 = .ok (.getfield 30, 3) := by decide +kernel
theorem d_Bank_read_102 : decode cc_Bank_read 102 = .ok (.ireturn, 1) := by decide +kernel
theorem d_Bank_read_103 : decode cc_Bank_read 103 = .ok (.iconst 0, 1) := by decide +kernel
theorem d_Bank_read_104 : decode cc_Bank_read 104 = .ok (.ireturn, 1) := by decide +kernel
abbrev y_Bank_write : MethodName := ⟨"TrapDesk$Bank", "write", "(II)V"⟩
abbrev cc_Bank_write : ByteArray := prog_2_method_4_code
abbrev ws_Bank_write : List Cond := Cond.code y_Bank_write cc_Bank_write 3 none :: gtb
theorem d_Bank_write_0 : decode cc_Bank_write 0 = .ok (.iload_n 1, 1) := by decide +kernel
theorem d_Bank_write_1 : decode cc_Bank_write 1 = .ok (.lookupswitch 135 #[(0, 67), (5, 78), (64, 89), (65, 97), (66, 108), (67, 116), (128, 124)], 67) := by decide +kernel
theorem d_Bank_write_68 : decode cc_Bank_write 68 = .ok (.aload_n 0, 1) := by decide +kernel
theorem d_Bank_write_69 : decode cc_Bank_write 69 = .ok (.iload_n 2, 1) := by decide +kernel
theorem d_Bank_write_70 : decode cc_Bank_write 70 = .ok (.ldc 33, 2) := by decide +kernel
theorem d_Bank_write_72 : decode cc_Bank_write 72 = .ok (.iand, 1) := by decide +kernel
theorem d_Bank_write_73 : decode cc_Bank_write 73 = .ok (.putfield 11, 3) := by decide +kernel
theorem d_Bank_write_76 : decode cc_Bank_write 76 = .ok (.goto 60, 3) := by decide +kernel
theorem d_Bank_write_79 : decode cc_Bank_write 79 = .ok (.aload_n 0, 1) := by decide +kernel
theorem d_Bank_write_80 : decode cc_Bank_write 80 = .ok (.iload_n 2, 1) := by decide +kernel
theorem d_Bank_write_81 : decode cc_Bank_write 81 = .ok (.bipush (-3), 2) := by decide +kernel
theorem d_Bank_write_83 : decode cc_Bank_write 83 = .ok (.iand, 1) := by decide +kernel
theorem d_Bank_write_84 : decode cc_Bank_write 84 = .ok (.putfield 15, 3) := by decide +kernel
theorem d_Bank_write_87 : decode cc_Bank_write 87 = .ok (.goto 49, 3) := by decide +kernel
theorem d_Bank_write_90 : decode cc_Bank_write 90 = .ok (.aload_n 0, 1) := by decide +kernel
theorem d_Bank_write_91 : decode cc_Bank_write 91 = .ok (.iload_n 2, 1) := by decide +kernel
theorem d_Bank_write_92 : decode cc_Bank_write 92 = .ok (.putfield 18, 3) := by decide +kernel
theorem d_Bank_write_95 : decode cc_Bank_write 95 = .ok (.goto 41, 3) := by decide +kernel
theorem d_Bank_write_98 : decode cc_Bank_write 98 = .ok (.aload_n 0, 1) := by decide +kernel
theorem d_Bank_write_99 : decode cc_Bank_write 99 = .ok (.iload_n 2, 1) := by decide +kernel
theorem d_Bank_write_100 : decode cc_Bank_write 100 = .ok (.bipush (-4), 2) := by decide +kernel
theorem d_Bank_write_102 : decode cc_Bank_write 102 = .ok (.iand, 1) := by decide +kernel
theorem d_Bank_write_103 : decode cc_Bank_write 103 = .ok (.putfield 21, 3) := by decide +kernel
theorem d_Bank_write_106 : decode cc_Bank_write 106 = .ok (.goto 30, 3) := by decide +kernel
theorem d_Bank_write_109 : decode cc_Bank_write 109 = .ok (.aload_n 0, 1) := by decide +kernel
theorem d_Bank_write_110 : decode cc_Bank_write 110 = .ok (.iload_n 2, 1) := by decide +kernel
theorem d_Bank_write_111 : decode cc_Bank_write 111 = .ok (.putfield 24, 3) := by decide +kernel
theorem d_Bank_write_114 : decode cc_Bank_write 114 = .ok (.goto 22, 3) := by decide +kernel
theorem d_Bank_write_117 : decode cc_Bank_write 117 = .ok (.aload_n 0, 1) := by decide +kernel
theorem d_Bank_write_118 : decode cc_Bank_write 118 = .ok (.iload_n 2, 1) := by decide +kernel
theorem d_Bank_write_119 : decode cc_Bank_write 119 = .ok (.putfield 27, 3) := by decide +kernel
theorem d_Bank_write_122 : decode cc_Bank_write 122 = .ok (.goto 14, 3) := by decide +kernel
theorem d_Bank_write_125 : decode cc_Bank_write 125 = .ok (.aload_n 0, 1) := by decide +kernel
theorem d_Bank_write_126 : decode cc_Bank_write 126 = .ok (.iload_n 2, 1) := by decide +kernel
theorem d_Bank_write_127 : decode cc_Bank_write 127 = .ok (.ldc 34, 2) := by decide +kernel
theorem d_Bank_write_129 : decode cc_Bank_write 129 = .ok (.iand, 1) := by decide +kernel
theorem d_Bank_write_130 : decode cc_Bank_write 130 = .ok (.putfield 30, 3) := by decide +kernel
theorem d_Bank_write_133 : decode cc_Bank_write 133 = .ok (.goto 3, 3) := by decide +kernel
theorem d_Bank_write_136 : decode cc_Bank_write 136 = .ok (.return_, 1) := by decide +kernel
abbrev y_Bank_hasInterruptsOn : MethodName := ⟨"TrapDesk$Bank", "hasInterruptsOn", "()Z"⟩
abbrev cc_Bank_hasInterruptsOn : ByteArray := prog_2_method_5_code
abbrev ws_Bank_hasInterruptsOn : List Cond := Cond.code y_Bank_hasInterruptsOn cc_Bank_hasInterruptsOn 1 (some .boolean) :: gtb
theorem d_Bank_hasInterruptsOn_0 : decode cc_Bank_hasInterruptsOn 0 = .ok (.aload_n 0, 1) := by decide +kernel
theorem d_Bank_hasInterruptsOn_1 : decode cc_Bank_hasInterruptsOn 1 = .ok (.getfield 11, 3) := by decide +kernel
theorem d_Bank_hasInterruptsOn_4 : decode cc_Bank_hasInterruptsOn 4 = .ok (.iconst 2, 1) := by decide +kernel
theorem d_Bank_hasInterruptsOn_5 : decode cc_Bank_hasInterruptsOn 5 = .ok (.iand, 1) := by decide +kernel
theorem d_Bank_hasInterruptsOn_6 : decode cc_Bank_hasInterruptsOn 6 = .ok (.ifCond .eq 7, 3) := by decide +kernel
theorem d_Bank_hasInterruptsOn_9 : decode cc_Bank_hasInterruptsOn 9 = .ok (.iconst 1, 1) := by decide +kernel
theorem d_Bank_hasInterruptsOn_10 : decode cc_Bank_hasInterruptsOn 10 = .ok (.goto 4, 3) := by decide +kernel
theorem d_Bank_hasInterruptsOn_13 : decode cc_Bank_hasInterruptsOn 13 = .ok (.iconst 0, 1) := by decide +kernel
theorem d_Bank_hasInterruptsOn_14 : decode cc_Bank_hasInterruptsOn 14 = .ok (.ireturn, 1) := by decide +kernel
abbrev y_Bank_enter : MethodName := ⟨"TrapDesk$Bank", "enter", "(IIIZ)I"⟩
abbrev cc_Bank_enter : ByteArray := prog_2_method_6_code
abbrev ws_Bank_enter : List Cond := Cond.code y_Bank_enter cc_Bank_enter 7 (some .int) :: gtb
theorem d_Bank_enter_0 : decode cc_Bank_enter 0 = .ok (.aload_n 0, 1) := by decide +kernel
theorem d_Bank_enter_1 : decode cc_Bank_enter 1 = .ok (.iload_n 1, 1) := by decide +kernel
theorem d_Bank_enter_2 : decode cc_Bank_enter 2 = .ok (.putfield 21, 3) := by decide +kernel
theorem d_Bank_enter_5 : decode cc_Bank_enter 5 = .ok (.aload_n 0, 1) := by decide +kernel
theorem d_Bank_enter_6 : decode cc_Bank_enter 6 = .ok (.iload_n 2, 1) := by decide +kernel
theorem d_Bank_enter_7 : decode cc_Bank_enter 7 = .ok (.putfield 24, 3) := by decide +kernel
theorem d_Bank_enter_10 : decode cc_Bank_enter 10 = .ok (.aload_n 0, 1) := by decide +kernel
theorem d_Bank_enter_11 : decode cc_Bank_enter 11 = .ok (.iload_n 3, 1) := by decide +kernel
theorem d_Bank_enter_12 : decode cc_Bank_enter 12 = .ok (.putfield 27, 3) := by decide +kernel
theorem d_Bank_enter_15 : decode cc_Bank_enter 15 = .ok (.aload_n 0, 1) := by decide +kernel
theorem d_Bank_enter_16 : decode cc_Bank_enter 16 = .ok (.getfield 11, 3) := by decide +kernel
theorem d_Bank_enter_19 : decode cc_Bank_enter 19 = .ok (.sipush (-291), 3) := by decide +kernel
theorem d_Bank_enter_22 : decode cc_Bank_enter 22 = .ok (.iand, 1) := by decide +kernel
theorem d_Bank_enter_23 : decode cc_Bank_enter 23 = .ok (.istore 5, 2) := by decide +kernel
theorem d_Bank_enter_25 : decode cc_Bank_enter 25 = .ok (.aload_n 0, 1) := by decide +kernel
theorem d_Bank_enter_26 : decode cc_Bank_enter 26 = .ok (.invokevirtual 35, 3) := by decide +kernel
theorem d_Bank_enter_29 : decode cc_Bank_enter 29 = .ok (.ifCond .eq 8, 3) := by decide +kernel
theorem d_Bank_enter_32 : decode cc_Bank_enter 32 = .ok (.bipush 32, 2) := by decide +kernel
theorem d_Bank_enter_34 : decode cc_Bank_enter 34 = .ok (.goto 4, 3) := by decide +kernel
theorem d_Bank_enter_37 : decode cc_Bank_enter 37 = .ok (.iconst 0, 1) := by decide +kernel
theorem d_Bank_enter_38 : decode cc_Bank_enter 38 = .ok (.istore 6, 2) := by decide +kernel
theorem d_Bank_enter_40 : decode cc_Bank_enter 40 = .ok (.aload_n 0, 1) := by decide +kernel
theorem d_Bank_enter_41 : decode cc_Bank_enter 41 = .ok (.iload 5, 2) := by decide +kernel
theorem d_Bank_enter_43 : decode cc_Bank_enter 43 = .ok (.iload 6, 2) := by decide +kernel
theorem d_Bank_enter_45 : decode cc_Bank_enter 45 = .ok (.ior, 1) := by decide +kernel
theorem d_Bank_enter_46 : decode cc_Bank_enter 46 = .ok (.iload 4, 2) := by decide +kernel
theorem d_Bank_enter_48 : decode cc_Bank_enter 48 = .ok (.ifCond .eq 9, 3) := by decide +kernel
theorem d_Bank_enter_51 : decode cc_Bank_enter 51 = .ok (.sipush 256, 3) := by decide +kernel
theorem d_Bank_enter_54 : decode cc_Bank_enter 54 = .ok (.goto 4, 3) := by decide +kernel
theorem d_Bank_enter_57 : decode cc_Bank_enter 57 = .ok (.iconst 0, 1) := by decide +kernel
theorem d_Bank_enter_58 : decode cc_Bank_enter 58 = .ok (.ior, 1) := by decide +kernel
theorem d_Bank_enter_59 : decode cc_Bank_enter 59 = .ok (.putfield 11, 3) := by decide +kernel
theorem d_Bank_enter_62 : decode cc_Bank_enter 62 = .ok (.aload_n 0, 1) := by decide +kernel
theorem d_Bank_enter_63 : decode cc_Bank_enter 63 = .ok (.iload_n 2, 1) := by decide +kernel
theorem d_Bank_enter_64 : decode cc_Bank_enter 64 = .ok (.invokevirtual 39, 3) := by decide +kernel
theorem d_Bank_enter_67 : decode cc_Bank_enter 67 = .ok (.ireturn, 1) := by decide +kernel
abbrev y_Bank_handlerOf : MethodName := ⟨"TrapDesk$Bank", "handlerOf", "(I)I"⟩
abbrev cc_Bank_handlerOf : ByteArray := prog_2_method_7_code
abbrev ws_Bank_handlerOf : List Cond := Cond.code y_Bank_handlerOf cc_Bank_handlerOf 4 (some .int) :: gtb
theorem d_Bank_handlerOf_0 : decode cc_Bank_handlerOf 0 = .ok (.aload_n 0, 1) := by decide +kernel
theorem d_Bank_handlerOf_1 : decode cc_Bank_handlerOf 1 = .ok (.getfield 15, 3) := by decide +kernel
theorem d_Bank_handlerOf_4 : decode cc_Bank_handlerOf 4 = .ok (.bipush (-4), 2) := by decide +kernel
theorem d_Bank_handlerOf_6 : decode cc_Bank_handlerOf 6 = .ok (.iand, 1) := by decide +kernel
theorem d_Bank_handlerOf_7 : decode cc_Bank_handlerOf 7 = .ok (.istore_n 2, 1) := by decide +kernel
theorem d_Bank_handlerOf_8 : decode cc_Bank_handlerOf 8 = .ok (.iload_n 1, 1) := by decide +kernel
theorem d_Bank_handlerOf_9 : decode cc_Bank_handlerOf 9 = .ok (.ldc 43, 2) := by decide +kernel
theorem d_Bank_handlerOf_11 : decode cc_Bank_handlerOf 11 = .ok (.iand, 1) := by decide +kernel
theorem d_Bank_handlerOf_12 : decode cc_Bank_handlerOf 12 = .ok (.ifCond .eq 16, 3) := by decide +kernel
theorem d_Bank_handlerOf_15 : decode cc_Bank_handlerOf 15 = .ok (.aload_n 0, 1) := by decide +kernel
theorem d_Bank_handlerOf_16 : decode cc_Bank_handlerOf 16 = .ok (.getfield 15, 3) := by decide +kernel
theorem d_Bank_handlerOf_19 : decode cc_Bank_handlerOf 19 = .ok (.iconst 1, 1) := by decide +kernel
theorem d_Bank_handlerOf_20 : decode cc_Bank_handlerOf 20 = .ok (.iand, 1) := by decide +kernel
theorem d_Bank_handlerOf_21 : decode cc_Bank_handlerOf 21 = .ok (.ifCond .eq 7, 3) := by decide +kernel
theorem d_Bank_handlerOf_24 : decode cc_Bank_handlerOf 24 = .ok (.iconst 1, 1) := by decide +kernel
theorem d_Bank_handlerOf_25 : decode cc_Bank_handlerOf 25 = .ok (.goto 4, 3) := by decide +kernel
theorem d_Bank_handlerOf_28 : decode cc_Bank_handlerOf 28 = .ok (.iconst 0, 1) := by decide +kernel
theorem d_Bank_handlerOf_29 : decode cc_Bank_handlerOf 29 = .ok (.istore_n 3, 1) := by decide +kernel
theorem d_Bank_handlerOf_30 : decode cc_Bank_handlerOf 30 = .ok (.iload_n 3, 1) := by decide +kernel
theorem d_Bank_handlerOf_31 : decode cc_Bank_handlerOf 31 = .ok (.ifCond .eq 14, 3) := by decide +kernel
theorem d_Bank_handlerOf_34 : decode cc_Bank_handlerOf 34 = .ok (.iload_n 2, 1) := by decide +kernel
theorem d_Bank_handlerOf_35 : decode cc_Bank_handlerOf 35 = .ok (.iconst 4, 1) := by decide +kernel
theorem d_Bank_handlerOf_36 : decode cc_Bank_handlerOf 36 = .ok (.iload_n 1, 1) := by decide +kernel
theorem d_Bank_handlerOf_37 : decode cc_Bank_handlerOf 37 = .ok (.ldc 44, 2) := by decide +kernel
theorem d_Bank_handlerOf_39 : decode cc_Bank_handlerOf 39 = .ok (.iand, 1) := by decide +kernel
theorem d_Bank_handlerOf_40 : decode cc_Bank_handlerOf 40 = .ok (.imul, 1) := by decide +kernel
theorem d_Bank_handlerOf_41 : decode cc_Bank_handlerOf 41 = .ok (.iadd, 1) := by decide +kernel
theorem d_Bank_handlerOf_42 : decode cc_Bank_handlerOf 42 = .ok (.goto 4, 3) := by decide +kernel
theorem d_Bank_handlerOf_45 : decode cc_Bank_handlerOf 45 = .ok (.iload_n 2, 1) := by decide +kernel
theorem d_Bank_handlerOf_46 : decode cc_Bank_handlerOf 46 = .ok (.ireturn, 1) := by decide +kernel
abbrev y_Bank_leave : MethodName := ⟨"TrapDesk$Bank", "leave", "()Z"⟩
abbrev cc_Bank_leave : ByteArray := prog_2_method_8_code
abbrev ws_Bank_leave : List Cond := Cond.code y_Bank_leave cc_Bank_leave 3 (some .boolean) :: gtb
theorem d_Bank_leave_0 : decode cc_Bank_leave 0 = .ok (.aload_n 0, 1) := by decide +kernel
theorem d_Bank_leave_1 : decode cc_Bank_leave 1 = .ok (.getfield 11, 3) := by decide +kernel
theorem d_Bank_leave_4 : decode cc_Bank_leave 4 = .ok (.sipush 256, 3) := by decide +kernel
theorem d_Bank_leave_7 : decode cc_Bank_leave 7 = .ok (.iand, 1) := by decide +kernel
theorem d_Bank_leave_8 : decode cc_Bank_leave 8 = .ok (.ifCond .eq 7, 3) := by decide +kernel
theorem d_Bank_leave_11 : decode cc_Bank_leave 11 = .ok (.iconst 1, 1) := by decide +kernel
theorem d_Bank_leave_12 : decode cc_Bank_leave 12 = .ok (.goto 4, 3) := by decide +kernel
theorem d_Bank_leave_15 : decode cc_Bank_leave 15 = .ok (.iconst 0, 1) := by decide +kernel
theorem d_Bank_leave_16 : decode cc_Bank_leave 16 = .ok (.istore_n 1, 1) := by decide +kernel
theorem d_Bank_leave_17 : decode cc_Bank_leave 17 = .ok (.aload_n 0, 1) := by decide +kernel
theorem d_Bank_leave_18 : decode cc_Bank_leave 18 = .ok (.getfield 11, 3) := by decide +kernel
theorem d_Bank_leave_21 : decode cc_Bank_leave 21 = .ok (.sipush (-259), 3) := by decide +kernel
theorem d_Bank_leave_24 : decode cc_Bank_leave 24 = .ok (.iand, 1) := by decide +kernel
theorem d_Bank_leave_25 : decode cc_Bank_leave 25 = .ok (.istore_n 2, 1) := by decide +kernel
theorem d_Bank_leave_26 : decode cc_Bank_leave 26 = .ok (.aload_n 0, 1) := by decide +kernel
theorem d_Bank_leave_27 : decode cc_Bank_leave 27 = .ok (.iload_n 2, 1) := by decide +kernel
theorem d_Bank_leave_28 : decode cc_Bank_leave 28 = .ok (.bipush 32, 2) := by decide +kernel
theorem d_Bank_leave_30 : decode cc_Bank_leave 30 = .ok (.ior, 1) := by decide +kernel
theorem d_Bank_leave_31 : decode cc_Bank_leave 31 = .ok (.aload_n 0, 1) := by decide +kernel
theorem d_Bank_leave_32 : decode cc_Bank_leave 32 = .ok (.getfield 11, 3) := by decide +kernel
theorem d_Bank_leave_35 : decode cc_Bank_leave 35 = .ok (.bipush 32, 2) := by decide +kernel
theorem d_Bank_leave_37 : decode cc_Bank_leave 37 = .ok (.iand, 1) := by decide +kernel
theorem d_Bank_leave_38 : decode cc_Bank_leave 38 = .ok (.ifCond .eq 7, 3) := by decide +kernel
theorem d_Bank_leave_41 : decode cc_Bank_leave 41 = .ok (.iconst 2, 1) := by decide +kernel
theorem d_Bank_leave_42 : decode cc_Bank_leave 42 = .ok (.goto 4, 3) := by decide +kernel
theorem d_Bank_leave_45 : decode cc_Bank_leave 45 = .ok (.iconst 0, 1) := by decide +kernel
theorem d_Bank_leave_46 : decode cc_Bank_leave 46 = .ok (.ior, 1) := by decide +kernel
theorem d_Bank_leave_47 : decode cc_Bank_leave 47 = .ok (.putfield 11, 3) := by decide +kernel
theorem d_Bank_leave_50 : decode cc_Bank_leave 50 = .ok (.iload_n 1, 1) := by decide +kernel
theorem d_Bank_leave_51 : decode cc_Bank_leave 51 = .ok (.ireturn, 1) := by decide +kernel
abbrev y_Hyper_init : MethodName := ⟨"TrapDesk$Hyper", "<init>", "()V"⟩
abbrev cc_Hyper_init : ByteArray := prog_4_method_1_code
abbrev ws_Hyper_init : List Cond := Cond.code y_Hyper_init cc_Hyper_init 1 none :: gtb
theorem d_Hyper_init_0 : decode cc_Hyper_init 0 = .ok (.aload_n 0, 1) := by decide +kernel
theorem d_Hyper_init_1 : decode cc_Hyper_init 1 = .ok (.invokespecial 3, 3) := by decide +kernel
theorem d_Hyper_init_4 : decode cc_Hyper_init 4 = .ok (.return_, 1) := by decide +kernel
abbrev y_Hyper_reset : MethodName := ⟨"TrapDesk$Hyper", "reset", "()V"⟩
abbrev cc_Hyper_reset : ByteArray := prog_4_method_2_code
abbrev ws_Hyper_reset : List Cond := Cond.code y_Hyper_reset cc_Hyper_reset 1 none :: gtb
theorem d_Hyper_reset_0 : decode cc_Hyper_reset 0 = .ok (.aload_n 0, 1) := by decide +kernel
theorem d_Hyper_reset_1 : decode cc_Hyper_reset 1 = .ok (.iconst 0, 1) := by decide +kernel
theorem d_Hyper_reset_2 : decode cc_Hyper_reset 2 = .ok (.putfield 9, 3) := by decide +kernel
theorem d_Hyper_reset_5 : decode cc_Hyper_reset 5 = .ok (.aload_n 0, 1) := by decide +kernel
theorem d_Hyper_reset_6 : decode cc_Hyper_reset 6 = .ok (.iconst 0, 1) := by decide +kernel
theorem d_Hyper_reset_7 : decode cc_Hyper_reset 7 = .ok (.putfield 13, 3) := by decide +kernel
theorem d_Hyper_reset_10 : decode cc_Hyper_reset 10 = .ok (.aload_n 0, 1) := by decide +kernel
theorem d_Hyper_reset_11 : decode cc_Hyper_reset 11 = .ok (.iconst 0, 1) := by decide +kernel
theorem d_Hyper_reset_12 : decode cc_Hyper_reset 12 = .ok (.putfield 16, 3) := by decide +kernel
theorem d_Hyper_reset_15 : decode cc_Hyper_reset 15 = .ok (.aload_n 0, 1) := by decide +kernel
theorem d_Hyper_reset_16 : decode cc_Hyper_reset 16 = .ok (.iconst 0, 1) := by decide +kernel
theorem d_Hyper_reset_17 : decode cc_Hyper_reset 17 = .ok (.putfield 19, 3) := by decide +kernel
theorem d_Hyper_reset_20 : decode cc_Hyper_reset 20 = .ok (.aload_n 0, 1) := by decide +kernel
theorem d_Hyper_reset_21 : decode cc_Hyper_reset 21 = .ok (.iconst 0, 1) := by decide +kernel
theorem d_Hyper_reset_22 : decode cc_Hyper_reset 22 = .ok (.putfield 22, 3) := by decide +kernel
theorem d_Hyper_reset_25 : decode cc_Hyper_reset 25 = .ok (.aload_n 0, 1) := by decide +kernel
theorem d_Hyper_reset_26 : decode cc_Hyper_reset 26 = .ok (.iconst 0, 1) := by decide +kernel
theorem d_Hyper_reset_27 : decode cc_Hyper_reset 27 = .ok (.putfield 25, 3) := by decide +kernel
theorem d_Hyper_reset_30 : decode cc_Hyper_reset 30 = .ok (.aload_n 0, 1) := by decide +kernel
theorem d_Hyper_reset_31 : decode cc_Hyper_reset 31 = .ok (.iconst 0, 1) := by decide +kernel
theorem d_Hyper_reset_32 : decode cc_Hyper_reset 32 = .ok (.putfield 28, 3) := by decide +kernel
theorem d_Hyper_reset_35 : decode cc_Hyper_reset 35 = .ok (.aload_n 0, 1) := by decide +kernel
theorem d_Hyper_reset_36 : decode cc_Hyper_reset 36 = .ok (.iconst 0, 1) := by decide +kernel
theorem d_Hyper_reset_37 : decode cc_Hyper_reset 37 = .ok (.putfield 31, 3) := by decide +kernel
theorem d_Hyper_reset_40 : decode cc_Hyper_reset 40 = .ok (.return_, 1) := by decide +kernel
abbrev y_Hyper_read : MethodName := ⟨"TrapDesk$Hyper", "read", "(I)I"⟩
abbrev cc_Hyper_read : ByteArray := prog_4_method_3_code
abbrev ws_Hyper_read : List Cond := Cond.code y_Hyper_read cc_Hyper_read 2 (some .int) :: gtb
theorem d_Hyper_read_0 : decode cc_Hyper_read 0 = .ok (.iload_n 1, 1) := by decide +kernel
theorem d_Hyper_read_1 : decode cc_Hyper_read 1 = .ok (.lookupswitch 123 #[(1536, 83), (1538, 88), (1539, 93), (1540, 98), (1603, 103), (1604, 108), (1605, 108), (1610, 113), (1664, 118)], 83) := by decide +kernel
theorem d_Hyper_read_84 : decode cc_Hyper_read 84 = .ok (.aload_n 0, 1) := by decide +kernel
theorem d_Hyper_read_85 : decode cc_Hyper_read 85 = .ok (.getfield 9, 3) := by decide +kernel
theorem d_Hyper_read_88 : decode cc_Hyper_read 88 = .ok (.ireturn, 1) := by decide +kernel
theorem d_Hyper_read_89 : decode cc_Hyper_read 89 = .ok (.aload_n 0, 1) := by decide +kernel
theorem d_Hyper_read_90 : decode cc_Hyper_read 90 = .ok (.getfield 13, 3) := by decide +kernel
theorem d_Hyper_read_93 : decode cc_Hyper_read 93 = .ok (.ireturn, 1) := by decide +kernel
theorem d_Hyper_read_94 : decode cc_Hyper_read 94 = .ok (.aload_n 0, 1) := by decide +kernel
theorem d_Hyper_read_95 : decode cc_Hyper_read 95 = .ok (.getfield 16, 3) := by decide +kernel
theorem d_Hyper_read_98 : decode cc_Hyper_read 98 = .ok (.ireturn, 1) := by decide +kernel
theorem d_Hyper_read_99 : decode cc_Hyper_read 99 = .ok (.aload_n 0, 1) := by decide +kernel
theorem d_Hyper_read_100 : decode cc_Hyper_read 100 = .ok (.getfield 19, 3) := by decide +kernel
theorem d_Hyper_read_103 : decode cc_Hyper_read 103 = .ok (.ireturn, 1) := by decide +kernel
theorem d_Hyper_read_104 : decode cc_Hyper_read 104 = .ok (.aload_n 0, 1) := by decide +kernel
theorem d_Hyper_read_105 : decode cc_Hyper_read 105 = .ok (.getfield 22, 3) := by decide +kernel
theorem d_Hyper_read_108 : decode cc_Hyper_read 108 = .ok (.ireturn, 1) := by decide +kernel
theorem d_Hyper_read_109 : decode cc_Hyper_read 109 = .ok (.aload_n 0, 1) := by decide +kernel
theorem d_Hyper_read_110 : decode cc_Hyper_read 110 = .ok (.getfield 25, 3) := by decide +kernel
theorem d_Hyper_read_113 : decode cc_Hyper_read 113 = .ok (.ireturn, 1) := by decide +kernel
theorem d_Hyper_read_114 : decode cc_Hyper_read 114 = .ok (.aload_n 0, 1) := by decide +kernel
theorem d_Hyper_read_115 : decode cc_Hyper_read 115 = .ok (.getfield 28, 3) := by decide +kernel
theorem d_Hyper_read_118 : decode cc_Hyper_read 118 = .ok (.ireturn, 1) := by decide +kernel
theorem d_Hyper_read_119 : decode cc_Hyper_read 119 = .ok (.aload_n 0, 1) := by decide +kernel
theorem d_Hyper_read_120 : decode cc_Hyper_read 120 = .ok (.getfield 31, 3) := by decide +kernel
theorem d_Hyper_read_123 : decode cc_Hyper_read 123 = .ok (.ireturn, 1) := by decide +kernel
theorem d_Hyper_read_124 : decode cc_Hyper_read 124 = .ok (.iconst 0, 1) := by decide +kernel
theorem d_Hyper_read_125 : decode cc_Hyper_read 125 = .ok (.ireturn, 1) := by decide +kernel
abbrev y_Hyper_write : MethodName := ⟨"TrapDesk$Hyper", "write", "(II)V"⟩
abbrev cc_Hyper_write : ByteArray := prog_4_method_4_code
abbrev ws_Hyper_write : List Cond := Cond.code y_Hyper_write cc_Hyper_write 3 none :: gtb
theorem d_Hyper_write_0 : decode cc_Hyper_write 0 = .ok (.iload_n 1, 1) := by decide +kernel
theorem d_Hyper_write_1 : decode cc_Hyper_write 1 = .ok (.lookupswitch 184 #[(1536, 83), (1538, 94), (1539, 105), (1540, 117), (1603, 129), (1604, 137), (1605, 153), (1610, 165), (1664, 173)], 83) := by decide +kernel
theorem d_Hyper_write_84 : decode cc_Hyper_write 84 = .ok (.aload_n 0, 1) := by decide +kernel
theorem d_Hyper_write_85 : decode cc_Hyper_write 85 = .ok (.iload_n 2, 1) := by decide +kernel
theorem d_Hyper_write_86 : decode cc_Hyper_write 86 = .ok (.ldc 34, 2) := by decide +kernel
theorem d_Hyper_write_88 : decode cc_Hyper_write 88 = .ok (.iand, 1) := by decide +kernel
theorem d_Hyper_write_89 : decode cc_Hyper_write 89 = .ok (.putfield 9, 3) := by decide +kernel
theorem d_Hyper_write_92 : decode cc_Hyper_write 92 = .ok (.goto 93, 3) := by decide +kernel
theorem d_Hyper_write_95 : decode cc_Hyper_write 95 = .ok (.aload_n 0, 1) := by decide +kernel
theorem d_Hyper_write_96 : decode cc_Hyper_write 96 = .ok (.iload_n 2, 1) := by decide +kernel
theorem d_Hyper_write_97 : decode cc_Hyper_write 97 = .ok (.ldc 35, 2) := by decide +kernel
theorem d_Hyper_write_99 : decode cc_Hyper_write 99 = .ok (.iand, 1) := by decide +kernel
theorem d_Hyper_write_100 : decode cc_Hyper_write 100 = .ok (.putfield 13, 3) := by decide +kernel
theorem d_Hyper_write_103 : decode cc_Hyper_write 103 = .ok (.goto 82, 3) := by decide +kernel
theorem d_Hyper_write_106 : decode cc_Hyper_write 106 = .ok (.aload_n 0, 1) := by decide +kernel
theorem d_Hyper_write_107 : decode cc_Hyper_write 107 = .ok (.iload_n 2, 1) := by decide +kernel
theorem d_Hyper_write_108 : decode cc_Hyper_write 108 = .ok (.sipush 1092, 3) := by decide +kernel
theorem d_Hyper_write_111 : decode cc_Hyper_write 111 = .ok (.iand, 1) := by decide +kernel
theorem d_Hyper_write_112 : decode cc_Hyper_write 112 = .ok (.putfield 16, 3) := by decide +kernel
theorem d_Hyper_write_115 : decode cc_Hyper_write 115 = .ok (.goto 70, 3) := by decide +kernel
theorem d_Hyper_write_118 : decode cc_Hyper_write 118 = .ok (.aload_n 0, 1) := by decide +kernel
theorem d_Hyper_write_119 : decode cc_Hyper_write 119 = .ok (.iload_n 2, 1) := by decide +kernel
theorem d_Hyper_write_120 : decode cc_Hyper_write 120 = .ok (.sipush 1092, 3) := by decide +kernel
theorem d_Hyper_write_123 : decode cc_Hyper_write 123 = .ok (.iand, 1) := by decide +kernel
theorem d_Hyper_write_124 : decode cc_Hyper_write 124 = .ok (.putfield 19, 3) := by decide +kernel
theorem d_Hyper_write_127 : decode cc_Hyper_write 127 = .ok (.goto 58, 3) := by decide +kernel
theorem d_Hyper_write_130 : decode cc_Hyper_write 130 = .ok (.aload_n 0, 1) := by decide +kernel
theorem d_Hyper_write_131 : decode cc_Hyper_write 131 = .ok (.iload_n 2, 1) := by decide +kernel
theorem d_Hyper_write_132 : decode cc_Hyper_write 132 = .ok (.putfield 22, 3) := by decide +kernel
theorem d_Hyper_write_135 : decode cc_Hyper_write 135 = .ok (.goto 50, 3) := by decide +kernel
theorem d_Hyper_write_138 : decode cc_Hyper_write 138 = .ok (.aload_n 0, 1) := by decide +kernel
theorem d_Hyper_write_139 : decode cc_Hyper_write 139 = .ok (.aload_n 0, 1) := by decide +kernel
theorem d_Hyper_write_140 : decode cc_Hyper_write 140 = .ok (.getfield 25, 3) := by decide +kernel
theorem d_Hyper_write_143 : decode cc_Hyper_write 143 = .ok (.iconst 4, 1) := by decide +kernel
theorem d_Hyper_write_144 : decode cc_Hyper_write 144 = .ok (.iload_n 2, 1) := by decide +kernel
theorem d_Hyper_write_145 : decode cc_Hyper_write 145 = .ok (.invokestatic 36, 3) := by decide +kernel
theorem d_Hyper_write_148 : decode cc_Hyper_write 148 = .ok (.putfield 25, 3) := by decide +kernel
theorem d_Hyper_write_151 : decode cc_Hyper_write 151 = .ok (.goto 34, 3) := by decide +kernel
theorem d_Hyper_write_154 : decode cc_Hyper_write 154 = .ok (.aload_n 0, 1) := by decide +kernel
theorem d_Hyper_write_155 : decode cc_Hyper_write 155 = .ok (.iload_n 2, 1) := by decide +kernel
theorem d_Hyper_write_156 : decode cc_Hyper_write 156 = .ok (.sipush 1092, 3) := by decide +kernel
theorem d_Hyper_write_159 : decode cc_Hyper_write 159 = .ok (.iand, 1) := by decide +kernel
theorem d_Hyper_write_160 : decode cc_Hyper_write 160 = .ok (.putfield 25, 3) := by decide +kernel
theorem d_Hyper_write_163 : decode cc_Hyper_write 163 = .ok (.goto 22, 3) := by decide +kernel
theorem d_Hyper_write_166 : decode cc_Hyper_write 166 = .ok (.aload_n 0, 1) := by decide +kernel
theorem d_Hyper_write_167 : decode cc_Hyper_write 167 = .ok (.iload_n 2, 1) := by decide +kernel
theorem d_Hyper_write_168 : decode cc_Hyper_write 168 = .ok (.putfield 28, 3) := by decide +kernel
theorem d_Hyper_write_171 : decode cc_Hyper_write 171 = .ok (.goto 14, 3) := by decide +kernel
theorem d_Hyper_write_174 : decode cc_Hyper_write 174 = .ok (.aload_n 0, 1) := by decide +kernel
theorem d_Hyper_write_175 : decode cc_Hyper_write 175 = .ok (.iload_n 2, 1) := by decide +kernel
theorem d_Hyper_write_176 : decode cc_Hyper_write 176 = .ok (.ldc 40, 2) := by decide +kernel
theorem d_Hyper_write_178 : decode cc_Hyper_write 178 = .ok (.iand, 1) := by decide +kernel
theorem d_Hyper_write_179 : decode cc_Hyper_write 179 = .ok (.putfield 31, 3) := by decide +kernel
theorem d_Hyper_write_182 : decode cc_Hyper_write 182 = .ok (.goto 3, 3) := by decide +kernel
theorem d_Hyper_write_185 : decode cc_Hyper_write 185 = .ok (.return_, 1) := by decide +kernel
abbrev y_Hyper_replaced : MethodName := ⟨"TrapDesk$Hyper", "replaced", "(III)I"⟩
abbrev cc_Hyper_replaced : ByteArray := prog_4_method_5_code
abbrev ws_Hyper_replaced : List Cond := Cond.code y_Hyper_replaced cc_Hyper_replaced 3 (some .int) :: gtb
theorem d_Hyper_replaced_0 : decode cc_Hyper_replaced 0 = .ok (.iload_n 0, 1) := by decide +kernel
theorem d_Hyper_replaced_1 : decode cc_Hyper_replaced 1 = .ok (.iload_n 1, 1) := by decide +kernel
theorem d_Hyper_replaced_2 : decode cc_Hyper_replaced 2 = .ok (.iconst (-1), 1) := by decide +kernel
theorem d_Hyper_replaced_3 : decode cc_Hyper_replaced 3 = .ok (.ixor, 1) := by decide +kernel
theorem d_Hyper_replaced_4 : decode cc_Hyper_replaced 4 = .ok (.iand, 1) := by decide +kernel
theorem d_Hyper_replaced_5 : decode cc_Hyper_replaced 5 = .ok (.iload_n 2, 1) := by decide +kernel
theorem d_Hyper_replaced_6 : decode cc_Hyper_replaced 6 = .ok (.iload_n 1, 1) := by decide +kernel
theorem d_Hyper_replaced_7 : decode cc_Hyper_replaced 7 = .ok (.iand, 1) := by decide +kernel
theorem d_Hyper_replaced_8 : decode cc_Hyper_replaced 8 = .ok (.ior, 1) := by decide +kernel
theorem d_Hyper_replaced_9 : decode cc_Hyper_replaced 9 = .ok (.ireturn, 1) := by decide +kernel
abbrev y_Hyper_hasStatus : MethodName := ⟨"TrapDesk$Hyper", "hasStatus", "(I)Z"⟩
abbrev cc_Hyper_hasStatus : ByteArray := prog_4_method_6_code
abbrev ws_Hyper_hasStatus : List Cond := Cond.code y_Hyper_hasStatus cc_Hyper_hasStatus 2 (some .boolean) :: gtb
theorem d_Hyper_hasStatus_0 : decode cc_Hyper_hasStatus 0 = .ok (.aload_n 0, 1) := by decide +kernel
theorem d_Hyper_hasStatus_1 : decode cc_Hyper_hasStatus 1 = .ok (.getfield 9, 3) := by decide +kernel
theorem d_Hyper_hasStatus_4 : decode cc_Hyper_hasStatus 4 = .ok (.iload_n 1, 1) := by decide +kernel
theorem d_Hyper_hasStatus_5 : decode cc_Hyper_hasStatus 5 = .ok (.iand, 1) := by decide +kernel
theorem d_Hyper_hasStatus_6 : decode cc_Hyper_hasStatus 6 = .ok (.ifCond .eq 7, 3) := by decide +kernel
theorem d_Hyper_hasStatus_9 : decode cc_Hyper_hasStatus 9 = .ok (.iconst 1, 1) := by decide +kernel
theorem d_Hyper_hasStatus_10 : decode cc_Hyper_hasStatus 10 = .ok (.goto 4, 3) := by decide +kernel
theorem d_Hyper_hasStatus_13 : decode cc_Hyper_hasStatus 13 = .ok (.iconst 0, 1) := by decide +kernel
theorem d_Hyper_hasStatus_14 : decode cc_Hyper_hasStatus 14 = .ok (.ireturn, 1) := by decide +kernel
abbrev y_Hyper_guestIe : MethodName := ⟨"TrapDesk$Hyper", "guestIe", "()I"⟩
abbrev cc_Hyper_guestIe : ByteArray := prog_4_method_7_code
abbrev ws_Hyper_guestIe : List Cond := Cond.code y_Hyper_guestIe cc_Hyper_guestIe 1 (some .int) :: gtb
theorem d_Hyper_guestIe_0 : decode cc_Hyper_guestIe 0 = .ok (.aload_n 0, 1) := by decide +kernel
theorem d_Hyper_guestIe_1 : decode cc_Hyper_guestIe 1 = .ok (.getfield 19, 3) := by decide +kernel
theorem d_Hyper_guestIe_4 : decode cc_Hyper_guestIe 4 = .ok (.aload_n 0, 1) := by decide +kernel
theorem d_Hyper_guestIe_5 : decode cc_Hyper_guestIe 5 = .ok (.getfield 16, 3) := by decide +kernel
theorem d_Hyper_guestIe_8 : decode cc_Hyper_guestIe 8 = .ok (.iand, 1) := by decide +kernel
theorem d_Hyper_guestIe_9 : decode cc_Hyper_guestIe 9 = .ok (.iconst 1, 1) := by decide +kernel
theorem d_Hyper_guestIe_10 : decode cc_Hyper_guestIe 10 = .ok (.iushr, 1) := by decide +kernel
theorem d_Hyper_guestIe_11 : decode cc_Hyper_guestIe 11 = .ok (.ireturn, 1) := by decide +kernel
abbrev y_Hyper_guestIp : MethodName := ⟨"TrapDesk$Hyper", "guestIp", "()I"⟩
abbrev cc_Hyper_guestIp : ByteArray := prog_4_method_8_code
abbrev ws_Hyper_guestIp : List Cond := Cond.code y_Hyper_guestIp cc_Hyper_guestIp 1 (some .int) :: gtb
theorem d_Hyper_guestIp_0 : decode cc_Hyper_guestIp 0 = .ok (.aload_n 0, 1) := by decide +kernel
theorem d_Hyper_guestIp_1 : decode cc_Hyper_guestIp 1 = .ok (.getfield 25, 3) := by decide +kernel
theorem d_Hyper_guestIp_4 : decode cc_Hyper_guestIp 4 = .ok (.aload_n 0, 1) := by decide +kernel
theorem d_Hyper_guestIp_5 : decode cc_Hyper_guestIp 5 = .ok (.getfield 16, 3) := by decide +kernel
theorem d_Hyper_guestIp_8 : decode cc_Hyper_guestIp 8 = .ok (.iand, 1) := by decide +kernel
theorem d_Hyper_guestIp_9 : decode cc_Hyper_guestIp 9 = .ok (.iconst 1, 1) := by decide +kernel
theorem d_Hyper_guestIp_10 : decode cc_Hyper_guestIp 10 = .ok (.iushr, 1) := by decide +kernel
theorem d_Hyper_guestIp_11 : decode cc_Hyper_guestIp 11 = .ok (.ireturn, 1) := by decide +kernel
abbrev y_Hyper_writeGuestIe : MethodName := ⟨"TrapDesk$Hyper", "writeGuestIe", "(I)V"⟩
abbrev cc_Hyper_writeGuestIe : ByteArray := prog_4_method_9_code
abbrev ws_Hyper_writeGuestIe : List Cond := Cond.code y_Hyper_writeGuestIe cc_Hyper_writeGuestIe 2 none :: gtb
theorem d_Hyper_writeGuestIe_0 : decode cc_Hyper_writeGuestIe 0 = .ok (.aload_n 0, 1) := by decide +kernel
theorem d_Hyper_writeGuestIe_1 : decode cc_Hyper_writeGuestIe 1 = .ok (.aload_n 0, 1) := by decide +kernel
theorem d_Hyper_writeGuestIe_2 : decode cc_Hyper_writeGuestIe 2 = .ok (.getfield 19, 3) := by decide +kernel
theorem d_Hyper_writeGuestIe_5 : decode cc_Hyper_writeGuestIe 5 = .ok (.aload_n 0, 1) := by decide +kernel
theorem d_Hyper_writeGuestIe_6 : decode cc_Hyper_writeGuestIe 6 = .ok (.getfield 16, 3) := by decide +kernel
theorem d_Hyper_writeGuestIe_9 : decode cc_Hyper_writeGuestIe 9 = .ok (.iload_n 1, 1) := by decide +kernel
theorem d_Hyper_writeGuestIe_10 : decode cc_Hyper_writeGuestIe 10 = .ok (.iconst 1, 1) := by decide +kernel
theorem d_Hyper_writeGuestIe_11 : decode cc_Hyper_writeGuestIe 11 = .ok (.ishl, 1) := by decide +kernel
theorem d_Hyper_writeGuestIe_12 : decode cc_Hyper_writeGuestIe 12 = .ok (.invokestatic 36, 3) := by decide +kernel
theorem d_Hyper_writeGuestIe_15 : decode cc_Hyper_writeGuestIe 15 = .ok (.putfield 19, 3) := by decide +kernel
theorem d_Hyper_writeGuestIe_18 : decode cc_Hyper_writeGuestIe 18 = .ok (.return_, 1) := by decide +kernel
abbrev y_Hyper_writeGuestIp : MethodName := ⟨"TrapDesk$Hyper", "writeGuestIp", "(I)V"⟩
abbrev cc_Hyper_writeGuestIp : ByteArray := prog_4_method_10_code
abbrev ws_Hyper_writeGuestIp : List Cond := Cond.code y_Hyper_writeGuestIp cc_Hyper_writeGuestIp 2 none :: gtb
theorem d_Hyper_writeGuestIp_0 : decode cc_Hyper_writeGuestIp 0 = .ok (.aload_n 0, 1) := by decide +kernel
theorem d_Hyper_writeGuestIp_1 : decode cc_Hyper_writeGuestIp 1 = .ok (.aload_n 0, 1) := by decide +kernel
theorem d_Hyper_writeGuestIp_2 : decode cc_Hyper_writeGuestIp 2 = .ok (.getfield 25, 3) := by decide +kernel
theorem d_Hyper_writeGuestIp_5 : decode cc_Hyper_writeGuestIp 5 = .ok (.aload_n 0, 1) := by decide +kernel
theorem d_Hyper_writeGuestIp_6 : decode cc_Hyper_writeGuestIp 6 = .ok (.getfield 16, 3) := by decide +kernel
theorem d_Hyper_writeGuestIp_9 : decode cc_Hyper_writeGuestIp 9 = .ok (.iconst 4, 1) := by decide +kernel
theorem d_Hyper_writeGuestIp_10 : decode cc_Hyper_writeGuestIp 10 = .ok (.iand, 1) := by decide +kernel
theorem d_Hyper_writeGuestIp_11 : decode cc_Hyper_writeGuestIp 11 = .ok (.iload_n 1, 1) := by decide +kernel
theorem d_Hyper_writeGuestIp_12 : decode cc_Hyper_writeGuestIp 12 = .ok (.iconst 1, 1) := by decide +kernel
theorem d_Hyper_writeGuestIp_13 : decode cc_Hyper_writeGuestIp 13 = .ok (.ishl, 1) := by decide +kernel
theorem d_Hyper_writeGuestIp_14 : decode cc_Hyper_writeGuestIp 14 = .ok (.invokestatic 36, 3) := by decide +kernel
theorem d_Hyper_writeGuestIp_17 : decode cc_Hyper_writeGuestIp 17 = .ok (.putfield 25, 3) := by decide +kernel
theorem d_Hyper_writeGuestIp_20 : decode cc_Hyper_writeGuestIp 20 = .ok (.return_, 1) := by decide +kernel
abbrev y_Hyper_enter : MethodName := ⟨"TrapDesk$Hyper", "enter", "(ZZZ)V"⟩
abbrev cc_Hyper_enter : ByteArray := prog_4_method_11_code
abbrev ws_Hyper_enter : List Cond := Cond.code y_Hyper_enter cc_Hyper_enter 4 none :: gtb
theorem d_Hyper_enter_0 : decode cc_Hyper_enter 0 = .ok (.aload_n 0, 1) := by decide +kernel
theorem d_Hyper_enter_1 : decode cc_Hyper_enter 1 = .ok (.aload_n 0, 1) := by decide +kernel
theorem d_Hyper_enter_2 : decode cc_Hyper_enter 2 = .ok (.getfield 9, 3) := by decide +kernel
theorem d_Hyper_enter_5 : decode cc_Hyper_enter 5 = .ok (.bipush 64, 2) := by decide +kernel
theorem d_Hyper_enter_7 : decode cc_Hyper_enter 7 = .ok (.iload_n 3, 1) := by decide +kernel
theorem d_Hyper_enter_8 : decode cc_Hyper_enter 8 = .ok (.ifCond .eq 8, 3) := by decide +kernel
theorem d_Hyper_enter_11 : decode cc_Hyper_enter 11 = .ok (.bipush 64, 2) := by decide +kernel
theorem d_Hyper_enter_13 : decode cc_Hyper_enter 13 = .ok (.goto 4, 3) := by decide +kernel
theorem d_Hyper_enter_16 : decode cc_Hyper_enter 16 = .ok (.iconst 0, 1) := by decide +kernel
theorem d_Hyper_enter_17 : decode cc_Hyper_enter 17 = .ok (.invokestatic 36, 3) := by decide +kernel
theorem d_Hyper_enter_20 : decode cc_Hyper_enter 20 = .ok (.putfield 9, 3) := by decide +kernel
theorem d_Hyper_enter_23 : decode cc_Hyper_enter 23 = .ok (.aload_n 0, 1) := by decide +kernel
theorem d_Hyper_enter_24 : decode cc_Hyper_enter 24 = .ok (.aload_n 0, 1) := by decide +kernel
theorem d_Hyper_enter_25 : decode cc_Hyper_enter 25 = .ok (.getfield 9, 3) := by decide +kernel
theorem d_Hyper_enter_28 : decode cc_Hyper_enter 28 = .ok (.sipush 128, 3) := by decide +kernel
theorem d_Hyper_enter_31 : decode cc_Hyper_enter 31 = .ok (.iload_n 1, 1) := by decide +kernel
theorem d_Hyper_enter_32 : decode cc_Hyper_enter 32 = .ok (.ifCond .eq 9, 3) := by decide +kernel
theorem d_Hyper_enter_35 : decode cc_Hyper_enter 35 = .ok (.sipush 128, 3) := by decide +kernel
theorem d_Hyper_enter_38 : decode cc_Hyper_enter 38 = .ok (.goto 4, 3) := by decide +kernel
theorem d_Hyper_enter_41 : decode cc_Hyper_enter 41 = .ok (.iconst 0, 1) := by decide +kernel
theorem d_Hyper_enter_42 : decode cc_Hyper_enter 42 = .ok (.invokestatic 36, 3) := by decide +kernel
theorem d_Hyper_enter_45 : decode cc_Hyper_enter 45 = .ok (.putfield 9, 3) := by decide +kernel
theorem d_Hyper_enter_48 : decode cc_Hyper_enter 48 = .ok (.iload_n 1, 1) := by decide +kernel
theorem d_Hyper_enter_49 : decode cc_Hyper_enter 49 = .ok (.ifCond .eq 28, 3) := by decide +kernel
theorem d_Hyper_enter_52 : decode cc_Hyper_enter 52 = .ok (.aload_n 0, 1) := by decide +kernel
theorem d_Hyper_enter_53 : decode cc_Hyper_enter 53 = .ok (.aload_n 0, 1) := by decide +kernel
theorem d_Hyper_enter_54 : decode cc_Hyper_enter 54 = .ok (.getfield 9, 3) := by decide +kernel
theorem d_Hyper_enter_57 : decode cc_Hyper_enter 57 = .ok (.sipush 256, 3) := by decide +kernel
theorem d_Hyper_enter_60 : decode cc_Hyper_enter 60 = .ok (.iload_n 2, 1) := by decide +kernel
theorem d_Hyper_enter_61 : decode cc_Hyper_enter 61 = .ok (.ifCond .eq 9, 3) := by decide +kernel
theorem d_Hyper_enter_64 : decode cc_Hyper_enter 64 = .ok (.sipush 256, 3) := by decide +kernel
theorem d_Hyper_enter_67 : decode cc_Hyper_enter 67 = .ok (.goto 4, 3) := by decide +kernel
theorem d_Hyper_enter_70 : decode cc_Hyper_enter 70 = .ok (.iconst 0, 1) := by decide +kernel
theorem d_Hyper_enter_71 : decode cc_Hyper_enter 71 = .ok (.invokestatic 36, 3) := by decide +kernel
theorem d_Hyper_enter_74 : decode cc_Hyper_enter 74 = .ok (.putfield 9, 3) := by decide +kernel
theorem d_Hyper_enter_77 : decode cc_Hyper_enter 77 = .ok (.return_, 1) := by decide +kernel
abbrev y_Hyper_leave : MethodName := ⟨"TrapDesk$Hyper", "leave", "()Z"⟩
abbrev cc_Hyper_leave : ByteArray := prog_4_method_12_code
abbrev ws_Hyper_leave : List Cond := Cond.code y_Hyper_leave cc_Hyper_leave 2 (some .boolean) :: gtb
theorem d_Hyper_leave_0 : decode cc_Hyper_leave 0 = .ok (.aload_n 0, 1) := by decide +kernel
theorem d_Hyper_leave_1 : decode cc_Hyper_leave 1 = .ok (.sipush 128, 3) := by decide +kernel
theorem d_Hyper_leave_4 : decode cc_Hyper_leave 4 = .ok (.invokevirtual 41, 3) := by decide +kernel
theorem d_Hyper_leave_7 : decode cc_Hyper_leave 7 = .ok (.istore_n 1, 1) := by decide +kernel
theorem d_Hyper_leave_8 : decode cc_Hyper_leave 8 = .ok (.aload_n 0, 1) := by decide +kernel
theorem d_Hyper_leave_9 : decode cc_Hyper_leave 9 = .ok (.aload_n 0, 1) := by decide +kernel
theorem d_Hyper_leave_10 : decode cc_Hyper_leave 10 = .ok (.getfield 9, 3) := by decide +kernel
theorem d_Hyper_leave_13 : decode cc_Hyper_leave 13 = .ok (.sipush (-129), 3) := by decide +kernel
theorem d_Hyper_leave_16 : decode cc_Hyper_leave 16 = .ok (.iand, 1) := by decide +kernel
theorem d_Hyper_leave_17 : decode cc_Hyper_leave 17 = .ok (.putfield 9, 3) := by decide +kernel
theorem d_Hyper_leave_20 : decode cc_Hyper_leave 20 = .ok (.iload_n 1, 1) := by decide +kernel
theorem d_Hyper_leave_21 : decode cc_Hyper_leave 21 = .ok (.ireturn, 1) := by decide +kernel
abbrev y_Controls_init : MethodName := ⟨"TrapDesk$Controls", "<init>", "()V"⟩
abbrev cc_Controls_init : ByteArray := prog_3_method_1_code
abbrev ws_Controls_init : List Cond := Cond.code y_Controls_init cc_Controls_init 1 none :: gtb
theorem d_Controls_init_0 : decode cc_Controls_init 0 = .ok (.aload_n 0, 1) := by decide +kernel
theorem d_Controls_init_1 : decode cc_Controls_init 1 = .ok (.invokespecial 3, 3) := by decide +kernel
theorem d_Controls_init_4 : decode cc_Controls_init 4 = .ok (.aload_n 0, 1) := by decide +kernel
theorem d_Controls_init_5 : decode cc_Controls_init 5 = .ok (.new 9, 3) := by decide +kernel
theorem d_Controls_init_8 : decode cc_Controls_init 8 = .ok (.dup, 1) := by decide +kernel
theorem d_Controls_init_9 : decode cc_Controls_init 9 = .ok (.invokespecial 11, 3) := by decide +kernel
theorem d_Controls_init_12 : decode cc_Controls_init 12 = .ok (.putfield 12, 3) := by decide +kernel
theorem d_Controls_init_15 : decode cc_Controls_init 15 = .ok (.aload_n 0, 1) := by decide +kernel
theorem d_Controls_init_16 : decode cc_Controls_init 16 = .ok (.new 16, 3) := by decide +kernel
theorem d_Controls_init_19 : decode cc_Controls_init 19 = .ok (.dup, 1) := by decide +kernel
theorem d_Controls_init_20 : decode cc_Controls_init 20 = .ok (.invokespecial 18, 3) := by decide +kernel
theorem d_Controls_init_23 : decode cc_Controls_init 23 = .ok (.putfield 19, 3) := by decide +kernel
theorem d_Controls_init_26 : decode cc_Controls_init 26 = .ok (.aload_n 0, 1) := by decide +kernel
theorem d_Controls_init_27 : decode cc_Controls_init 27 = .ok (.new 16, 3) := by decide +kernel
theorem d_Controls_init_30 : decode cc_Controls_init 30 = .ok (.dup, 1) := by decide +kernel
theorem d_Controls_init_31 : decode cc_Controls_init 31 = .ok (.invokespecial 18, 3) := by decide +kernel
theorem d_Controls_init_34 : decode cc_Controls_init 34 = .ok (.putfield 23, 3) := by decide +kernel
theorem d_Controls_init_37 : decode cc_Controls_init 37 = .ok (.aload_n 0, 1) := by decide +kernel
theorem d_Controls_init_38 : decode cc_Controls_init 38 = .ok (.new 26, 3) := by decide +kernel
theorem d_Controls_init_41 : decode cc_Controls_init 41 = .ok (.dup, 1) := by decide +kernel
theorem d_Controls_init_42 : decode cc_Controls_init 42 = .ok (.invokespecial 28, 3) := by decide +kernel
theorem d_Controls_init_45 : decode cc_Controls_init 45 = .ok (.putfield 29, 3) := by decide +kernel
theorem d_Controls_init_48 : decode cc_Controls_init 48 = .ok (.return_, 1) := by decide +kernel
abbrev y_Controls_reset : MethodName := ⟨"TrapDesk$Controls", "reset", "()V"⟩
abbrev cc_Controls_reset : ByteArray := prog_3_method_2_code
abbrev ws_Controls_reset : List Cond := Cond.code y_Controls_reset cc_Controls_reset 1 none :: gtb
theorem d_Controls_reset_0 : decode cc_Controls_reset 0 = .ok (.aload_n 0, 1) := by decide +kernel
theorem d_Controls_reset_1 : decode cc_Controls_reset 1 = .ok (.getfield 12, 3) := by decide +kernel
theorem d_Controls_reset_4 : decode cc_Controls_reset 4 = .ok (.invokevirtual 33, 3) := by decide +kernel
theorem d_Controls_reset_7 : decode cc_Controls_reset 7 = .ok (.aload_n 0, 1) := by decide +kernel
theorem d_Controls_reset_8 : decode cc_Controls_reset 8 = .ok (.getfield 19, 3) := by decide +kernel
theorem d_Controls_reset_11 : decode cc_Controls_reset 11 = .ok (.invokevirtual 36, 3) := by decide +kernel
theorem d_Controls_reset_14 : decode cc_Controls_reset 14 = .ok (.aload_n 0, 1) := by decide +kernel
theorem d_Controls_reset_15 : decode cc_Controls_reset 15 = .ok (.getfield 23, 3) := by decide +kernel
theorem d_Controls_reset_18 : decode cc_Controls_reset 18 = .ok (.invokevirtual 36, 3) := by decide +kernel
theorem d_Controls_reset_21 : decode cc_Controls_reset 21 = .ok (.aload_n 0, 1) := by decide +kernel
theorem d_Controls_reset_22 : decode cc_Controls_reset 22 = .ok (.getfield 29, 3) := by decide +kernel
theorem d_Controls_reset_25 : decode cc_Controls_reset 25 = .ok (.invokevirtual 37, 3) := by decide +kernel
theorem d_Controls_reset_28 : decode cc_Controls_reset 28 = .ok (.aload_n 0, 1) := by decide +kernel
theorem d_Controls_reset_29 : decode cc_Controls_reset 29 = .ok (.iconst 0, 1) := by decide +kernel
theorem d_Controls_reset_30 : decode cc_Controls_reset 30 = .ok (.putfield 38, 3) := by decide +kernel
theorem d_Controls_reset_33 : decode cc_Controls_reset 33 = .ok (.aload_n 0, 1) := by decide +kernel
theorem d_Controls_reset_34 : decode cc_Controls_reset 34 = .ok (.iconst 0, 1) := by decide +kernel
theorem d_Controls_reset_35 : decode cc_Controls_reset 35 = .ok (.putfield 42, 3) := by decide +kernel
theorem d_Controls_reset_38 : decode cc_Controls_reset 38 = .ok (.return_, 1) := by decide +kernel
abbrev y_Controls_read : MethodName := ⟨"TrapDesk$Controls", "read", "(I)I"⟩
abbrev cc_Controls_read : ByteArray := prog_3_method_3_code
abbrev ws_Controls_read : List Cond := Cond.code y_Controls_read cc_Controls_read 2 (some .int) :: gtb
theorem d_Controls_read_0 : decode cc_Controls_read 0 = .ok (.iload_n 1, 1) := by decide +kernel
theorem d_Controls_read_1 : decode cc_Controls_read 1 = .ok (.invokestatic 45, 3) := by decide +kernel
theorem d_Controls_read_4 : decode cc_Controls_read 4 = .ok (.ifCond .eq 12, 3) := by decide +kernel
theorem d_Controls_read_7 : decode cc_Controls_read 7 = .ok (.aload_n 0, 1) := by decide +kernel
theorem d_Controls_read_8 : decode cc_Controls_read 8 = .ok (.iload_n 1, 1) := by decide +kernel
theorem d_Controls_read_9 : decode cc_Controls_read 9 = .ok (.invokestatic 51, 3) := by decide +kernel
theorem d_Controls_read_12 : decode cc_Controls_read 12 = .ok (.invokevirtual 55, 3) := by decide +kernel
theorem d_Controls_read_15 : decode cc_Controls_read 15 = .ok (.ireturn, 1) := by decide +kernel
theorem d_Controls_read_16 : decode cc_Controls_read 16 = .ok (.iload_n 1, 1) := by decide +kernel
theorem d_Controls_read_17 : decode cc_Controls_read 17 = .ok (.invokestatic 58, 3) := by decide +kernel
theorem d_Controls_read_20 : decode cc_Controls_read 20 = .ok (.ifCond .eq 12, 3) := by decide +kernel
theorem d_Controls_read_23 : decode cc_Controls_read 23 = .ok (.aload_n 0, 1) := by decide +kernel
theorem d_Controls_read_24 : decode cc_Controls_read 24 = .ok (.iload_n 1, 1) := by decide +kernel
theorem d_Controls_read_25 : decode cc_Controls_read 25 = .ok (.invokestatic 51, 3) := by decide +kernel
theorem d_Controls_read_28 : decode cc_Controls_read 28 = .ok (.invokevirtual 61, 3) := by decide +kernel
theorem d_Controls_read_31 : decode cc_Controls_read 31 = .ok (.ireturn, 1) := by decide +kernel
theorem d_Controls_read_32 : decode cc_Controls_read 32 = .ok (.iload_n 1, 1) := by decide +kernel
theorem d_Controls_read_33 : decode cc_Controls_read 33 = .ok (.lookupswitch 48 #[(3073, 27), (3201, 36)], 27) := by decide +kernel
theorem d_Controls_read_60 : decode cc_Controls_read 60 = .ok (.aload_n 0, 1) := by decide +kernel
theorem d_Controls_read_61 : decode cc_Controls_read 61 = .ok (.getfield 12, 3) := by decide +kernel
theorem d_Controls_read_64 : decode cc_Controls_read 64 = .ok (.getfield 64, 3) := by decide +kernel
theorem d_Controls_read_67 : decode cc_Controls_read 67 = .ok (.l2i, 1) := by decide +kernel
theorem d_Controls_read_68 : decode cc_Controls_read 68 = .ok (.ireturn, 1) := by decide +kernel
theorem d_Controls_read_69 : decode cc_Controls_read 69 = .ok (.aload_n 0, 1) := by decide +kernel
theorem d_Controls_read_70 : decode cc_Controls_read 70 = .ok (.getfield 12, 3) := by decide +kernel
theorem d_Controls_read_73 : decode cc_Controls_read 73 = .ok (.getfield 64, 3) := by decide +kernel
theorem d_Controls_read_76 : decode cc_Controls_read 76 = .ok (.bipush 32, 2) := by decide +kernel
theorem d_Controls_read_78 : decode cc_Controls_read 78 = .ok (.lushr, 1) := by decide +kernel
theorem d_Controls_read_79 : decode cc_Controls_read 79 = .ok (.l2i, 1) := by decide +kernel
theorem d_Controls_read_80 : decode cc_Controls_read 80 = .ok (.ireturn, 1) := by decide +kernel
theorem d_Controls_read_81 : decode cc_Controls_read 81 = .ok (.aload_n 0, 1) := by decide +kernel
theorem d_Controls_read_82 : decode cc_Controls_read 82 = .ok (.getfield 29, 3) := by decide +kernel
theorem d_Controls_read_85 : decode cc_Controls_read 85 = .ok (.iload_n 1, 1) := by decide +kernel
theorem d_Controls_read_86 : decode cc_Controls_read 86 = .ok (.invokevirtual 68, 3) := by decide +kernel
theorem d_Controls_read_89 : decode cc_Controls_read 89 = .ok (.ireturn, 1) := by decide +kernel
abbrev y_Controls_readHost : MethodName := ⟨"TrapDesk$Controls", "readHost", "(I)I"⟩
abbrev cc_Controls_readHost : ByteArray := prog_3_method_4_code
abbrev ws_Controls_readHost : List Cond := Cond.code y_Controls_readHost cc_Controls_readHost 2 (some .int) :: gtb
theorem d_Controls_readHost_0 : decode cc_Controls_readHost 0 = .ok (.iload_n 1, 1) := by decide +kernel
theorem d_Controls_readHost_1 : decode cc_Controls_readHost 1 = .ok (.lookupswitch 37 #[(4, 27), (68, 32)], 27) := by decide +kernel
theorem d_Controls_readHost_28 : decode cc_Controls_readHost 28 = .ok (.aload_n 0, 1) := by decide +kernel
theorem d_Controls_readHost_29 : decode cc_Controls_readHost 29 = .ok (.getfield 38, 3) := by decide +kernel
theorem d_Controls_readHost_32 : decode cc_Controls_readHost 32 = .ok (.ireturn, 1) := by decide +kernel
theorem d_Controls_readHost_33 : decode cc_Controls_readHost 33 = .ok (.aload_n 0, 1) := by decide +kernel
theorem d_Controls_readHost_34 : decode cc_Controls_readHost 34 = .ok (.invokevirtual 71, 3) := by decide +kernel
theorem d_Controls_readHost_37 : decode cc_Controls_readHost 37 = .ok (.ireturn, 1) := by decide +kernel
theorem d_Controls_readHost_38 : decode cc_Controls_readHost 38 = .ok (.aload_n 0, 1) := by decide +kernel
theorem d_Controls_readHost_39 : decode cc_Controls_readHost 39 = .ok (.getfield 19, 3) := by decide +kernel
theorem d_Controls_readHost_42 : decode cc_Controls_readHost 42 = .ok (.iload_n 1, 1) := by decide +kernel
theorem d_Controls_readHost_43 : decode cc_Controls_readHost 43 = .ok (.invokevirtual 75, 3) := by decide +kernel
theorem d_Controls_readHost_46 : decode cc_Controls_readHost 46 = .ok (.ireturn, 1) := by decide +kernel
abbrev y_Controls_readGuest : MethodName := ⟨"TrapDesk$Controls", "readGuest", "(I)I"⟩
abbrev cc_Controls_readGuest : ByteArray := prog_3_method_5_code
abbrev ws_Controls_readGuest : List Cond := Cond.code y_Controls_readGuest cc_Controls_readGuest 2 (some .int) :: gtb
theorem d_Controls_readGuest_0 : decode cc_Controls_readGuest 0 = .ok (.iload_n 1, 1) := by decide +kernel
theorem d_Controls_readGuest_1 : decode cc_Controls_readGuest 1 = .ok (.lookupswitch 43 #[(4, 27), (68, 35)], 27) := by decide +kernel
theorem d_Controls_readGuest_28 : decode cc_Controls_readGuest 28 = .ok (.aload_n 0, 1) := by decide +kernel
theorem d_Controls_readGuest_29 : decode cc_Controls_readGuest 29 = .ok (.getfield 29, 3) := by decide +kernel
theorem d_Controls_readGuest_32 : decode cc_Controls_readGuest 32 = .ok (.invokevirtual 76, 3) := by decide +kernel
theorem d_Controls_readGuest_35 : decode cc_Controls_readGuest 35 = .ok (.ireturn, 1) := by decide +kernel
theorem d_Controls_readGuest_36 : decode cc_Controls_readGuest 36 = .ok (.aload_n 0, 1) := by decide +kernel
theorem d_Controls_readGuest_37 : decode cc_Controls_readGuest 37 = .ok (.getfield 29, 3) := by decide +kernel
theorem d_Controls_readGuest_40 : decode cc_Controls_readGuest 40 = .ok (.invokevirtual 79, 3) := by decide +kernel
theorem d_Controls_readGuest_43 : decode cc_Controls_readGuest 43 = .ok (.ireturn, 1) := by decide +kernel
theorem d_Controls_readGuest_44 : decode cc_Controls_readGuest 44 = .ok (.aload_n 0, 1) := by decide +kernel
theorem d_Controls_readGuest_45 : decode cc_Controls_readGuest 45 = .ok (.getfield 23, 3) := by decide +kernel
theorem d_Controls_readGuest_48 : decode cc_Controls_readGuest 48 = .ok (.iload_n 1, 1) := by decide +kernel
theorem d_Controls_readGuest_49 : decode cc_Controls_readGuest 49 = .ok (.invokevirtual 75, 3) := by decide +kernel
theorem d_Controls_readGuest_52 : decode cc_Controls_readGuest 52 = .ok (.ireturn, 1) := by decide +kernel
abbrev y_Controls_write : MethodName := ⟨"TrapDesk$Controls", "write", "(II)V"⟩
abbrev cc_Controls_write : ByteArray := prog_3_method_6_code
abbrev ws_Controls_write : List Cond := Cond.code y_Controls_write cc_Controls_write 3 none :: gtb
theorem d_Controls_write_0 : decode cc_Controls_write 0 = .ok (.iload_n 1, 1) := by decide +kernel
theorem d_Controls_write_1 : decode cc_Controls_write 1 = .ok (.invokestatic 45, 3) := by decide +kernel
theorem d_Controls_write_4 : decode cc_Controls_write 4 = .ok (.ifCond .eq 15, 3) := by decide +kernel
theorem d_Controls_write_7 : decode cc_Controls_write 7 = .ok (.aload_n 0, 1) := by decide +kernel
theorem d_Controls_write_8 : decode cc_Controls_write 8 = .ok (.iload_n 1, 1) := by decide +kernel
theorem d_Controls_write_9 : decode cc_Controls_write 9 = .ok (.invokestatic 51, 3) := by decide +kernel
theorem d_Controls_write_12 : decode cc_Controls_write 12 = .ok (.iload_n 2, 1) := by decide +kernel
theorem d_Controls_write_13 : decode cc_Controls_write 13 = .ok (.invokevirtual 82, 3) := by decide +kernel
theorem d_Controls_write_16 : decode cc_Controls_write 16 = .ok (.goto 31, 3) := by decide +kernel
theorem d_Controls_write_19 : decode cc_Controls_write 19 = .ok (.iload_n 1, 1) := by decide +kernel
theorem d_Controls_write_20 : decode cc_Controls_write 20 = .ok (.invokestatic 58, 3) := by decide +kernel
theorem d_Controls_write_23 : decode cc_Controls_write 23 = .ok (.ifCond .eq 15, 3) := by decide +kernel
theorem d_Controls_write_26 : decode cc_Controls_write 26 = .ok (.aload_n 0, 1) := by decide +kernel
theorem d_Controls_write_27 : decode cc_Controls_write 27 = .ok (.iload_n 1, 1) := by decide +kernel
theorem d_Controls_write_28 : decode cc_Controls_write 28 = .ok (.invokestatic 51, 3) := by decide +kernel
theorem d_Controls_write_31 : decode cc_Controls_write 31 = .ok (.iload_n 2, 1) := by decide +kernel
theorem d_Controls_write_32 : decode cc_Controls_write 32 = .ok (.invokevirtual 86, 3) := by decide +kernel
theorem d_Controls_write_35 : decode cc_Controls_write 35 = .ok (.goto 12, 3) := by decide +kernel
theorem d_Controls_write_38 : decode cc_Controls_write 38 = .ok (.aload_n 0, 1) := by decide +kernel
theorem d_Controls_write_39 : decode cc_Controls_write 39 = .ok (.getfield 29, 3) := by decide +kernel
theorem d_Controls_write_42 : decode cc_Controls_write 42 = .ok (.iload_n 1, 1) := by decide +kernel
theorem d_Controls_write_43 : decode cc_Controls_write 43 = .ok (.iload_n 2, 1) := by decide +kernel
theorem d_Controls_write_44 : decode cc_Controls_write 44 = .ok (.invokevirtual 89, 3) := by decide +kernel
theorem d_Controls_write_47 : decode cc_Controls_write 47 = .ok (.return_, 1) := by decide +kernel
abbrev y_Controls_writeHost : MethodName := ⟨"TrapDesk$Controls", "writeHost", "(II)V"⟩
abbrev cc_Controls_writeHost : ByteArray := prog_3_method_7_code
abbrev ws_Controls_writeHost : List Cond := Cond.code y_Controls_writeHost cc_Controls_writeHost 3 none :: gtb
theorem d_Controls_writeHost_0 : decode cc_Controls_writeHost 0 = .ok (.iload_n 1, 1) := by decide +kernel
theorem d_Controls_writeHost_1 : decode cc_Controls_writeHost 1 = .ok (.lookupswitch 49 #[(4, 27), (68, 39)], 27) := by decide +kernel
theorem d_Controls_writeHost_28 : decode cc_Controls_writeHost 28 = .ok (.aload_n 0, 1) := by decide +kernel
theorem d_Controls_writeHost_29 : decode cc_Controls_writeHost 29 = .ok (.iload_n 2, 1) := by decide +kernel
theorem d_Controls_writeHost_30 : decode cc_Controls_writeHost 30 = .ok (.sipush 546, 3) := by decide +kernel
theorem d_Controls_writeHost_33 : decode cc_Controls_writeHost 33 = .ok (.iand, 1) := by decide +kernel
theorem d_Controls_writeHost_34 : decode cc_Controls_writeHost 34 = .ok (.putfield 38, 3) := by decide +kernel
theorem d_Controls_writeHost_37 : decode cc_Controls_writeHost 37 = .ok (.goto 22, 3) := by decide +kernel
theorem d_Controls_writeHost_40 : decode cc_Controls_writeHost 40 = .ok (.aload_n 0, 1) := by decide +kernel
theorem d_Controls_writeHost_41 : decode cc_Controls_writeHost 41 = .ok (.iload_n 2, 1) := by decide +kernel
theorem d_Controls_writeHost_42 : decode cc_Controls_writeHost 42 = .ok (.iconst 2, 1) := by decide +kernel
theorem d_Controls_writeHost_43 : decode cc_Controls_writeHost 43 = .ok (.iand, 1) := by decide +kernel
theorem d_Controls_writeHost_44 : decode cc_Controls_writeHost 44 = .ok (.putfield 42, 3) := by decide +kernel
theorem d_Controls_writeHost_47 : decode cc_Controls_writeHost 47 = .ok (.goto 12, 3) := by decide +kernel
theorem d_Controls_writeHost_50 : decode cc_Controls_writeHost 50 = .ok (.aload_n 0, 1) := by decide +kernel
theorem d_Controls_writeHost_51 : decode cc_Controls_writeHost 51 = .ok (.getfield 19, 3) := by decide +kernel
theorem d_Controls_writeHost_54 : decode cc_Controls_writeHost 54 = .ok (.iload_n 1, 1) := by decide +kernel
theorem d_Controls_writeHost_55 : decode cc_Controls_writeHost 55 = .ok (.iload_n 2, 1) := by decide +kernel
theorem d_Controls_writeHost_56 : decode cc_Controls_writeHost 56 = .ok (.invokevirtual 92, 3) := by decide +kernel
theorem d_Controls_writeHost_59 : decode cc_Controls_writeHost 59 = .ok (.return_, 1) := by decide +kernel
abbrev y_Controls_writeGuest : MethodName := ⟨"TrapDesk$Controls", "writeGuest", "(II)V"⟩
abbrev cc_Controls_writeGuest : ByteArray := prog_3_method_8_code
abbrev ws_Controls_writeGuest : List Cond := Cond.code y_Controls_writeGuest cc_Controls_writeGuest 3 none :: gtb
theorem d_Controls_writeGuest_0 : decode cc_Controls_writeGuest 0 = .ok (.iload_n 1, 1) := by decide +kernel
theorem d_Controls_writeGuest_1 : decode cc_Controls_writeGuest 1 = .ok (.lookupswitch 49 #[(4, 27), (68, 38)], 27) := by decide +kernel
theorem d_Controls_writeGuest_28 : decode cc_Controls_writeGuest 28 = .ok (.aload_n 0, 1) := by decide +kernel
theorem d_Controls_writeGuest_29 : decode cc_Controls_writeGuest 29 = .ok (.getfield 29, 3) := by decide +kernel
theorem d_Controls_writeGuest_32 : decode cc_Controls_writeGuest 32 = .ok (.iload_n 2, 1) := by decide +kernel
theorem d_Controls_writeGuest_33 : decode cc_Controls_writeGuest 33 = .ok (.invokevirtual 93, 3) := by decide +kernel
theorem d_Controls_writeGuest_36 : decode cc_Controls_writeGuest 36 = .ok (.goto 23, 3) := by decide +kernel
theorem d_Controls_writeGuest_39 : decode cc_Controls_writeGuest 39 = .ok (.aload_n 0, 1) := by decide +kernel
theorem d_Controls_writeGuest_40 : decode cc_Controls_writeGuest 40 = .ok (.getfield 29, 3) := by decide +kernel
theorem d_Controls_writeGuest_43 : decode cc_Controls_writeGuest 43 = .ok (.iload_n 2, 1) := by decide +kernel
theorem d_Controls_writeGuest_44 : decode cc_Controls_writeGuest 44 = .ok (.invokevirtual 97, 3) := by decide +kernel
theorem d_Controls_writeGuest_47 : decode cc_Controls_writeGuest 47 = .ok (.goto 12, 3) := by decide +kernel
theorem d_Controls_writeGuest_50 : decode cc_Controls_writeGuest 50 = .ok (.aload_n 0, 1) := by decide +kernel
theorem d_Controls_writeGuest_51 : decode cc_Controls_writeGuest 51 = .ok (.getfield 23, 3) := by decide +kernel
theorem d_Controls_writeGuest_54 : decode cc_Controls_writeGuest 54 = .ok (.iload_n 1, 1) := by decide +kernel
theorem d_Controls_writeGuest_55 : decode cc_Controls_writeGuest 55 = .ok (.iload_n 2, 1) := by decide +kernel
theorem d_Controls_writeGuest_56 : decode cc_Controls_writeGuest 56 = .ok (.invokevirtual 92, 3) := by decide +kernel
theorem d_Controls_writeGuest_59 : decode cc_Controls_writeGuest 59 = .ok (.return_, 1) := by decide +kernel
abbrev y_Controls_hostIp : MethodName := ⟨"TrapDesk$Controls", "hostIp", "()I"⟩
abbrev cc_Controls_hostIp : ByteArray := prog_3_method_9_code
abbrev ws_Controls_hostIp : List Cond := Cond.code y_Controls_hostIp cc_Controls_hostIp 3 (some .int) :: gtb
theorem d_Controls_hostIp_0 : decode cc_Controls_hostIp 0 = .ok (.aload_n 0, 1) := by decide +kernel
theorem d_Controls_hostIp_1 : decode cc_Controls_hostIp 1 = .ok (.getfield 12, 3) := by decide +kernel
theorem d_Controls_hostIp_4 : decode cc_Controls_hostIp 4 = .ok (.invokevirtual 100, 3) := by decide +kernel
theorem d_Controls_hostIp_7 : decode cc_Controls_hostIp 7 = .ok (.ifCond .eq 8, 3) := by decide +kernel
theorem d_Controls_hostIp_10 : decode cc_Controls_hostIp 10 = .ok (.bipush 32, 2) := by decide +kernel
theorem d_Controls_hostIp_12 : decode cc_Controls_hostIp 12 = .ok (.goto 4, 3) := by decide +kernel
theorem d_Controls_hostIp_15 : decode cc_Controls_hostIp 15 = .ok (.iconst 0, 1) := by decide +kernel
theorem d_Controls_hostIp_16 : decode cc_Controls_hostIp 16 = .ok (.istore_n 1, 1) := by decide +kernel
theorem d_Controls_hostIp_17 : decode cc_Controls_hostIp 17 = .ok (.aload_n 0, 1) := by decide +kernel
theorem d_Controls_hostIp_18 : decode cc_Controls_hostIp 18 = .ok (.getfield 12, 3) := by decide +kernel
theorem d_Controls_hostIp_21 : decode cc_Controls_hostIp 21 = .ok (.getfield 104, 3) := by decide +kernel
theorem d_Controls_hostIp_24 : decode cc_Controls_hostIp 24 = .ok (.ifCond .eq 9, 3) := by decide +kernel
theorem d_Controls_hostIp_27 : decode cc_Controls_hostIp 27 = .ok (.sipush 512, 3) := by decide +kernel
theorem d_Controls_hostIp_30 : decode cc_Controls_hostIp 30 = .ok (.goto 4, 3) := by decide +kernel
theorem d_Controls_hostIp_33 : decode cc_Controls_hostIp 33 = .ok (.iconst 0, 1) := by decide +kernel
theorem d_Controls_hostIp_34 : decode cc_Controls_hostIp 34 = .ok (.istore_n 2, 1) := by decide +kernel
theorem d_Controls_hostIp_35 : decode cc_Controls_hostIp 35 = .ok (.aload_n 0, 1) := by decide +kernel
theorem d_Controls_hostIp_36 : decode cc_Controls_hostIp 36 = .ok (.getfield 42, 3) := by decide +kernel
theorem d_Controls_hostIp_39 : decode cc_Controls_hostIp 39 = .ok (.iload_n 1, 1) := by decide +kernel
theorem d_Controls_hostIp_40 : decode cc_Controls_hostIp 40 = .ok (.ior, 1) := by decide +kernel
theorem d_Controls_hostIp_41 : decode cc_Controls_hostIp 41 = .ok (.iload_n 2, 1) := by decide +kernel
theorem d_Controls_hostIp_42 : decode cc_Controls_hostIp 42 = .ok (.ior, 1) := by decide +kernel
theorem d_Controls_hostIp_43 : decode cc_Controls_hostIp 43 = .ok (.ireturn, 1) := by decide +kernel
abbrev y_Controls_waitingForS : MethodName := ⟨"TrapDesk$Controls", "waitingForS", "()I"⟩
abbrev cc_Controls_waitingForS : ByteArray := prog_3_method_10_code
abbrev ws_Controls_waitingForS : List Cond := Cond.code y_Controls_waitingForS cc_Controls_waitingForS 1 (some .int) :: gtb
theorem d_Controls_waitingForS_0 : decode cc_Controls_waitingForS 0 = .ok (.aload_n 0, 1) := by decide +kernel
theorem d_Controls_waitingForS_1 : decode cc_Controls_waitingForS 1 = .ok (.invokevirtual 71, 3) := by decide +kernel
theorem d_Controls_waitingForS_4 : decode cc_Controls_waitingForS 4 = .ok (.aload_n 0, 1) := by decide +kernel
theorem d_Controls_waitingForS_5 : decode cc_Controls_waitingForS 5 = .ok (.getfield 38, 3) := by decide +kernel
theorem d_Controls_waitingForS_8 : decode cc_Controls_waitingForS 8 = .ok (.iand, 1) := by decide +kernel
theorem d_Controls_waitingForS_9 : decode cc_Controls_waitingForS 9 = .ok (.aload_n 0, 1) := by decide +kernel
theorem d_Controls_waitingForS_10 : decode cc_Controls_waitingForS 10 = .ok (.getfield 29, 3) := by decide +kernel
theorem d_Controls_waitingForS_13 : decode cc_Controls_waitingForS 13 = .ok (.getfield 108, 3) := by decide +kernel
theorem d_Controls_waitingForS_16 : decode cc_Controls_waitingForS 16 = .ok (.aload_n 0, 1) := by decide +kernel
theorem d_Controls_waitingForS_17 : decode cc_Controls_waitingForS 17 = .ok (.getfield 29, 3) := by decide +kernel
theorem d_Controls_waitingForS_20 : decode cc_Controls_waitingForS 20 = .ok (.getfield 111, 3) := by decide +kernel
theorem d_Controls_waitingForS_23 : decode cc_Controls_waitingForS 23 = .ok (.iand, 1) := by decide +kernel
theorem d_Controls_waitingForS_24 : decode cc_Controls_waitingForS 24 = .ok (.aload_n 0, 1) := by decide +kernel
theorem d_Controls_waitingForS_25 : decode cc_Controls_waitingForS 25 = .ok (.getfield 29, 3) := by decide +kernel
theorem d_Controls_waitingForS_28 : decode cc_Controls_waitingForS 28 = .ok (.getfield 114, 3) := by decide +kernel
theorem d_Controls_waitingForS_31 : decode cc_Controls_waitingForS 31 = .ok (.iconst (-1), 1) := by decide +kernel
theorem d_Controls_waitingForS_32 : decode cc_Controls_waitingForS 32 = .ok (.ixor, 1) := by decide +kernel
theorem d_Controls_waitingForS_33 : decode cc_Controls_waitingForS 33 = .ok (.iand, 1) := by decide +kernel
theorem d_Controls_waitingForS_34 : decode cc_Controls_waitingForS 34 = .ok (.ior, 1) := by decide +kernel
theorem d_Controls_waitingForS_35 : decode cc_Controls_waitingForS 35 = .ok (.ireturn, 1) := by decide +kernel
abbrev y_Controls_waitingForVs : MethodName := ⟨"TrapDesk$Controls", "waitingForVs", "()I"⟩
abbrev cc_Controls_waitingForVs : ByteArray := prog_3_method_11_code
abbrev ws_Controls_waitingForVs : List Cond := Cond.code y_Controls_waitingForVs cc_Controls_waitingForVs 1 (some .int) :: gtb
theorem d_Controls_waitingForVs_0 : decode cc_Controls_waitingForVs 0 = .ok (.aload_n 0, 1) := by decide +kernel
theorem d_Controls_waitingForVs_1 : decode cc_Controls_waitingForVs 1 = .ok (.getfield 29, 3) := by decide +kernel
theorem d_Controls_waitingForVs_4 : decode cc_Controls_waitingForVs 4 = .ok (.getfield 108, 3) := by decide +kernel
theorem d_Controls_waitingForVs_7 : decode cc_Controls_waitingForVs 7 = .ok (.aload_n 0, 1) := by decide +kernel
theorem d_Controls_waitingForVs_8 : decode cc_Controls_waitingForVs 8 = .ok (.getfield 29, 3) := by decide +kernel
theorem d_Controls_waitingForVs_11 : decode cc_Controls_waitingForVs 11 = .ok (.getfield 111, 3) := by decide +kernel
theorem d_Controls_waitingForVs_14 : decode cc_Controls_waitingForVs 14 = .ok (.iand, 1) := by decide +kernel
theorem d_Controls_waitingForVs_15 : decode cc_Controls_waitingForVs 15 = .ok (.aload_n 0, 1) := by decide +kernel
theorem d_Controls_waitingForVs_16 : decode cc_Controls_waitingForVs 16 = .ok (.getfield 29, 3) := by decide +kernel
theorem d_Controls_waitingForVs_19 : decode cc_Controls_waitingForVs 19 = .ok (.getfield 114, 3) := by decide +kernel
theorem d_Controls_waitingForVs_22 : decode cc_Controls_waitingForVs 22 = .ok (.iand, 1) := by decide +kernel
theorem d_Controls_waitingForVs_23 : decode cc_Controls_waitingForVs 23 = .ok (.ireturn, 1) := by decide +kernel
abbrev y_Numbers_isKnown : MethodName := ⟨"TrapDesk$Numbers", "isKnown", "(I)Z"⟩
abbrev cc_Numbers_isKnown : ByteArray := prog_5_method_2_code
abbrev ws_Numbers_isKnown : List Cond := Cond.code y_Numbers_isKnown cc_Numbers_isKnown 1 (some .boolean) :: gtb
theorem d_Numbers_isKnown_0 : decode cc_Numbers_isKnown 0 = .ok (.iload_n 0, 1) := by decide +kernel
theorem d_Numbers_isKnown_1 : decode cc_Numbers_isKnown 1 = .ok (.invokestatic 9, 3) := by decide +kernel
theorem d_Numbers_isKnown_4 : decode cc_Numbers_isKnown 4 = .ok (.ifCond .ne 24, 3) := by decide +kernel
theorem d_Numbers_isKnown_7 : decode cc_Numbers_isKnown 7 = .ok (.iload_n 0, 1) := by decide +kernel
theorem d_Numbers_isKnown_8 : decode cc_Numbers_isKnown 8 = .ok (.invokestatic 13, 3) := by decide +kernel
theorem d_Numbers_isKnown_11 : decode cc_Numbers_isKnown 11 = .ok (.ifCond .ne 17, 3) := by decide +kernel
theorem d_Numbers_isKnown_14 : decode cc_Numbers_isKnown 14 = .ok (.iload_n 0, 1) := by decide +kernel
theorem d_Numbers_isKnown_15 : decode cc_Numbers_isKnown 15 = .ok (.invokestatic 16, 3) := by decide +kernel
theorem d_Numbers_isKnown_18 : decode cc_Numbers_isKnown 18 = .ok (.ifCond .ne 10, 3) := by decide +kernel
theorem d_Numbers_isKnown_21 : decode cc_Numbers_isKnown 21 = .ok (.iload_n 0, 1) := by decide +kernel
theorem d_Numbers_isKnown_22 : decode cc_Numbers_isKnown 22 = .ok (.invokestatic 19, 3) := by decide +kernel
theorem d_Numbers_isKnown_25 : decode cc_Numbers_isKnown 25 = .ok (.ifCond .eq 7, 3) := by decide +kernel
theorem d_Numbers_isKnown_28 : decode cc_Numbers_isKnown 28 = .ok (.iconst 1, 1) := by decide +kernel
theorem d_Numbers_isKnown_29 : decode cc_Numbers_isKnown 29 = .ok (.goto 4, 3) := by decide +kernel
theorem d_Numbers_isKnown_32 : decode cc_Numbers_isKnown 32 = .ok (.iconst 0, 1) := by decide +kernel
theorem d_Numbers_isKnown_33 : decode cc_Numbers_isKnown 33 = .ok (.ireturn, 1) := by decide +kernel
abbrev y_Numbers_isOfS : MethodName := ⟨"TrapDesk$Numbers", "isOfS", "(I)Z"⟩
abbrev cc_Numbers_isOfS : ByteArray := prog_5_method_3_code
abbrev ws_Numbers_isOfS : List Cond := Cond.code y_Numbers_isOfS cc_Numbers_isOfS 1 (some .boolean) :: gtb
theorem d_Numbers_isOfS_0 : decode cc_Numbers_isOfS 0 = .ok (.sipush 256, 3) := by decide +kernel
theorem d_Numbers_isOfS_3 : decode cc_Numbers_isOfS 3 = .ok (.iload_n 0, 1) := by decide +kernel
theorem d_Numbers_isOfS_4 : decode cc_Numbers_isOfS 4 = .ok (.invokestatic 22, 3) := by decide +kernel
theorem d_Numbers_isOfS_7 : decode cc_Numbers_isOfS 7 = .ok (.ireturn, 1) := by decide +kernel
abbrev y_Numbers_isOfVs : MethodName := ⟨"TrapDesk$Numbers", "isOfVs", "(I)Z"⟩
abbrev cc_Numbers_isOfVs : ByteArray := prog_5_method_4_code
abbrev ws_Numbers_isOfVs : List Cond := Cond.code y_Numbers_isOfVs cc_Numbers_isOfVs 1 (some .boolean) :: gtb
theorem d_Numbers_isOfVs_0 : decode cc_Numbers_isOfVs 0 = .ok (.sipush 512, 3) := by decide +kernel
theorem d_Numbers_isOfVs_3 : decode cc_Numbers_isOfVs 3 = .ok (.iload_n 0, 1) := by decide +kernel
theorem d_Numbers_isOfVs_4 : decode cc_Numbers_isOfVs 4 = .ok (.invokestatic 22, 3) := by decide +kernel
theorem d_Numbers_isOfVs_7 : decode cc_Numbers_isOfVs 7 = .ok (.ireturn, 1) := by decide +kernel
abbrev y_Numbers_isOf : MethodName := ⟨"TrapDesk$Numbers", "isOf", "(II)Z"⟩
abbrev cc_Numbers_isOf : ByteArray := prog_5_method_5_code
abbrev ws_Numbers_isOf : List Cond := Cond.code y_Numbers_isOf cc_Numbers_isOf 2 (some .boolean) :: gtb
theorem d_Numbers_isOf_0 : decode cc_Numbers_isOf 0 = .ok (.iload_n 1, 1) := by decide +kernel
theorem d_Numbers_isOf_1 : decode cc_Numbers_isOf 1 = .ok (.sipush (-256), 3) := by decide +kernel
theorem d_Numbers_isOf_4 : decode cc_Numbers_isOf 4 = .ok (.iand, 1) := by decide +kernel
theorem d_Numbers_isOf_5 : decode cc_Numbers_isOf 5 = .ok (.iload_n 0, 1) := by decide +kernel
theorem d_Numbers_isOf_6 : decode cc_Numbers_isOf 6 = .ok (.if_icmp .ne 17, 3) := by decide +kernel
theorem d_Numbers_isOf_9 : decode cc_Numbers_isOf 9 = .ok (.iload_n 1, 1) := by decide +kernel
theorem d_Numbers_isOf_10 : decode cc_Numbers_isOf 10 = .ok (.invokestatic 26, 3) := by decide +kernel
theorem d_Numbers_isOf_13 : decode cc_Numbers_isOf 13 = .ok (.invokestatic 30, 3) := by decide +kernel
theorem d_Numbers_isOf_16 : decode cc_Numbers_isOf 16 = .ok (.ifCond .eq 7, 3) := by decide +kernel
theorem d_Numbers_isOf_19 : decode cc_Numbers_isOf 19 = .ok (.iconst 1, 1) := by decide +kernel
theorem d_Numbers_isOf_20 : decode cc_Numbers_isOf 20 = .ok (.goto 4, 3) := by decide +kernel
theorem d_Numbers_isOf_23 : decode cc_Numbers_isOf 23 = .ok (.iconst 0, 1) := by decide +kernel
theorem d_Numbers_isOf_24 : decode cc_Numbers_isOf 24 = .ok (.ireturn, 1) := by decide +kernel
abbrev y_Numbers_kindOf : MethodName := ⟨"TrapDesk$Numbers", "kindOf", "(I)I"⟩
abbrev cc_Numbers_kindOf : ByteArray := prog_5_method_6_code
abbrev ws_Numbers_kindOf : List Cond := Cond.code y_Numbers_kindOf cc_Numbers_kindOf 1 (some .int) :: gtb
theorem d_Numbers_kindOf_0 : decode cc_Numbers_kindOf 0 = .ok (.iload_n 0, 1) := by decide +kernel
theorem d_Numbers_kindOf_1 : decode cc_Numbers_kindOf 1 = .ok (.sipush 255, 3) := by decide +kernel
theorem d_Numbers_kindOf_4 : decode cc_Numbers_kindOf 4 = .ok (.iand, 1) := by decide +kernel
theorem d_Numbers_kindOf_5 : decode cc_Numbers_kindOf 5 = .ok (.ireturn, 1) := by decide +kernel
abbrev y_Numbers_isKind : MethodName := ⟨"TrapDesk$Numbers", "isKind", "(I)Z"⟩
abbrev cc_Numbers_isKind : ByteArray := prog_5_method_7_code
abbrev ws_Numbers_isKind : List Cond := Cond.code y_Numbers_isKind cc_Numbers_isKind 1 (some .boolean) :: gtb
theorem d_Numbers_isKind_0 : decode cc_Numbers_isKind 0 = .ok (.iload_n 0, 1) := by decide +kernel
theorem d_Numbers_isKind_1 : decode cc_Numbers_isKind 1 = .ok (.lookupswitch 85 #[(0, 83), (4, 83), (5, 83), (64, 83), (65, 83), (66, 83), (67, 83), (68, 83), (128, 83)], 83) := by decide +kernel
theorem d_Numbers_isKind_84 : decode cc_Numbers_isKind 84 = .ok (.iconst 1, 1) := by decide +kernel
theorem d_Numbers_isKind_85 : decode cc_Numbers_isKind 85 = .ok (.ireturn, 1) := by decide +kernel
theorem d_Numbers_isKind_86 : decode cc_Numbers_isKind 86 = .ok (.iconst 0, 1) := by decide +kernel
theorem d_Numbers_isKind_87 : decode cc_Numbers_isKind 87 = .ok (.ireturn, 1) := by decide +kernel
abbrev y_Numbers_isOfH : MethodName := ⟨"TrapDesk$Numbers", "isOfH", "(I)Z"⟩
abbrev cc_Numbers_isOfH : ByteArray := prog_5_method_8_code
abbrev ws_Numbers_isOfH : List Cond := Cond.code y_Numbers_isOfH cc_Numbers_isOfH 1 (some .boolean) :: gtb
theorem d_Numbers_isOfH_0 : decode cc_Numbers_isOfH 0 = .ok (.iload_n 0, 1) := by decide +kernel
theorem d_Numbers_isOfH_1 : decode cc_Numbers_isOfH 1 = .ok (.lookupswitch 85 #[(1536, 83), (1538, 83), (1539, 83), (1540, 83), (1603, 83), (1604, 83), (1605, 83), (1610, 83), (1664, 83)], 83) := by decide +kernel
theorem d_Numbers_isOfH_84 : decode cc_Numbers_isOfH 84 = .ok (.iconst 1, 1) := by decide +kernel
theorem d_Numbers_isOfH_85 : decode cc_Numbers_isOfH 85 = .ok (.ireturn, 1) := by decide +kernel
theorem d_Numbers_isOfH_86 : decode cc_Numbers_isOfH 86 = .ok (.iconst 0, 1) := by decide +kernel
theorem d_Numbers_isOfH_87 : decode cc_Numbers_isOfH 87 = .ok (.ireturn, 1) := by decide +kernel
abbrev y_Numbers_isTime : MethodName := ⟨"TrapDesk$Numbers", "isTime", "(I)Z"⟩
abbrev cc_Numbers_isTime : ByteArray := prog_5_method_9_code
abbrev ws_Numbers_isTime : List Cond := Cond.code y_Numbers_isTime cc_Numbers_isTime 1 (some .boolean) :: gtb
theorem d_Numbers_isTime_0 : decode cc_Numbers_isTime 0 = .ok (.iload_n 0, 1) := by decide +kernel
theorem d_Numbers_isTime_1 : decode cc_Numbers_isTime 1 = .ok (.sipush 3073, 3) := by decide +kernel
theorem d_Numbers_isTime_4 : decode cc_Numbers_isTime 4 = .ok (.if_icmp .eq 10, 3) := by decide +kernel
theorem d_Numbers_isTime_7 : decode cc_Numbers_isTime 7 = .ok (.iload_n 0, 1) := by decide +kernel
theorem d_Numbers_isTime_8 : decode cc_Numbers_isTime 8 = .ok (.sipush 3201, 3) := by decide +kernel
theorem d_Numbers_isTime_11 : decode cc_Numbers_isTime 11 = .ok (.if_icmp .ne 7, 3) := by decide +kernel
theorem d_Numbers_isTime_14 : decode cc_Numbers_isTime 14 = .ok (.iconst 1, 1) := by decide +kernel
theorem d_Numbers_isTime_15 : decode cc_Numbers_isTime 15 = .ok (.goto 4, 3) := by decide +kernel
theorem d_Numbers_isTime_18 : decode cc_Numbers_isTime 18 = .ok (.iconst 0, 1) := by decide +kernel
theorem d_Numbers_isTime_19 : decode cc_Numbers_isTime 19 = .ok (.ireturn, 1) := by decide +kernel
abbrev y_Numbers_inVs : MethodName := ⟨"TrapDesk$Numbers", "inVs", "(I)I"⟩
abbrev cc_Numbers_inVs : ByteArray := prog_5_method_10_code
abbrev ws_Numbers_inVs : List Cond := Cond.code y_Numbers_inVs cc_Numbers_inVs 1 (some .int) :: gtb
theorem d_Numbers_inVs_0 : decode cc_Numbers_inVs 0 = .ok (.iload_n 0, 1) := by decide +kernel
theorem d_Numbers_inVs_1 : decode cc_Numbers_inVs 1 = .ok (.invokestatic 9, 3) := by decide +kernel
theorem d_Numbers_inVs_4 : decode cc_Numbers_inVs 4 = .ok (.ifCond .eq 14, 3) := by decide +kernel
theorem d_Numbers_inVs_7 : decode cc_Numbers_inVs 7 = .ok (.sipush 512, 3) := by decide +kernel
theorem d_Numbers_inVs_10 : decode cc_Numbers_inVs 10 = .ok (.iload_n 0, 1) := by decide +kernel
theorem d_Numbers_inVs_11 : decode cc_Numbers_inVs 11 = .ok (.invokestatic 26, 3) := by decide +kernel
theorem d_Numbers_inVs_14 : decode cc_Numbers_inVs 14 = .ok (.ior, 1) := by decide +kernel
theorem d_Numbers_inVs_15 : decode cc_Numbers_inVs 15 = .ok (.goto 4, 3) := by decide +kernel
theorem d_Numbers_inVs_18 : decode cc_Numbers_inVs 18 = .ok (.iload_n 0, 1) := by decide +kernel
theorem d_Numbers_inVs_19 : decode cc_Numbers_inVs 19 = .ok (.ireturn, 1) := by decide +kernel
abbrev y_Outside_init : MethodName := ⟨"TrapDesk$Outside", "<init>", "()V"⟩
abbrev cc_Outside_init : ByteArray := prog_6_method_1_code
abbrev ws_Outside_init : List Cond := Cond.code y_Outside_init cc_Outside_init 1 none :: gtb
theorem d_Outside_init_0 : decode cc_Outside_init 0 = .ok (.aload_n 0, 1) := by decide +kernel
theorem d_Outside_init_1 : decode cc_Outside_init 1 = .ok (.invokespecial 3, 3) := by decide +kernel
theorem d_Outside_init_4 : decode cc_Outside_init 4 = .ok (.aload_n 0, 1) := by decide +kernel
theorem d_Outside_init_5 : decode cc_Outside_init 5 = .ok (.sipush 256, 3) := by decide +kernel
theorem d_Outside_init_8 : decode cc_Outside_init 8 = .ok (.newarray .byte, 2) := by decide +kernel
theorem d_Outside_init_10 : decode cc_Outside_init 10 = .ok (.putfield 11, 3) := by decide +kernel
theorem d_Outside_init_13 : decode cc_Outside_init 13 = .ok (.aload_n 0, 1) := by decide +kernel
theorem d_Outside_init_14 : decode cc_Outside_init 14 = .ok (.ldc2_w 15, 3) := by decide +kernel
theorem d_Outside_init_17 : decode cc_Outside_init 17 = .ok (.putfield 17, 3) := by decide +kernel
theorem d_Outside_init_20 : decode cc_Outside_init 20 = .ok (.return_, 1) := by decide +kernel
abbrev y_Outside_reset : MethodName := ⟨"TrapDesk$Outside", "reset", "()V"⟩
abbrev cc_Outside_reset : ByteArray := prog_6_method_2_code
abbrev ws_Outside_reset : List Cond := Cond.code y_Outside_reset cc_Outside_reset 1 none :: gtb
theorem d_Outside_reset_0 : decode cc_Outside_reset 0 = .ok (.aload_n 0, 1) := by decide +kernel
theorem d_Outside_reset_1 : decode cc_Outside_reset 1 = .ok (.iconst 0, 1) := by decide +kernel
theorem d_Outside_reset_2 : decode cc_Outside_reset 2 = .ok (.putfield 21, 3) := by decide +kernel
theorem d_Outside_reset_5 : decode cc_Outside_reset 5 = .ok (.aload_n 0, 1) := by decide +kernel
theorem d_Outside_reset_6 : decode cc_Outside_reset 6 = .ok (.lconst 0, 1) := by decide +kernel
theorem d_Outside_reset_7 : decode cc_Outside_reset 7 = .ok (.putfield 25, 3) := by decide +kernel
theorem d_Outside_reset_10 : decode cc_Outside_reset 10 = .ok (.aload_n 0, 1) := by decide +kernel
theorem d_Outside_reset_11 : decode cc_Outside_reset 11 = .ok (.ldc2_w 15, 3) := by decide +kernel
theorem d_Outside_reset_14 : decode cc_Outside_reset 14 = .ok (.putfield 17, 3) := by decide +kernel
theorem d_Outside_reset_17 : decode cc_Outside_reset 17 = .ok (.aload_n 0, 1) := by decide +kernel
theorem d_Outside_reset_18 : decode cc_Outside_reset 18 = .ok (.iconst 0, 1) := by decide +kernel
theorem d_Outside_reset_19 : decode cc_Outside_reset 19 = .ok (.putfield 28, 3) := by decide +kernel
theorem d_Outside_reset_22 : decode cc_Outside_reset 22 = .ok (.aload_n 0, 1) := by decide +kernel
theorem d_Outside_reset_23 : decode cc_Outside_reset 23 = .ok (.iconst 0, 1) := by decide +kernel
theorem d_Outside_reset_24 : decode cc_Outside_reset 24 = .ok (.putfield 32, 3) := by decide +kernel
theorem d_Outside_reset_27 : decode cc_Outside_reset 27 = .ok (.return_, 1) := by decide +kernel
abbrev y_Outside_alarmRings : MethodName := ⟨"TrapDesk$Outside", "alarmRings", "()Z"⟩
abbrev cc_Outside_alarmRings : ByteArray := prog_6_method_3_code
abbrev ws_Outside_alarmRings : List Cond := Cond.code y_Outside_alarmRings cc_Outside_alarmRings 1 (some .boolean) :: gtb
theorem d_Outside_alarmRings_0 : decode cc_Outside_alarmRings 0 = .ok (.aload_n 0, 1) := by decide +kernel
theorem d_Outside_alarmRings_1 : decode cc_Outside_alarmRings 1 = .ok (.getfield 25, 3) := by decide +kernel
theorem d_Outside_alarmRings_4 : decode cc_Outside_alarmRings 4 = .ok (.aload_n 0, 1) := by decide +kernel
theorem d_Outside_alarmRings_5 : decode cc_Outside_alarmRings 5 = .ok (.getfield 17, 3) := by decide +kernel
theorem d_Outside_alarmRings_8 : decode cc_Outside_alarmRings 8 = .ok (.lcmp, 1) := by decide +kernel
theorem d_Outside_alarmRings_9 : decode cc_Outside_alarmRings 9 = .ok (.ifCond .lt 7, 3) := by decide +kernel
theorem d_Outside_alarmRings_12 : decode cc_Outside_alarmRings 12 = .ok (.iconst 1, 1) := by decide +kernel
theorem d_Outside_alarmRings_13 : decode cc_Outside_alarmRings 13 = .ok (.goto 4, 3) := by decide +kernel
theorem d_Outside_alarmRings_16 : decode cc_Outside_alarmRings 16 = .ok (.iconst 0, 1) := by decide +kernel
theorem d_Outside_alarmRings_17 : decode cc_Outside_alarmRings 17 = .ok (.ireturn, 1) := by decide +kernel
abbrev y_Outside_serve : MethodName := ⟨"TrapDesk$Outside", "serve", "(III)I"⟩
abbrev cc_Outside_serve : ByteArray := prog_6_method_4_code
abbrev ws_Outside_serve : List Cond := Cond.code y_Outside_serve cc_Outside_serve 4 (some .int) :: gtb
theorem d_Outside_serve_0 : decode cc_Outside_serve 0 = .ok (.iload_n 1, 1) := by decide +kernel
theorem d_Outside_serve_1 : decode cc_Outside_serve 1 = .ok (.lookupswitch 57 #[(0, 35), (1, 43), (8, 50)], 35) := by decide +kernel
theorem d_Outside_serve_36 : decode cc_Outside_serve 36 = .ok (.aload_n 0, 1) := by decide +kernel
theorem d_Outside_serve_37 : decode cc_Outside_serve 37 = .ok (.iload_n 2, 1) := by decide +kernel
theorem d_Outside_serve_38 : decode cc_Outside_serve 38 = .ok (.iload_n 3, 1) := by decide +kernel
theorem d_Outside_serve_39 : decode cc_Outside_serve 39 = .ok (.invokevirtual 35, 3) := by decide +kernel
theorem d_Outside_serve_42 : decode cc_Outside_serve 42 = .ok (.iconst 0, 1) := by decide +kernel
theorem d_Outside_serve_43 : decode cc_Outside_serve 43 = .ok (.ireturn, 1) := by decide +kernel
theorem d_Outside_serve_44 : decode cc_Outside_serve 44 = .ok (.aload_n 0, 1) := by decide +kernel
theorem d_Outside_serve_45 : decode cc_Outside_serve 45 = .ok (.iload_n 2, 1) := by decide +kernel
theorem d_Outside_serve_46 : decode cc_Outside_serve 46 = .ok (.invokevirtual 39, 3) := by decide +kernel
theorem d_Outside_serve_49 : decode cc_Outside_serve 49 = .ok (.iconst 0, 1) := by decide +kernel
theorem d_Outside_serve_50 : decode cc_Outside_serve 50 = .ok (.ireturn, 1) := by decide +kernel
theorem d_Outside_serve_51 : decode cc_Outside_serve 51 = .ok (.aload_n 0, 1) := by decide +kernel
theorem d_Outside_serve_52 : decode cc_Outside_serve 52 = .ok (.iconst 1, 1) := by decide +kernel
theorem d_Outside_serve_53 : decode cc_Outside_serve 53 = .ok (.putfield 32, 3) := by decide +kernel
theorem d_Outside_serve_56 : decode cc_Outside_serve 56 = .ok (.iconst 0, 1) := by decide +kernel
theorem d_Outside_serve_57 : decode cc_Outside_serve 57 = .ok (.ireturn, 1) := by decide +kernel
theorem d_Outside_serve_58 : decode cc_Outside_serve 58 = .ok (.bipush (-2), 2) := by decide +kernel
theorem d_Outside_serve_60 : decode cc_Outside_serve 60 = .ok (.ireturn, 1) := by decide +kernel
abbrev y_Outside_setAlarm : MethodName := ⟨"TrapDesk$Outside", "setAlarm", "(II)V"⟩
abbrev cc_Outside_setAlarm : ByteArray := prog_6_method_5_code
abbrev ws_Outside_setAlarm : List Cond := Cond.code y_Outside_setAlarm cc_Outside_setAlarm 3 none :: gtb
theorem d_Outside_setAlarm_0 : decode cc_Outside_setAlarm 0 = .ok (.iload_n 2, 1) := by decide +kernel
theorem d_Outside_setAlarm_1 : decode cc_Outside_setAlarm 1 = .ok (.ifCond .ge 13, 3) := by decide +kernel
theorem d_Outside_setAlarm_4 : decode cc_Outside_setAlarm 4 = .ok (.aload_n 0, 1) := by decide +kernel
theorem d_Outside_setAlarm_5 : decode cc_Outside_setAlarm 5 = .ok (.ldc2_w 15, 3) := by decide +kernel
theorem d_Outside_setAlarm_8 : decode cc_Outside_setAlarm 8 = .ok (.putfield 17, 3) := by decide +kernel
theorem d_Outside_setAlarm_11 : decode cc_Outside_setAlarm 11 = .ok (.goto 19, 3) := by decide +kernel
theorem d_Outside_setAlarm_14 : decode cc_Outside_setAlarm 14 = .ok (.aload_n 0, 1) := by decide +kernel
theorem d_Outside_setAlarm_15 : decode cc_Outside_setAlarm 15 = .ok (.iload_n 2, 1) := by decide +kernel
theorem d_Outside_setAlarm_16 : decode cc_Outside_setAlarm 16 = .ok (.i2l, 1) := by decide +kernel
theorem d_Outside_setAlarm_17 : decode cc_Outside_setAlarm 17 = .ok (.bipush 32, 2) := by decide +kernel
theorem d_Outside_setAlarm_19 : decode cc_Outside_setAlarm 19 = .ok (.lshl, 1) := by decide +kernel
theorem d_Outside_setAlarm_20 : decode cc_Outside_setAlarm 20 = .ok (.iload_n 1, 1) := by decide +kernel
theorem d_Outside_setAlarm_21 : decode cc_Outside_setAlarm 21 = .ok (.i2l, 1) := by decide +kernel
theorem d_Outside_setAlarm_22 : decode cc_Outside_setAlarm 22 = .ok (.ldc2_w 43, 3) := by decide +kernel
theorem d_Outside_setAlarm_25 : decode cc_Outside_setAlarm 25 = .ok (.land, 1) := by decide +kernel
theorem d_Outside_setAlarm_26 : decode cc_Outside_setAlarm 26 = .ok (.lor, 1) := by decide +kernel
theorem d_Outside_setAlarm_27 : decode cc_Outside_setAlarm 27 = .ok (.putfield 17, 3) := by decide +kernel
theorem d_Outside_setAlarm_30 : decode cc_Outside_setAlarm 30 = .ok (.return_, 1) := by decide +kernel
abbrev y_Outside_print : MethodName := ⟨"TrapDesk$Outside", "print", "(I)V"⟩
abbrev cc_Outside_print : ByteArray := prog_6_method_6_code
abbrev ws_Outside_print : List Cond := Cond.code y_Outside_print cc_Outside_print 2 none :: gtb
theorem d_Outside_print_0 : decode cc_Outside_print 0 = .ok (.aload_n 0, 1) := by decide +kernel
theorem d_Outside_print_1 : decode cc_Outside_print 1 = .ok (.getfield 21, 3) := by decide +kernel
theorem d_Outside_print_4 : decode cc_Outside_print 4 = .ok (.aload_n 0, 1) := by decide +kernel
theorem d_Outside_print_5 : decode cc_Outside_print 5 = .ok (.getfield 11, 3) := by decide +kernel
theorem d_Outside_print_8 : decode cc_Outside_print 8 = .ok (.arraylength, 1) := by decide +kernel
theorem d_Outside_print_9 : decode cc_Outside_print 9 = .ok (.if_icmp .ge 24, 3) := by decide +kernel
theorem d_Outside_print_12 : decode cc_Outside_print 12 = .ok (.aload_n 0, 1) := by decide +kernel
theorem d_Outside_print_13 : decode cc_Outside_print 13 = .ok (.getfield 11, 3) := by decide +kernel
theorem d_Outside_print_16 : decode cc_Outside_print 16 = .ok (.aload_n 0, 1) := by decide +kernel
theorem d_Outside_print_17 : decode cc_Outside_print 17 = .ok (.getfield 21, 3) := by decide +kernel
theorem d_Outside_print_20 : decode cc_Outside_print 20 = .ok (.iload_n 1, 1) := by decide +kernel
theorem d_Outside_print_21 : decode cc_Outside_print 21 = .ok (.i2b, 1) := by decide +kernel
theorem d_Outside_print_22 : decode cc_Outside_print 22 = .ok (.bastore, 1) := by decide +kernel
theorem d_Outside_print_23 : decode cc_Outside_print 23 = .ok (.aload_n 0, 1) := by decide +kernel
theorem d_Outside_print_24 : decode cc_Outside_print 24 = .ok (.dup, 1) := by decide +kernel
theorem d_Outside_print_25 : decode cc_Outside_print 25 = .ok (.getfield 21, 3) := by decide +kernel
theorem d_Outside_print_28 : decode cc_Outside_print 28 = .ok (.iconst 1, 1) := by decide +kernel
theorem d_Outside_print_29 : decode cc_Outside_print 29 = .ok (.iadd, 1) := by decide +kernel
theorem d_Outside_print_30 : decode cc_Outside_print 30 = .ok (.putfield 21, 3) := by decide +kernel
theorem d_Outside_print_33 : decode cc_Outside_print 33 = .ok (.return_, 1) := by decide +kernel
abbrev y_Outside_printedByte : MethodName := ⟨"TrapDesk$Outside", "printedByte", "(I)I"⟩
abbrev cc_Outside_printedByte : ByteArray := prog_6_method_7_code
abbrev ws_Outside_printedByte : List Cond := Cond.code y_Outside_printedByte cc_Outside_printedByte 2 (some .int) :: gtb
theorem d_Outside_printedByte_0 : decode cc_Outside_printedByte 0 = .ok (.iload_n 1, 1) := by decide +kernel
theorem d_Outside_printedByte_1 : decode cc_Outside_printedByte 1 = .ok (.ifCond .lt 20, 3) := by decide +kernel
theorem d_Outside_printedByte_4 : decode cc_Outside_printedByte 4 = .ok (.iload_n 1, 1) := by decide +kernel
theorem d_Outside_printedByte_5 : decode cc_Outside_printedByte 5 = .ok (.aload_n 0, 1) := by decide +kernel
theorem d_Outside_printedByte_6 : decode cc_Outside_printedByte 6 = .ok (.getfield 21, 3) := by decide +kernel
theorem d_Outside_printedByte_9 : decode cc_Outside_printedByte 9 = .ok (.if_icmp .ge 12, 3) := by decide +kernel
theorem d_Outside_printedByte_12 : decode cc_Outside_printedByte 12 = .ok (.iload_n 1, 1) := by decide +kernel
theorem d_Outside_printedByte_13 : decode cc_Outside_printedByte 13 = .ok (.aload_n 0, 1) := by decide +kernel
theorem d_Outside_printedByte_14 : decode cc_Outside_printedByte 14 = .ok (.getfield 11, 3) := by decide +kernel
theorem d_Outside_printedByte_17 : decode cc_Outside_printedByte 17 = .ok (.arraylength, 1) := by decide +kernel
theorem d_Outside_printedByte_18 : decode cc_Outside_printedByte 18 = .ok (.if_icmp .lt 5, 3) := by decide +kernel
theorem d_Outside_printedByte_21 : decode cc_Outside_printedByte 21 = .ok (.iconst (-1), 1) := by decide +kernel
theorem d_Outside_printedByte_22 : decode cc_Outside_printedByte 22 = .ok (.ireturn, 1) := by decide +kernel
theorem d_Outside_printedByte_23 : decode cc_Outside_printedByte 23 = .ok (.aload_n 0, 1) := by decide +kernel
theorem d_Outside_printedByte_24 : decode cc_Outside_printedByte 24 = .ok (.getfield 11, 3) := by decide +kernel
theorem d_Outside_printedByte_27 : decode cc_Outside_printedByte 27 = .ok (.iload_n 1, 1) := by decide +kernel
theorem d_Outside_printedByte_28 : decode cc_Outside_printedByte 28 = .ok (.baload, 1) := by decide +kernel
theorem d_Outside_printedByte_29 : decode cc_Outside_printedByte 29 = .ok (.sipush 255, 3) := by decide +kernel
theorem d_Outside_printedByte_32 : decode cc_Outside_printedByte 32 = .ok (.iand, 1) := by decide +kernel
theorem d_Outside_printedByte_33 : decode cc_Outside_printedByte 33 = .ok (.ireturn, 1) := by decide +kernel
abbrev y_Registers_init : MethodName := ⟨"TrapDesk$Registers", "<init>", "()V"⟩
abbrev cc_Registers_init : ByteArray := prog_7_method_1_code
abbrev ws_Registers_init : List Cond := Cond.code y_Registers_init cc_Registers_init 1 none :: gtb
theorem d_Registers_init_0 : decode cc_Registers_init 0 = .ok (.aload_n 0, 1) := by decide +kernel
theorem d_Registers_init_1 : decode cc_Registers_init 1 = .ok (.invokespecial 1, 3) := by decide +kernel
theorem d_Registers_init_4 : decode cc_Registers_init 4 = .ok (.return_, 1) := by decide +kernel
abbrev y_Registers_reset : MethodName := ⟨"TrapDesk$Registers", "reset", "()V"⟩
abbrev cc_Registers_reset : ByteArray := prog_7_method_2_code
abbrev ws_Registers_reset : List Cond := Cond.code y_Registers_reset cc_Registers_reset 1 none :: gtb
theorem d_Registers_reset_0 : decode cc_Registers_reset 0 = .ok (.aload_n 0, 1) := by decide +kernel
theorem d_Registers_reset_1 : decode cc_Registers_reset 1 = .ok (.iconst 0, 1) := by decide +kernel
theorem d_Registers_reset_2 : decode cc_Registers_reset 2 = .ok (.putfield 7, 3) := by decide +kernel
theorem d_Registers_reset_5 : decode cc_Registers_reset 5 = .ok (.aload_n 0, 1) := by decide +kernel
theorem d_Registers_reset_6 : decode cc_Registers_reset 6 = .ok (.iconst 0, 1) := by decide +kernel
theorem d_Registers_reset_7 : decode cc_Registers_reset 7 = .ok (.putfield 13, 3) := by decide +kernel
theorem d_Registers_reset_10 : decode cc_Registers_reset 10 = .ok (.aload_n 0, 1) := by decide +kernel
theorem d_Registers_reset_11 : decode cc_Registers_reset 11 = .ok (.iconst 0, 1) := by decide +kernel
theorem d_Registers_reset_12 : decode cc_Registers_reset 12 = .ok (.putfield 16, 3) := by decide +kernel
theorem d_Registers_reset_15 : decode cc_Registers_reset 15 = .ok (.return_, 1) := by decide +kernel
abbrev y_Registers_read : MethodName := ⟨"TrapDesk$Registers", "read", "(I)I"⟩
abbrev cc_Registers_read : ByteArray := prog_7_method_3_code
abbrev ws_Registers_read : List Cond := Cond.code y_Registers_read cc_Registers_read 2 (some .int) :: gtb
theorem d_Registers_read_0 : decode cc_Registers_read 0 = .ok (.iload_n 1, 1) := by decide +kernel
theorem d_Registers_read_1 : decode cc_Registers_read 1 = .ok (.lookupswitch 50 #[(10, 35), (11, 40), (17, 45)], 35) := by decide +kernel
theorem d_Registers_read_36 : decode cc_Registers_read 36 = .ok (.aload_n 0, 1) := by decide +kernel
theorem d_Registers_read_37 : decode cc_Registers_read 37 = .ok (.getfield 7, 3) := by decide +kernel
theorem d_Registers_read_40 : decode cc_Registers_read 40 = .ok (.ireturn, 1) := by decide +kernel
theorem d_Registers_read_41 : decode cc_Registers_read 41 = .ok (.aload_n 0, 1) := by decide +kernel
theorem d_Registers_read_42 : decode cc_Registers_read 42 = .ok (.getfield 13, 3) := by decide +kernel
theorem d_Registers_read_45 : decode cc_Registers_read 45 = .ok (.ireturn, 1) := by decide +kernel
theorem d_Registers_read_46 : decode cc_Registers_read 46 = .ok (.aload_n 0, 1) := by decide +kernel
theorem d_Registers_read_47 : decode cc_Registers_read 47 = .ok (.getfield 16, 3) := by decide +kernel
theorem d_Registers_read_50 : decode cc_Registers_read 50 = .ok (.ireturn, 1) := by decide +kernel
theorem d_Registers_read_51 : decode cc_Registers_read 51 = .ok (.iconst 0, 1) := by decide +kernel
theorem d_Registers_read_52 : decode cc_Registers_read 52 = .ok (.ireturn, 1) := by decide +kernel
abbrev y_Registers_write : MethodName := ⟨"TrapDesk$Registers", "write", "(II)V"⟩
abbrev cc_Registers_write : ByteArray := prog_7_method_4_code
abbrev ws_Registers_write : List Cond := Cond.code y_Registers_write cc_Registers_write 3 none :: gtb
theorem d_Registers_write_0 : decode cc_Registers_write 0 = .ok (.iload_n 1, 1) := by decide +kernel
theorem d_Registers_write_1 : decode cc_Registers_write 1 = .ok (.lookupswitch 59 #[(10, 35), (11, 43), (17, 51)], 35) := by decide +kernel
theorem d_Registers_write_36 : decode cc_Registers_write 36 = .ok (.aload_n 0, 1) := by decide +kernel
theorem d_Registers_write_37 : decode cc_Registers_write 37 = .ok (.iload_n 2, 1) := by decide +kernel
theorem d_Registers_write_38 : decode cc_Registers_write 38 = .ok (.putfield 7, 3) := by decide +kernel
theorem d_Registers_write_41 : decode cc_Registers_write 41 = .ok (.goto 19, 3) := by decide +kernel
theorem d_Registers_write_44 : decode cc_Registers_write 44 = .ok (.aload_n 0, 1) := by decide +kernel
theorem d_Registers_write_45 : decode cc_Registers_write 45 = .ok (.iload_n 2, 1) := by decide +kernel
theorem d_Registers_write_46 : decode cc_Registers_write 46 = .ok (.putfield 13, 3) := by decide +kernel
theorem d_Registers_write_49 : decode cc_Registers_write 49 = .ok (.goto 11, 3) := by decide +kernel
theorem d_Registers_write_52 : decode cc_Registers_write 52 = .ok (.aload_n 0, 1) := by decide +kernel
theorem d_Registers_write_53 : decode cc_Registers_write 53 = .ok (.iload_n 2, 1) := by decide +kernel
theorem d_Registers_write_54 : decode cc_Registers_write 54 = .ok (.putfield 16, 3) := by decide +kernel
theorem d_Registers_write_57 : decode cc_Registers_write 57 = .ok (.goto 3, 3) := by decide +kernel
theorem d_Registers_write_60 : decode cc_Registers_write 60 = .ok (.return_, 1) := by decide +kernel
end
section
abbrev f_Bank (s : ob) : List Value := [.int (s.1 0), .int (s.1 1), .int (s.1 2), .int (s.1 3), .int (s.1 4), .int (s.1 5), .int (s.1 6)]
abbrev f_Controls (qoutside qhost qguest qhyper : Nat) (s : ob) : List Value := [.ref qoutside, .ref qhost, .ref qguest, .ref qhyper, .int (s.1 4), .int (s.1 5)]
abbrev f_Hyper (s : ob) : List Value := [.int (s.1 0), .int (s.1 1), .int (s.1 2), .int (s.1 3), .int (s.1 4), .int (s.1 5), .int (s.1 6), .int (s.1 7)]
abbrev f_Outside (qbytes : Nat) (s : ob) : List Value := [.ref qbytes, .int (s.1 1), .long (s.2.1 2), .long (s.2.1 3), .int (bI (s.2.2 4)), .int (bI (s.2.2 5))]
abbrev f_Registers (s : ob) : List Value := [.int (s.1 0), .int (s.1 1), .int (s.1 2)]
abbrev f_Desk (qcontrols qoutside qregisters : Nat) (s : ob) : List Value := [.ref qcontrols, .ref qoutside, .ref qregisters, .int (s.1 3), .int (s.1 4), .int (s.1 5), .int (s.1 6), .int (s.1 7)]
abbrev f_Model (qprinted qcells : Nat) (s : ob) : List Value := [.int (s.1 0), .int (s.1 1), .long (s.2.1 2), .long (s.2.1 3), .int (bI (s.2.2 4)), .int (s.1 5), .int (s.1 6), .int (s.1 7), .ref qprinted, .int (s.1 9), .int (bI (s.2.2 10)), .int (s.1 11), .int (s.1 12), .int (s.1 13), .ref qcells, .int (s.1 15), .int (s.1 16), .int (s.1 17), .int (s.1 18), .int (s.1 19), .int (s.1 20), .int (s.1 21), .int (s.1 22)]
theorem q_205 : (Jvm.Cond.fieldLink "TrapDesk" (12 : Nat) "TrapDesk" "controls" "LTrapDesk$Controls;") ∈ gtb := List.mem_filter.mpr ⟨List.mem_of_getElem? (i := 205) (by decide +kernel), rfl⟩
theorem q_163 : (Jvm.Cond.fieldLink "TrapDesk$Controls" (12 : Nat) "TrapDesk$Controls" "outside" "LTrapDesk$Outside;") ∈ gtb := List.mem_filter.mpr ⟨List.mem_of_getElem? (i := 163) (by decide +kernel), rfl⟩
theorem q_71 : (Jvm.Cond.fieldLink "TrapDesk$Outside" (21 : Nat) "TrapDesk$Outside" "printed" "I") ∈ gtb := List.mem_filter.mpr ⟨List.mem_of_getElem? (i := 71) (by decide +kernel), rfl⟩
theorem q_73 : (Jvm.Cond.fieldLink "TrapDesk$Outside" (25 : Nat) "TrapDesk$Outside" "now" "J") ∈ gtb := List.mem_filter.mpr ⟨List.mem_of_getElem? (i := 73) (by decide +kernel), rfl⟩
theorem q_69 : (Jvm.Cond.constantLong "TrapDesk$Outside" (15 : Nat) (9223372036854775807 : Int64)) ∈ gtb := List.mem_filter.mpr ⟨List.mem_of_getElem? (i := 69) (by decide +kernel), rfl⟩
theorem q_76 : (Jvm.Cond.fieldLink "TrapDesk$Outside" (17 : Nat) "TrapDesk$Outside" "alarm" "J") ∈ gtb := List.mem_filter.mpr ⟨List.mem_of_getElem? (i := 76) (by decide +kernel), rfl⟩
theorem q_78 : (Jvm.Cond.fieldLink "TrapDesk$Outside" (28 : Nat) "TrapDesk$Outside" "lineOn" "Z") ∈ gtb := List.mem_filter.mpr ⟨List.mem_of_getElem? (i := 78) (by decide +kernel), rfl⟩
theorem q_81 : (Jvm.Cond.fieldLink "TrapDesk$Outside" (32 : Nat) "TrapDesk$Outside" "isOff" "Z") ∈ gtb := List.mem_filter.mpr ⟨List.mem_of_getElem? (i := 81) (by decide +kernel), rfl⟩
set_option maxRecDepth 20000 in
theorem q_241 : (Jvm.Cond.code ({ cls := "TrapDesk$Outside", name := "reset", desc := "()V" } : Jvm.MethodName) prog_6_method_2_code (1 : Nat) (Option.none : Option Jvm.ClassFile.FieldType)) ∈ gtb := List.mem_filter.mpr ⟨List.mem_of_getElem? (i := 241) (rfl), rfl⟩
theorem q_238 : (Jvm.Cond.methodLink "TrapDesk$Controls" (33 : Nat) ({ cls := "TrapDesk$Outside", name := "reset", desc := "()V" } : Jvm.MethodName)) ∈ gtb := List.mem_filter.mpr ⟨List.mem_of_getElem? (i := 238) (by decide +kernel), rfl⟩
theorem q_43 : (Jvm.Cond.initialized "TrapDesk$Outside") ∈ gtb := List.mem_filter.mpr ⟨List.mem_of_getElem? (i := 43) (by decide +kernel), rfl⟩
theorem q_239 : (Jvm.Cond.instanceMethod ({ cls := "TrapDesk$Outside", name := "reset", desc := "()V" } : Jvm.MethodName)) ∈ gtb := List.mem_filter.mpr ⟨List.mem_of_getElem? (i := 239) (by decide +kernel), rfl⟩
theorem q_240 : (Jvm.Cond.selects "TrapDesk$Outside" ({ cls := "TrapDesk$Outside", name := "reset", desc := "()V" } : Jvm.MethodName) ({ cls := "TrapDesk$Outside", name := "reset", desc := "()V" } : Jvm.MethodName)) ∈ gtb := List.mem_filter.mpr ⟨List.mem_of_getElem? (i := 240) (by decide +kernel), rfl⟩
theorem q_165 : (Jvm.Cond.fieldLink "TrapDesk$Controls" (19 : Nat) "TrapDesk$Controls" "host" "LTrapDesk$Bank;") ∈ gtb := List.mem_filter.mpr ⟨List.mem_of_getElem? (i := 165) (by decide +kernel), rfl⟩
theorem q_103 : (Jvm.Cond.fieldLink "TrapDesk$Bank" (11 : Nat) "TrapDesk$Bank" "status" "I") ∈ gtb := List.mem_filter.mpr ⟨List.mem_of_getElem? (i := 103) (by decide +kernel), rfl⟩
theorem q_104 : (Jvm.Cond.fieldLink "TrapDesk$Bank" (15 : Nat) "TrapDesk$Bank" "tvec" "I") ∈ gtb := List.mem_filter.mpr ⟨List.mem_of_getElem? (i := 104) (by decide +kernel), rfl⟩
theorem q_105 : (Jvm.Cond.fieldLink "TrapDesk$Bank" (18 : Nat) "TrapDesk$Bank" "scratch" "I") ∈ gtb := List.mem_filter.mpr ⟨List.mem_of_getElem? (i := 105) (by decide +kernel), rfl⟩
theorem q_106 : (Jvm.Cond.fieldLink "TrapDesk$Bank" (21 : Nat) "TrapDesk$Bank" "epc" "I") ∈ gtb := List.mem_filter.mpr ⟨List.mem_of_getElem? (i := 106) (by decide +kernel), rfl⟩
theorem q_108 : (Jvm.Cond.fieldLink "TrapDesk$Bank" (24 : Nat) "TrapDesk$Bank" "cause" "I") ∈ gtb := List.mem_filter.mpr ⟨List.mem_of_getElem? (i := 108) (by decide +kernel), rfl⟩
theorem q_109 : (Jvm.Cond.fieldLink "TrapDesk$Bank" (27 : Nat) "TrapDesk$Bank" "tval" "I") ∈ gtb := List.mem_filter.mpr ⟨List.mem_of_getElem? (i := 109) (by decide +kernel), rfl⟩
theorem q_110 : (Jvm.Cond.fieldLink "TrapDesk$Bank" (30 : Nat) "TrapDesk$Bank" "atp" "I") ∈ gtb := List.mem_filter.mpr ⟨List.mem_of_getElem? (i := 110) (by decide +kernel), rfl⟩
set_option maxRecDepth 20000 in
theorem q_245 : (Jvm.Cond.code ({ cls := "TrapDesk$Bank", name := "reset", desc := "()V" } : Jvm.MethodName) prog_2_method_2_code (1 : Nat) (Option.none : Option Jvm.ClassFile.FieldType)) ∈ gtb := List.mem_filter.mpr ⟨List.mem_of_getElem? (i := 245) (rfl), rfl⟩
theorem q_242 : (Jvm.Cond.methodLink "TrapDesk$Controls" (36 : Nat) ({ cls := "TrapDesk$Bank", name := "reset", desc := "()V" } : Jvm.MethodName)) ∈ gtb := List.mem_filter.mpr ⟨List.mem_of_getElem? (i := 242) (by decide +kernel), rfl⟩
theorem q_44 : (Jvm.Cond.initialized "TrapDesk$Bank") ∈ gtb := List.mem_filter.mpr ⟨List.mem_of_getElem? (i := 44) (by decide +kernel), rfl⟩
theorem q_243 : (Jvm.Cond.instanceMethod ({ cls := "TrapDesk$Bank", name := "reset", desc := "()V" } : Jvm.MethodName)) ∈ gtb := List.mem_filter.mpr ⟨List.mem_of_getElem? (i := 243) (by decide +kernel), rfl⟩
theorem q_244 : (Jvm.Cond.selects "TrapDesk$Bank" ({ cls := "TrapDesk$Bank", name := "reset", desc := "()V" } : Jvm.MethodName) ({ cls := "TrapDesk$Bank", name := "reset", desc := "()V" } : Jvm.MethodName)) ∈ gtb := List.mem_filter.mpr ⟨List.mem_of_getElem? (i := 244) (by decide +kernel), rfl⟩
theorem q_167 : (Jvm.Cond.fieldLink "TrapDesk$Controls" (23 : Nat) "TrapDesk$Controls" "guest" "LTrapDesk$Bank;") ∈ gtb := List.mem_filter.mpr ⟨List.mem_of_getElem? (i := 167) (by decide +kernel), rfl⟩
theorem q_169 : (Jvm.Cond.fieldLink "TrapDesk$Controls" (29 : Nat) "TrapDesk$Controls" "hyper" "LTrapDesk$Hyper;") ∈ gtb := List.mem_filter.mpr ⟨List.mem_of_getElem? (i := 169) (by decide +kernel), rfl⟩
theorem q_132 : (Jvm.Cond.fieldLink "TrapDesk$Hyper" (9 : Nat) "TrapDesk$Hyper" "status" "I") ∈ gtb := List.mem_filter.mpr ⟨List.mem_of_getElem? (i := 132) (by decide +kernel), rfl⟩
theorem q_133 : (Jvm.Cond.fieldLink "TrapDesk$Hyper" (13 : Nat) "TrapDesk$Hyper" "edeleg" "I") ∈ gtb := List.mem_filter.mpr ⟨List.mem_of_getElem? (i := 133) (by decide +kernel), rfl⟩
theorem q_135 : (Jvm.Cond.fieldLink "TrapDesk$Hyper" (16 : Nat) "TrapDesk$Hyper" "ideleg" "I") ∈ gtb := List.mem_filter.mpr ⟨List.mem_of_getElem? (i := 135) (by decide +kernel), rfl⟩
theorem q_137 : (Jvm.Cond.fieldLink "TrapDesk$Hyper" (19 : Nat) "TrapDesk$Hyper" "ie" "I") ∈ gtb := List.mem_filter.mpr ⟨List.mem_of_getElem? (i := 137) (by decide +kernel), rfl⟩
theorem q_139 : (Jvm.Cond.fieldLink "TrapDesk$Hyper" (22 : Nat) "TrapDesk$Hyper" "tval" "I") ∈ gtb := List.mem_filter.mpr ⟨List.mem_of_getElem? (i := 139) (by decide +kernel), rfl⟩
theorem q_141 : (Jvm.Cond.fieldLink "TrapDesk$Hyper" (25 : Nat) "TrapDesk$Hyper" "vip" "I") ∈ gtb := List.mem_filter.mpr ⟨List.mem_of_getElem? (i := 141) (by decide +kernel), rfl⟩
theorem q_143 : (Jvm.Cond.fieldLink "TrapDesk$Hyper" (28 : Nat) "TrapDesk$Hyper" "tinst" "I") ∈ gtb := List.mem_filter.mpr ⟨List.mem_of_getElem? (i := 143) (by decide +kernel), rfl⟩
theorem q_145 : (Jvm.Cond.fieldLink "TrapDesk$Hyper" (31 : Nat) "TrapDesk$Hyper" "gatp" "I") ∈ gtb := List.mem_filter.mpr ⟨List.mem_of_getElem? (i := 145) (by decide +kernel), rfl⟩
set_option maxRecDepth 20000 in
theorem q_249 : (Jvm.Cond.code ({ cls := "TrapDesk$Hyper", name := "reset", desc := "()V" } : Jvm.MethodName) prog_4_method_2_code (1 : Nat) (Option.none : Option Jvm.ClassFile.FieldType)) ∈ gtb := List.mem_filter.mpr ⟨List.mem_of_getElem? (i := 249) (rfl), rfl⟩
theorem q_246 : (Jvm.Cond.methodLink "TrapDesk$Controls" (37 : Nat) ({ cls := "TrapDesk$Hyper", name := "reset", desc := "()V" } : Jvm.MethodName)) ∈ gtb := List.mem_filter.mpr ⟨List.mem_of_getElem? (i := 246) (by decide +kernel), rfl⟩
theorem q_45 : (Jvm.Cond.initialized "TrapDesk$Hyper") ∈ gtb := List.mem_filter.mpr ⟨List.mem_of_getElem? (i := 45) (by decide +kernel), rfl⟩
theorem q_247 : (Jvm.Cond.instanceMethod ({ cls := "TrapDesk$Hyper", name := "reset", desc := "()V" } : Jvm.MethodName)) ∈ gtb := List.mem_filter.mpr ⟨List.mem_of_getElem? (i := 247) (by decide +kernel), rfl⟩
theorem q_248 : (Jvm.Cond.selects "TrapDesk$Hyper" ({ cls := "TrapDesk$Hyper", name := "reset", desc := "()V" } : Jvm.MethodName) ({ cls := "TrapDesk$Hyper", name := "reset", desc := "()V" } : Jvm.MethodName)) ∈ gtb := List.mem_filter.mpr ⟨List.mem_of_getElem? (i := 248) (by decide +kernel), rfl⟩
theorem q_171 : (Jvm.Cond.fieldLink "TrapDesk$Controls" (38 : Nat) "TrapDesk$Controls" "hostIe" "I") ∈ gtb := List.mem_filter.mpr ⟨List.mem_of_getElem? (i := 171) (by decide +kernel), rfl⟩
theorem q_172 : (Jvm.Cond.fieldLink "TrapDesk$Controls" (42 : Nat) "TrapDesk$Controls" "hostSoftware" "I") ∈ gtb := List.mem_filter.mpr ⟨List.mem_of_getElem? (i := 172) (by decide +kernel), rfl⟩
set_option maxRecDepth 20000 in
theorem q_237 : (Jvm.Cond.code ({ cls := "TrapDesk$Controls", name := "reset", desc := "()V" } : Jvm.MethodName) prog_3_method_2_code (1 : Nat) (Option.none : Option Jvm.ClassFile.FieldType)) ∈ gtb := List.mem_filter.mpr ⟨List.mem_of_getElem? (i := 237) (rfl), rfl⟩
theorem q_234 : (Jvm.Cond.methodLink "TrapDesk" (32 : Nat) ({ cls := "TrapDesk$Controls", name := "reset", desc := "()V" } : Jvm.MethodName)) ∈ gtb := List.mem_filter.mpr ⟨List.mem_of_getElem? (i := 234) (by decide +kernel), rfl⟩
theorem q_42 : (Jvm.Cond.initialized "TrapDesk$Controls") ∈ gtb := List.mem_filter.mpr ⟨List.mem_of_getElem? (i := 42) (by decide +kernel), rfl⟩
theorem q_235 : (Jvm.Cond.instanceMethod ({ cls := "TrapDesk$Controls", name := "reset", desc := "()V" } : Jvm.MethodName)) ∈ gtb := List.mem_filter.mpr ⟨List.mem_of_getElem? (i := 235) (by decide +kernel), rfl⟩
theorem q_236 : (Jvm.Cond.selects "TrapDesk$Controls" ({ cls := "TrapDesk$Controls", name := "reset", desc := "()V" } : Jvm.MethodName) ({ cls := "TrapDesk$Controls", name := "reset", desc := "()V" } : Jvm.MethodName)) ∈ gtb := List.mem_filter.mpr ⟨List.mem_of_getElem? (i := 236) (by decide +kernel), rfl⟩
theorem q_207 : (Jvm.Cond.fieldLink "TrapDesk" (24 : Nat) "TrapDesk" "registers" "LTrapDesk$Registers;") ∈ gtb := List.mem_filter.mpr ⟨List.mem_of_getElem? (i := 207) (by decide +kernel), rfl⟩
theorem q_192 : (Jvm.Cond.fieldLink "TrapDesk$Registers" (7 : Nat) "TrapDesk$Registers" "x10" "I") ∈ gtb := List.mem_filter.mpr ⟨List.mem_of_getElem? (i := 192) (by decide +kernel), rfl⟩
theorem q_194 : (Jvm.Cond.fieldLink "TrapDesk$Registers" (13 : Nat) "TrapDesk$Registers" "x11" "I") ∈ gtb := List.mem_filter.mpr ⟨List.mem_of_getElem? (i := 194) (by decide +kernel), rfl⟩
theorem q_196 : (Jvm.Cond.fieldLink "TrapDesk$Registers" (16 : Nat) "TrapDesk$Registers" "x17" "I") ∈ gtb := List.mem_filter.mpr ⟨List.mem_of_getElem? (i := 196) (by decide +kernel), rfl⟩
set_option maxRecDepth 20000 in
theorem q_253 : (Jvm.Cond.code ({ cls := "TrapDesk$Registers", name := "reset", desc := "()V" } : Jvm.MethodName) prog_7_method_2_code (1 : Nat) (Option.none : Option Jvm.ClassFile.FieldType)) ∈ gtb := List.mem_filter.mpr ⟨List.mem_of_getElem? (i := 253) (rfl), rfl⟩
theorem q_250 : (Jvm.Cond.methodLink "TrapDesk" (35 : Nat) ({ cls := "TrapDesk$Registers", name := "reset", desc := "()V" } : Jvm.MethodName)) ∈ gtb := List.mem_filter.mpr ⟨List.mem_of_getElem? (i := 250) (by decide +kernel), rfl⟩
theorem q_46 : (Jvm.Cond.initialized "TrapDesk$Registers") ∈ gtb := List.mem_filter.mpr ⟨List.mem_of_getElem? (i := 46) (by decide +kernel), rfl⟩
theorem q_251 : (Jvm.Cond.instanceMethod ({ cls := "TrapDesk$Registers", name := "reset", desc := "()V" } : Jvm.MethodName)) ∈ gtb := List.mem_filter.mpr ⟨List.mem_of_getElem? (i := 251) (by decide +kernel), rfl⟩
theorem q_252 : (Jvm.Cond.selects "TrapDesk$Registers" ({ cls := "TrapDesk$Registers", name := "reset", desc := "()V" } : Jvm.MethodName) ({ cls := "TrapDesk$Registers", name := "reset", desc := "()V" } : Jvm.MethodName)) ∈ gtb := List.mem_filter.mpr ⟨List.mem_of_getElem? (i := 252) (by decide +kernel), rfl⟩
theorem q_208 : (Jvm.Cond.fieldLink "TrapDesk" (28 : Nat) "TrapDesk" "current" "I") ∈ gtb := List.mem_filter.mpr ⟨List.mem_of_getElem? (i := 208) (by decide +kernel), rfl⟩
theorem q_209 : (Jvm.Cond.fieldLink "TrapDesk" (36 : Nat) "TrapDesk" "pc" "I") ∈ gtb := List.mem_filter.mpr ⟨List.mem_of_getElem? (i := 209) (by decide +kernel), rfl⟩
theorem q_210 : (Jvm.Cond.fieldLink "TrapDesk" (39 : Nat) "TrapDesk" "trapsToS" "I") ∈ gtb := List.mem_filter.mpr ⟨List.mem_of_getElem? (i := 210) (by decide +kernel), rfl⟩
theorem q_211 : (Jvm.Cond.fieldLink "TrapDesk" (42 : Nat) "TrapDesk" "trapsToVs" "I") ∈ gtb := List.mem_filter.mpr ⟨List.mem_of_getElem? (i := 211) (by decide +kernel), rfl⟩
theorem q_212 : (Jvm.Cond.fieldLink "TrapDesk" (45 : Nat) "TrapDesk" "interrupts" "I") ∈ gtb := List.mem_filter.mpr ⟨List.mem_of_getElem? (i := 212) (by decide +kernel), rfl⟩
set_option maxRecDepth 20000 in
theorem q_277 : (Jvm.Cond.code ({ cls := "TrapDesk$Numbers", name := "kindOf", desc := "(I)I" } : Jvm.MethodName) prog_5_method_6_code (1 : Nat) (Option.some Jvm.ClassFile.FieldType.int)) ∈ gtb := List.mem_filter.mpr ⟨List.mem_of_getElem? (i := 277) (rfl), rfl⟩
theorem q_275 : (Jvm.Cond.methodLink "TrapDesk$Numbers" (26 : Nat) ({ cls := "TrapDesk$Numbers", name := "kindOf", desc := "(I)I" } : Jvm.MethodName)) ∈ gtb := List.mem_filter.mpr ⟨List.mem_of_getElem? (i := 275) (by decide +kernel), rfl⟩
theorem q_48 : (Jvm.Cond.initialized "TrapDesk$Numbers") ∈ gtb := List.mem_filter.mpr ⟨List.mem_of_getElem? (i := 48) (by decide +kernel), rfl⟩
theorem q_276 : (Jvm.Cond.static ({ cls := "TrapDesk$Numbers", name := "kindOf", desc := "(I)I" } : Jvm.MethodName)) ∈ gtb := List.mem_filter.mpr ⟨List.mem_of_getElem? (i := 276) (by decide +kernel), rfl⟩
set_option maxRecDepth 20000 in
theorem q_280 : (Jvm.Cond.code ({ cls := "TrapDesk$Numbers", name := "isKind", desc := "(I)Z" } : Jvm.MethodName) prog_5_method_7_code (1 : Nat) (Option.some Jvm.ClassFile.FieldType.boolean)) ∈ gtb := List.mem_filter.mpr ⟨List.mem_of_getElem? (i := 280) (rfl), rfl⟩
theorem q_278 : (Jvm.Cond.methodLink "TrapDesk$Numbers" (30 : Nat) ({ cls := "TrapDesk$Numbers", name := "isKind", desc := "(I)Z" } : Jvm.MethodName)) ∈ gtb := List.mem_filter.mpr ⟨List.mem_of_getElem? (i := 278) (by decide +kernel), rfl⟩
theorem q_279 : (Jvm.Cond.static ({ cls := "TrapDesk$Numbers", name := "isKind", desc := "(I)Z" } : Jvm.MethodName)) ∈ gtb := List.mem_filter.mpr ⟨List.mem_of_getElem? (i := 279) (by decide +kernel), rfl⟩
set_option maxRecDepth 20000 in
theorem q_274 : (Jvm.Cond.code ({ cls := "TrapDesk$Numbers", name := "isOf", desc := "(II)Z" } : Jvm.MethodName) prog_5_method_5_code (2 : Nat) (Option.some Jvm.ClassFile.FieldType.boolean)) ∈ gtb := List.mem_filter.mpr ⟨List.mem_of_getElem? (i := 274) (rfl), rfl⟩
theorem q_272 : (Jvm.Cond.methodLink "TrapDesk$Numbers" (22 : Nat) ({ cls := "TrapDesk$Numbers", name := "isOf", desc := "(II)Z" } : Jvm.MethodName)) ∈ gtb := List.mem_filter.mpr ⟨List.mem_of_getElem? (i := 272) (by decide +kernel), rfl⟩
theorem q_273 : (Jvm.Cond.static ({ cls := "TrapDesk$Numbers", name := "isOf", desc := "(II)Z" } : Jvm.MethodName)) ∈ gtb := List.mem_filter.mpr ⟨List.mem_of_getElem? (i := 273) (by decide +kernel), rfl⟩
set_option maxRecDepth 20000 in
theorem q_271 : (Jvm.Cond.code ({ cls := "TrapDesk$Numbers", name := "isOfS", desc := "(I)Z" } : Jvm.MethodName) prog_5_method_3_code (1 : Nat) (Option.some Jvm.ClassFile.FieldType.boolean)) ∈ gtb := List.mem_filter.mpr ⟨List.mem_of_getElem? (i := 271) (rfl), rfl⟩
theorem q_269 : (Jvm.Cond.methodLink "TrapDesk$Numbers" (9 : Nat) ({ cls := "TrapDesk$Numbers", name := "isOfS", desc := "(I)Z" } : Jvm.MethodName)) ∈ gtb := List.mem_filter.mpr ⟨List.mem_of_getElem? (i := 269) (by decide +kernel), rfl⟩
theorem q_270 : (Jvm.Cond.static ({ cls := "TrapDesk$Numbers", name := "isOfS", desc := "(I)Z" } : Jvm.MethodName)) ∈ gtb := List.mem_filter.mpr ⟨List.mem_of_getElem? (i := 270) (by decide +kernel), rfl⟩
set_option maxRecDepth 20000 in
theorem q_283 : (Jvm.Cond.code ({ cls := "TrapDesk$Numbers", name := "isOfVs", desc := "(I)Z" } : Jvm.MethodName) prog_5_method_4_code (1 : Nat) (Option.some Jvm.ClassFile.FieldType.boolean)) ∈ gtb := List.mem_filter.mpr ⟨List.mem_of_getElem? (i := 283) (rfl), rfl⟩
theorem q_281 : (Jvm.Cond.methodLink "TrapDesk$Numbers" (13 : Nat) ({ cls := "TrapDesk$Numbers", name := "isOfVs", desc := "(I)Z" } : Jvm.MethodName)) ∈ gtb := List.mem_filter.mpr ⟨List.mem_of_getElem? (i := 281) (by decide +kernel), rfl⟩
theorem q_282 : (Jvm.Cond.static ({ cls := "TrapDesk$Numbers", name := "isOfVs", desc := "(I)Z" } : Jvm.MethodName)) ∈ gtb := List.mem_filter.mpr ⟨List.mem_of_getElem? (i := 282) (by decide +kernel), rfl⟩
set_option maxRecDepth 20000 in
theorem q_286 : (Jvm.Cond.code ({ cls := "TrapDesk$Numbers", name := "isOfH", desc := "(I)Z" } : Jvm.MethodName) prog_5_method_8_code (1 : Nat) (Option.some Jvm.ClassFile.FieldType.boolean)) ∈ gtb := List.mem_filter.mpr ⟨List.mem_of_getElem? (i := 286) (rfl), rfl⟩
theorem q_284 : (Jvm.Cond.methodLink "TrapDesk$Numbers" (16 : Nat) ({ cls := "TrapDesk$Numbers", name := "isOfH", desc := "(I)Z" } : Jvm.MethodName)) ∈ gtb := List.mem_filter.mpr ⟨List.mem_of_getElem? (i := 284) (by decide +kernel), rfl⟩
theorem q_285 : (Jvm.Cond.static ({ cls := "TrapDesk$Numbers", name := "isOfH", desc := "(I)Z" } : Jvm.MethodName)) ∈ gtb := List.mem_filter.mpr ⟨List.mem_of_getElem? (i := 285) (by decide +kernel), rfl⟩
set_option maxRecDepth 20000 in
theorem q_289 : (Jvm.Cond.code ({ cls := "TrapDesk$Numbers", name := "isTime", desc := "(I)Z" } : Jvm.MethodName) prog_5_method_9_code (1 : Nat) (Option.some Jvm.ClassFile.FieldType.boolean)) ∈ gtb := List.mem_filter.mpr ⟨List.mem_of_getElem? (i := 289) (rfl), rfl⟩
theorem q_287 : (Jvm.Cond.methodLink "TrapDesk$Numbers" (19 : Nat) ({ cls := "TrapDesk$Numbers", name := "isTime", desc := "(I)Z" } : Jvm.MethodName)) ∈ gtb := List.mem_filter.mpr ⟨List.mem_of_getElem? (i := 287) (by decide +kernel), rfl⟩
theorem q_288 : (Jvm.Cond.static ({ cls := "TrapDesk$Numbers", name := "isTime", desc := "(I)Z" } : Jvm.MethodName)) ∈ gtb := List.mem_filter.mpr ⟨List.mem_of_getElem? (i := 288) (by decide +kernel), rfl⟩
set_option maxRecDepth 20000 in
theorem q_268 : (Jvm.Cond.code ({ cls := "TrapDesk$Numbers", name := "isKnown", desc := "(I)Z" } : Jvm.MethodName) prog_5_method_2_code (1 : Nat) (Option.some Jvm.ClassFile.FieldType.boolean)) ∈ gtb := List.mem_filter.mpr ⟨List.mem_of_getElem? (i := 268) (rfl), rfl⟩
theorem q_266 : (Jvm.Cond.methodLink "TrapDesk" (48 : Nat) ({ cls := "TrapDesk$Numbers", name := "isKnown", desc := "(I)Z" } : Jvm.MethodName)) ∈ gtb := List.mem_filter.mpr ⟨List.mem_of_getElem? (i := 266) (by decide +kernel), rfl⟩
theorem q_267 : (Jvm.Cond.static ({ cls := "TrapDesk$Numbers", name := "isKnown", desc := "(I)Z" } : Jvm.MethodName)) ∈ gtb := List.mem_filter.mpr ⟨List.mem_of_getElem? (i := 267) (by decide +kernel), rfl⟩
theorem q_290 : (Jvm.Cond.methodLink "TrapDesk" (54 : Nat) ({ cls := "TrapDesk$Numbers", name := "isTime", desc := "(I)Z" } : Jvm.MethodName)) ∈ gtb := List.mem_filter.mpr ⟨List.mem_of_getElem? (i := 290) (by decide +kernel), rfl⟩
theorem q_295 : (Jvm.Cond.methodLink "TrapDesk$Controls" (45 : Nat) ({ cls := "TrapDesk$Numbers", name := "isOfS", desc := "(I)Z" } : Jvm.MethodName)) ∈ gtb := List.mem_filter.mpr ⟨List.mem_of_getElem? (i := 295) (by decide +kernel), rfl⟩
theorem q_307 : (Jvm.Cond.methodLink "TrapDesk$Controls" (58 : Nat) ({ cls := "TrapDesk$Numbers", name := "isOfVs", desc := "(I)Z" } : Jvm.MethodName)) ∈ gtb := List.mem_filter.mpr ⟨List.mem_of_getElem? (i := 307) (by decide +kernel), rfl⟩
theorem q_327 : (Jvm.Cond.constant "TrapDesk$Hyper" (34 : Nat) (7340992 : Int32)) ∈ gtb := List.mem_filter.mpr ⟨List.mem_of_getElem? (i := 327) (by decide +kernel), rfl⟩
theorem q_328 : (Jvm.Cond.constant "TrapDesk$Hyper" (35 : Nat) (45567 : Int32)) ∈ gtb := List.mem_filter.mpr ⟨List.mem_of_getElem? (i := 328) (by decide +kernel), rfl⟩
set_option maxRecDepth 20000 in
theorem q_318 : (Jvm.Cond.code ({ cls := "TrapDesk$Hyper", name := "replaced", desc := "(III)I" } : Jvm.MethodName) prog_4_method_5_code (3 : Nat) (Option.some Jvm.ClassFile.FieldType.int)) ∈ gtb := List.mem_filter.mpr ⟨List.mem_of_getElem? (i := 318) (rfl), rfl⟩
theorem q_316 : (Jvm.Cond.methodLink "TrapDesk$Hyper" (36 : Nat) ({ cls := "TrapDesk$Hyper", name := "replaced", desc := "(III)I" } : Jvm.MethodName)) ∈ gtb := List.mem_filter.mpr ⟨List.mem_of_getElem? (i := 316) (by decide +kernel), rfl⟩
theorem q_317 : (Jvm.Cond.static ({ cls := "TrapDesk$Hyper", name := "replaced", desc := "(III)I" } : Jvm.MethodName)) ∈ gtb := List.mem_filter.mpr ⟨List.mem_of_getElem? (i := 317) (by decide +kernel), rfl⟩
theorem q_329 : (Jvm.Cond.constant "TrapDesk$Hyper" (40 : Nat) (-2143289348 : Int32)) ∈ gtb := List.mem_filter.mpr ⟨List.mem_of_getElem? (i := 329) (by decide +kernel), rfl⟩
set_option maxRecDepth 20000 in
theorem q_326 : (Jvm.Cond.code ({ cls := "TrapDesk$Hyper", name := "write", desc := "(II)V" } : Jvm.MethodName) prog_4_method_4_code (3 : Nat) (Option.none : Option Jvm.ClassFile.FieldType)) ∈ gtb := List.mem_filter.mpr ⟨List.mem_of_getElem? (i := 326) (rfl), rfl⟩
theorem q_323 : (Jvm.Cond.methodLink "TrapDesk$Controls" (89 : Nat) ({ cls := "TrapDesk$Hyper", name := "write", desc := "(II)V" } : Jvm.MethodName)) ∈ gtb := List.mem_filter.mpr ⟨List.mem_of_getElem? (i := 323) (by decide +kernel), rfl⟩
theorem q_324 : (Jvm.Cond.instanceMethod ({ cls := "TrapDesk$Hyper", name := "write", desc := "(II)V" } : Jvm.MethodName)) ∈ gtb := List.mem_filter.mpr ⟨List.mem_of_getElem? (i := 324) (by decide +kernel), rfl⟩
theorem q_325 : (Jvm.Cond.selects "TrapDesk$Hyper" ({ cls := "TrapDesk$Hyper", name := "write", desc := "(II)V" } : Jvm.MethodName) ({ cls := "TrapDesk$Hyper", name := "write", desc := "(II)V" } : Jvm.MethodName)) ∈ gtb := List.mem_filter.mpr ⟨List.mem_of_getElem? (i := 325) (by decide +kernel), rfl⟩
theorem q_296 : (Jvm.Cond.methodLink "TrapDesk$Controls" (51 : Nat) ({ cls := "TrapDesk$Numbers", name := "kindOf", desc := "(I)I" } : Jvm.MethodName)) ∈ gtb := List.mem_filter.mpr ⟨List.mem_of_getElem? (i := 296) (by decide +kernel), rfl⟩
set_option maxRecDepth 20000 in
theorem q_315 : (Jvm.Cond.code ({ cls := "TrapDesk$Hyper", name := "writeGuestIe", desc := "(I)V" } : Jvm.MethodName) prog_4_method_9_code (2 : Nat) (Option.none : Option Jvm.ClassFile.FieldType)) ∈ gtb := List.mem_filter.mpr ⟨List.mem_of_getElem? (i := 315) (rfl), rfl⟩
theorem q_312 : (Jvm.Cond.methodLink "TrapDesk$Controls" (93 : Nat) ({ cls := "TrapDesk$Hyper", name := "writeGuestIe", desc := "(I)V" } : Jvm.MethodName)) ∈ gtb := List.mem_filter.mpr ⟨List.mem_of_getElem? (i := 312) (by decide +kernel), rfl⟩
theorem q_313 : (Jvm.Cond.instanceMethod ({ cls := "TrapDesk$Hyper", name := "writeGuestIe", desc := "(I)V" } : Jvm.MethodName)) ∈ gtb := List.mem_filter.mpr ⟨List.mem_of_getElem? (i := 313) (by decide +kernel), rfl⟩
theorem q_314 : (Jvm.Cond.selects "TrapDesk$Hyper" ({ cls := "TrapDesk$Hyper", name := "writeGuestIe", desc := "(I)V" } : Jvm.MethodName) ({ cls := "TrapDesk$Hyper", name := "writeGuestIe", desc := "(I)V" } : Jvm.MethodName)) ∈ gtb := List.mem_filter.mpr ⟨List.mem_of_getElem? (i := 314) (by decide +kernel), rfl⟩
set_option maxRecDepth 20000 in
theorem q_322 : (Jvm.Cond.code ({ cls := "TrapDesk$Hyper", name := "writeGuestIp", desc := "(I)V" } : Jvm.MethodName) prog_4_method_10_code (2 : Nat) (Option.none : Option Jvm.ClassFile.FieldType)) ∈ gtb := List.mem_filter.mpr ⟨List.mem_of_getElem? (i := 322) (rfl), rfl⟩
theorem q_319 : (Jvm.Cond.methodLink "TrapDesk$Controls" (97 : Nat) ({ cls := "TrapDesk$Hyper", name := "writeGuestIp", desc := "(I)V" } : Jvm.MethodName)) ∈ gtb := List.mem_filter.mpr ⟨List.mem_of_getElem? (i := 319) (by decide +kernel), rfl⟩
theorem q_320 : (Jvm.Cond.instanceMethod ({ cls := "TrapDesk$Hyper", name := "writeGuestIp", desc := "(I)V" } : Jvm.MethodName)) ∈ gtb := List.mem_filter.mpr ⟨List.mem_of_getElem? (i := 320) (by decide +kernel), rfl⟩
theorem q_321 : (Jvm.Cond.selects "TrapDesk$Hyper" ({ cls := "TrapDesk$Hyper", name := "writeGuestIp", desc := "(I)V" } : Jvm.MethodName) ({ cls := "TrapDesk$Hyper", name := "writeGuestIp", desc := "(I)V" } : Jvm.MethodName)) ∈ gtb := List.mem_filter.mpr ⟨List.mem_of_getElem? (i := 321) (by decide +kernel), rfl⟩
theorem q_305 : (Jvm.Cond.constant "TrapDesk$Bank" (33 : Nat) (786722 : Int32)) ∈ gtb := List.mem_filter.mpr ⟨List.mem_of_getElem? (i := 305) (by decide +kernel), rfl⟩
theorem q_306 : (Jvm.Cond.constant "TrapDesk$Bank" (34 : Nat) (-2143289345 : Int32)) ∈ gtb := List.mem_filter.mpr ⟨List.mem_of_getElem? (i := 306) (by decide +kernel), rfl⟩
set_option maxRecDepth 20000 in
theorem q_304 : (Jvm.Cond.code ({ cls := "TrapDesk$Bank", name := "write", desc := "(II)V" } : Jvm.MethodName) prog_2_method_4_code (3 : Nat) (Option.none : Option Jvm.ClassFile.FieldType)) ∈ gtb := List.mem_filter.mpr ⟨List.mem_of_getElem? (i := 304) (rfl), rfl⟩
theorem q_301 : (Jvm.Cond.methodLink "TrapDesk$Controls" (92 : Nat) ({ cls := "TrapDesk$Bank", name := "write", desc := "(II)V" } : Jvm.MethodName)) ∈ gtb := List.mem_filter.mpr ⟨List.mem_of_getElem? (i := 301) (by decide +kernel), rfl⟩
theorem q_302 : (Jvm.Cond.instanceMethod ({ cls := "TrapDesk$Bank", name := "write", desc := "(II)V" } : Jvm.MethodName)) ∈ gtb := List.mem_filter.mpr ⟨List.mem_of_getElem? (i := 302) (by decide +kernel), rfl⟩
theorem q_303 : (Jvm.Cond.selects "TrapDesk$Bank" ({ cls := "TrapDesk$Bank", name := "write", desc := "(II)V" } : Jvm.MethodName) ({ cls := "TrapDesk$Bank", name := "write", desc := "(II)V" } : Jvm.MethodName)) ∈ gtb := List.mem_filter.mpr ⟨List.mem_of_getElem? (i := 303) (by decide +kernel), rfl⟩
set_option maxRecDepth 20000 in
theorem q_311 : (Jvm.Cond.code ({ cls := "TrapDesk$Controls", name := "writeGuest", desc := "(II)V" } : Jvm.MethodName) prog_3_method_8_code (3 : Nat) (Option.none : Option Jvm.ClassFile.FieldType)) ∈ gtb := List.mem_filter.mpr ⟨List.mem_of_getElem? (i := 311) (rfl), rfl⟩
theorem q_308 : (Jvm.Cond.methodLink "TrapDesk$Controls" (86 : Nat) ({ cls := "TrapDesk$Controls", name := "writeGuest", desc := "(II)V" } : Jvm.MethodName)) ∈ gtb := List.mem_filter.mpr ⟨List.mem_of_getElem? (i := 308) (by decide +kernel), rfl⟩
theorem q_309 : (Jvm.Cond.instanceMethod ({ cls := "TrapDesk$Controls", name := "writeGuest", desc := "(II)V" } : Jvm.MethodName)) ∈ gtb := List.mem_filter.mpr ⟨List.mem_of_getElem? (i := 309) (by decide +kernel), rfl⟩
theorem q_310 : (Jvm.Cond.selects "TrapDesk$Controls" ({ cls := "TrapDesk$Controls", name := "writeGuest", desc := "(II)V" } : Jvm.MethodName) ({ cls := "TrapDesk$Controls", name := "writeGuest", desc := "(II)V" } : Jvm.MethodName)) ∈ gtb := List.mem_filter.mpr ⟨List.mem_of_getElem? (i := 310) (by decide +kernel), rfl⟩
set_option maxRecDepth 20000 in
theorem q_300 : (Jvm.Cond.code ({ cls := "TrapDesk$Controls", name := "writeHost", desc := "(II)V" } : Jvm.MethodName) prog_3_method_7_code (3 : Nat) (Option.none : Option Jvm.ClassFile.FieldType)) ∈ gtb := List.mem_filter.mpr ⟨List.mem_of_getElem? (i := 300) (rfl), rfl⟩
theorem q_297 : (Jvm.Cond.methodLink "TrapDesk$Controls" (82 : Nat) ({ cls := "TrapDesk$Controls", name := "writeHost", desc := "(II)V" } : Jvm.MethodName)) ∈ gtb := List.mem_filter.mpr ⟨List.mem_of_getElem? (i := 297) (by decide +kernel), rfl⟩
theorem q_298 : (Jvm.Cond.instanceMethod ({ cls := "TrapDesk$Controls", name := "writeHost", desc := "(II)V" } : Jvm.MethodName)) ∈ gtb := List.mem_filter.mpr ⟨List.mem_of_getElem? (i := 298) (by decide +kernel), rfl⟩
theorem q_299 : (Jvm.Cond.selects "TrapDesk$Controls" ({ cls := "TrapDesk$Controls", name := "writeHost", desc := "(II)V" } : Jvm.MethodName) ({ cls := "TrapDesk$Controls", name := "writeHost", desc := "(II)V" } : Jvm.MethodName)) ∈ gtb := List.mem_filter.mpr ⟨List.mem_of_getElem? (i := 299) (by decide +kernel), rfl⟩
set_option maxRecDepth 20000 in
theorem q_294 : (Jvm.Cond.code ({ cls := "TrapDesk$Controls", name := "write", desc := "(II)V" } : Jvm.MethodName) prog_3_method_6_code (3 : Nat) (Option.none : Option Jvm.ClassFile.FieldType)) ∈ gtb := List.mem_filter.mpr ⟨List.mem_of_getElem? (i := 294) (rfl), rfl⟩
theorem q_291 : (Jvm.Cond.methodLink "TrapDesk" (57 : Nat) ({ cls := "TrapDesk$Controls", name := "write", desc := "(II)V" } : Jvm.MethodName)) ∈ gtb := List.mem_filter.mpr ⟨List.mem_of_getElem? (i := 291) (by decide +kernel), rfl⟩
theorem q_292 : (Jvm.Cond.instanceMethod ({ cls := "TrapDesk$Controls", name := "write", desc := "(II)V" } : Jvm.MethodName)) ∈ gtb := List.mem_filter.mpr ⟨List.mem_of_getElem? (i := 292) (by decide +kernel), rfl⟩
theorem q_293 : (Jvm.Cond.selects "TrapDesk$Controls" ({ cls := "TrapDesk$Controls", name := "write", desc := "(II)V" } : Jvm.MethodName) ({ cls := "TrapDesk$Controls", name := "write", desc := "(II)V" } : Jvm.MethodName)) ∈ gtb := List.mem_filter.mpr ⟨List.mem_of_getElem? (i := 293) (by decide +kernel), rfl⟩
theorem q_74 : (Jvm.Cond.fieldLink "TrapDesk$Controls" (64 : Nat) "TrapDesk$Outside" "now" "J") ∈ gtb := List.mem_filter.mpr ⟨List.mem_of_getElem? (i := 74) (by decide +kernel), rfl⟩
set_option maxRecDepth 20000 in
theorem q_369 : (Jvm.Cond.code ({ cls := "TrapDesk$Hyper", name := "read", desc := "(I)I" } : Jvm.MethodName) prog_4_method_3_code (2 : Nat) (Option.some Jvm.ClassFile.FieldType.int)) ∈ gtb := List.mem_filter.mpr ⟨List.mem_of_getElem? (i := 369) (rfl), rfl⟩
theorem q_366 : (Jvm.Cond.methodLink "TrapDesk$Controls" (68 : Nat) ({ cls := "TrapDesk$Hyper", name := "read", desc := "(I)I" } : Jvm.MethodName)) ∈ gtb := List.mem_filter.mpr ⟨List.mem_of_getElem? (i := 366) (by decide +kernel), rfl⟩
theorem q_367 : (Jvm.Cond.instanceMethod ({ cls := "TrapDesk$Hyper", name := "read", desc := "(I)I" } : Jvm.MethodName)) ∈ gtb := List.mem_filter.mpr ⟨List.mem_of_getElem? (i := 367) (by decide +kernel), rfl⟩
theorem q_368 : (Jvm.Cond.selects "TrapDesk$Hyper" ({ cls := "TrapDesk$Hyper", name := "read", desc := "(I)I" } : Jvm.MethodName) ({ cls := "TrapDesk$Hyper", name := "read", desc := "(I)I" } : Jvm.MethodName)) ∈ gtb := List.mem_filter.mpr ⟨List.mem_of_getElem? (i := 368) (by decide +kernel), rfl⟩
set_option maxRecDepth 20000 in
theorem q_361 : (Jvm.Cond.code ({ cls := "TrapDesk$Hyper", name := "guestIe", desc := "()I" } : Jvm.MethodName) prog_4_method_7_code (1 : Nat) (Option.some Jvm.ClassFile.FieldType.int)) ∈ gtb := List.mem_filter.mpr ⟨List.mem_of_getElem? (i := 361) (rfl), rfl⟩
theorem q_358 : (Jvm.Cond.methodLink "TrapDesk$Controls" (76 : Nat) ({ cls := "TrapDesk$Hyper", name := "guestIe", desc := "()I" } : Jvm.MethodName)) ∈ gtb := List.mem_filter.mpr ⟨List.mem_of_getElem? (i := 358) (by decide +kernel), rfl⟩
theorem q_359 : (Jvm.Cond.instanceMethod ({ cls := "TrapDesk$Hyper", name := "guestIe", desc := "()I" } : Jvm.MethodName)) ∈ gtb := List.mem_filter.mpr ⟨List.mem_of_getElem? (i := 359) (by decide +kernel), rfl⟩
theorem q_360 : (Jvm.Cond.selects "TrapDesk$Hyper" ({ cls := "TrapDesk$Hyper", name := "guestIe", desc := "()I" } : Jvm.MethodName) ({ cls := "TrapDesk$Hyper", name := "guestIe", desc := "()I" } : Jvm.MethodName)) ∈ gtb := List.mem_filter.mpr ⟨List.mem_of_getElem? (i := 360) (by decide +kernel), rfl⟩
set_option maxRecDepth 20000 in
theorem q_365 : (Jvm.Cond.code ({ cls := "TrapDesk$Hyper", name := "guestIp", desc := "()I" } : Jvm.MethodName) prog_4_method_8_code (1 : Nat) (Option.some Jvm.ClassFile.FieldType.int)) ∈ gtb := List.mem_filter.mpr ⟨List.mem_of_getElem? (i := 365) (rfl), rfl⟩
theorem q_362 : (Jvm.Cond.methodLink "TrapDesk$Controls" (79 : Nat) ({ cls := "TrapDesk$Hyper", name := "guestIp", desc := "()I" } : Jvm.MethodName)) ∈ gtb := List.mem_filter.mpr ⟨List.mem_of_getElem? (i := 362) (by decide +kernel), rfl⟩
theorem q_363 : (Jvm.Cond.instanceMethod ({ cls := "TrapDesk$Hyper", name := "guestIp", desc := "()I" } : Jvm.MethodName)) ∈ gtb := List.mem_filter.mpr ⟨List.mem_of_getElem? (i := 363) (by decide +kernel), rfl⟩
theorem q_364 : (Jvm.Cond.selects "TrapDesk$Hyper" ({ cls := "TrapDesk$Hyper", name := "guestIp", desc := "()I" } : Jvm.MethodName) ({ cls := "TrapDesk$Hyper", name := "guestIp", desc := "()I" } : Jvm.MethodName)) ∈ gtb := List.mem_filter.mpr ⟨List.mem_of_getElem? (i := 364) (by decide +kernel), rfl⟩
set_option maxRecDepth 20000 in
theorem q_353 : (Jvm.Cond.code ({ cls := "TrapDesk$Bank", name := "read", desc := "(I)I" } : Jvm.MethodName) prog_2_method_3_code (2 : Nat) (Option.some Jvm.ClassFile.FieldType.int)) ∈ gtb := List.mem_filter.mpr ⟨List.mem_of_getElem? (i := 353) (rfl), rfl⟩
theorem q_350 : (Jvm.Cond.methodLink "TrapDesk$Controls" (75 : Nat) ({ cls := "TrapDesk$Bank", name := "read", desc := "(I)I" } : Jvm.MethodName)) ∈ gtb := List.mem_filter.mpr ⟨List.mem_of_getElem? (i := 350) (by decide +kernel), rfl⟩
theorem q_351 : (Jvm.Cond.instanceMethod ({ cls := "TrapDesk$Bank", name := "read", desc := "(I)I" } : Jvm.MethodName)) ∈ gtb := List.mem_filter.mpr ⟨List.mem_of_getElem? (i := 351) (by decide +kernel), rfl⟩
theorem q_352 : (Jvm.Cond.selects "TrapDesk$Bank" ({ cls := "TrapDesk$Bank", name := "read", desc := "(I)I" } : Jvm.MethodName) ({ cls := "TrapDesk$Bank", name := "read", desc := "(I)I" } : Jvm.MethodName)) ∈ gtb := List.mem_filter.mpr ⟨List.mem_of_getElem? (i := 352) (by decide +kernel), rfl⟩
set_option maxRecDepth 20000 in
theorem q_357 : (Jvm.Cond.code ({ cls := "TrapDesk$Controls", name := "readGuest", desc := "(I)I" } : Jvm.MethodName) prog_3_method_5_code (2 : Nat) (Option.some Jvm.ClassFile.FieldType.int)) ∈ gtb := List.mem_filter.mpr ⟨List.mem_of_getElem? (i := 357) (rfl), rfl⟩
theorem q_354 : (Jvm.Cond.methodLink "TrapDesk$Controls" (61 : Nat) ({ cls := "TrapDesk$Controls", name := "readGuest", desc := "(I)I" } : Jvm.MethodName)) ∈ gtb := List.mem_filter.mpr ⟨List.mem_of_getElem? (i := 354) (by decide +kernel), rfl⟩
theorem q_355 : (Jvm.Cond.instanceMethod ({ cls := "TrapDesk$Controls", name := "readGuest", desc := "(I)I" } : Jvm.MethodName)) ∈ gtb := List.mem_filter.mpr ⟨List.mem_of_getElem? (i := 355) (by decide +kernel), rfl⟩
theorem q_356 : (Jvm.Cond.selects "TrapDesk$Controls" ({ cls := "TrapDesk$Controls", name := "readGuest", desc := "(I)I" } : Jvm.MethodName) ({ cls := "TrapDesk$Controls", name := "readGuest", desc := "(I)I" } : Jvm.MethodName)) ∈ gtb := List.mem_filter.mpr ⟨List.mem_of_getElem? (i := 356) (by decide +kernel), rfl⟩
set_option maxRecDepth 20000 in
theorem q_349 : (Jvm.Cond.code ({ cls := "TrapDesk$Outside", name := "alarmRings", desc := "()Z" } : Jvm.MethodName) prog_6_method_3_code (1 : Nat) (Option.some Jvm.ClassFile.FieldType.boolean)) ∈ gtb := List.mem_filter.mpr ⟨List.mem_of_getElem? (i := 349) (rfl), rfl⟩
theorem q_346 : (Jvm.Cond.methodLink "TrapDesk$Controls" (100 : Nat) ({ cls := "TrapDesk$Outside", name := "alarmRings", desc := "()Z" } : Jvm.MethodName)) ∈ gtb := List.mem_filter.mpr ⟨List.mem_of_getElem? (i := 346) (by decide +kernel), rfl⟩
theorem q_347 : (Jvm.Cond.instanceMethod ({ cls := "TrapDesk$Outside", name := "alarmRings", desc := "()Z" } : Jvm.MethodName)) ∈ gtb := List.mem_filter.mpr ⟨List.mem_of_getElem? (i := 347) (by decide +kernel), rfl⟩
theorem q_348 : (Jvm.Cond.selects "TrapDesk$Outside" ({ cls := "TrapDesk$Outside", name := "alarmRings", desc := "()Z" } : Jvm.MethodName) ({ cls := "TrapDesk$Outside", name := "alarmRings", desc := "()Z" } : Jvm.MethodName)) ∈ gtb := List.mem_filter.mpr ⟨List.mem_of_getElem? (i := 348) (by decide +kernel), rfl⟩
theorem q_80 : (Jvm.Cond.fieldLink "TrapDesk$Controls" (104 : Nat) "TrapDesk$Outside" "lineOn" "Z") ∈ gtb := List.mem_filter.mpr ⟨List.mem_of_getElem? (i := 80) (by decide +kernel), rfl⟩
set_option maxRecDepth 20000 in
theorem q_345 : (Jvm.Cond.code ({ cls := "TrapDesk$Controls", name := "hostIp", desc := "()I" } : Jvm.MethodName) prog_3_method_9_code (3 : Nat) (Option.some Jvm.ClassFile.FieldType.int)) ∈ gtb := List.mem_filter.mpr ⟨List.mem_of_getElem? (i := 345) (rfl), rfl⟩
theorem q_342 : (Jvm.Cond.methodLink "TrapDesk$Controls" (71 : Nat) ({ cls := "TrapDesk$Controls", name := "hostIp", desc := "()I" } : Jvm.MethodName)) ∈ gtb := List.mem_filter.mpr ⟨List.mem_of_getElem? (i := 342) (by decide +kernel), rfl⟩
theorem q_343 : (Jvm.Cond.instanceMethod ({ cls := "TrapDesk$Controls", name := "hostIp", desc := "()I" } : Jvm.MethodName)) ∈ gtb := List.mem_filter.mpr ⟨List.mem_of_getElem? (i := 343) (by decide +kernel), rfl⟩
theorem q_344 : (Jvm.Cond.selects "TrapDesk$Controls" ({ cls := "TrapDesk$Controls", name := "hostIp", desc := "()I" } : Jvm.MethodName) ({ cls := "TrapDesk$Controls", name := "hostIp", desc := "()I" } : Jvm.MethodName)) ∈ gtb := List.mem_filter.mpr ⟨List.mem_of_getElem? (i := 344) (by decide +kernel), rfl⟩
set_option maxRecDepth 20000 in
theorem q_341 : (Jvm.Cond.code ({ cls := "TrapDesk$Controls", name := "readHost", desc := "(I)I" } : Jvm.MethodName) prog_3_method_4_code (2 : Nat) (Option.some Jvm.ClassFile.FieldType.int)) ∈ gtb := List.mem_filter.mpr ⟨List.mem_of_getElem? (i := 341) (rfl), rfl⟩
theorem q_338 : (Jvm.Cond.methodLink "TrapDesk$Controls" (55 : Nat) ({ cls := "TrapDesk$Controls", name := "readHost", desc := "(I)I" } : Jvm.MethodName)) ∈ gtb := List.mem_filter.mpr ⟨List.mem_of_getElem? (i := 338) (by decide +kernel), rfl⟩
theorem q_339 : (Jvm.Cond.instanceMethod ({ cls := "TrapDesk$Controls", name := "readHost", desc := "(I)I" } : Jvm.MethodName)) ∈ gtb := List.mem_filter.mpr ⟨List.mem_of_getElem? (i := 339) (by decide +kernel), rfl⟩
theorem q_340 : (Jvm.Cond.selects "TrapDesk$Controls" ({ cls := "TrapDesk$Controls", name := "readHost", desc := "(I)I" } : Jvm.MethodName) ({ cls := "TrapDesk$Controls", name := "readHost", desc := "(I)I" } : Jvm.MethodName)) ∈ gtb := List.mem_filter.mpr ⟨List.mem_of_getElem? (i := 340) (by decide +kernel), rfl⟩
set_option maxRecDepth 20000 in
theorem q_337 : (Jvm.Cond.code ({ cls := "TrapDesk$Controls", name := "read", desc := "(I)I" } : Jvm.MethodName) prog_3_method_3_code (2 : Nat) (Option.some Jvm.ClassFile.FieldType.int)) ∈ gtb := List.mem_filter.mpr ⟨List.mem_of_getElem? (i := 337) (rfl), rfl⟩
theorem q_334 : (Jvm.Cond.methodLink "TrapDesk" (61 : Nat) ({ cls := "TrapDesk$Controls", name := "read", desc := "(I)I" } : Jvm.MethodName)) ∈ gtb := List.mem_filter.mpr ⟨List.mem_of_getElem? (i := 334) (by decide +kernel), rfl⟩
theorem q_335 : (Jvm.Cond.instanceMethod ({ cls := "TrapDesk$Controls", name := "read", desc := "(I)I" } : Jvm.MethodName)) ∈ gtb := List.mem_filter.mpr ⟨List.mem_of_getElem? (i := 335) (by decide +kernel), rfl⟩
theorem q_336 : (Jvm.Cond.selects "TrapDesk$Controls" ({ cls := "TrapDesk$Controls", name := "read", desc := "(I)I" } : Jvm.MethodName) ({ cls := "TrapDesk$Controls", name := "read", desc := "(I)I" } : Jvm.MethodName)) ∈ gtb := List.mem_filter.mpr ⟨List.mem_of_getElem? (i := 336) (by decide +kernel), rfl⟩
theorem q_206 : (Jvm.Cond.fieldLink "TrapDesk" (20 : Nat) "TrapDesk" "outside" "LTrapDesk$Outside;") ∈ gtb := List.mem_filter.mpr ⟨List.mem_of_getElem? (i := 206) (by decide +kernel), rfl⟩
theorem q_75 : (Jvm.Cond.fieldLink "TrapDesk" (67 : Nat) "TrapDesk$Outside" "now" "J") ∈ gtb := List.mem_filter.mpr ⟨List.mem_of_getElem? (i := 75) (by decide +kernel), rfl⟩
theorem q_374 : (Jvm.Cond.constantLong "TrapDesk" (65 : Nat) (-1 : Int64)) ∈ gtb := List.mem_filter.mpr ⟨List.mem_of_getElem? (i := 374) (by decide +kernel), rfl⟩
theorem q_79 : (Jvm.Cond.fieldLink "TrapDesk" (73 : Nat) "TrapDesk$Outside" "lineOn" "Z") ∈ gtb := List.mem_filter.mpr ⟨List.mem_of_getElem? (i := 79) (by decide +kernel), rfl⟩
set_option maxRecDepth 20000 in
theorem q_386 : (Jvm.Cond.code ({ cls := "TrapDesk$Registers", name := "read", desc := "(I)I" } : Jvm.MethodName) prog_7_method_3_code (2 : Nat) (Option.some Jvm.ClassFile.FieldType.int)) ∈ gtb := List.mem_filter.mpr ⟨List.mem_of_getElem? (i := 386) (rfl), rfl⟩
theorem q_383 : (Jvm.Cond.methodLink "TrapDesk" (77 : Nat) ({ cls := "TrapDesk$Registers", name := "read", desc := "(I)I" } : Jvm.MethodName)) ∈ gtb := List.mem_filter.mpr ⟨List.mem_of_getElem? (i := 383) (by decide +kernel), rfl⟩
theorem q_384 : (Jvm.Cond.instanceMethod ({ cls := "TrapDesk$Registers", name := "read", desc := "(I)I" } : Jvm.MethodName)) ∈ gtb := List.mem_filter.mpr ⟨List.mem_of_getElem? (i := 384) (by decide +kernel), rfl⟩
theorem q_385 : (Jvm.Cond.selects "TrapDesk$Registers" ({ cls := "TrapDesk$Registers", name := "read", desc := "(I)I" } : Jvm.MethodName) ({ cls := "TrapDesk$Registers", name := "read", desc := "(I)I" } : Jvm.MethodName)) ∈ gtb := List.mem_filter.mpr ⟨List.mem_of_getElem? (i := 385) (by decide +kernel), rfl⟩
set_option maxRecDepth 20000 in
theorem q_390 : (Jvm.Cond.code ({ cls := "TrapDesk$Registers", name := "write", desc := "(II)V" } : Jvm.MethodName) prog_7_method_4_code (3 : Nat) (Option.none : Option Jvm.ClassFile.FieldType)) ∈ gtb := List.mem_filter.mpr ⟨List.mem_of_getElem? (i := 390) (rfl), rfl⟩
theorem q_387 : (Jvm.Cond.methodLink "TrapDesk" (78 : Nat) ({ cls := "TrapDesk$Registers", name := "write", desc := "(II)V" } : Jvm.MethodName)) ∈ gtb := List.mem_filter.mpr ⟨List.mem_of_getElem? (i := 387) (by decide +kernel), rfl⟩
theorem q_388 : (Jvm.Cond.instanceMethod ({ cls := "TrapDesk$Registers", name := "write", desc := "(II)V" } : Jvm.MethodName)) ∈ gtb := List.mem_filter.mpr ⟨List.mem_of_getElem? (i := 388) (by decide +kernel), rfl⟩
theorem q_389 : (Jvm.Cond.selects "TrapDesk$Registers" ({ cls := "TrapDesk$Registers", name := "write", desc := "(II)V" } : Jvm.MethodName) ({ cls := "TrapDesk$Registers", name := "write", desc := "(II)V" } : Jvm.MethodName)) ∈ gtb := List.mem_filter.mpr ⟨List.mem_of_getElem? (i := 389) (by decide +kernel), rfl⟩
theorem q_82 : (Jvm.Cond.fieldLink "TrapDesk" (79 : Nat) "TrapDesk$Outside" "isOff" "Z") ∈ gtb := List.mem_filter.mpr ⟨List.mem_of_getElem? (i := 82) (by decide +kernel), rfl⟩
set_option maxRecDepth 20000 in
theorem q_444 : (Jvm.Cond.code ({ cls := "TrapDesk", name := "fieldA", desc := "(I)I" } : Jvm.MethodName) prog_1_method_32_code (1 : Nat) (Option.some Jvm.ClassFile.FieldType.int)) ∈ gtb := List.mem_filter.mpr ⟨List.mem_of_getElem? (i := 444) (rfl), rfl⟩
theorem q_442 : (Jvm.Cond.methodLink "TrapDesk" (151 : Nat) ({ cls := "TrapDesk", name := "fieldA", desc := "(I)I" } : Jvm.MethodName)) ∈ gtb := List.mem_filter.mpr ⟨List.mem_of_getElem? (i := 442) (by decide +kernel), rfl⟩
theorem q_41 : (Jvm.Cond.initialized "TrapDesk") ∈ gtb := List.mem_filter.mpr ⟨List.mem_of_getElem? (i := 41) (by decide +kernel), rfl⟩
theorem q_443 : (Jvm.Cond.static ({ cls := "TrapDesk", name := "fieldA", desc := "(I)I" } : Jvm.MethodName)) ∈ gtb := List.mem_filter.mpr ⟨List.mem_of_getElem? (i := 443) (by decide +kernel), rfl⟩
theorem q_499 : (Jvm.Cond.methodLink "TrapDesk" (228 : Nat) ({ cls := "TrapDesk$Numbers", name := "isOfS", desc := "(I)Z" } : Jvm.MethodName)) ∈ gtb := List.mem_filter.mpr ⟨List.mem_of_getElem? (i := 499) (by decide +kernel), rfl⟩
theorem q_170 : (Jvm.Cond.fieldLink "TrapDesk" (197 : Nat) "TrapDesk$Controls" "hyper" "LTrapDesk$Hyper;") ∈ gtb := List.mem_filter.mpr ⟨List.mem_of_getElem? (i := 170) (by decide +kernel), rfl⟩
theorem q_413 : (Jvm.Cond.constant "TrapDesk" (141 : Nat) (1048576 : Int32)) ∈ gtb := List.mem_filter.mpr ⟨List.mem_of_getElem? (i := 413) (by decide +kernel), rfl⟩
set_option maxRecDepth 20000 in
theorem q_425 : (Jvm.Cond.code ({ cls := "TrapDesk$Hyper", name := "hasStatus", desc := "(I)Z" } : Jvm.MethodName) prog_4_method_6_code (2 : Nat) (Option.some Jvm.ClassFile.FieldType.boolean)) ∈ gtb := List.mem_filter.mpr ⟨List.mem_of_getElem? (i := 425) (rfl), rfl⟩
theorem q_422 : (Jvm.Cond.methodLink "TrapDesk" (202 : Nat) ({ cls := "TrapDesk$Hyper", name := "hasStatus", desc := "(I)Z" } : Jvm.MethodName)) ∈ gtb := List.mem_filter.mpr ⟨List.mem_of_getElem? (i := 422) (by decide +kernel), rfl⟩
theorem q_423 : (Jvm.Cond.instanceMethod ({ cls := "TrapDesk$Hyper", name := "hasStatus", desc := "(I)Z" } : Jvm.MethodName)) ∈ gtb := List.mem_filter.mpr ⟨List.mem_of_getElem? (i := 423) (by decide +kernel), rfl⟩
theorem q_424 : (Jvm.Cond.selects "TrapDesk$Hyper" ({ cls := "TrapDesk$Hyper", name := "hasStatus", desc := "(I)Z" } : Jvm.MethodName) ({ cls := "TrapDesk$Hyper", name := "hasStatus", desc := "(I)Z" } : Jvm.MethodName)) ∈ gtb := List.mem_filter.mpr ⟨List.mem_of_getElem? (i := 424) (by decide +kernel), rfl⟩
set_option maxRecDepth 20000 in
theorem q_498 : (Jvm.Cond.code ({ cls := "TrapDesk", name := "isOpenToVs", desc := "(I)Z" } : Jvm.MethodName) prog_1_method_29_code (2 : Nat) (Option.some Jvm.ClassFile.FieldType.boolean)) ∈ gtb := List.mem_filter.mpr ⟨List.mem_of_getElem? (i := 498) (rfl), rfl⟩
theorem q_495 : (Jvm.Cond.methodLink "TrapDesk" (225 : Nat) ({ cls := "TrapDesk", name := "isOpenToVs", desc := "(I)Z" } : Jvm.MethodName)) ∈ gtb := List.mem_filter.mpr ⟨List.mem_of_getElem? (i := 495) (by decide +kernel), rfl⟩
theorem q_497 : (Jvm.Cond.instanceMethod ({ cls := "TrapDesk", name := "isOpenToVs", desc := "(I)Z" } : Jvm.MethodName)) ∈ gtb := List.mem_filter.mpr ⟨List.mem_of_getElem? (i := 497) (by decide +kernel), rfl⟩
theorem q_13 : (Jvm.Cond.selects "TrapDesk" ({ cls := "TrapDesk", name := "isOpenToVs", desc := "(I)Z" } : Jvm.MethodName) ({ cls := "TrapDesk", name := "isOpenToVs", desc := "(I)Z" } : Jvm.MethodName)) ∈ gtb := List.mem_filter.mpr ⟨List.mem_of_getElem? (i := 13) (by decide +kernel), rfl⟩
set_option maxRecDepth 20000 in
theorem q_494 : (Jvm.Cond.code ({ cls := "TrapDesk", name := "refusalOfAccess", desc := "(IZ)I" } : Jvm.MethodName) prog_1_method_28_code (3 : Nat) (Option.some Jvm.ClassFile.FieldType.int)) ∈ gtb := List.mem_filter.mpr ⟨List.mem_of_getElem? (i := 494) (rfl), rfl⟩
theorem q_491 : (Jvm.Cond.methodLink "TrapDesk" (215 : Nat) ({ cls := "TrapDesk", name := "refusalOfAccess", desc := "(IZ)I" } : Jvm.MethodName)) ∈ gtb := List.mem_filter.mpr ⟨List.mem_of_getElem? (i := 491) (by decide +kernel), rfl⟩
theorem q_493 : (Jvm.Cond.instanceMethod ({ cls := "TrapDesk", name := "refusalOfAccess", desc := "(IZ)I" } : Jvm.MethodName)) ∈ gtb := List.mem_filter.mpr ⟨List.mem_of_getElem? (i := 493) (by decide +kernel), rfl⟩
theorem q_12 : (Jvm.Cond.selects "TrapDesk" ({ cls := "TrapDesk", name := "refusalOfAccess", desc := "(IZ)I" } : Jvm.MethodName) ({ cls := "TrapDesk", name := "refusalOfAccess", desc := "(IZ)I" } : Jvm.MethodName)) ∈ gtb := List.mem_filter.mpr ⟨List.mem_of_getElem? (i := 12) (by decide +kernel), rfl⟩
set_option maxRecDepth 20000 in
theorem q_502 : (Jvm.Cond.code ({ cls := "TrapDesk$Numbers", name := "inVs", desc := "(I)I" } : Jvm.MethodName) prog_5_method_10_code (1 : Nat) (Option.some Jvm.ClassFile.FieldType.int)) ∈ gtb := List.mem_filter.mpr ⟨List.mem_of_getElem? (i := 502) (rfl), rfl⟩
theorem q_500 : (Jvm.Cond.methodLink "TrapDesk" (219 : Nat) ({ cls := "TrapDesk$Numbers", name := "inVs", desc := "(I)I" } : Jvm.MethodName)) ∈ gtb := List.mem_filter.mpr ⟨List.mem_of_getElem? (i := 500) (by decide +kernel), rfl⟩
theorem q_501 : (Jvm.Cond.static ({ cls := "TrapDesk$Numbers", name := "inVs", desc := "(I)I" } : Jvm.MethodName)) ∈ gtb := List.mem_filter.mpr ⟨List.mem_of_getElem? (i := 501) (by decide +kernel), rfl⟩
set_option maxRecDepth 20000 in
theorem q_505 : (Jvm.Cond.code ({ cls := "TrapDesk", name := "combined", desc := "(III)I" } : Jvm.MethodName) prog_1_method_27_code (3 : Nat) (Option.some Jvm.ClassFile.FieldType.int)) ∈ gtb := List.mem_filter.mpr ⟨List.mem_of_getElem? (i := 505) (rfl), rfl⟩
theorem q_503 : (Jvm.Cond.methodLink "TrapDesk" (222 : Nat) ({ cls := "TrapDesk", name := "combined", desc := "(III)I" } : Jvm.MethodName)) ∈ gtb := List.mem_filter.mpr ⟨List.mem_of_getElem? (i := 503) (by decide +kernel), rfl⟩
theorem q_504 : (Jvm.Cond.static ({ cls := "TrapDesk", name := "combined", desc := "(III)I" } : Jvm.MethodName)) ∈ gtb := List.mem_filter.mpr ⟨List.mem_of_getElem? (i := 504) (by decide +kernel), rfl⟩
set_option maxRecDepth 20000 in
theorem q_409 : (Jvm.Cond.code ({ cls := "TrapDesk", name := "fieldD", desc := "(I)I" } : Jvm.MethodName) prog_1_method_31_code (1 : Nat) (Option.some Jvm.ClassFile.FieldType.int)) ∈ gtb := List.mem_filter.mpr ⟨List.mem_of_getElem? (i := 409) (rfl), rfl⟩
theorem q_407 : (Jvm.Cond.methodLink "TrapDesk" (133 : Nat) ({ cls := "TrapDesk", name := "fieldD", desc := "(I)I" } : Jvm.MethodName)) ∈ gtb := List.mem_filter.mpr ⟨List.mem_of_getElem? (i := 407) (by decide +kernel), rfl⟩
theorem q_408 : (Jvm.Cond.static ({ cls := "TrapDesk", name := "fieldD", desc := "(I)I" } : Jvm.MethodName)) ∈ gtb := List.mem_filter.mpr ⟨List.mem_of_getElem? (i := 408) (by decide +kernel), rfl⟩
set_option maxRecDepth 20000 in
theorem q_429 : (Jvm.Cond.code ({ cls := "TrapDesk", name := "goOn", desc := "()I" } : Jvm.MethodName) prog_1_method_30_code (1 : Nat) (Option.some Jvm.ClassFile.FieldType.int)) ∈ gtb := List.mem_filter.mpr ⟨List.mem_of_getElem? (i := 429) (rfl), rfl⟩
theorem q_426 : (Jvm.Cond.methodLink "TrapDesk" (174 : Nat) ({ cls := "TrapDesk", name := "goOn", desc := "()I" } : Jvm.MethodName)) ∈ gtb := List.mem_filter.mpr ⟨List.mem_of_getElem? (i := 426) (by decide +kernel), rfl⟩
theorem q_428 : (Jvm.Cond.instanceMethod ({ cls := "TrapDesk", name := "goOn", desc := "()I" } : Jvm.MethodName)) ∈ gtb := List.mem_filter.mpr ⟨List.mem_of_getElem? (i := 428) (by decide +kernel), rfl⟩
theorem q_4 : (Jvm.Cond.selects "TrapDesk" ({ cls := "TrapDesk", name := "goOn", desc := "()I" } : Jvm.MethodName) ({ cls := "TrapDesk", name := "goOn", desc := "()I" } : Jvm.MethodName)) ∈ gtb := List.mem_filter.mpr ⟨List.mem_of_getElem? (i := 4) (by decide +kernel), rfl⟩
set_option maxRecDepth 20000 in
theorem q_490 : (Jvm.Cond.code ({ cls := "TrapDesk", name := "controlWord", desc := "(II)I" } : Jvm.MethodName) prog_1_method_26_code (11 : Nat) (Option.some Jvm.ClassFile.FieldType.int)) ∈ gtb := List.mem_filter.mpr ⟨List.mem_of_getElem? (i := 490) (rfl), rfl⟩
theorem q_487 : (Jvm.Cond.methodLink "TrapDesk" (130 : Nat) ({ cls := "TrapDesk", name := "controlWord", desc := "(II)I" } : Jvm.MethodName)) ∈ gtb := List.mem_filter.mpr ⟨List.mem_of_getElem? (i := 487) (by decide +kernel), rfl⟩
theorem q_489 : (Jvm.Cond.instanceMethod ({ cls := "TrapDesk", name := "controlWord", desc := "(II)I" } : Jvm.MethodName)) ∈ gtb := List.mem_filter.mpr ⟨List.mem_of_getElem? (i := 489) (by decide +kernel), rfl⟩
theorem q_11 : (Jvm.Cond.selects "TrapDesk" ({ cls := "TrapDesk", name := "controlWord", desc := "(II)I" } : Jvm.MethodName) ({ cls := "TrapDesk", name := "controlWord", desc := "(II)I" } : Jvm.MethodName)) ∈ gtb := List.mem_filter.mpr ⟨List.mem_of_getElem? (i := 11) (by decide +kernel), rfl⟩
set_option maxRecDepth 20000 in
theorem q_412 : (Jvm.Cond.code ({ cls := "TrapDesk", name := "fieldG", desc := "(I)I" } : Jvm.MethodName) prog_1_method_34_code (1 : Nat) (Option.some Jvm.ClassFile.FieldType.int)) ∈ gtb := List.mem_filter.mpr ⟨List.mem_of_getElem? (i := 412) (rfl), rfl⟩
theorem q_410 : (Jvm.Cond.methodLink "TrapDesk" (136 : Nat) ({ cls := "TrapDesk", name := "fieldG", desc := "(I)I" } : Jvm.MethodName)) ∈ gtb := List.mem_filter.mpr ⟨List.mem_of_getElem? (i := 410) (by decide +kernel), rfl⟩
theorem q_411 : (Jvm.Cond.static ({ cls := "TrapDesk", name := "fieldG", desc := "(I)I" } : Jvm.MethodName)) ∈ gtb := List.mem_filter.mpr ⟨List.mem_of_getElem? (i := 411) (by decide +kernel), rfl⟩
set_option maxRecDepth 20000 in
theorem q_483 : (Jvm.Cond.code ({ cls := "TrapDesk", name := "fieldB", desc := "(I)I" } : Jvm.MethodName) prog_1_method_33_code (1 : Nat) (Option.some Jvm.ClassFile.FieldType.int)) ∈ gtb := List.mem_filter.mpr ⟨List.mem_of_getElem? (i := 483) (rfl), rfl⟩
theorem q_481 : (Jvm.Cond.methodLink "TrapDesk" (208 : Nat) ({ cls := "TrapDesk", name := "fieldB", desc := "(I)I" } : Jvm.MethodName)) ∈ gtb := List.mem_filter.mpr ⟨List.mem_of_getElem? (i := 481) (by decide +kernel), rfl⟩
theorem q_482 : (Jvm.Cond.static ({ cls := "TrapDesk", name := "fieldB", desc := "(I)I" } : Jvm.MethodName)) ∈ gtb := List.mem_filter.mpr ⟨List.mem_of_getElem? (i := 482) (by decide +kernel), rfl⟩
set_option maxRecDepth 20000 in
theorem q_486 : (Jvm.Cond.code ({ cls := "TrapDesk", name := "isFarAccess", desc := "(III)Z" } : Jvm.MethodName) prog_1_method_25_code (3 : Nat) (Option.some Jvm.ClassFile.FieldType.boolean)) ∈ gtb := List.mem_filter.mpr ⟨List.mem_of_getElem? (i := 486) (rfl), rfl⟩
theorem q_484 : (Jvm.Cond.methodLink "TrapDesk" (211 : Nat) ({ cls := "TrapDesk", name := "isFarAccess", desc := "(III)Z" } : Jvm.MethodName)) ∈ gtb := List.mem_filter.mpr ⟨List.mem_of_getElem? (i := 484) (by decide +kernel), rfl⟩
theorem q_485 : (Jvm.Cond.static ({ cls := "TrapDesk", name := "isFarAccess", desc := "(III)Z" } : Jvm.MethodName)) ∈ gtb := List.mem_filter.mpr ⟨List.mem_of_getElem? (i := 485) (by decide +kernel), rfl⟩
set_option maxRecDepth 20000 in
theorem q_437 : (Jvm.Cond.code ({ cls := "TrapDesk", name := "isVirtual", desc := "()Z" } : Jvm.MethodName) prog_1_method_42_code (1 : Nat) (Option.some Jvm.ClassFile.FieldType.boolean)) ∈ gtb := List.mem_filter.mpr ⟨List.mem_of_getElem? (i := 437) (rfl), rfl⟩
theorem q_434 : (Jvm.Cond.methodLink "TrapDesk" (205 : Nat) ({ cls := "TrapDesk", name := "isVirtual", desc := "()Z" } : Jvm.MethodName)) ∈ gtb := List.mem_filter.mpr ⟨List.mem_of_getElem? (i := 434) (by decide +kernel), rfl⟩
theorem q_436 : (Jvm.Cond.instanceMethod ({ cls := "TrapDesk", name := "isVirtual", desc := "()Z" } : Jvm.MethodName)) ∈ gtb := List.mem_filter.mpr ⟨List.mem_of_getElem? (i := 436) (by decide +kernel), rfl⟩
theorem q_6 : (Jvm.Cond.selects "TrapDesk" ({ cls := "TrapDesk", name := "isVirtual", desc := "()Z" } : Jvm.MethodName) ({ cls := "TrapDesk", name := "isVirtual", desc := "()Z" } : Jvm.MethodName)) ∈ gtb := List.mem_filter.mpr ⟨List.mem_of_getElem? (i := 6) (by decide +kernel), rfl⟩
set_option maxRecDepth 20000 in
theorem q_480 : (Jvm.Cond.code ({ cls := "TrapDesk", name := "farAccessWord", desc := "(I)I" } : Jvm.MethodName) prog_1_method_24_code (2 : Nat) (Option.some Jvm.ClassFile.FieldType.int)) ∈ gtb := List.mem_filter.mpr ⟨List.mem_of_getElem? (i := 480) (rfl), rfl⟩
theorem q_477 : (Jvm.Cond.methodLink "TrapDesk" (127 : Nat) ({ cls := "TrapDesk", name := "farAccessWord", desc := "(I)I" } : Jvm.MethodName)) ∈ gtb := List.mem_filter.mpr ⟨List.mem_of_getElem? (i := 477) (by decide +kernel), rfl⟩
theorem q_479 : (Jvm.Cond.instanceMethod ({ cls := "TrapDesk", name := "farAccessWord", desc := "(I)I" } : Jvm.MethodName)) ∈ gtb := List.mem_filter.mpr ⟨List.mem_of_getElem? (i := 479) (by decide +kernel), rfl⟩
theorem q_10 : (Jvm.Cond.selects "TrapDesk" ({ cls := "TrapDesk", name := "farAccessWord", desc := "(I)I" } : Jvm.MethodName) ({ cls := "TrapDesk", name := "farAccessWord", desc := "(I)I" } : Jvm.MethodName)) ∈ gtb := List.mem_filter.mpr ⟨List.mem_of_getElem? (i := 10) (by decide +kernel), rfl⟩
set_option maxRecDepth 20000 in
theorem q_421 : (Jvm.Cond.code ({ cls := "TrapDesk", name := "refusalOfSupervisorWord", desc := "(I)I" } : Jvm.MethodName) prog_1_method_22_code (2 : Nat) (Option.some Jvm.ClassFile.FieldType.int)) ∈ gtb := List.mem_filter.mpr ⟨List.mem_of_getElem? (i := 421) (rfl), rfl⟩
theorem q_418 : (Jvm.Cond.methodLink "TrapDesk" (178 : Nat) ({ cls := "TrapDesk", name := "refusalOfSupervisorWord", desc := "(I)I" } : Jvm.MethodName)) ∈ gtb := List.mem_filter.mpr ⟨List.mem_of_getElem? (i := 418) (by decide +kernel), rfl⟩
theorem q_420 : (Jvm.Cond.instanceMethod ({ cls := "TrapDesk", name := "refusalOfSupervisorWord", desc := "(I)I" } : Jvm.MethodName)) ∈ gtb := List.mem_filter.mpr ⟨List.mem_of_getElem? (i := 420) (by decide +kernel), rfl⟩
theorem q_3 : (Jvm.Cond.selects "TrapDesk" ({ cls := "TrapDesk", name := "refusalOfSupervisorWord", desc := "(I)I" } : Jvm.MethodName) ({ cls := "TrapDesk", name := "refusalOfSupervisorWord", desc := "(I)I" } : Jvm.MethodName)) ∈ gtb := List.mem_filter.mpr ⟨List.mem_of_getElem? (i := 3) (by decide +kernel), rfl⟩
set_option maxRecDepth 20000 in
theorem q_417 : (Jvm.Cond.code ({ cls := "TrapDesk", name := "nothingUnless", desc := "(I)I" } : Jvm.MethodName) prog_1_method_21_code (3 : Nat) (Option.some Jvm.ClassFile.FieldType.int)) ∈ gtb := List.mem_filter.mpr ⟨List.mem_of_getElem? (i := 417) (rfl), rfl⟩
theorem q_414 : (Jvm.Cond.methodLink "TrapDesk" (142 : Nat) ({ cls := "TrapDesk", name := "nothingUnless", desc := "(I)I" } : Jvm.MethodName)) ∈ gtb := List.mem_filter.mpr ⟨List.mem_of_getElem? (i := 414) (by decide +kernel), rfl⟩
theorem q_416 : (Jvm.Cond.instanceMethod ({ cls := "TrapDesk", name := "nothingUnless", desc := "(I)I" } : Jvm.MethodName)) ∈ gtb := List.mem_filter.mpr ⟨List.mem_of_getElem? (i := 416) (by decide +kernel), rfl⟩
theorem q_2 : (Jvm.Cond.selects "TrapDesk" ({ cls := "TrapDesk", name := "nothingUnless", desc := "(I)I" } : Jvm.MethodName) ({ cls := "TrapDesk", name := "nothingUnless", desc := "(I)I" } : Jvm.MethodName)) ∈ gtb := List.mem_filter.mpr ⟨List.mem_of_getElem? (i := 2) (by decide +kernel), rfl⟩
set_option maxRecDepth 20000 in
theorem q_433 : (Jvm.Cond.code ({ cls := "TrapDesk", name := "hypervisorFence", desc := "()I" } : Jvm.MethodName) prog_1_method_23_code (1 : Nat) (Option.some Jvm.ClassFile.FieldType.int)) ∈ gtb := List.mem_filter.mpr ⟨List.mem_of_getElem? (i := 433) (rfl), rfl⟩
theorem q_430 : (Jvm.Cond.methodLink "TrapDesk" (145 : Nat) ({ cls := "TrapDesk", name := "hypervisorFence", desc := "()I" } : Jvm.MethodName)) ∈ gtb := List.mem_filter.mpr ⟨List.mem_of_getElem? (i := 430) (by decide +kernel), rfl⟩
theorem q_432 : (Jvm.Cond.instanceMethod ({ cls := "TrapDesk", name := "hypervisorFence", desc := "()I" } : Jvm.MethodName)) ∈ gtb := List.mem_filter.mpr ⟨List.mem_of_getElem? (i := 432) (by decide +kernel), rfl⟩
theorem q_5 : (Jvm.Cond.selects "TrapDesk" ({ cls := "TrapDesk", name := "hypervisorFence", desc := "()I" } : Jvm.MethodName) ({ cls := "TrapDesk", name := "hypervisorFence", desc := "()I" } : Jvm.MethodName)) ∈ gtb := List.mem_filter.mpr ⟨List.mem_of_getElem? (i := 5) (by decide +kernel), rfl⟩
theorem q_197 : (Jvm.Cond.fieldLink "TrapDesk" (161 : Nat) "TrapDesk$Registers" "x17" "I") ∈ gtb := List.mem_filter.mpr ⟨List.mem_of_getElem? (i := 197) (by decide +kernel), rfl⟩
theorem q_193 : (Jvm.Cond.fieldLink "TrapDesk" (164 : Nat) "TrapDesk$Registers" "x10" "I") ∈ gtb := List.mem_filter.mpr ⟨List.mem_of_getElem? (i := 193) (by decide +kernel), rfl⟩
theorem q_195 : (Jvm.Cond.fieldLink "TrapDesk" (167 : Nat) "TrapDesk$Registers" "x11" "I") ∈ gtb := List.mem_filter.mpr ⟨List.mem_of_getElem? (i := 195) (by decide +kernel), rfl⟩
theorem q_457 : (Jvm.Cond.constantLong "TrapDesk$Outside" (43 : Nat) (4294967295 : Int64)) ∈ gtb := List.mem_filter.mpr ⟨List.mem_of_getElem? (i := 457) (by decide +kernel), rfl⟩
set_option maxRecDepth 20000 in
theorem q_456 : (Jvm.Cond.code ({ cls := "TrapDesk$Outside", name := "setAlarm", desc := "(II)V" } : Jvm.MethodName) prog_6_method_5_code (3 : Nat) (Option.none : Option Jvm.ClassFile.FieldType)) ∈ gtb := List.mem_filter.mpr ⟨List.mem_of_getElem? (i := 456) (rfl), rfl⟩
theorem q_453 : (Jvm.Cond.methodLink "TrapDesk$Outside" (35 : Nat) ({ cls := "TrapDesk$Outside", name := "setAlarm", desc := "(II)V" } : Jvm.MethodName)) ∈ gtb := List.mem_filter.mpr ⟨List.mem_of_getElem? (i := 453) (by decide +kernel), rfl⟩
theorem q_454 : (Jvm.Cond.instanceMethod ({ cls := "TrapDesk$Outside", name := "setAlarm", desc := "(II)V" } : Jvm.MethodName)) ∈ gtb := List.mem_filter.mpr ⟨List.mem_of_getElem? (i := 454) (by decide +kernel), rfl⟩
theorem q_455 : (Jvm.Cond.selects "TrapDesk$Outside" ({ cls := "TrapDesk$Outside", name := "setAlarm", desc := "(II)V" } : Jvm.MethodName) ({ cls := "TrapDesk$Outside", name := "setAlarm", desc := "(II)V" } : Jvm.MethodName)) ∈ gtb := List.mem_filter.mpr ⟨List.mem_of_getElem? (i := 455) (by decide +kernel), rfl⟩
theorem q_70 : (Jvm.Cond.fieldLink "TrapDesk$Outside" (11 : Nat) "TrapDesk$Outside" "bytes" "[B") ∈ gtb := List.mem_filter.mpr ⟨List.mem_of_getElem? (i := 70) (by decide +kernel), rfl⟩
set_option maxRecDepth 20000 in
theorem q_461 : (Jvm.Cond.code ({ cls := "TrapDesk$Outside", name := "print", desc := "(I)V" } : Jvm.MethodName) prog_6_method_6_code (2 : Nat) (Option.none : Option Jvm.ClassFile.FieldType)) ∈ gtb := List.mem_filter.mpr ⟨List.mem_of_getElem? (i := 461) (rfl), rfl⟩
theorem q_458 : (Jvm.Cond.methodLink "TrapDesk$Outside" (39 : Nat) ({ cls := "TrapDesk$Outside", name := "print", desc := "(I)V" } : Jvm.MethodName)) ∈ gtb := List.mem_filter.mpr ⟨List.mem_of_getElem? (i := 458) (by decide +kernel), rfl⟩
theorem q_459 : (Jvm.Cond.instanceMethod ({ cls := "TrapDesk$Outside", name := "print", desc := "(I)V" } : Jvm.MethodName)) ∈ gtb := List.mem_filter.mpr ⟨List.mem_of_getElem? (i := 459) (by decide +kernel), rfl⟩
theorem q_460 : (Jvm.Cond.selects "TrapDesk$Outside" ({ cls := "TrapDesk$Outside", name := "print", desc := "(I)V" } : Jvm.MethodName) ({ cls := "TrapDesk$Outside", name := "print", desc := "(I)V" } : Jvm.MethodName)) ∈ gtb := List.mem_filter.mpr ⟨List.mem_of_getElem? (i := 460) (by decide +kernel), rfl⟩
set_option maxRecDepth 20000 in
theorem q_452 : (Jvm.Cond.code ({ cls := "TrapDesk$Outside", name := "serve", desc := "(III)I" } : Jvm.MethodName) prog_6_method_4_code (4 : Nat) (Option.some Jvm.ClassFile.FieldType.int)) ∈ gtb := List.mem_filter.mpr ⟨List.mem_of_getElem? (i := 452) (rfl), rfl⟩
theorem q_449 : (Jvm.Cond.methodLink "TrapDesk" (170 : Nat) ({ cls := "TrapDesk$Outside", name := "serve", desc := "(III)I" } : Jvm.MethodName)) ∈ gtb := List.mem_filter.mpr ⟨List.mem_of_getElem? (i := 449) (by decide +kernel), rfl⟩
theorem q_450 : (Jvm.Cond.instanceMethod ({ cls := "TrapDesk$Outside", name := "serve", desc := "(III)I" } : Jvm.MethodName)) ∈ gtb := List.mem_filter.mpr ⟨List.mem_of_getElem? (i := 450) (by decide +kernel), rfl⟩
theorem q_451 : (Jvm.Cond.selects "TrapDesk$Outside" ({ cls := "TrapDesk$Outside", name := "serve", desc := "(III)I" } : Jvm.MethodName) ({ cls := "TrapDesk$Outside", name := "serve", desc := "(III)I" } : Jvm.MethodName)) ∈ gtb := List.mem_filter.mpr ⟨List.mem_of_getElem? (i := 451) (by decide +kernel), rfl⟩
set_option maxRecDepth 20000 in
theorem q_448 : (Jvm.Cond.code ({ cls := "TrapDesk", name := "environmentCall", desc := "()I" } : Jvm.MethodName) prog_1_method_19_code (2 : Nat) (Option.some Jvm.ClassFile.FieldType.int)) ∈ gtb := List.mem_filter.mpr ⟨List.mem_of_getElem? (i := 448) (rfl), rfl⟩
theorem q_445 : (Jvm.Cond.methodLink "TrapDesk" (154 : Nat) ({ cls := "TrapDesk", name := "environmentCall", desc := "()I" } : Jvm.MethodName)) ∈ gtb := List.mem_filter.mpr ⟨List.mem_of_getElem? (i := 445) (by decide +kernel), rfl⟩
theorem q_447 : (Jvm.Cond.instanceMethod ({ cls := "TrapDesk", name := "environmentCall", desc := "()I" } : Jvm.MethodName)) ∈ gtb := List.mem_filter.mpr ⟨List.mem_of_getElem? (i := 447) (by decide +kernel), rfl⟩
theorem q_8 : (Jvm.Cond.selects "TrapDesk" ({ cls := "TrapDesk", name := "environmentCall", desc := "()I" } : Jvm.MethodName) ({ cls := "TrapDesk", name := "environmentCall", desc := "()I" } : Jvm.MethodName)) ∈ gtb := List.mem_filter.mpr ⟨List.mem_of_getElem? (i := 8) (by decide +kernel), rfl⟩
theorem q_466 : (Jvm.Cond.constant "TrapDesk" (177 : Nat) (4194304 : Int32)) ∈ gtb := List.mem_filter.mpr ⟨List.mem_of_getElem? (i := 466) (by decide +kernel), rfl⟩
theorem q_166 : (Jvm.Cond.fieldLink "TrapDesk" (194 : Nat) "TrapDesk$Controls" "host" "LTrapDesk$Bank;") ∈ gtb := List.mem_filter.mpr ⟨List.mem_of_getElem? (i := 166) (by decide +kernel), rfl⟩
theorem q_107 : (Jvm.Cond.fieldLink "TrapDesk" (185 : Nat) "TrapDesk$Bank" "epc" "I") ∈ gtb := List.mem_filter.mpr ⟨List.mem_of_getElem? (i := 107) (by decide +kernel), rfl⟩
set_option maxRecDepth 20000 in
theorem q_470 : (Jvm.Cond.code ({ cls := "TrapDesk$Bank", name := "leave", desc := "()Z" } : Jvm.MethodName) prog_2_method_8_code (3 : Nat) (Option.some Jvm.ClassFile.FieldType.boolean)) ∈ gtb := List.mem_filter.mpr ⟨List.mem_of_getElem? (i := 470) (rfl), rfl⟩
theorem q_467 : (Jvm.Cond.methodLink "TrapDesk" (190 : Nat) ({ cls := "TrapDesk$Bank", name := "leave", desc := "()Z" } : Jvm.MethodName)) ∈ gtb := List.mem_filter.mpr ⟨List.mem_of_getElem? (i := 467) (by decide +kernel), rfl⟩
theorem q_468 : (Jvm.Cond.instanceMethod ({ cls := "TrapDesk$Bank", name := "leave", desc := "()Z" } : Jvm.MethodName)) ∈ gtb := List.mem_filter.mpr ⟨List.mem_of_getElem? (i := 468) (by decide +kernel), rfl⟩
theorem q_469 : (Jvm.Cond.selects "TrapDesk$Bank" ({ cls := "TrapDesk$Bank", name := "leave", desc := "()Z" } : Jvm.MethodName) ({ cls := "TrapDesk$Bank", name := "leave", desc := "()Z" } : Jvm.MethodName)) ∈ gtb := List.mem_filter.mpr ⟨List.mem_of_getElem? (i := 469) (by decide +kernel), rfl⟩
theorem q_475 : (Jvm.Cond.methodLink "TrapDesk$Hyper" (41 : Nat) ({ cls := "TrapDesk$Hyper", name := "hasStatus", desc := "(I)Z" } : Jvm.MethodName)) ∈ gtb := List.mem_filter.mpr ⟨List.mem_of_getElem? (i := 475) (by decide +kernel), rfl⟩
set_option maxRecDepth 20000 in
theorem q_474 : (Jvm.Cond.code ({ cls := "TrapDesk$Hyper", name := "leave", desc := "()Z" } : Jvm.MethodName) prog_4_method_12_code (2 : Nat) (Option.some Jvm.ClassFile.FieldType.boolean)) ∈ gtb := List.mem_filter.mpr ⟨List.mem_of_getElem? (i := 474) (rfl), rfl⟩
theorem q_471 : (Jvm.Cond.methodLink "TrapDesk" (201 : Nat) ({ cls := "TrapDesk$Hyper", name := "leave", desc := "()Z" } : Jvm.MethodName)) ∈ gtb := List.mem_filter.mpr ⟨List.mem_of_getElem? (i := 471) (by decide +kernel), rfl⟩
theorem q_472 : (Jvm.Cond.instanceMethod ({ cls := "TrapDesk$Hyper", name := "leave", desc := "()Z" } : Jvm.MethodName)) ∈ gtb := List.mem_filter.mpr ⟨List.mem_of_getElem? (i := 472) (by decide +kernel), rfl⟩
theorem q_473 : (Jvm.Cond.selects "TrapDesk$Hyper" ({ cls := "TrapDesk$Hyper", name := "leave", desc := "()Z" } : Jvm.MethodName) ({ cls := "TrapDesk$Hyper", name := "leave", desc := "()Z" } : Jvm.MethodName)) ∈ gtb := List.mem_filter.mpr ⟨List.mem_of_getElem? (i := 473) (by decide +kernel), rfl⟩
theorem q_168 : (Jvm.Cond.fieldLink "TrapDesk" (181 : Nat) "TrapDesk$Controls" "guest" "LTrapDesk$Bank;") ∈ gtb := List.mem_filter.mpr ⟨List.mem_of_getElem? (i := 168) (by decide +kernel), rfl⟩
set_option maxRecDepth 20000 in
theorem q_465 : (Jvm.Cond.code ({ cls := "TrapDesk", name := "supervisorReturn", desc := "()I" } : Jvm.MethodName) prog_1_method_20_code (4 : Nat) (Option.some Jvm.ClassFile.FieldType.int)) ∈ gtb := List.mem_filter.mpr ⟨List.mem_of_getElem? (i := 465) (rfl), rfl⟩
theorem q_462 : (Jvm.Cond.methodLink "TrapDesk" (157 : Nat) ({ cls := "TrapDesk", name := "supervisorReturn", desc := "()I" } : Jvm.MethodName)) ∈ gtb := List.mem_filter.mpr ⟨List.mem_of_getElem? (i := 462) (by decide +kernel), rfl⟩
theorem q_464 : (Jvm.Cond.instanceMethod ({ cls := "TrapDesk", name := "supervisorReturn", desc := "()I" } : Jvm.MethodName)) ∈ gtb := List.mem_filter.mpr ⟨List.mem_of_getElem? (i := 464) (by decide +kernel), rfl⟩
theorem q_9 : (Jvm.Cond.selects "TrapDesk" ({ cls := "TrapDesk", name := "supervisorReturn", desc := "()I" } : Jvm.MethodName) ({ cls := "TrapDesk", name := "supervisorReturn", desc := "()I" } : Jvm.MethodName)) ∈ gtb := List.mem_filter.mpr ⟨List.mem_of_getElem? (i := 9) (by decide +kernel), rfl⟩
theorem q_476 : (Jvm.Cond.constant "TrapDesk" (160 : Nat) (2097152 : Int32)) ∈ gtb := List.mem_filter.mpr ⟨List.mem_of_getElem? (i := 476) (by decide +kernel), rfl⟩
set_option maxRecDepth 20000 in
theorem q_441 : (Jvm.Cond.code ({ cls := "TrapDesk", name := "wordWithoutA", desc := "(I)I" } : Jvm.MethodName) prog_1_method_18_code (2 : Nat) (Option.some Jvm.ClassFile.FieldType.int)) ∈ gtb := List.mem_filter.mpr ⟨List.mem_of_getElem? (i := 441) (rfl), rfl⟩
theorem q_438 : (Jvm.Cond.methodLink "TrapDesk" (148 : Nat) ({ cls := "TrapDesk", name := "wordWithoutA", desc := "(I)I" } : Jvm.MethodName)) ∈ gtb := List.mem_filter.mpr ⟨List.mem_of_getElem? (i := 438) (by decide +kernel), rfl⟩
theorem q_440 : (Jvm.Cond.instanceMethod ({ cls := "TrapDesk", name := "wordWithoutA", desc := "(I)I" } : Jvm.MethodName)) ∈ gtb := List.mem_filter.mpr ⟨List.mem_of_getElem? (i := 440) (by decide +kernel), rfl⟩
theorem q_7 : (Jvm.Cond.selects "TrapDesk" ({ cls := "TrapDesk", name := "wordWithoutA", desc := "(I)I" } : Jvm.MethodName) ({ cls := "TrapDesk", name := "wordWithoutA", desc := "(I)I" } : Jvm.MethodName)) ∈ gtb := List.mem_filter.mpr ⟨List.mem_of_getElem? (i := 7) (by decide +kernel), rfl⟩
set_option maxRecDepth 20000 in
theorem q_406 : (Jvm.Cond.code ({ cls := "TrapDesk", name := "systemWord", desc := "(I)I" } : Jvm.MethodName) prog_1_method_17_code (2 : Nat) (Option.some Jvm.ClassFile.FieldType.int)) ∈ gtb := List.mem_filter.mpr ⟨List.mem_of_getElem? (i := 406) (rfl), rfl⟩
theorem q_403 : (Jvm.Cond.methodLink "TrapDesk" (124 : Nat) ({ cls := "TrapDesk", name := "systemWord", desc := "(I)I" } : Jvm.MethodName)) ∈ gtb := List.mem_filter.mpr ⟨List.mem_of_getElem? (i := 403) (by decide +kernel), rfl⟩
theorem q_405 : (Jvm.Cond.instanceMethod ({ cls := "TrapDesk", name := "systemWord", desc := "(I)I" } : Jvm.MethodName)) ∈ gtb := List.mem_filter.mpr ⟨List.mem_of_getElem? (i := 405) (by decide +kernel), rfl⟩
theorem q_1 : (Jvm.Cond.selects "TrapDesk" ({ cls := "TrapDesk", name := "systemWord", desc := "(I)I" } : Jvm.MethodName) ({ cls := "TrapDesk", name := "systemWord", desc := "(I)I" } : Jvm.MethodName)) ∈ gtb := List.mem_filter.mpr ⟨List.mem_of_getElem? (i := 1) (by decide +kernel), rfl⟩
set_option maxRecDepth 20000 in
theorem q_402 : (Jvm.Cond.code ({ cls := "TrapDesk", name := "perform", desc := "(I)I" } : Jvm.MethodName) prog_1_method_16_code (3 : Nat) (Option.some Jvm.ClassFile.FieldType.int)) ∈ gtb := List.mem_filter.mpr ⟨List.mem_of_getElem? (i := 402) (rfl), rfl⟩
theorem q_399 : (Jvm.Cond.methodLink "TrapDesk" (82 : Nat) ({ cls := "TrapDesk", name := "perform", desc := "(I)I" } : Jvm.MethodName)) ∈ gtb := List.mem_filter.mpr ⟨List.mem_of_getElem? (i := 399) (by decide +kernel), rfl⟩
theorem q_401 : (Jvm.Cond.instanceMethod ({ cls := "TrapDesk", name := "perform", desc := "(I)I" } : Jvm.MethodName)) ∈ gtb := List.mem_filter.mpr ⟨List.mem_of_getElem? (i := 401) (by decide +kernel), rfl⟩
theorem q_0 : (Jvm.Cond.selects "TrapDesk" ({ cls := "TrapDesk", name := "perform", desc := "(I)I" } : Jvm.MethodName) ({ cls := "TrapDesk", name := "perform", desc := "(I)I" } : Jvm.MethodName)) ∈ gtb := List.mem_filter.mpr ⟨List.mem_of_getElem? (i := 0) (by decide +kernel), rfl⟩
set_option maxRecDepth 20000 in
theorem q_509 : (Jvm.Cond.code ({ cls := "TrapDesk", name := "trapValue", desc := "(II)I" } : Jvm.MethodName) prog_1_method_35_code (3 : Nat) (Option.some Jvm.ClassFile.FieldType.int)) ∈ gtb := List.mem_filter.mpr ⟨List.mem_of_getElem? (i := 509) (rfl), rfl⟩
theorem q_506 : (Jvm.Cond.methodLink "TrapDesk" (85 : Nat) ({ cls := "TrapDesk", name := "trapValue", desc := "(II)I" } : Jvm.MethodName)) ∈ gtb := List.mem_filter.mpr ⟨List.mem_of_getElem? (i := 506) (by decide +kernel), rfl⟩
theorem q_508 : (Jvm.Cond.instanceMethod ({ cls := "TrapDesk", name := "trapValue", desc := "(II)I" } : Jvm.MethodName)) ∈ gtb := List.mem_filter.mpr ⟨List.mem_of_getElem? (i := 508) (by decide +kernel), rfl⟩
theorem q_14 : (Jvm.Cond.selects "TrapDesk" ({ cls := "TrapDesk", name := "trapValue", desc := "(II)I" } : Jvm.MethodName) ({ cls := "TrapDesk", name := "trapValue", desc := "(II)I" } : Jvm.MethodName)) ∈ gtb := List.mem_filter.mpr ⟨List.mem_of_getElem? (i := 14) (by decide +kernel), rfl⟩
theorem q_134 : (Jvm.Cond.fieldLink "TrapDesk" (231 : Nat) "TrapDesk$Hyper" "edeleg" "I") ∈ gtb := List.mem_filter.mpr ⟨List.mem_of_getElem? (i := 134) (by decide +kernel), rfl⟩
set_option maxRecDepth 20000 in
theorem q_516 : (Jvm.Cond.code ({ cls := "TrapDesk", name := "isIn", desc := "(II)Z" } : Jvm.MethodName) prog_1_method_44_code (2 : Nat) (Option.some Jvm.ClassFile.FieldType.boolean)) ∈ gtb := List.mem_filter.mpr ⟨List.mem_of_getElem? (i := 516) (rfl), rfl⟩
theorem q_514 : (Jvm.Cond.methodLink "TrapDesk" (94 : Nat) ({ cls := "TrapDesk", name := "isIn", desc := "(II)Z" } : Jvm.MethodName)) ∈ gtb := List.mem_filter.mpr ⟨List.mem_of_getElem? (i := 514) (by decide +kernel), rfl⟩
theorem q_515 : (Jvm.Cond.static ({ cls := "TrapDesk", name := "isIn", desc := "(II)Z" } : Jvm.MethodName)) ∈ gtb := List.mem_filter.mpr ⟨List.mem_of_getElem? (i := 515) (by decide +kernel), rfl⟩
set_option maxRecDepth 20000 in
theorem q_524 : (Jvm.Cond.code ({ cls := "TrapDesk", name := "isSupervisor", desc := "()Z" } : Jvm.MethodName) prog_1_method_43_code (1 : Nat) (Option.some Jvm.ClassFile.FieldType.boolean)) ∈ gtb := List.mem_filter.mpr ⟨List.mem_of_getElem? (i := 524) (rfl), rfl⟩
theorem q_521 : (Jvm.Cond.methodLink "TrapDesk" (235 : Nat) ({ cls := "TrapDesk", name := "isSupervisor", desc := "()Z" } : Jvm.MethodName)) ∈ gtb := List.mem_filter.mpr ⟨List.mem_of_getElem? (i := 521) (by decide +kernel), rfl⟩
theorem q_523 : (Jvm.Cond.instanceMethod ({ cls := "TrapDesk", name := "isSupervisor", desc := "()Z" } : Jvm.MethodName)) ∈ gtb := List.mem_filter.mpr ⟨List.mem_of_getElem? (i := 523) (by decide +kernel), rfl⟩
theorem q_17 : (Jvm.Cond.selects "TrapDesk" ({ cls := "TrapDesk", name := "isSupervisor", desc := "()Z" } : Jvm.MethodName) ({ cls := "TrapDesk", name := "isSupervisor", desc := "()Z" } : Jvm.MethodName)) ∈ gtb := List.mem_filter.mpr ⟨List.mem_of_getElem? (i := 17) (by decide +kernel), rfl⟩
set_option maxRecDepth 20000 in
theorem q_532 : (Jvm.Cond.code ({ cls := "TrapDesk$Bank", name := "hasInterruptsOn", desc := "()Z" } : Jvm.MethodName) prog_2_method_5_code (1 : Nat) (Option.some Jvm.ClassFile.FieldType.boolean)) ∈ gtb := List.mem_filter.mpr ⟨List.mem_of_getElem? (i := 532) (rfl), rfl⟩
theorem q_529 : (Jvm.Cond.methodLink "TrapDesk$Bank" (35 : Nat) ({ cls := "TrapDesk$Bank", name := "hasInterruptsOn", desc := "()Z" } : Jvm.MethodName)) ∈ gtb := List.mem_filter.mpr ⟨List.mem_of_getElem? (i := 529) (by decide +kernel), rfl⟩
theorem q_530 : (Jvm.Cond.instanceMethod ({ cls := "TrapDesk$Bank", name := "hasInterruptsOn", desc := "()Z" } : Jvm.MethodName)) ∈ gtb := List.mem_filter.mpr ⟨List.mem_of_getElem? (i := 530) (by decide +kernel), rfl⟩
theorem q_531 : (Jvm.Cond.selects "TrapDesk$Bank" ({ cls := "TrapDesk$Bank", name := "hasInterruptsOn", desc := "()Z" } : Jvm.MethodName) ({ cls := "TrapDesk$Bank", name := "hasInterruptsOn", desc := "()Z" } : Jvm.MethodName)) ∈ gtb := List.mem_filter.mpr ⟨List.mem_of_getElem? (i := 531) (by decide +kernel), rfl⟩
theorem q_537 : (Jvm.Cond.constant "TrapDesk$Bank" (43 : Nat) (-2147483648 : Int32)) ∈ gtb := List.mem_filter.mpr ⟨List.mem_of_getElem? (i := 537) (by decide +kernel), rfl⟩
theorem q_538 : (Jvm.Cond.constant "TrapDesk$Bank" (44 : Nat) (2147483647 : Int32)) ∈ gtb := List.mem_filter.mpr ⟨List.mem_of_getElem? (i := 538) (by decide +kernel), rfl⟩
set_option maxRecDepth 20000 in
theorem q_536 : (Jvm.Cond.code ({ cls := "TrapDesk$Bank", name := "handlerOf", desc := "(I)I" } : Jvm.MethodName) prog_2_method_7_code (4 : Nat) (Option.some Jvm.ClassFile.FieldType.int)) ∈ gtb := List.mem_filter.mpr ⟨List.mem_of_getElem? (i := 536) (rfl), rfl⟩
theorem q_533 : (Jvm.Cond.methodLink "TrapDesk$Bank" (39 : Nat) ({ cls := "TrapDesk$Bank", name := "handlerOf", desc := "(I)I" } : Jvm.MethodName)) ∈ gtb := List.mem_filter.mpr ⟨List.mem_of_getElem? (i := 533) (by decide +kernel), rfl⟩
theorem q_534 : (Jvm.Cond.instanceMethod ({ cls := "TrapDesk$Bank", name := "handlerOf", desc := "(I)I" } : Jvm.MethodName)) ∈ gtb := List.mem_filter.mpr ⟨List.mem_of_getElem? (i := 534) (by decide +kernel), rfl⟩
theorem q_535 : (Jvm.Cond.selects "TrapDesk$Bank" ({ cls := "TrapDesk$Bank", name := "handlerOf", desc := "(I)I" } : Jvm.MethodName) ({ cls := "TrapDesk$Bank", name := "handlerOf", desc := "(I)I" } : Jvm.MethodName)) ∈ gtb := List.mem_filter.mpr ⟨List.mem_of_getElem? (i := 535) (by decide +kernel), rfl⟩
set_option maxRecDepth 20000 in
theorem q_528 : (Jvm.Cond.code ({ cls := "TrapDesk$Bank", name := "enter", desc := "(IIIZ)I" } : Jvm.MethodName) prog_2_method_6_code (7 : Nat) (Option.some Jvm.ClassFile.FieldType.int)) ∈ gtb := List.mem_filter.mpr ⟨List.mem_of_getElem? (i := 528) (rfl), rfl⟩
theorem q_525 : (Jvm.Cond.methodLink "TrapDesk" (248 : Nat) ({ cls := "TrapDesk$Bank", name := "enter", desc := "(IIIZ)I" } : Jvm.MethodName)) ∈ gtb := List.mem_filter.mpr ⟨List.mem_of_getElem? (i := 525) (by decide +kernel), rfl⟩
theorem q_526 : (Jvm.Cond.instanceMethod ({ cls := "TrapDesk$Bank", name := "enter", desc := "(IIIZ)I" } : Jvm.MethodName)) ∈ gtb := List.mem_filter.mpr ⟨List.mem_of_getElem? (i := 526) (by decide +kernel), rfl⟩
theorem q_527 : (Jvm.Cond.selects "TrapDesk$Bank" ({ cls := "TrapDesk$Bank", name := "enter", desc := "(IIIZ)I" } : Jvm.MethodName) ({ cls := "TrapDesk$Bank", name := "enter", desc := "(IIIZ)I" } : Jvm.MethodName)) ∈ gtb := List.mem_filter.mpr ⟨List.mem_of_getElem? (i := 527) (by decide +kernel), rfl⟩
set_option maxRecDepth 20000 in
theorem q_520 : (Jvm.Cond.code ({ cls := "TrapDesk", name := "enterVs", desc := "(II)V" } : Jvm.MethodName) prog_1_method_38_code (3 : Nat) (Option.none : Option Jvm.ClassFile.FieldType)) ∈ gtb := List.mem_filter.mpr ⟨List.mem_of_getElem? (i := 520) (rfl), rfl⟩
theorem q_517 : (Jvm.Cond.methodLink "TrapDesk" (112 : Nat) ({ cls := "TrapDesk", name := "enterVs", desc := "(II)V" } : Jvm.MethodName)) ∈ gtb := List.mem_filter.mpr ⟨List.mem_of_getElem? (i := 517) (by decide +kernel), rfl⟩
theorem q_519 : (Jvm.Cond.instanceMethod ({ cls := "TrapDesk", name := "enterVs", desc := "(II)V" } : Jvm.MethodName)) ∈ gtb := List.mem_filter.mpr ⟨List.mem_of_getElem? (i := 519) (by decide +kernel), rfl⟩
theorem q_16 : (Jvm.Cond.selects "TrapDesk" ({ cls := "TrapDesk", name := "enterVs", desc := "(II)V" } : Jvm.MethodName) ({ cls := "TrapDesk", name := "enterVs", desc := "(II)V" } : Jvm.MethodName)) ∈ gtb := List.mem_filter.mpr ⟨List.mem_of_getElem? (i := 16) (by decide +kernel), rfl⟩
theorem q_539 : (Jvm.Cond.constant "TrapDesk" (234 : Nat) (11579643 : Int32)) ∈ gtb := List.mem_filter.mpr ⟨List.mem_of_getElem? (i := 539) (by decide +kernel), rfl⟩
set_option maxRecDepth 20000 in
theorem q_547 : (Jvm.Cond.code ({ cls := "TrapDesk$Hyper", name := "enter", desc := "(ZZZ)V" } : Jvm.MethodName) prog_4_method_11_code (4 : Nat) (Option.none : Option Jvm.ClassFile.FieldType)) ∈ gtb := List.mem_filter.mpr ⟨List.mem_of_getElem? (i := 547) (rfl), rfl⟩
theorem q_544 : (Jvm.Cond.methodLink "TrapDesk" (238 : Nat) ({ cls := "TrapDesk$Hyper", name := "enter", desc := "(ZZZ)V" } : Jvm.MethodName)) ∈ gtb := List.mem_filter.mpr ⟨List.mem_of_getElem? (i := 544) (by decide +kernel), rfl⟩
theorem q_545 : (Jvm.Cond.instanceMethod ({ cls := "TrapDesk$Hyper", name := "enter", desc := "(ZZZ)V" } : Jvm.MethodName)) ∈ gtb := List.mem_filter.mpr ⟨List.mem_of_getElem? (i := 545) (by decide +kernel), rfl⟩
theorem q_546 : (Jvm.Cond.selects "TrapDesk$Hyper" ({ cls := "TrapDesk$Hyper", name := "enter", desc := "(ZZZ)V" } : Jvm.MethodName) ({ cls := "TrapDesk$Hyper", name := "enter", desc := "(ZZZ)V" } : Jvm.MethodName)) ∈ gtb := List.mem_filter.mpr ⟨List.mem_of_getElem? (i := 546) (by decide +kernel), rfl⟩
theorem q_140 : (Jvm.Cond.fieldLink "TrapDesk" (242 : Nat) "TrapDesk$Hyper" "tval" "I") ∈ gtb := List.mem_filter.mpr ⟨List.mem_of_getElem? (i := 140) (by decide +kernel), rfl⟩
theorem q_144 : (Jvm.Cond.fieldLink "TrapDesk" (245 : Nat) "TrapDesk$Hyper" "tinst" "I") ∈ gtb := List.mem_filter.mpr ⟨List.mem_of_getElem? (i := 144) (by decide +kernel), rfl⟩
set_option maxRecDepth 20000 in
theorem q_543 : (Jvm.Cond.code ({ cls := "TrapDesk", name := "enterS", desc := "(IIZII)V" } : Jvm.MethodName) prog_1_method_37_code (6 : Nat) (Option.none : Option Jvm.ClassFile.FieldType)) ∈ gtb := List.mem_filter.mpr ⟨List.mem_of_getElem? (i := 543) (rfl), rfl⟩
theorem q_540 : (Jvm.Cond.methodLink "TrapDesk" (106 : Nat) ({ cls := "TrapDesk", name := "enterS", desc := "(IIZII)V" } : Jvm.MethodName)) ∈ gtb := List.mem_filter.mpr ⟨List.mem_of_getElem? (i := 540) (by decide +kernel), rfl⟩
theorem q_542 : (Jvm.Cond.instanceMethod ({ cls := "TrapDesk", name := "enterS", desc := "(IIZII)V" } : Jvm.MethodName)) ∈ gtb := List.mem_filter.mpr ⟨List.mem_of_getElem? (i := 542) (by decide +kernel), rfl⟩
theorem q_18 : (Jvm.Cond.selects "TrapDesk" ({ cls := "TrapDesk", name := "enterS", desc := "(IIZII)V" } : Jvm.MethodName) ({ cls := "TrapDesk", name := "enterS", desc := "(IIZII)V" } : Jvm.MethodName)) ∈ gtb := List.mem_filter.mpr ⟨List.mem_of_getElem? (i := 18) (by decide +kernel), rfl⟩
set_option maxRecDepth 20000 in
theorem q_513 : (Jvm.Cond.code ({ cls := "TrapDesk", name := "raise", desc := "(IIZII)V" } : Jvm.MethodName) prog_1_method_36_code (7 : Nat) (Option.none : Option Jvm.ClassFile.FieldType)) ∈ gtb := List.mem_filter.mpr ⟨List.mem_of_getElem? (i := 513) (rfl), rfl⟩
theorem q_510 : (Jvm.Cond.methodLink "TrapDesk" (89 : Nat) ({ cls := "TrapDesk", name := "raise", desc := "(IIZII)V" } : Jvm.MethodName)) ∈ gtb := List.mem_filter.mpr ⟨List.mem_of_getElem? (i := 510) (by decide +kernel), rfl⟩
theorem q_512 : (Jvm.Cond.instanceMethod ({ cls := "TrapDesk", name := "raise", desc := "(IIZII)V" } : Jvm.MethodName)) ∈ gtb := List.mem_filter.mpr ⟨List.mem_of_getElem? (i := 512) (by decide +kernel), rfl⟩
theorem q_15 : (Jvm.Cond.selects "TrapDesk" ({ cls := "TrapDesk", name := "raise", desc := "(IIZII)V" } : Jvm.MethodName) ({ cls := "TrapDesk", name := "raise", desc := "(IIZII)V" } : Jvm.MethodName)) ∈ gtb := List.mem_filter.mpr ⟨List.mem_of_getElem? (i := 15) (by decide +kernel), rfl⟩
theorem q_552 : (Jvm.Cond.constant "TrapDesk" (93 : Nat) (11579635 : Int32)) ∈ gtb := List.mem_filter.mpr ⟨List.mem_of_getElem? (i := 552) (by decide +kernel), rfl⟩
theorem q_553 : (Jvm.Cond.constantLong "TrapDesk" (98 : Nat) (17179869184 : Int64)) ∈ gtb := List.mem_filter.mpr ⟨List.mem_of_getElem? (i := 553) (by decide +kernel), rfl⟩
theorem q_554 : (Jvm.Cond.constant "TrapDesk" (100 : Nat) (11534336 : Int32)) ∈ gtb := List.mem_filter.mpr ⟨List.mem_of_getElem? (i := 554) (by decide +kernel), rfl⟩
theorem q_563 : (Jvm.Cond.methodLink "TrapDesk" (251 : Nat) ({ cls := "TrapDesk$Bank", name := "hasInterruptsOn", desc := "()Z" } : Jvm.MethodName)) ∈ gtb := List.mem_filter.mpr ⟨List.mem_of_getElem? (i := 563) (by decide +kernel), rfl⟩
theorem q_564 : (Jvm.Cond.fieldLink "TrapDesk" (254 : Nat) "TrapDesk" "ORDER_FOR_S" "[I") ∈ gtb := List.mem_filter.mpr ⟨List.mem_of_getElem? (i := 564) (by decide +kernel), rfl⟩
theorem q_142 : (Jvm.Cond.fieldLink "TrapDesk$Controls" (108 : Nat) "TrapDesk$Hyper" "vip" "I") ∈ gtb := List.mem_filter.mpr ⟨List.mem_of_getElem? (i := 142) (by decide +kernel), rfl⟩
theorem q_138 : (Jvm.Cond.fieldLink "TrapDesk$Controls" (111 : Nat) "TrapDesk$Hyper" "ie" "I") ∈ gtb := List.mem_filter.mpr ⟨List.mem_of_getElem? (i := 138) (by decide +kernel), rfl⟩
theorem q_136 : (Jvm.Cond.fieldLink "TrapDesk$Controls" (114 : Nat) "TrapDesk$Hyper" "ideleg" "I") ∈ gtb := List.mem_filter.mpr ⟨List.mem_of_getElem? (i := 136) (by decide +kernel), rfl⟩
set_option maxRecDepth 20000 in
theorem q_569 : (Jvm.Cond.code ({ cls := "TrapDesk$Controls", name := "waitingForS", desc := "()I" } : Jvm.MethodName) prog_3_method_10_code (1 : Nat) (Option.some Jvm.ClassFile.FieldType.int)) ∈ gtb := List.mem_filter.mpr ⟨List.mem_of_getElem? (i := 569) (rfl), rfl⟩
theorem q_566 : (Jvm.Cond.methodLink "TrapDesk" (258 : Nat) ({ cls := "TrapDesk$Controls", name := "waitingForS", desc := "()I" } : Jvm.MethodName)) ∈ gtb := List.mem_filter.mpr ⟨List.mem_of_getElem? (i := 566) (by decide +kernel), rfl⟩
theorem q_567 : (Jvm.Cond.instanceMethod ({ cls := "TrapDesk$Controls", name := "waitingForS", desc := "()I" } : Jvm.MethodName)) ∈ gtb := List.mem_filter.mpr ⟨List.mem_of_getElem? (i := 567) (by decide +kernel), rfl⟩
theorem q_568 : (Jvm.Cond.selects "TrapDesk$Controls" ({ cls := "TrapDesk$Controls", name := "waitingForS", desc := "()I" } : Jvm.MethodName) ({ cls := "TrapDesk$Controls", name := "waitingForS", desc := "()I" } : Jvm.MethodName)) ∈ gtb := List.mem_filter.mpr ⟨List.mem_of_getElem? (i := 568) (by decide +kernel), rfl⟩
set_option maxRecDepth 20000 in
theorem q_572 : (Jvm.Cond.code ({ cls := "TrapDesk", name := "firstOf", desc := "([II)I" } : Jvm.MethodName) prog_1_method_41_code (3 : Nat) (Option.some Jvm.ClassFile.FieldType.int)) ∈ gtb := List.mem_filter.mpr ⟨List.mem_of_getElem? (i := 572) (rfl), rfl⟩
theorem q_570 : (Jvm.Cond.methodLink "TrapDesk" (261 : Nat) ({ cls := "TrapDesk", name := "firstOf", desc := "([II)I" } : Jvm.MethodName)) ∈ gtb := List.mem_filter.mpr ⟨List.mem_of_getElem? (i := 570) (by decide +kernel), rfl⟩
theorem q_571 : (Jvm.Cond.static ({ cls := "TrapDesk", name := "firstOf", desc := "([II)I" } : Jvm.MethodName)) ∈ gtb := List.mem_filter.mpr ⟨List.mem_of_getElem? (i := 571) (by decide +kernel), rfl⟩
set_option maxRecDepth 20000 in
theorem q_562 : (Jvm.Cond.code ({ cls := "TrapDesk", name := "dueForS", desc := "()I" } : Jvm.MethodName) prog_1_method_39_code (1 : Nat) (Option.some Jvm.ClassFile.FieldType.int)) ∈ gtb := List.mem_filter.mpr ⟨List.mem_of_getElem? (i := 562) (rfl), rfl⟩
theorem q_559 : (Jvm.Cond.methodLink "TrapDesk" (101 : Nat) ({ cls := "TrapDesk", name := "dueForS", desc := "()I" } : Jvm.MethodName)) ∈ gtb := List.mem_filter.mpr ⟨List.mem_of_getElem? (i := 559) (by decide +kernel), rfl⟩
theorem q_561 : (Jvm.Cond.instanceMethod ({ cls := "TrapDesk", name := "dueForS", desc := "()I" } : Jvm.MethodName)) ∈ gtb := List.mem_filter.mpr ⟨List.mem_of_getElem? (i := 561) (by decide +kernel), rfl⟩
theorem q_19 : (Jvm.Cond.selects "TrapDesk" ({ cls := "TrapDesk", name := "dueForS", desc := "()I" } : Jvm.MethodName) ({ cls := "TrapDesk", name := "dueForS", desc := "()I" } : Jvm.MethodName)) ∈ gtb := List.mem_filter.mpr ⟨List.mem_of_getElem? (i := 19) (by decide +kernel), rfl⟩
theorem q_578 : (Jvm.Cond.fieldLink "TrapDesk" (265 : Nat) "TrapDesk" "ORDER_FOR_VS" "[I") ∈ gtb := List.mem_filter.mpr ⟨List.mem_of_getElem? (i := 578) (by decide +kernel), rfl⟩
set_option maxRecDepth 20000 in
theorem q_583 : (Jvm.Cond.code ({ cls := "TrapDesk$Controls", name := "waitingForVs", desc := "()I" } : Jvm.MethodName) prog_3_method_11_code (1 : Nat) (Option.some Jvm.ClassFile.FieldType.int)) ∈ gtb := List.mem_filter.mpr ⟨List.mem_of_getElem? (i := 583) (rfl), rfl⟩
theorem q_580 : (Jvm.Cond.methodLink "TrapDesk" (268 : Nat) ({ cls := "TrapDesk$Controls", name := "waitingForVs", desc := "()I" } : Jvm.MethodName)) ∈ gtb := List.mem_filter.mpr ⟨List.mem_of_getElem? (i := 580) (by decide +kernel), rfl⟩
theorem q_581 : (Jvm.Cond.instanceMethod ({ cls := "TrapDesk$Controls", name := "waitingForVs", desc := "()I" } : Jvm.MethodName)) ∈ gtb := List.mem_filter.mpr ⟨List.mem_of_getElem? (i := 581) (by decide +kernel), rfl⟩
theorem q_582 : (Jvm.Cond.selects "TrapDesk$Controls" ({ cls := "TrapDesk$Controls", name := "waitingForVs", desc := "()I" } : Jvm.MethodName) ({ cls := "TrapDesk$Controls", name := "waitingForVs", desc := "()I" } : Jvm.MethodName)) ∈ gtb := List.mem_filter.mpr ⟨List.mem_of_getElem? (i := 582) (by decide +kernel), rfl⟩
set_option maxRecDepth 20000 in
theorem q_577 : (Jvm.Cond.code ({ cls := "TrapDesk", name := "dueForVs", desc := "()I" } : Jvm.MethodName) prog_1_method_40_code (2 : Nat) (Option.some Jvm.ClassFile.FieldType.int)) ∈ gtb := List.mem_filter.mpr ⟨List.mem_of_getElem? (i := 577) (rfl), rfl⟩
theorem q_574 : (Jvm.Cond.methodLink "TrapDesk" (109 : Nat) ({ cls := "TrapDesk", name := "dueForVs", desc := "()I" } : Jvm.MethodName)) ∈ gtb := List.mem_filter.mpr ⟨List.mem_of_getElem? (i := 574) (by decide +kernel), rfl⟩
theorem q_576 : (Jvm.Cond.instanceMethod ({ cls := "TrapDesk", name := "dueForVs", desc := "()I" } : Jvm.MethodName)) ∈ gtb := List.mem_filter.mpr ⟨List.mem_of_getElem? (i := 576) (by decide +kernel), rfl⟩
theorem q_20 : (Jvm.Cond.selects "TrapDesk" ({ cls := "TrapDesk", name := "dueForVs", desc := "()I" } : Jvm.MethodName) ({ cls := "TrapDesk", name := "dueForVs", desc := "()I" } : Jvm.MethodName)) ∈ gtb := List.mem_filter.mpr ⟨List.mem_of_getElem? (i := 20) (by decide +kernel), rfl⟩
theorem q_573 : (Jvm.Cond.constant "TrapDesk" (105 : Nat) (-2147483648 : Int32)) ∈ gtb := List.mem_filter.mpr ⟨List.mem_of_getElem? (i := 573) (by decide +kernel), rfl⟩
theorem q_72 : (Jvm.Cond.fieldLink "TrapDesk" (115 : Nat) "TrapDesk$Outside" "printed" "I") ∈ gtb := List.mem_filter.mpr ⟨List.mem_of_getElem? (i := 72) (by decide +kernel), rfl⟩
theorem q_77 : (Jvm.Cond.fieldLink "TrapDesk" (118 : Nat) "TrapDesk$Outside" "alarm" "J") ∈ gtb := List.mem_filter.mpr ⟨List.mem_of_getElem? (i := 77) (by decide +kernel), rfl⟩
set_option maxRecDepth 20000 in
theorem q_595 : (Jvm.Cond.code ({ cls := "TrapDesk$Outside", name := "printedByte", desc := "(I)I" } : Jvm.MethodName) prog_6_method_7_code (2 : Nat) (Option.some Jvm.ClassFile.FieldType.int)) ∈ gtb := List.mem_filter.mpr ⟨List.mem_of_getElem? (i := 595) (rfl), rfl⟩
theorem q_592 : (Jvm.Cond.methodLink "TrapDesk" (121 : Nat) ({ cls := "TrapDesk$Outside", name := "printedByte", desc := "(I)I" } : Jvm.MethodName)) ∈ gtb := List.mem_filter.mpr ⟨List.mem_of_getElem? (i := 592) (by decide +kernel), rfl⟩
theorem q_593 : (Jvm.Cond.instanceMethod ({ cls := "TrapDesk$Outside", name := "printedByte", desc := "(I)I" } : Jvm.MethodName)) ∈ gtb := List.mem_filter.mpr ⟨List.mem_of_getElem? (i := 593) (by decide +kernel), rfl⟩
theorem q_594 : (Jvm.Cond.selects "TrapDesk$Outside" ({ cls := "TrapDesk$Outside", name := "printedByte", desc := "(I)I" } : Jvm.MethodName) ({ cls := "TrapDesk$Outside", name := "printedByte", desc := "(I)I" } : Jvm.MethodName)) ∈ gtb := List.mem_filter.mpr ⟨List.mem_of_getElem? (i := 594) (by decide +kernel), rfl⟩
end
section
def k_Outside_reset (so : ob) : ob :=
  (oz (oz (ol (ol (oi so 1 0) 2 0) 3 9223372036854775807) 4 false) 5 false)
set_option maxHeartbeats 4000000 in
set_option maxRecDepth 100000 in
theorem c_Outside_reset (l : Launch) (G : gx) (tys : List (ClassId × FieldType)) (qo qa : Nat) (so : ob) : ct_V l y_Outside_reset ws_Outside_reset ({ frames := 0, cells := 0, slots := 0, locals := 0 }) G tys [.ref qo] [(qo, .inr (3, f_Outside qa so))] [(qo, .inr (3, f_Outside qa (k_Outside_reset so)))] := by
  refine ct_hV (cc := cc_Outside_reset) (maxL := 1) (ret := none) (by decide) rfl (Nat.le_of_ble_eq_true rfl) ?_
  intro p e s m below meth c A ls hx hb hr hml hts hown hlocks hP hK hD hA hE hS hl
  have hl : lv_has ls 1 [(0, .ref qo)] := hl
  have hown : s.vm.findClass R_Outside = some m.cls := hown
  refine lv_aload_n hx hb d_Outside_reset_0 rfl (lv_at hl 0 rfl) ?_
  refine lv_iconst (v := 0) hx hb d_Outside_reset_1 (by decide) ?_
  refine va_put (D := G.1) (ci := 3) (v := .int 0) (ty := .int) (C := R_Outside) (T := T_Outside) (N := 6) hx hb hts (fun w h => gd_sub _ (iw_Outside w h)) ty_Outside tyok_Outside nm_Outside hown hK hP hD hS 0 rfl rfl 1 (by decide) (hts _ (gd_sub _ q_71)) (fun _ h9 => h9) rfl (by decide +kernel) rfl rfl (Nat.le_of_ble_eq_true rfl) d_Outside_reset_2 (fun H locs hP hD hS => ?_)
  have hP : va_P G.1 vwCl [(qo, .inr (3, f_Outside qa (oi so 1 0)))] H := hP
  have hD : va_D A [(qo, .inr (3, f_Outside qa (oi so 1 0)))] := hD
  refine lv_aload_n hx hb d_Outside_reset_5 rfl (lv_at hl 0 rfl) ?_
  refine lv_lconst (v := 0) hx hb d_Outside_reset_6 (by decide) ?_
  refine va_put (D := G.1) (ci := 3) (v := .long 0) (ty := .long) (C := R_Outside) (T := T_Outside) (N := 6) hx hb hts (fun w h => gd_sub _ (iw_Outside w h)) ty_Outside tyok_Outside nm_Outside hown hK hP hD hS 0 rfl rfl 2 (by decide) (hts _ (gd_sub _ q_73)) (fun _ h9 => h9) rfl (by decide +kernel) rfl rfl (Nat.le_of_ble_eq_true rfl) d_Outside_reset_7 (fun H locs hP hD hS => ?_)
  have hP : va_P G.1 vwCl [(qo, .inr (3, f_Outside qa (ol (oi so 1 0) 2 0)))] H := hP
  have hD : va_D A [(qo, .inr (3, f_Outside qa (ol (oi so 1 0) 2 0)))] := hD
  refine lv_aload_n hx hb d_Outside_reset_10 rfl (lv_at hl 0 rfl) ?_
  refine lv_ldc2 (v := 9223372036854775807) hx hb hown (hts _ (gd_sub _ q_69)) d_Outside_reset_11 ?_
  refine va_put (D := G.1) (ci := 3) (v := .long 9223372036854775807) (ty := .long) (C := R_Outside) (T := T_Outside) (N := 6) hx hb hts (fun w h => gd_sub _ (iw_Outside w h)) ty_Outside tyok_Outside nm_Outside hown hK hP hD hS 0 rfl rfl 3 (by decide) (hts _ (gd_sub _ q_76)) (fun _ h9 => h9) rfl (by decide +kernel) rfl rfl (Nat.le_of_ble_eq_true rfl) d_Outside_reset_14 (fun H locs hP hD hS => ?_)
  have hP : va_P G.1 vwCl [(qo, .inr (3, f_Outside qa (ol (ol (oi so 1 0) 2 0) 3 9223372036854775807)))] H := hP
  have hD : va_D A [(qo, .inr (3, f_Outside qa (ol (ol (oi so 1 0) 2 0) 3 9223372036854775807)))] := hD
  refine lv_aload_n hx hb d_Outside_reset_17 rfl (lv_at hl 0 rfl) ?_
  refine lv_iconst (v := 0) hx hb d_Outside_reset_18 (by decide) ?_
  refine va_put (D := G.1) (ci := 3) (v := .int 0) (ty := .boolean) (C := R_Outside) (T := T_Outside) (N := 6) hx hb hts (fun w h => gd_sub _ (iw_Outside w h)) ty_Outside tyok_Outside nm_Outside hown hK hP hD hS 0 rfl rfl 4 (by decide) (hts _ (gd_sub _ q_78)) (fun _ h9 => h9) rfl (by decide +kernel) rfl rfl (Nat.le_of_ble_eq_true rfl) d_Outside_reset_19 (fun H locs hP hD hS => ?_)
  have hP : va_P G.1 vwCl [(qo, .inr (3, f_Outside qa (oz (ol (ol (oi so 1 0) 2 0) 3 9223372036854775807) 4 false)))] H := hP
  have hD : va_D A [(qo, .inr (3, f_Outside qa (oz (ol (ol (oi so 1 0) 2 0) 3 9223372036854775807) 4 false)))] := hD
  refine lv_aload_n hx hb d_Outside_reset_22 rfl (lv_at hl 0 rfl) ?_
  refine lv_iconst (v := 0) hx hb d_Outside_reset_23 (by decide) ?_
  refine va_put (D := G.1) (ci := 3) (v := .int 0) (ty := .boolean) (C := R_Outside) (T := T_Outside) (N := 6) hx hb hts (fun w h => gd_sub _ (iw_Outside w h)) ty_Outside tyok_Outside nm_Outside hown hK hP hD hS 0 rfl rfl 5 (by decide) (hts _ (gd_sub _ q_81)) (fun _ h9 => h9) rfl (by decide +kernel) rfl rfl (Nat.le_of_ble_eq_true rfl) d_Outside_reset_24 (fun H locs hP hD hS => ?_)
  have hP : va_P G.1 vwCl [(qo, .inr (3, f_Outside qa (oz (oz (ol (ol (oi so 1 0) 2 0) 3 9223372036854775807) 4 false) 5 false)))] H := hP
  have hD : va_D A [(qo, .inr (3, f_Outside qa (oz (oz (ol (ol (oi so 1 0) 2 0) 3 9223372036854775807) 4 false) 5 false)))] := hD
  have hk : k_Outside_reset so = (oz (oz (ol (ol (oi so 1 0) 2 0) 3 9223372036854775807) 4 false) 5 false) := (by rw [k_Outside_reset]; try rfl)
  exact ct_rv hx hb hr hlocks hP hD hK hS d_Outside_reset_27 (by rw [hk]; first | done | rfl)
def k_Bank_reset (sb : ob) : ob :=
  (oi (oi (oi (oi (oi (oi (oi sb 0 0) 1 0) 2 0) 3 0) 4 0) 5 0) 6 0)
set_option maxHeartbeats 4000000 in
set_option maxRecDepth 100000 in
theorem c_Bank_reset (l : Launch) (G : gx) (tys : List (ClassId × FieldType)) (qb : Nat) (sb : ob) : ct_V l y_Bank_reset ws_Bank_reset ({ frames := 0, cells := 0, slots := 0, locals := 0 }) G tys [.ref qb] [(qb, .inr (0, f_Bank sb))] [(qb, .inr (0, f_Bank (k_Bank_reset sb)))] := by
  refine ct_hV (cc := cc_Bank_reset) (maxL := 1) (ret := none) (by decide) rfl (Nat.le_of_ble_eq_true rfl) ?_
  intro p e s m below meth c A ls hx hb hr hml hts hown hlocks hP hK hD hA hE hS hl
  have hl : lv_has ls 1 [(0, .ref qb)] := hl
  have hown : s.vm.findClass R_Bank = some m.cls := hown
  refine lv_aload_n hx hb d_Bank_reset_0 rfl (lv_at hl 0 rfl) ?_
  refine lv_iconst (v := 0) hx hb d_Bank_reset_1 (by decide) ?_
  refine va_put (D := G.1) (ci := 0) (v := .int 0) (ty := .int) (C := R_Bank) (T := T_Bank) (N := 7) hx hb hts (fun w h => gd_sub _ (iw_Bank w h)) ty_Bank tyok_Bank nm_Bank hown hK hP hD hS 0 rfl rfl 0 (by decide) (hts _ (gd_sub _ q_103)) (fun _ h9 => h9) rfl (by decide +kernel) rfl rfl (Nat.le_of_ble_eq_true rfl) d_Bank_reset_2 (fun H locs hP hD hS => ?_)
  have hP : va_P G.1 vwCl [(qb, .inr (0, f_Bank (oi sb 0 0)))] H := hP
  have hD : va_D A [(qb, .inr (0, f_Bank (oi sb 0 0)))] := hD
  refine lv_aload_n hx hb d_Bank_reset_5 rfl (lv_at hl 0 rfl) ?_
  refine lv_iconst (v := 0) hx hb d_Bank_reset_6 (by decide) ?_
  refine va_put (D := G.1) (ci := 0) (v := .int 0) (ty := .int) (C := R_Bank) (T := T_Bank) (N := 7) hx hb hts (fun w h => gd_sub _ (iw_Bank w h)) ty_Bank tyok_Bank nm_Bank hown hK hP hD hS 0 rfl rfl 1 (by decide) (hts _ (gd_sub _ q_104)) (fun _ h9 => h9) rfl (by decide +kernel) rfl rfl (Nat.le_of_ble_eq_true rfl) d_Bank_reset_7 (fun H locs hP hD hS => ?_)
  have hP : va_P G.1 vwCl [(qb, .inr (0, f_Bank (oi (oi sb 0 0) 1 0)))] H := hP
  have hD : va_D A [(qb, .inr (0, f_Bank (oi (oi sb 0 0) 1 0)))] := hD
  refine lv_aload_n hx hb d_Bank_reset_10 rfl (lv_at hl 0 rfl) ?_
  refine lv_iconst (v := 0) hx hb d_Bank_reset_11 (by decide) ?_
  refine va_put (D := G.1) (ci := 0) (v := .int 0) (ty := .int) (C := R_Bank) (T := T_Bank) (N := 7) hx hb hts (fun w h => gd_sub _ (iw_Bank w h)) ty_Bank tyok_Bank nm_Bank hown hK hP hD hS 0 rfl rfl 2 (by decide) (hts _ (gd_sub _ q_105)) (fun _ h9 => h9) rfl (by decide +kernel) rfl rfl (Nat.le_of_ble_eq_true rfl) d_Bank_reset_12 (fun H locs hP hD hS => ?_)
  have hP : va_P G.1 vwCl [(qb, .inr (0, f_Bank (oi (oi (oi sb 0 0) 1 0) 2 0)))] H := hP
  have hD : va_D A [(qb, .inr (0, f_Bank (oi (oi (oi sb 0 0) 1 0) 2 0)))] := hD
  refine lv_aload_n hx hb d_Bank_reset_15 rfl (lv_at hl 0 rfl) ?_
  refine lv_iconst (v := 0) hx hb d_Bank_reset_16 (by decide) ?_
  refine va_put (D := G.1) (ci := 0) (v := .int 0) (ty := .int) (C := R_Bank) (T := T_Bank) (N := 7) hx hb hts (fun w h => gd_sub _ (iw_Bank w h)) ty_Bank tyok_Bank nm_Bank hown hK hP hD hS 0 rfl rfl 3 (by decide) (hts _ (gd_sub _ q_106)) (fun _ h9 => h9) rfl (by decide +kernel) rfl rfl (Nat.le_of_ble_eq_true rfl) d_Bank_reset_17 (fun H locs hP hD hS => ?_)
  have hP : va_P G.1 vwCl [(qb, .inr (0, f_Bank (oi (oi (oi (oi sb 0 0) 1 0) 2 0) 3 0)))] H := hP
  have hD : va_D A [(qb, .inr (0, f_Bank (oi (oi (oi (oi sb 0 0) 1 0) 2 0) 3 0)))] := hD
  refine lv_aload_n hx hb d_Bank_reset_20 rfl (lv_at hl 0 rfl) ?_
  refine lv_iconst (v := 0) hx hb d_Bank_reset_21 (by decide) ?_
  refine va_put (D := G.1) (ci := 0) (v := .int 0) (ty := .int) (C := R_Bank) (T := T_Bank) (N := 7) hx hb hts (fun w h => gd_sub _ (iw_Bank w h)) ty_Bank tyok_Bank nm_Bank hown hK hP hD hS 0 rfl rfl 4 (by decide) (hts _ (gd_sub _ q_108)) (fun _ h9 => h9) rfl (by decide +kernel) rfl rfl (Nat.le_of_ble_eq_true rfl) d_Bank_reset_22 (fun H locs hP hD hS => ?_)
  have hP : va_P G.1 vwCl [(qb, .inr (0, f_Bank (oi (oi (oi (oi (oi sb 0 0) 1 0) 2 0) 3 0) 4 0)))] H := hP
  have hD : va_D A [(qb, .inr (0, f_Bank (oi (oi (oi (oi (oi sb 0 0) 1 0) 2 0) 3 0) 4 0)))] := hD
  refine lv_aload_n hx hb d_Bank_reset_25 rfl (lv_at hl 0 rfl) ?_
  refine lv_iconst (v := 0) hx hb d_Bank_reset_26 (by decide) ?_
  refine va_put (D := G.1) (ci := 0) (v := .int 0) (ty := .int) (C := R_Bank) (T := T_Bank) (N := 7) hx hb hts (fun w h => gd_sub _ (iw_Bank w h)) ty_Bank tyok_Bank nm_Bank hown hK hP hD hS 0 rfl rfl 5 (by decide) (hts _ (gd_sub _ q_109)) (fun _ h9 => h9) rfl (by decide +kernel) rfl rfl (Nat.le_of_ble_eq_true rfl) d_Bank_reset_27 (fun H locs hP hD hS => ?_)
  have hP : va_P G.1 vwCl [(qb, .inr (0, f_Bank (oi (oi (oi (oi (oi (oi sb 0 0) 1 0) 2 0) 3 0) 4 0) 5 0)))] H := hP
  have hD : va_D A [(qb, .inr (0, f_Bank (oi (oi (oi (oi (oi (oi sb 0 0) 1 0) 2 0) 3 0) 4 0) 5 0)))] := hD
  refine lv_aload_n hx hb d_Bank_reset_30 rfl (lv_at hl 0 rfl) ?_
  refine lv_iconst (v := 0) hx hb d_Bank_reset_31 (by decide) ?_
  refine va_put (D := G.1) (ci := 0) (v := .int 0) (ty := .int) (C := R_Bank) (T := T_Bank) (N := 7) hx hb hts (fun w h => gd_sub _ (iw_Bank w h)) ty_Bank tyok_Bank nm_Bank hown hK hP hD hS 0 rfl rfl 6 (by decide) (hts _ (gd_sub _ q_110)) (fun _ h9 => h9) rfl (by decide +kernel) rfl rfl (Nat.le_of_ble_eq_true rfl) d_Bank_reset_32 (fun H locs hP hD hS => ?_)
  have hP : va_P G.1 vwCl [(qb, .inr (0, f_Bank (oi (oi (oi (oi (oi (oi (oi sb 0 0) 1 0) 2 0) 3 0) 4 0) 5 0) 6 0)))] H := hP
  have hD : va_D A [(qb, .inr (0, f_Bank (oi (oi (oi (oi (oi (oi (oi sb 0 0) 1 0) 2 0) 3 0) 4 0) 5 0) 6 0)))] := hD
  have hk : k_Bank_reset sb = (oi (oi (oi (oi (oi (oi (oi sb 0 0) 1 0) 2 0) 3 0) 4 0) 5 0) 6 0) := (by rw [k_Bank_reset]; try rfl)
  exact ct_rv hx hb hr hlocks hP hD hK hS d_Bank_reset_35 (by rw [hk]; first | done | rfl)
def k_Hyper_reset (sy : ob) : ob :=
  (oi (oi (oi (oi (oi (oi (oi (oi sy 0 0) 1 0) 2 0) 3 0) 4 0) 5 0) 6 0) 7 0)
set_option maxHeartbeats 4000000 in
set_option maxRecDepth 100000 in
theorem c_Hyper_reset (l : Launch) (G : gx) (tys : List (ClassId × FieldType)) (qy : Nat) (sy : ob) : ct_V l y_Hyper_reset ws_Hyper_reset ({ frames := 0, cells := 0, slots := 0, locals := 0 }) G tys [.ref qy] [(qy, .inr (2, f_Hyper sy))] [(qy, .inr (2, f_Hyper (k_Hyper_reset sy)))] := by
  refine ct_hV (cc := cc_Hyper_reset) (maxL := 1) (ret := none) (by decide) rfl (Nat.le_of_ble_eq_true rfl) ?_
  intro p e s m below meth c A ls hx hb hr hml hts hown hlocks hP hK hD hA hE hS hl
  have hl : lv_has ls 1 [(0, .ref qy)] := hl
  have hown : s.vm.findClass R_Hyper = some m.cls := hown
  refine lv_aload_n hx hb d_Hyper_reset_0 rfl (lv_at hl 0 rfl) ?_
  refine lv_iconst (v := 0) hx hb d_Hyper_reset_1 (by decide) ?_
  refine va_put (D := G.1) (ci := 2) (v := .int 0) (ty := .int) (C := R_Hyper) (T := T_Hyper) (N := 8) hx hb hts (fun w h => gd_sub _ (iw_Hyper w h)) ty_Hyper tyok_Hyper nm_Hyper hown hK hP hD hS 0 rfl rfl 0 (by decide) (hts _ (gd_sub _ q_132)) (fun _ h9 => h9) rfl (by decide +kernel) rfl rfl (Nat.le_of_ble_eq_true rfl) d_Hyper_reset_2 (fun H locs hP hD hS => ?_)
  have hP : va_P G.1 vwCl [(qy, .inr (2, f_Hyper (oi sy 0 0)))] H := hP
  have hD : va_D A [(qy, .inr (2, f_Hyper (oi sy 0 0)))] := hD
  refine lv_aload_n hx hb d_Hyper_reset_5 rfl (lv_at hl 0 rfl) ?_
  refine lv_iconst (v := 0) hx hb d_Hyper_reset_6 (by decide) ?_
  refine va_put (D := G.1) (ci := 2) (v := .int 0) (ty := .int) (C := R_Hyper) (T := T_Hyper) (N := 8) hx hb hts (fun w h => gd_sub _ (iw_Hyper w h)) ty_Hyper tyok_Hyper nm_Hyper hown hK hP hD hS 0 rfl rfl 1 (by decide) (hts _ (gd_sub _ q_133)) (fun _ h9 => h9) rfl (by decide +kernel) rfl rfl (Nat.le_of_ble_eq_true rfl) d_Hyper_reset_7 (fun H locs hP hD hS => ?_)
  have hP : va_P G.1 vwCl [(qy, .inr (2, f_Hyper (oi (oi sy 0 0) 1 0)))] H := hP
  have hD : va_D A [(qy, .inr (2, f_Hyper (oi (oi sy 0 0) 1 0)))] := hD
  refine lv_aload_n hx hb d_Hyper_reset_10 rfl (lv_at hl 0 rfl) ?_
  refine lv_iconst (v := 0) hx hb d_Hyper_reset_11 (by decide) ?_
  refine va_put (D := G.1) (ci := 2) (v := .int 0) (ty := .int) (C := R_Hyper) (T := T_Hyper) (N := 8) hx hb hts (fun w h => gd_sub _ (iw_Hyper w h)) ty_Hyper tyok_Hyper nm_Hyper hown hK hP hD hS 0 rfl rfl 2 (by decide) (hts _ (gd_sub _ q_135)) (fun _ h9 => h9) rfl (by decide +kernel) rfl rfl (Nat.le_of_ble_eq_true rfl) d_Hyper_reset_12 (fun H locs hP hD hS => ?_)
  have hP : va_P G.1 vwCl [(qy, .inr (2, f_Hyper (oi (oi (oi sy 0 0) 1 0) 2 0)))] H := hP
  have hD : va_D A [(qy, .inr (2, f_Hyper (oi (oi (oi sy 0 0) 1 0) 2 0)))] := hD
  refine lv_aload_n hx hb d_Hyper_reset_15 rfl (lv_at hl 0 rfl) ?_
  refine lv_iconst (v := 0) hx hb d_Hyper_reset_16 (by decide) ?_
  refine va_put (D := G.1) (ci := 2) (v := .int 0) (ty := .int) (C := R_Hyper) (T := T_Hyper) (N := 8) hx hb hts (fun w h => gd_sub _ (iw_Hyper w h)) ty_Hyper tyok_Hyper nm_Hyper hown hK hP hD hS 0 rfl rfl 3 (by decide) (hts _ (gd_sub _ q_137)) (fun _ h9 => h9) rfl (by decide +kernel) rfl rfl (Nat.le_of_ble_eq_true rfl) d_Hyper_reset_17 (fun H locs hP hD hS => ?_)
  have hP : va_P G.1 vwCl [(qy, .inr (2, f_Hyper (oi (oi (oi (oi sy 0 0) 1 0) 2 0) 3 0)))] H := hP
  have hD : va_D A [(qy, .inr (2, f_Hyper (oi (oi (oi (oi sy 0 0) 1 0) 2 0) 3 0)))] := hD
  refine lv_aload_n hx hb d_Hyper_reset_20 rfl (lv_at hl 0 rfl) ?_
  refine lv_iconst (v := 0) hx hb d_Hyper_reset_21 (by decide) ?_
  refine va_put (D := G.1) (ci := 2) (v := .int 0) (ty := .int) (C := R_Hyper) (T := T_Hyper) (N := 8) hx hb hts (fun w h => gd_sub _ (iw_Hyper w h)) ty_Hyper tyok_Hyper nm_Hyper hown hK hP hD hS 0 rfl rfl 4 (by decide) (hts _ (gd_sub _ q_139)) (fun _ h9 => h9) rfl (by decide +kernel) rfl rfl (Nat.le_of_ble_eq_true rfl) d_Hyper_reset_22 (fun H locs hP hD hS => ?_)
  have hP : va_P G.1 vwCl [(qy, .inr (2, f_Hyper (oi (oi (oi (oi (oi sy 0 0) 1 0) 2 0) 3 0) 4 0)))] H := hP
  have hD : va_D A [(qy, .inr (2, f_Hyper (oi (oi (oi (oi (oi sy 0 0) 1 0) 2 0) 3 0) 4 0)))] := hD
  refine lv_aload_n hx hb d_Hyper_reset_25 rfl (lv_at hl 0 rfl) ?_
  refine lv_iconst (v := 0) hx hb d_Hyper_reset_26 (by decide) ?_
  refine va_put (D := G.1) (ci := 2) (v := .int 0) (ty := .int) (C := R_Hyper) (T := T_Hyper) (N := 8) hx hb hts (fun w h => gd_sub _ (iw_Hyper w h)) ty_Hyper tyok_Hyper nm_Hyper hown hK hP hD hS 0 rfl rfl 5 (by decide) (hts _ (gd_sub _ q_141)) (fun _ h9 => h9) rfl (by decide +kernel) rfl rfl (Nat.le_of_ble_eq_true rfl) d_Hyper_reset_27 (fun H locs hP hD hS => ?_)
  have hP : va_P G.1 vwCl [(qy, .inr (2, f_Hyper (oi (oi (oi (oi (oi (oi sy 0 0) 1 0) 2 0) 3 0) 4 0) 5 0)))] H := hP
  have hD : va_D A [(qy, .inr (2, f_Hyper (oi (oi (oi (oi (oi (oi sy 0 0) 1 0) 2 0) 3 0) 4 0) 5 0)))] := hD
  refine lv_aload_n hx hb d_Hyper_reset_30 rfl (lv_at hl 0 rfl) ?_
  refine lv_iconst (v := 0) hx hb d_Hyper_reset_31 (by decide) ?_
  refine va_put (D := G.1) (ci := 2) (v := .int 0) (ty := .int) (C := R_Hyper) (T := T_Hyper) (N := 8) hx hb hts (fun w h => gd_sub _ (iw_Hyper w h)) ty_Hyper tyok_Hyper nm_Hyper hown hK hP hD hS 0 rfl rfl 6 (by decide) (hts _ (gd_sub _ q_143)) (fun _ h9 => h9) rfl (by decide +kernel) rfl rfl (Nat.le_of_ble_eq_true rfl) d_Hyper_reset_32 (fun H locs hP hD hS => ?_)
  have hP : va_P G.1 vwCl [(qy, .inr (2, f_Hyper (oi (oi (oi (oi (oi (oi (oi sy 0 0) 1 0) 2 0) 3 0) 4 0) 5 0) 6 0)))] H := hP
  have hD : va_D A [(qy, .inr (2, f_Hyper (oi (oi (oi (oi (oi (oi (oi sy 0 0) 1 0) 2 0) 3 0) 4 0) 5 0) 6 0)))] := hD
  refine lv_aload_n hx hb d_Hyper_reset_35 rfl (lv_at hl 0 rfl) ?_
  refine lv_iconst (v := 0) hx hb d_Hyper_reset_36 (by decide) ?_
  refine va_put (D := G.1) (ci := 2) (v := .int 0) (ty := .int) (C := R_Hyper) (T := T_Hyper) (N := 8) hx hb hts (fun w h => gd_sub _ (iw_Hyper w h)) ty_Hyper tyok_Hyper nm_Hyper hown hK hP hD hS 0 rfl rfl 7 (by decide) (hts _ (gd_sub _ q_145)) (fun _ h9 => h9) rfl (by decide +kernel) rfl rfl (Nat.le_of_ble_eq_true rfl) d_Hyper_reset_37 (fun H locs hP hD hS => ?_)
  have hP : va_P G.1 vwCl [(qy, .inr (2, f_Hyper (oi (oi (oi (oi (oi (oi (oi (oi sy 0 0) 1 0) 2 0) 3 0) 4 0) 5 0) 6 0) 7 0)))] H := hP
  have hD : va_D A [(qy, .inr (2, f_Hyper (oi (oi (oi (oi (oi (oi (oi (oi sy 0 0) 1 0) 2 0) 3 0) 4 0) 5 0) 6 0) 7 0)))] := hD
  have hk : k_Hyper_reset sy = (oi (oi (oi (oi (oi (oi (oi (oi sy 0 0) 1 0) 2 0) 3 0) 4 0) 5 0) 6 0) 7 0) := (by rw [k_Hyper_reset]; try rfl)
  exact ct_rv hx hb hr hlocks hP hD hK hS d_Hyper_reset_40 (by rw [hk]; first | done | rfl)
def k_Controls_reset (sc : ob) (so : ob) (shs : ob) (sgs : ob) (sy : ob) : ob × ob × ob × ob × ob :=
  ((oi (oi sc 4 0) 5 0), ((k_Outside_reset so)), ((k_Bank_reset shs)), ((k_Bank_reset sgs)), ((k_Hyper_reset sy)))
set_option maxHeartbeats 4000000 in
set_option maxRecDepth 100000 in
theorem c_Controls_reset (l : Launch) (G : gx) (tys : List (ClassId × FieldType)) (qc qo qhs qgs qy qa : Nat) (sc : ob) (so : ob) (shs : ob) (sgs : ob) (sy : ob) : ct_V l y_Controls_reset ws_Controls_reset ({ frames := 1, cells := 0, slots := 0, locals := 20 }) G tys [.ref qc] [(qc, .inr (1, f_Controls qo qhs qgs qy sc)), (qo, .inr (3, f_Outside qa so)), (qhs, .inr (0, f_Bank shs)), (qgs, .inr (0, f_Bank sgs)), (qy, .inr (2, f_Hyper sy))] [(qc, .inr (1, f_Controls qo qhs qgs qy ((k_Controls_reset sc so shs sgs sy).1))), (qo, .inr (3, f_Outside qa ((k_Controls_reset sc so shs sgs sy).2.1))), (qhs, .inr (0, f_Bank ((k_Controls_reset sc so shs sgs sy).2.2.1))), (qgs, .inr (0, f_Bank ((k_Controls_reset sc so shs sgs sy).2.2.2.1))), (qy, .inr (2, f_Hyper ((k_Controls_reset sc so shs sgs sy).2.2.2.2)))] := by
  refine ct_hV (cc := cc_Controls_reset) (maxL := 1) (ret := none) (by decide) rfl (Nat.le_of_ble_eq_true rfl) ?_
  intro p e s m below meth c A ls hx hb hr hml hts hown hlocks hP hK hD hA hE hS hl
  have hl : lv_has ls 1 [(0, .ref qc)] := hl
  have hown : s.vm.findClass R_Controls = some m.cls := hown
  refine lv_aload_n hx hb d_Controls_reset_0 rfl (lv_at hl 0 rfl) ?_
  refine va_get (D := G.1) (ci := 1) (v := .ref qo) (C := R_Controls) (T := T_Controls) (N := 6) hx hb hts (fun w h => gd_sub _ (iw_Controls w h)) hown hK hP 0 rfl rfl 0 (by decide) (hts _ (gd_sub _ q_163)) (fun _ h9 => h9) rfl d_Controls_reset_1 ?_
  obtain ⟨so_5, eso_5⟩ : ∃ z, z = (k_Outside_reset so) := ⟨_, rfl⟩
  have hM := c_Outside_reset l G tys qo qa so
  rw [← eso_5] at hM
  refine ct_cVv (wr := [(qc, .inr (1, f_Controls qo qhs qgs qy sc)), (qhs, .inr (0, f_Bank shs)), (qgs, .inr (0, f_Bank sgs)), (qy, .inr (2, f_Hyper sy))]) (w1 := [(qo, .inr (3, f_Outside qa so_5))]) (w2 := [(qc, .inr (1, f_Controls qo qhs qgs qy sc)), (qo, .inr (3, f_Outside qa so_5)), (qhs, .inr (0, f_Bank shs)), (qgs, .inr (0, f_Bank sgs)), (qy, .inr (2, f_Hyper sy))]) (As := []) (rest := []) (ci := 3) (q0 := 0) ⟨hx, hb, hml, hown, hts⟩ hM (cwV 0 hts (gdV gd_gd q_238 q_239 q_240 q_43 q_241) rfl rfl rfl (by decide +kernel) ⟨Nat.le_of_ble_eq_true rfl, Nat.le_of_ble_eq_true rfl⟩) hE hK hP hD hS hA [1] [0, 2, 3, 4] [0, 4, 1, 2, 3] rfl (by decide) rfl (by decide) (by decide) rfl (by decide) rfl rfl rfl hl.1 rfl (Nat.le_of_ble_eq_true rfl) d_Controls_reset_4 ⟨Nat.zero_le _, Nat.zero_le _⟩ (fun H locs hP hD hS => ?_)
  refine lv_aload_n hx hb d_Controls_reset_7 rfl (lv_at hl 0 rfl) ?_
  refine va_get (D := G.1) (ci := 1) (v := .ref qhs) (C := R_Controls) (T := T_Controls) (N := 6) hx hb hts (fun w h => gd_sub _ (iw_Controls w h)) hown hK hP 0 rfl rfl 1 (by decide) (hts _ (gd_sub _ q_165)) (fun _ h9 => h9) rfl d_Controls_reset_8 ?_
  obtain ⟨shs_6, eshs_6⟩ : ∃ z, z = (k_Bank_reset shs) := ⟨_, rfl⟩
  have hM := c_Bank_reset l G tys qhs shs
  rw [← eshs_6] at hM
  refine ct_cVv (wr := [(qc, .inr (1, f_Controls qo qhs qgs qy sc)), (qo, .inr (3, f_Outside qa so_5)), (qgs, .inr (0, f_Bank sgs)), (qy, .inr (2, f_Hyper sy))]) (w1 := [(qhs, .inr (0, f_Bank shs_6))]) (w2 := [(qc, .inr (1, f_Controls qo qhs qgs qy sc)), (qo, .inr (3, f_Outside qa so_5)), (qhs, .inr (0, f_Bank shs_6)), (qgs, .inr (0, f_Bank sgs)), (qy, .inr (2, f_Hyper sy))]) (As := []) (rest := []) (ci := 0) (q0 := 0) ⟨hx, hb, hml, hown, hts⟩ hM (cwV 0 hts (gdV gd_gd q_242 q_243 q_244 q_44 q_245) rfl rfl rfl (by decide +kernel) ⟨Nat.le_of_ble_eq_true rfl, Nat.le_of_ble_eq_true rfl⟩) hE hK hP hD hS hA [2] [0, 1, 3, 4] [0, 1, 4, 2, 3] rfl (by decide) rfl (by decide) (by decide) rfl (by decide) rfl rfl rfl hl.1 rfl (Nat.le_of_ble_eq_true rfl) d_Controls_reset_11 ⟨Nat.zero_le _, Nat.zero_le _⟩ (fun H locs hP hD hS => ?_)
  refine lv_aload_n hx hb d_Controls_reset_14 rfl (lv_at hl 0 rfl) ?_
  refine va_get (D := G.1) (ci := 1) (v := .ref qgs) (C := R_Controls) (T := T_Controls) (N := 6) hx hb hts (fun w h => gd_sub _ (iw_Controls w h)) hown hK hP 0 rfl rfl 2 (by decide) (hts _ (gd_sub _ q_167)) (fun _ h9 => h9) rfl d_Controls_reset_15 ?_
  obtain ⟨sgs_7, esgs_7⟩ : ∃ z, z = (k_Bank_reset sgs) := ⟨_, rfl⟩
  have hM := c_Bank_reset l G tys qgs sgs
  rw [← esgs_7] at hM
  refine ct_cVv (wr := [(qc, .inr (1, f_Controls qo qhs qgs qy sc)), (qo, .inr (3, f_Outside qa so_5)), (qhs, .inr (0, f_Bank shs_6)), (qy, .inr (2, f_Hyper sy))]) (w1 := [(qgs, .inr (0, f_Bank sgs_7))]) (w2 := [(qc, .inr (1, f_Controls qo qhs qgs qy sc)), (qo, .inr (3, f_Outside qa so_5)), (qhs, .inr (0, f_Bank shs_6)), (qgs, .inr (0, f_Bank sgs_7)), (qy, .inr (2, f_Hyper sy))]) (As := []) (rest := []) (ci := 0) (q0 := 0) ⟨hx, hb, hml, hown, hts⟩ hM (cwV 0 hts (gdV gd_gd q_242 q_243 q_244 q_44 q_245) rfl rfl rfl (by decide +kernel) ⟨Nat.le_of_ble_eq_true rfl, Nat.le_of_ble_eq_true rfl⟩) hE hK hP hD hS hA [3] [0, 1, 2, 4] [0, 1, 2, 4, 3] rfl (by decide) rfl (by decide) (by decide) rfl (by decide) rfl rfl rfl hl.1 rfl (Nat.le_of_ble_eq_true rfl) d_Controls_reset_18 ⟨Nat.zero_le _, Nat.zero_le _⟩ (fun H locs hP hD hS => ?_)
  refine lv_aload_n hx hb d_Controls_reset_21 rfl (lv_at hl 0 rfl) ?_
  refine va_get (D := G.1) (ci := 1) (v := .ref qy) (C := R_Controls) (T := T_Controls) (N := 6) hx hb hts (fun w h => gd_sub _ (iw_Controls w h)) hown hK hP 0 rfl rfl 3 (by decide) (hts _ (gd_sub _ q_169)) (fun _ h9 => h9) rfl d_Controls_reset_22 ?_
  obtain ⟨sy_8, esy_8⟩ : ∃ z, z = (k_Hyper_reset sy) := ⟨_, rfl⟩
  have hM := c_Hyper_reset l G tys qy sy
  rw [← esy_8] at hM
  refine ct_cVv (wr := [(qc, .inr (1, f_Controls qo qhs qgs qy sc)), (qo, .inr (3, f_Outside qa so_5)), (qhs, .inr (0, f_Bank shs_6)), (qgs, .inr (0, f_Bank sgs_7))]) (w1 := [(qy, .inr (2, f_Hyper sy_8))]) (w2 := [(qc, .inr (1, f_Controls qo qhs qgs qy sc)), (qo, .inr (3, f_Outside qa so_5)), (qhs, .inr (0, f_Bank shs_6)), (qgs, .inr (0, f_Bank sgs_7)), (qy, .inr (2, f_Hyper sy_8))]) (As := []) (rest := []) (ci := 2) (q0 := 0) ⟨hx, hb, hml, hown, hts⟩ hM (cwV 0 hts (gdV gd_gd q_246 q_247 q_248 q_45 q_249) rfl rfl rfl (by decide +kernel) ⟨Nat.le_of_ble_eq_true rfl, Nat.le_of_ble_eq_true rfl⟩) hE hK hP hD hS hA [4] [0, 1, 2, 3] [0, 1, 2, 3, 4] rfl (by decide) rfl (by decide) (by decide) rfl (by decide) rfl rfl rfl hl.1 rfl (Nat.le_of_ble_eq_true rfl) d_Controls_reset_25 ⟨Nat.zero_le _, Nat.zero_le _⟩ (fun H locs hP hD hS => ?_)
  refine lv_aload_n hx hb d_Controls_reset_28 rfl (lv_at hl 0 rfl) ?_
  refine lv_iconst (v := 0) hx hb d_Controls_reset_29 (by decide) ?_
  refine va_put (D := G.1) (ci := 1) (v := .int 0) (ty := .int) (C := R_Controls) (T := T_Controls) (N := 6) hx hb hts (fun w h => gd_sub _ (iw_Controls w h)) ty_Controls tyok_Controls nm_Controls hown hK hP hD hS 0 rfl rfl 4 (by decide) (hts _ (gd_sub _ q_171)) (fun _ h9 => h9) rfl (by decide +kernel) rfl rfl (Nat.le_of_ble_eq_true rfl) d_Controls_reset_30 (fun H locs hP hD hS => ?_)
  have hP : va_P G.1 vwCl [(qc, .inr (1, f_Controls qo qhs qgs qy (oi sc 4 0))), (qo, .inr (3, f_Outside qa so_5)), (qhs, .inr (0, f_Bank shs_6)), (qgs, .inr (0, f_Bank sgs_7)), (qy, .inr (2, f_Hyper sy_8))] H := hP
  have hD : va_D A [(qc, .inr (1, f_Controls qo qhs qgs qy (oi sc 4 0))), (qo, .inr (3, f_Outside qa so_5)), (qhs, .inr (0, f_Bank shs_6)), (qgs, .inr (0, f_Bank sgs_7)), (qy, .inr (2, f_Hyper sy_8))] := hD
  refine lv_aload_n hx hb d_Controls_reset_33 rfl (lv_at hl 0 rfl) ?_
  refine lv_iconst (v := 0) hx hb d_Controls_reset_34 (by decide) ?_
  refine va_put (D := G.1) (ci := 1) (v := .int 0) (ty := .int) (C := R_Controls) (T := T_Controls) (N := 6) hx hb hts (fun w h => gd_sub _ (iw_Controls w h)) ty_Controls tyok_Controls nm_Controls hown hK hP hD hS 0 rfl rfl 5 (by decide) (hts _ (gd_sub _ q_172)) (fun _ h9 => h9) rfl (by decide +kernel) rfl rfl (Nat.le_of_ble_eq_true rfl) d_Controls_reset_35 (fun H locs hP hD hS => ?_)
  have hP : va_P G.1 vwCl [(qc, .inr (1, f_Controls qo qhs qgs qy (oi (oi sc 4 0) 5 0))), (qo, .inr (3, f_Outside qa so_5)), (qhs, .inr (0, f_Bank shs_6)), (qgs, .inr (0, f_Bank sgs_7)), (qy, .inr (2, f_Hyper sy_8))] H := hP
  have hD : va_D A [(qc, .inr (1, f_Controls qo qhs qgs qy (oi (oi sc 4 0) 5 0))), (qo, .inr (3, f_Outside qa so_5)), (qhs, .inr (0, f_Bank shs_6)), (qgs, .inr (0, f_Bank sgs_7)), (qy, .inr (2, f_Hyper sy_8))] := hD
  have hk : k_Controls_reset sc so shs sgs sy = ((oi (oi sc 4 0) 5 0), so_5, shs_6, sgs_7, sy_8) := (by rw [k_Controls_reset]; try rw [← eso_5]; try rw [← eshs_6]; try rw [← esgs_7]; try rw [← esy_8]; try rfl)
  exact ct_rv hx hb hr hlocks hP hD hK hS d_Controls_reset_38 (by rw [hk]; first | done | rfl)
def k_Registers_reset (sr : ob) : ob :=
  (oi (oi (oi sr 0 0) 1 0) 2 0)
set_option maxHeartbeats 4000000 in
set_option maxRecDepth 100000 in
theorem c_Registers_reset (l : Launch) (G : gx) (tys : List (ClassId × FieldType)) (qr : Nat) (sr : ob) : ct_V l y_Registers_reset ws_Registers_reset ({ frames := 0, cells := 0, slots := 0, locals := 0 }) G tys [.ref qr] [(qr, .inr (4, f_Registers sr))] [(qr, .inr (4, f_Registers (k_Registers_reset sr)))] := by
  refine ct_hV (cc := cc_Registers_reset) (maxL := 1) (ret := none) (by decide) rfl (Nat.le_of_ble_eq_true rfl) ?_
  intro p e s m below meth c A ls hx hb hr hml hts hown hlocks hP hK hD hA hE hS hl
  have hl : lv_has ls 1 [(0, .ref qr)] := hl
  have hown : s.vm.findClass R_Registers = some m.cls := hown
  refine lv_aload_n hx hb d_Registers_reset_0 rfl (lv_at hl 0 rfl) ?_
  refine lv_iconst (v := 0) hx hb d_Registers_reset_1 (by decide) ?_
  refine va_put (D := G.1) (ci := 4) (v := .int 0) (ty := .int) (C := R_Registers) (T := T_Registers) (N := 3) hx hb hts (fun w h => gd_sub _ (iw_Registers w h)) ty_Registers tyok_Registers nm_Registers hown hK hP hD hS 0 rfl rfl 0 (by decide) (hts _ (gd_sub _ q_192)) (fun _ h9 => h9) rfl (by decide +kernel) rfl rfl (Nat.le_of_ble_eq_true rfl) d_Registers_reset_2 (fun H locs hP hD hS => ?_)
  have hP : va_P G.1 vwCl [(qr, .inr (4, f_Registers (oi sr 0 0)))] H := hP
  have hD : va_D A [(qr, .inr (4, f_Registers (oi sr 0 0)))] := hD
  refine lv_aload_n hx hb d_Registers_reset_5 rfl (lv_at hl 0 rfl) ?_
  refine lv_iconst (v := 0) hx hb d_Registers_reset_6 (by decide) ?_
  refine va_put (D := G.1) (ci := 4) (v := .int 0) (ty := .int) (C := R_Registers) (T := T_Registers) (N := 3) hx hb hts (fun w h => gd_sub _ (iw_Registers w h)) ty_Registers tyok_Registers nm_Registers hown hK hP hD hS 0 rfl rfl 1 (by decide) (hts _ (gd_sub _ q_194)) (fun _ h9 => h9) rfl (by decide +kernel) rfl rfl (Nat.le_of_ble_eq_true rfl) d_Registers_reset_7 (fun H locs hP hD hS => ?_)
  have hP : va_P G.1 vwCl [(qr, .inr (4, f_Registers (oi (oi sr 0 0) 1 0)))] H := hP
  have hD : va_D A [(qr, .inr (4, f_Registers (oi (oi sr 0 0) 1 0)))] := hD
  refine lv_aload_n hx hb d_Registers_reset_10 rfl (lv_at hl 0 rfl) ?_
  refine lv_iconst (v := 0) hx hb d_Registers_reset_11 (by decide) ?_
  refine va_put (D := G.1) (ci := 4) (v := .int 0) (ty := .int) (C := R_Registers) (T := T_Registers) (N := 3) hx hb hts (fun w h => gd_sub _ (iw_Registers w h)) ty_Registers tyok_Registers nm_Registers hown hK hP hD hS 0 rfl rfl 2 (by decide) (hts _ (gd_sub _ q_196)) (fun _ h9 => h9) rfl (by decide +kernel) rfl rfl (Nat.le_of_ble_eq_true rfl) d_Registers_reset_12 (fun H locs hP hD hS => ?_)
  have hP : va_P G.1 vwCl [(qr, .inr (4, f_Registers (oi (oi (oi sr 0 0) 1 0) 2 0)))] H := hP
  have hD : va_D A [(qr, .inr (4, f_Registers (oi (oi (oi sr 0 0) 1 0) 2 0)))] := hD
  have hk : k_Registers_reset sr = (oi (oi (oi sr 0 0) 1 0) 2 0) := (by rw [k_Registers_reset]; try rfl)
  exact ct_rv hx hb hr hlocks hP hD hK hS d_Registers_reset_15 (by rw [hk]; first | done | rfl)
def k_Desk_begin (sx : ob) (sc : ob) (so : ob) (shs : ob) (sgs : ob) (sy : ob) (sr : ob) : ob × ob × ob × ob × ob × ob × ob :=
  ((oi (oi (oi (oi (oi sx 3 1) 4 0) 5 0) 6 0) 7 0), ((k_Controls_reset sc so shs sgs sy).1), ((k_Controls_reset sc so shs sgs sy).2.1), ((k_Controls_reset sc so shs sgs sy).2.2.1), ((k_Controls_reset sc so shs sgs sy).2.2.2.1), ((k_Controls_reset sc so shs sgs sy).2.2.2.2), ((k_Registers_reset sr)))
set_option maxHeartbeats 4000000 in
set_option maxRecDepth 100000 in
theorem c_Desk_begin (l : Launch) (G : gx) (tys : List (ClassId × FieldType)) (qx qc qo qhs qgs qy qr qa : Nat) (sx : ob) (sc : ob) (so : ob) (shs : ob) (sgs : ob) (sy : ob) (sr : ob) : ct_V l y_Desk_begin ws_Desk_begin ({ frames := 2, cells := 0, slots := 0, locals := 40 }) G tys [.ref qx] [(qx, .inr (5, f_Desk qc qo qr sx)), (qc, .inr (1, f_Controls qo qhs qgs qy sc)), (qo, .inr (3, f_Outside qa so)), (qhs, .inr (0, f_Bank shs)), (qgs, .inr (0, f_Bank sgs)), (qy, .inr (2, f_Hyper sy)), (qr, .inr (4, f_Registers sr))] [(qx, .inr (5, f_Desk qc qo qr ((k_Desk_begin sx sc so shs sgs sy sr).1))), (qc, .inr (1, f_Controls qo qhs qgs qy ((k_Desk_begin sx sc so shs sgs sy sr).2.1))), (qo, .inr (3, f_Outside qa ((k_Desk_begin sx sc so shs sgs sy sr).2.2.1))), (qhs, .inr (0, f_Bank ((k_Desk_begin sx sc so shs sgs sy sr).2.2.2.1))), (qgs, .inr (0, f_Bank ((k_Desk_begin sx sc so shs sgs sy sr).2.2.2.2.1))), (qy, .inr (2, f_Hyper ((k_Desk_begin sx sc so shs sgs sy sr).2.2.2.2.2.1))), (qr, .inr (4, f_Registers ((k_Desk_begin sx sc so shs sgs sy sr).2.2.2.2.2.2)))] := by
  refine ct_hV (cc := cc_Desk_begin) (maxL := 1) (ret := none) (by decide) rfl (Nat.le_of_ble_eq_true rfl) ?_
  intro p e s m below meth c A ls hx hb hr hml hts hown hlocks hP hK hD hA hE hS hl
  have hl : lv_has ls 1 [(0, .ref qx)] := hl
  have hown : s.vm.findClass R_Desk = some m.cls := hown
  refine lv_aload_n hx hb d_Desk_begin_0 rfl (lv_at hl 0 rfl) ?_
  refine va_get (D := G.1) (ci := 5) (v := .ref qc) (C := R_Desk) (T := T_Desk) (N := 8) hx hb hts (fun w h => gd_sub _ (iw_Desk w h)) hown hK hP 0 rfl rfl 0 (by decide) (hts _ (gd_sub _ q_205)) (fun _ h9 => h9) rfl d_Desk_begin_1 ?_
  obtain ⟨sc_15, esc_15⟩ : ∃ z, z = (k_Controls_reset sc so shs sgs sy).1 := ⟨_, rfl⟩
  obtain ⟨so_16, eso_16⟩ : ∃ z, z = (k_Controls_reset sc so shs sgs sy).2.1 := ⟨_, rfl⟩
  obtain ⟨shs_17, eshs_17⟩ : ∃ z, z = (k_Controls_reset sc so shs sgs sy).2.2.1 := ⟨_, rfl⟩
  obtain ⟨sgs_18, esgs_18⟩ : ∃ z, z = (k_Controls_reset sc so shs sgs sy).2.2.2.1 := ⟨_, rfl⟩
  obtain ⟨sy_19, esy_19⟩ : ∃ z, z = (k_Controls_reset sc so shs sgs sy).2.2.2.2 := ⟨_, rfl⟩
  have hM := c_Controls_reset l G tys qc qo qhs qgs qy qa sc so shs sgs sy
  rw [← esc_15, ← eso_16, ← eshs_17, ← esgs_18, ← esy_19] at hM
  refine ct_cVv (wr := [(qx, .inr (5, f_Desk qc qo qr sx)), (qr, .inr (4, f_Registers sr))]) (w1 := [(qc, .inr (1, f_Controls qo qhs qgs qy sc_15)), (qo, .inr (3, f_Outside qa so_16)), (qhs, .inr (0, f_Bank shs_17)), (qgs, .inr (0, f_Bank sgs_18)), (qy, .inr (2, f_Hyper sy_19))]) (w2 := [(qx, .inr (5, f_Desk qc qo qr sx)), (qc, .inr (1, f_Controls qo qhs qgs qy sc_15)), (qo, .inr (3, f_Outside qa so_16)), (qhs, .inr (0, f_Bank shs_17)), (qgs, .inr (0, f_Bank sgs_18)), (qy, .inr (2, f_Hyper sy_19)), (qr, .inr (4, f_Registers sr))]) (As := []) (rest := []) (ci := 1) (q0 := 0) ⟨hx, hb, hml, hown, hts⟩ hM (cwV 0 hts (gdV gd_gd q_234 q_235 q_236 q_42 q_237) rfl rfl rfl (by decide +kernel) ⟨Nat.le_of_ble_eq_true rfl, Nat.le_of_ble_eq_true rfl⟩) hE hK hP hD hS hA [1, 2, 3, 4, 5] [0, 6] [0, 2, 3, 4, 5, 6, 1] rfl (by decide) rfl (by decide) (by decide) rfl (by decide) rfl rfl rfl hl.1 rfl (Nat.le_of_ble_eq_true rfl) d_Desk_begin_4 ⟨Nat.zero_le _, Nat.zero_le _⟩ (fun H locs hP hD hS => ?_)
  refine lv_aload_n hx hb d_Desk_begin_7 rfl (lv_at hl 0 rfl) ?_
  refine va_get (D := G.1) (ci := 5) (v := .ref qr) (C := R_Desk) (T := T_Desk) (N := 8) hx hb hts (fun w h => gd_sub _ (iw_Desk w h)) hown hK hP 0 rfl rfl 2 (by decide) (hts _ (gd_sub _ q_207)) (fun _ h9 => h9) rfl d_Desk_begin_8 ?_
  obtain ⟨sr_20, esr_20⟩ : ∃ z, z = (k_Registers_reset sr) := ⟨_, rfl⟩
  have hM := c_Registers_reset l G tys qr sr
  rw [← esr_20] at hM
  refine ct_cVv (wr := [(qx, .inr (5, f_Desk qc qo qr sx)), (qc, .inr (1, f_Controls qo qhs qgs qy sc_15)), (qo, .inr (3, f_Outside qa so_16)), (qhs, .inr (0, f_Bank shs_17)), (qgs, .inr (0, f_Bank sgs_18)), (qy, .inr (2, f_Hyper sy_19))]) (w1 := [(qr, .inr (4, f_Registers sr_20))]) (w2 := [(qx, .inr (5, f_Desk qc qo qr sx)), (qc, .inr (1, f_Controls qo qhs qgs qy sc_15)), (qo, .inr (3, f_Outside qa so_16)), (qhs, .inr (0, f_Bank shs_17)), (qgs, .inr (0, f_Bank sgs_18)), (qy, .inr (2, f_Hyper sy_19)), (qr, .inr (4, f_Registers sr_20))]) (As := []) (rest := []) (ci := 4) (q0 := 0) ⟨hx, hb, hml, hown, hts⟩ hM (cwV 0 hts (gdV gd_gd q_250 q_251 q_252 q_46 q_253) rfl rfl rfl (by decide +kernel) ⟨Nat.le_of_ble_eq_true rfl, Nat.le_of_ble_eq_true rfl⟩) hE hK hP hD hS hA [6] [0, 1, 2, 3, 4, 5] [0, 1, 2, 3, 4, 5, 6] rfl (by decide) rfl (by decide) (by decide) rfl (by decide) rfl rfl rfl hl.1 rfl (Nat.le_of_ble_eq_true rfl) d_Desk_begin_11 ⟨Nat.zero_le _, Nat.zero_le _⟩ (fun H locs hP hD hS => ?_)
  refine lv_aload_n hx hb d_Desk_begin_14 rfl (lv_at hl 0 rfl) ?_
  refine lv_iconst (v := 1) hx hb d_Desk_begin_15 (by decide) ?_
  refine va_put (D := G.1) (ci := 5) (v := .int 1) (ty := .int) (C := R_Desk) (T := T_Desk) (N := 8) hx hb hts (fun w h => gd_sub _ (iw_Desk w h)) ty_Desk tyok_Desk nm_Desk hown hK hP hD hS 0 rfl rfl 3 (by decide) (hts _ (gd_sub _ q_208)) (fun _ h9 => h9) rfl (by decide +kernel) rfl rfl (Nat.le_of_ble_eq_true rfl) d_Desk_begin_16 (fun H locs hP hD hS => ?_)
  have hP : va_P G.1 vwCl [(qx, .inr (5, f_Desk qc qo qr (oi sx 3 1))), (qc, .inr (1, f_Controls qo qhs qgs qy sc_15)), (qo, .inr (3, f_Outside qa so_16)), (qhs, .inr (0, f_Bank shs_17)), (qgs, .inr (0, f_Bank sgs_18)), (qy, .inr (2, f_Hyper sy_19)), (qr, .inr (4, f_Registers sr_20))] H := hP
  have hD : va_D A [(qx, .inr (5, f_Desk qc qo qr (oi sx 3 1))), (qc, .inr (1, f_Controls qo qhs qgs qy sc_15)), (qo, .inr (3, f_Outside qa so_16)), (qhs, .inr (0, f_Bank shs_17)), (qgs, .inr (0, f_Bank sgs_18)), (qy, .inr (2, f_Hyper sy_19)), (qr, .inr (4, f_Registers sr_20))] := hD
  refine lv_aload_n hx hb d_Desk_begin_19 rfl (lv_at hl 0 rfl) ?_
  refine lv_iconst (v := 0) hx hb d_Desk_begin_20 (by decide) ?_
  refine va_put (D := G.1) (ci := 5) (v := .int 0) (ty := .int) (C := R_Desk) (T := T_Desk) (N := 8) hx hb hts (fun w h => gd_sub _ (iw_Desk w h)) ty_Desk tyok_Desk nm_Desk hown hK hP hD hS 0 rfl rfl 4 (by decide) (hts _ (gd_sub _ q_209)) (fun _ h9 => h9) rfl (by decide +kernel) rfl rfl (Nat.le_of_ble_eq_true rfl) d_Desk_begin_21 (fun H locs hP hD hS => ?_)
  have hP : va_P G.1 vwCl [(qx, .inr (5, f_Desk qc qo qr (oi (oi sx 3 1) 4 0))), (qc, .inr (1, f_Controls qo qhs qgs qy sc_15)), (qo, .inr (3, f_Outside qa so_16)), (qhs, .inr (0, f_Bank shs_17)), (qgs, .inr (0, f_Bank sgs_18)), (qy, .inr (2, f_Hyper sy_19)), (qr, .inr (4, f_Registers sr_20))] H := hP
  have hD : va_D A [(qx, .inr (5, f_Desk qc qo qr (oi (oi sx 3 1) 4 0))), (qc, .inr (1, f_Controls qo qhs qgs qy sc_15)), (qo, .inr (3, f_Outside qa so_16)), (qhs, .inr (0, f_Bank shs_17)), (qgs, .inr (0, f_Bank sgs_18)), (qy, .inr (2, f_Hyper sy_19)), (qr, .inr (4, f_Registers sr_20))] := hD
  refine lv_aload_n hx hb d_Desk_begin_24 rfl (lv_at hl 0 rfl) ?_
  refine lv_iconst (v := 0) hx hb d_Desk_begin_25 (by decide) ?_
  refine va_put (D := G.1) (ci := 5) (v := .int 0) (ty := .int) (C := R_Desk) (T := T_Desk) (N := 8) hx hb hts (fun w h => gd_sub _ (iw_Desk w h)) ty_Desk tyok_Desk nm_Desk hown hK hP hD hS 0 rfl rfl 5 (by decide) (hts _ (gd_sub _ q_210)) (fun _ h9 => h9) rfl (by decide +kernel) rfl rfl (Nat.le_of_ble_eq_true rfl) d_Desk_begin_26 (fun H locs hP hD hS => ?_)
  have hP : va_P G.1 vwCl [(qx, .inr (5, f_Desk qc qo qr (oi (oi (oi sx 3 1) 4 0) 5 0))), (qc, .inr (1, f_Controls qo qhs qgs qy sc_15)), (qo, .inr (3, f_Outside qa so_16)), (qhs, .inr (0, f_Bank shs_17)), (qgs, .inr (0, f_Bank sgs_18)), (qy, .inr (2, f_Hyper sy_19)), (qr, .inr (4, f_Registers sr_20))] H := hP
  have hD : va_D A [(qx, .inr (5, f_Desk qc qo qr (oi (oi (oi sx 3 1) 4 0) 5 0))), (qc, .inr (1, f_Controls qo qhs qgs qy sc_15)), (qo, .inr (3, f_Outside qa so_16)), (qhs, .inr (0, f_Bank shs_17)), (qgs, .inr (0, f_Bank sgs_18)), (qy, .inr (2, f_Hyper sy_19)), (qr, .inr (4, f_Registers sr_20))] := hD
  refine lv_aload_n hx hb d_Desk_begin_29 rfl (lv_at hl 0 rfl) ?_
  refine lv_iconst (v := 0) hx hb d_Desk_begin_30 (by decide) ?_
  refine va_put (D := G.1) (ci := 5) (v := .int 0) (ty := .int) (C := R_Desk) (T := T_Desk) (N := 8) hx hb hts (fun w h => gd_sub _ (iw_Desk w h)) ty_Desk tyok_Desk nm_Desk hown hK hP hD hS 0 rfl rfl 6 (by decide) (hts _ (gd_sub _ q_211)) (fun _ h9 => h9) rfl (by decide +kernel) rfl rfl (Nat.le_of_ble_eq_true rfl) d_Desk_begin_31 (fun H locs hP hD hS => ?_)
  have hP : va_P G.1 vwCl [(qx, .inr (5, f_Desk qc qo qr (oi (oi (oi (oi sx 3 1) 4 0) 5 0) 6 0))), (qc, .inr (1, f_Controls qo qhs qgs qy sc_15)), (qo, .inr (3, f_Outside qa so_16)), (qhs, .inr (0, f_Bank shs_17)), (qgs, .inr (0, f_Bank sgs_18)), (qy, .inr (2, f_Hyper sy_19)), (qr, .inr (4, f_Registers sr_20))] H := hP
  have hD : va_D A [(qx, .inr (5, f_Desk qc qo qr (oi (oi (oi (oi sx 3 1) 4 0) 5 0) 6 0))), (qc, .inr (1, f_Controls qo qhs qgs qy sc_15)), (qo, .inr (3, f_Outside qa so_16)), (qhs, .inr (0, f_Bank shs_17)), (qgs, .inr (0, f_Bank sgs_18)), (qy, .inr (2, f_Hyper sy_19)), (qr, .inr (4, f_Registers sr_20))] := hD
  refine lv_aload_n hx hb d_Desk_begin_34 rfl (lv_at hl 0 rfl) ?_
  refine lv_iconst (v := 0) hx hb d_Desk_begin_35 (by decide) ?_
  refine va_put (D := G.1) (ci := 5) (v := .int 0) (ty := .int) (C := R_Desk) (T := T_Desk) (N := 8) hx hb hts (fun w h => gd_sub _ (iw_Desk w h)) ty_Desk tyok_Desk nm_Desk hown hK hP hD hS 0 rfl rfl 7 (by decide) (hts _ (gd_sub _ q_212)) (fun _ h9 => h9) rfl (by decide +kernel) rfl rfl (Nat.le_of_ble_eq_true rfl) d_Desk_begin_36 (fun H locs hP hD hS => ?_)
  have hP : va_P G.1 vwCl [(qx, .inr (5, f_Desk qc qo qr (oi (oi (oi (oi (oi sx 3 1) 4 0) 5 0) 6 0) 7 0))), (qc, .inr (1, f_Controls qo qhs qgs qy sc_15)), (qo, .inr (3, f_Outside qa so_16)), (qhs, .inr (0, f_Bank shs_17)), (qgs, .inr (0, f_Bank sgs_18)), (qy, .inr (2, f_Hyper sy_19)), (qr, .inr (4, f_Registers sr_20))] H := hP
  have hD : va_D A [(qx, .inr (5, f_Desk qc qo qr (oi (oi (oi (oi (oi sx 3 1) 4 0) 5 0) 6 0) 7 0))), (qc, .inr (1, f_Controls qo qhs qgs qy sc_15)), (qo, .inr (3, f_Outside qa so_16)), (qhs, .inr (0, f_Bank shs_17)), (qgs, .inr (0, f_Bank sgs_18)), (qy, .inr (2, f_Hyper sy_19)), (qr, .inr (4, f_Registers sr_20))] := hD
  have hk : k_Desk_begin sx sc so shs sgs sy sr = ((oi (oi (oi (oi (oi sx 3 1) 4 0) 5 0) 6 0) 7 0), sc_15, so_16, shs_17, sgs_18, sy_19, sr_20) := (by rw [k_Desk_begin]; try rw [← esc_15]; try rw [← eso_16]; try rw [← eshs_17]; try rw [← esgs_18]; try rw [← esy_19]; try rw [← esr_20]; try rfl)
  exact ct_rv hx hb hr hlocks hP hD hK hS d_Desk_begin_39 (by rw [hk]; first | done | rfl)
def k_Desk_mode (sx : ob) (p1 : Int32) : Int32 × ob :=
  if p1 < 0 then ((-1), sx) else (if p1 ≤ 3 then ((sx.1 3), (oi sx 3 p1)) else ((-1), sx))
set_option maxHeartbeats 4000000 in
set_option maxRecDepth 100000 in
theorem c_Desk_mode (l : Launch) (G : gx) (tys : List (ClassId × FieldType)) (qx qc qo qr : Nat) (sx : ob) (p1 : Int32) : ct_I l y_Desk_mode ws_Desk_mode ({ frames := 0, cells := 0, slots := 0, locals := 0 }) G tys [.ref qx, .int p1] [(qx, .inr (5, f_Desk qc qo qr sx))] ((k_Desk_mode sx p1).1) [(qx, .inr (5, f_Desk qc qo qr ((k_Desk_mode sx p1).2)))] := by
  refine ct_hI (cc := cc_Desk_mode) (maxL := 3) (ret := (some .int)) (by decide) rfl (Nat.le_of_ble_eq_true rfl) ?_
  intro p e s m below meth c A ls hx hb hr hml hts hown hlocks hP hK hD hA hE hS hl
  have hl : lv_has ls 3 [(0, .ref qx), (1, .int p1)] := hl
  have hown : s.vm.findClass R_Desk = some m.cls := hown
  refine lv_iload_n hx hb d_Desk_mode_0 rfl (lv_at hl 1 rfl) ?_
  refine lv_if_lt (tgt := 9) hx hb d_Desk_mode_1 (by decide) (fun c_23 => ?_) (fun c_23 => ?_)
  · refine lv_iconst (v := (-1)) hx hb d_Desk_mode_9 (by decide) ?_
    have hk : k_Desk_mode sx p1 = ((-1), sx) := (by rw [k_Desk_mode]; rw [if_pos c_23]; try rfl)
    exact ct_ri hx hb hr hlocks hP hD hK hS d_Desk_mode_10 (by rw [hk]; first | done | rfl) (by rw [hk]; first | done | rfl)
  · refine lv_iload_n hx hb d_Desk_mode_4 rfl (lv_at hl 1 rfl) ?_
    refine lv_iconst (v := 3) hx hb d_Desk_mode_5 (by decide) ?_
    refine lv_icmp_le (tgt := 11) hx hb d_Desk_mode_6 (by decide) (fun c_24 => ?_) (fun c_24 => ?_)
    · refine lv_aload_n hx hb d_Desk_mode_11 rfl (lv_at hl 0 rfl) ?_
      refine va_get (D := G.1) (ci := 5) (v := .int (sx.1 3)) (C := R_Desk) (T := T_Desk) (N := 8) hx hb hts (fun w h => gd_sub _ (iw_Desk w h)) hown hK hP 0 rfl rfl 3 (by decide) (hts _ (gd_sub _ q_208)) (fun _ h9 => h9) rfl d_Desk_mode_12 ?_
      refine lv_istore_n (lv' := [(2, .int (sx.1 3)), (0, .ref qx), (1, .int p1)]) hx hb d_Desk_mode_15 rfl hl (by decide) rfl (fun ls hl => ?_)
      refine lv_aload_n hx hb d_Desk_mode_16 rfl (lv_at hl 1 rfl) ?_
      refine lv_iload_n hx hb d_Desk_mode_17 rfl (lv_at hl 2 rfl) ?_
      refine va_put (D := G.1) (ci := 5) (v := .int p1) (ty := .int) (C := R_Desk) (T := T_Desk) (N := 8) hx hb hts (fun w h => gd_sub _ (iw_Desk w h)) ty_Desk tyok_Desk nm_Desk hown hK hP hD hS 0 rfl rfl 3 (by decide) (hts _ (gd_sub _ q_208)) (fun _ h9 => h9) rfl (by decide +kernel) rfl rfl (Nat.le_of_ble_eq_true rfl) d_Desk_mode_18 (fun H locs hP hD hS => ?_)
      have hP : va_P G.1 vwCl [(qx, .inr (5, f_Desk qc qo qr (oi sx 3 p1)))] H := hP
      have hD : va_D A [(qx, .inr (5, f_Desk qc qo qr (oi sx 3 p1)))] := hD
      refine lv_iload_n hx hb d_Desk_mode_21 rfl (lv_at hl 0 rfl) ?_
      have hk : k_Desk_mode sx p1 = ((sx.1 3), (oi sx 3 p1)) := (by rw [k_Desk_mode]; rw [if_neg c_23]; rw [if_pos c_24]; try rfl)
      exact ct_ri hx hb hr hlocks hP hD hK hS d_Desk_mode_22 (by rw [hk]; first | done | rfl) (by rw [hk]; first | done | rfl)
    · refine lv_iconst (v := (-1)) hx hb d_Desk_mode_9 (by decide) ?_
      have hk : k_Desk_mode sx p1 = ((-1), sx) := (by rw [k_Desk_mode]; rw [if_neg c_23]; rw [if_neg c_24]; try rfl)
      exact ct_ri hx hb hr hlocks hP hD hK hS d_Desk_mode_10 (by rw [hk]; first | done | rfl) (by rw [hk]; first | done | rfl)
def k_Desk_go (sx : ob) (p1 : Int32) : Int32 × ob :=
  if (p1 &&& 3) = 0 then (0, (oi sx 4 p1)) else ((-1), sx)
set_option maxHeartbeats 4000000 in
set_option maxRecDepth 100000 in
theorem c_Desk_go (l : Launch) (G : gx) (tys : List (ClassId × FieldType)) (qx qc qo qr : Nat) (sx : ob) (p1 : Int32) : ct_I l y_Desk_go ws_Desk_go ({ frames := 0, cells := 0, slots := 0, locals := 0 }) G tys [.ref qx, .int p1] [(qx, .inr (5, f_Desk qc qo qr sx))] ((k_Desk_go sx p1).1) [(qx, .inr (5, f_Desk qc qo qr ((k_Desk_go sx p1).2)))] := by
  refine ct_hI (cc := cc_Desk_go) (maxL := 2) (ret := (some .int)) (by decide) rfl (Nat.le_of_ble_eq_true rfl) ?_
  intro p e s m below meth c A ls hx hb hr hml hts hown hlocks hP hK hD hA hE hS hl
  have hl : lv_has ls 2 [(0, .ref qx), (1, .int p1)] := hl
  have hown : s.vm.findClass R_Desk = some m.cls := hown
  refine lv_iload_n hx hb d_Desk_go_0 rfl (lv_at hl 1 rfl) ?_
  refine lv_iconst (v := 3) hx hb d_Desk_go_1 (by decide) ?_
  refine lv_iand hx hb d_Desk_go_2 ?_
  refine lv_if_eq (tgt := 8) hx hb d_Desk_go_3 (by decide) (fun c_26 => ?_) (fun c_26 => ?_)
  · refine lv_aload_n hx hb d_Desk_go_8 rfl (lv_at hl 0 rfl) ?_
    refine lv_iload_n hx hb d_Desk_go_9 rfl (lv_at hl 1 rfl) ?_
    refine va_put (D := G.1) (ci := 5) (v := .int p1) (ty := .int) (C := R_Desk) (T := T_Desk) (N := 8) hx hb hts (fun w h => gd_sub _ (iw_Desk w h)) ty_Desk tyok_Desk nm_Desk hown hK hP hD hS 0 rfl rfl 4 (by decide) (hts _ (gd_sub _ q_209)) (fun _ h9 => h9) rfl (by decide +kernel) rfl rfl (Nat.le_of_ble_eq_true rfl) d_Desk_go_10 (fun H locs hP hD hS => ?_)
    have hP : va_P G.1 vwCl [(qx, .inr (5, f_Desk qc qo qr (oi sx 4 p1)))] H := hP
    have hD : va_D A [(qx, .inr (5, f_Desk qc qo qr (oi sx 4 p1)))] := hD
    refine lv_iconst (v := 0) hx hb d_Desk_go_13 (by decide) ?_
    have hk : k_Desk_go sx p1 = (0, (oi sx 4 p1)) := (by rw [k_Desk_go]; rw [if_pos c_26]; try rfl)
    exact ct_ri hx hb hr hlocks hP hD hK hS d_Desk_go_14 (by rw [hk]; first | done | rfl) (by rw [hk]; first | done | rfl)
  · refine lv_iconst (v := (-1)) hx hb d_Desk_go_6 (by decide) ?_
    have hk : k_Desk_go sx p1 = ((-1), sx) := (by rw [k_Desk_go]; rw [if_neg c_26]; try rfl)
    exact ct_ri hx hb hr hlocks hP hD hK hS d_Desk_go_7 (by rw [hk]; first | done | rfl) (by rw [hk]; first | done | rfl)
def k_Numbers_kindOf (p1 : Int32) : Int32 :=
  (p1 &&& 255)
set_option maxHeartbeats 4000000 in
set_option maxRecDepth 100000 in
theorem c_Numbers_kindOf (l : Launch) (G : gx) (tys : List (ClassId × FieldType)) (p1 : Int32) : ct_I l y_Numbers_kindOf ws_Numbers_kindOf ({ frames := 0, cells := 0, slots := 0, locals := 0 }) G tys [.int p1] [] (k_Numbers_kindOf p1) [] := by
  refine ct_hI (cc := cc_Numbers_kindOf) (maxL := 1) (ret := (some .int)) (by decide) rfl (Nat.le_of_ble_eq_true rfl) ?_
  intro p e s m below meth c A ls hx hb hr hml hts hown hlocks hP hK hD hA hE hS hl
  have hl : lv_has ls 1 [(0, .int p1)] := hl
  have hown : s.vm.findClass R_Numbers = some m.cls := hown
  refine lv_iload_n hx hb d_Numbers_kindOf_0 rfl (lv_at hl 0 rfl) ?_
  refine lv_sipush (v := 255) hx hb d_Numbers_kindOf_1 (by decide) ?_
  refine lv_iand hx hb d_Numbers_kindOf_4 ?_
  have hk : k_Numbers_kindOf p1 = (p1 &&& 255) := (by rw [k_Numbers_kindOf]; try rfl)
  exact ct_ri hx hb hr hlocks hP hD hK hS d_Numbers_kindOf_5 (by rw [hk]; first | done | rfl) rfl
def k_Numbers_isKind (p1 : Int32) : Bool :=
  if p1 = 0 then true else if p1 = 4 then true else if p1 = 5 then true else if p1 = 64 then true else if p1 = 65 then true else if p1 = 66 then true else if p1 = 67 then true else if p1 = 68 then true else if p1 = 128 then true else false
set_option maxHeartbeats 4000000 in
set_option maxRecDepth 100000 in
theorem c_Numbers_isKind (l : Launch) (G : gx) (tys : List (ClassId × FieldType)) (p1 : Int32) : ct_I l y_Numbers_isKind ws_Numbers_isKind ({ frames := 0, cells := 0, slots := 0, locals := 0 }) G tys [.int p1] [] (bI (k_Numbers_isKind p1)) [] := by
  refine ct_hI (cc := cc_Numbers_isKind) (maxL := 1) (ret := (some .boolean)) (by decide) rfl (Nat.le_of_ble_eq_true rfl) ?_
  intro p e s m below meth c A ls hx hb hr hml hts hown hlocks hP hK hD hA hE hS hl
  have hl : lv_has ls 1 [(0, .int p1)] := hl
  have hown : s.vm.findClass R_Numbers = some m.cls := hown
  refine lv_iload_n hx hb d_Numbers_isKind_0 rfl (lv_at hl 0 rfl) ?_
  by_cases c_37 : p1 = 0
  · refine lv_lookup (off := 83) (tgt := 84) hx hb d_Numbers_isKind_1 (by decide) (by rw [c_37]; decide) (by decide) ?_
    refine lv_iconst (v := 1) hx hb d_Numbers_isKind_84 (by decide) ?_
    have hk : k_Numbers_isKind p1 = true := (by rw [k_Numbers_isKind]; rw [if_pos c_37]; try rfl)
    exact ct_rz hx hb hr hlocks hP hD hK hS d_Numbers_isKind_85 rfl (by rw [hk]; first | done | rfl) rfl
  · by_cases c_38 : p1 = 4
    · refine lv_lookup (off := 83) (tgt := 84) hx hb d_Numbers_isKind_1 (by decide) (by rw [c_38]; decide) (by decide) ?_
      refine lv_iconst (v := 1) hx hb d_Numbers_isKind_84 (by decide) ?_
      have hk : k_Numbers_isKind p1 = true := (by rw [k_Numbers_isKind]; rw [if_neg c_37]; rw [if_pos c_38]; try rfl)
      exact ct_rz hx hb hr hlocks hP hD hK hS d_Numbers_isKind_85 rfl (by rw [hk]; first | done | rfl) rfl
    · by_cases c_39 : p1 = 5
      · refine lv_lookup (off := 83) (tgt := 84) hx hb d_Numbers_isKind_1 (by decide) (by rw [c_39]; decide) (by decide) ?_
        refine lv_iconst (v := 1) hx hb d_Numbers_isKind_84 (by decide) ?_
        have hk : k_Numbers_isKind p1 = true := (by rw [k_Numbers_isKind]; rw [if_neg c_37]; rw [if_neg c_38]; rw [if_pos c_39]; try rfl)
        exact ct_rz hx hb hr hlocks hP hD hK hS d_Numbers_isKind_85 rfl (by rw [hk]; first | done | rfl) rfl
      · by_cases c_40 : p1 = 64
        · refine lv_lookup (off := 83) (tgt := 84) hx hb d_Numbers_isKind_1 (by decide) (by rw [c_40]; decide) (by decide) ?_
          refine lv_iconst (v := 1) hx hb d_Numbers_isKind_84 (by decide) ?_
          have hk : k_Numbers_isKind p1 = true := (by rw [k_Numbers_isKind]; rw [if_neg c_37]; rw [if_neg c_38]; rw [if_neg c_39]; rw [if_pos c_40]; try rfl)
          exact ct_rz hx hb hr hlocks hP hD hK hS d_Numbers_isKind_85 rfl (by rw [hk]; first | done | rfl) rfl
        · by_cases c_41 : p1 = 65
          · refine lv_lookup (off := 83) (tgt := 84) hx hb d_Numbers_isKind_1 (by decide) (by rw [c_41]; decide) (by decide) ?_
            refine lv_iconst (v := 1) hx hb d_Numbers_isKind_84 (by decide) ?_
            have hk : k_Numbers_isKind p1 = true := (by rw [k_Numbers_isKind]; rw [if_neg c_37]; rw [if_neg c_38]; rw [if_neg c_39]; rw [if_neg c_40]; rw [if_pos c_41]; try rfl)
            exact ct_rz hx hb hr hlocks hP hD hK hS d_Numbers_isKind_85 rfl (by rw [hk]; first | done | rfl) rfl
          · by_cases c_42 : p1 = 66
            · refine lv_lookup (off := 83) (tgt := 84) hx hb d_Numbers_isKind_1 (by decide) (by rw [c_42]; decide) (by decide) ?_
              refine lv_iconst (v := 1) hx hb d_Numbers_isKind_84 (by decide) ?_
              have hk : k_Numbers_isKind p1 = true := (by rw [k_Numbers_isKind]; rw [if_neg c_37]; rw [if_neg c_38]; rw [if_neg c_39]; rw [if_neg c_40]; rw [if_neg c_41]; rw [if_pos c_42]; try rfl)
              exact ct_rz hx hb hr hlocks hP hD hK hS d_Numbers_isKind_85 rfl (by rw [hk]; first | done | rfl) rfl
            · by_cases c_43 : p1 = 67
              · refine lv_lookup (off := 83) (tgt := 84) hx hb d_Numbers_isKind_1 (by decide) (by rw [c_43]; decide) (by decide) ?_
                refine lv_iconst (v := 1) hx hb d_Numbers_isKind_84 (by decide) ?_
                have hk : k_Numbers_isKind p1 = true := (by rw [k_Numbers_isKind]; rw [if_neg c_37]; rw [if_neg c_38]; rw [if_neg c_39]; rw [if_neg c_40]; rw [if_neg c_41]; rw [if_neg c_42]; rw [if_pos c_43]; try rfl)
                exact ct_rz hx hb hr hlocks hP hD hK hS d_Numbers_isKind_85 rfl (by rw [hk]; first | done | rfl) rfl
              · by_cases c_44 : p1 = 68
                · refine lv_lookup (off := 83) (tgt := 84) hx hb d_Numbers_isKind_1 (by decide) (by rw [c_44]; decide) (by decide) ?_
                  refine lv_iconst (v := 1) hx hb d_Numbers_isKind_84 (by decide) ?_
                  have hk : k_Numbers_isKind p1 = true := (by rw [k_Numbers_isKind]; rw [if_neg c_37]; rw [if_neg c_38]; rw [if_neg c_39]; rw [if_neg c_40]; rw [if_neg c_41]; rw [if_neg c_42]; rw [if_neg c_43]; rw [if_pos c_44]; try rfl)
                  exact ct_rz hx hb hr hlocks hP hD hK hS d_Numbers_isKind_85 rfl (by rw [hk]; first | done | rfl) rfl
                · by_cases c_45 : p1 = 128
                  · refine lv_lookup (off := 83) (tgt := 84) hx hb d_Numbers_isKind_1 (by decide) (by rw [c_45]; decide) (by decide) ?_
                    refine lv_iconst (v := 1) hx hb d_Numbers_isKind_84 (by decide) ?_
                    have hk : k_Numbers_isKind p1 = true := (by rw [k_Numbers_isKind]; rw [if_neg c_37]; rw [if_neg c_38]; rw [if_neg c_39]; rw [if_neg c_40]; rw [if_neg c_41]; rw [if_neg c_42]; rw [if_neg c_43]; rw [if_neg c_44]; rw [if_pos c_45]; try rfl)
                    exact ct_rz hx hb hr hlocks hP hD hK hS d_Numbers_isKind_85 rfl (by rw [hk]; first | done | rfl) rfl
                  · refine lv_lookup (off := 85) (tgt := 86) hx hb d_Numbers_isKind_1 (by decide) ((lv_osw c_37 (by decide)).trans ((lv_osw c_38 (by decide)).trans ((lv_osw c_39 (by decide)).trans ((lv_osw c_40 (by decide)).trans ((lv_osw c_41 (by decide)).trans ((lv_osw c_42 (by decide)).trans ((lv_osw c_43 (by decide)).trans ((lv_osw c_44 (by decide)).trans ((lv_osw c_45 (by decide)).trans rfl))))))))) (by decide) ?_
                    refine lv_iconst (v := 0) hx hb d_Numbers_isKind_86 (by decide) ?_
                    have hk : k_Numbers_isKind p1 = false := (by rw [k_Numbers_isKind]; rw [if_neg c_37]; rw [if_neg c_38]; rw [if_neg c_39]; rw [if_neg c_40]; rw [if_neg c_41]; rw [if_neg c_42]; rw [if_neg c_43]; rw [if_neg c_44]; rw [if_neg c_45]; try rfl)
                    exact ct_rz hx hb hr hlocks hP hD hK hS d_Numbers_isKind_87 rfl (by rw [hk]; first | done | rfl) rfl
def k_Numbers_isOf (p1 : Int32) (p2 : Int32) : Bool :=
  if (p2 &&& (-256)) = p1 then (if (bI (k_Numbers_isKind (k_Numbers_kindOf p2))) = 0 then false else true) else false
set_option maxHeartbeats 4000000 in
set_option maxRecDepth 100000 in
theorem c_Numbers_isOf (l : Launch) (G : gx) (tys : List (ClassId × FieldType)) (p1 : Int32) (p2 : Int32) : ct_I l y_Numbers_isOf ws_Numbers_isOf ({ frames := 1, cells := 0, slots := 0, locals := 20 }) G tys [.int p1, .int p2] [] (bI (k_Numbers_isOf p1 p2)) [] := by
  refine ct_hI (cc := cc_Numbers_isOf) (maxL := 2) (ret := (some .boolean)) (by decide) rfl (Nat.le_of_ble_eq_true rfl) ?_
  intro p e s m below meth c A ls hx hb hr hml hts hown hlocks hP hK hD hA hE hS hl
  have hl : lv_has ls 2 [(0, .int p1), (1, .int p2)] := hl
  have hown : s.vm.findClass R_Numbers = some m.cls := hown
  refine lv_iload_n hx hb d_Numbers_isOf_0 rfl (lv_at hl 1 rfl) ?_
  refine lv_sipush (v := (-256)) hx hb d_Numbers_isOf_1 (by decide) ?_
  refine lv_iand hx hb d_Numbers_isOf_4 ?_
  refine lv_iload_n hx hb d_Numbers_isOf_5 rfl (lv_at hl 0 rfl) ?_
  refine lv_icmp_ne (tgt := 23) hx hb d_Numbers_isOf_6 (by decide) (fun c_47 => ?_) (fun c_47 => ?_)
  · refine lv_iconst (v := 0) hx hb d_Numbers_isOf_23 (by decide) ?_
    have hk : k_Numbers_isOf p1 p2 = false := (by rw [k_Numbers_isOf]; rw [if_neg c_47]; try rfl)
    exact ct_rz hx hb hr hlocks hP hD hK hS d_Numbers_isOf_24 rfl (by rw [hk]; first | done | rfl) rfl
  · refine lv_iload_n hx hb d_Numbers_isOf_9 rfl (lv_at hl 1 rfl) ?_
    refine ct_cSi (wr := []) (w1 := []) (w2 := []) (r := (k_Numbers_kindOf p2)) (As := [.int p2]) (rest := []) ⟨hx, hb, hml, hown, hts⟩ (c_Numbers_kindOf l G tys p2) (va_cwS 1 hts (gdS gd_gd q_275 q_276 q_48 q_277) rfl rfl rfl (by decide +kernel) ⟨Nat.le_of_ble_eq_true rfl, Nat.le_of_ble_eq_true rfl⟩) hE hK hP hD hS hA [] [] [] rfl (by decide) rfl (by decide) (by decide) rfl (by decide) rfl hl.1 rfl (Nat.le_of_ble_eq_true rfl) d_Numbers_isOf_10 ⟨Nat.zero_le _, Nat.zero_le _⟩ (fun H locs hP hD hS => ?_)
    refine ct_cSi (wr := []) (w1 := []) (w2 := []) (r := (bI (k_Numbers_isKind (k_Numbers_kindOf p2)))) (As := [.int (k_Numbers_kindOf p2)]) (rest := []) ⟨hx, hb, hml, hown, hts⟩ (c_Numbers_isKind l G tys (k_Numbers_kindOf p2)) (va_cwS 1 hts (gdS gd_gd q_278 q_279 q_48 q_280) rfl rfl rfl (by decide +kernel) ⟨Nat.le_of_ble_eq_true rfl, Nat.le_of_ble_eq_true rfl⟩) hE hK hP hD hS hA [] [] [] rfl (by decide) rfl (by decide) (by decide) rfl (by decide) rfl hl.1 rfl (Nat.le_of_ble_eq_true rfl) d_Numbers_isOf_13 ⟨Nat.zero_le _, Nat.zero_le _⟩ (fun H locs hP hD hS => ?_)
    refine lv_if_eq (tgt := 23) hx hb d_Numbers_isOf_16 (by decide) (fun c_48 => ?_) (fun c_48 => ?_)
    · refine lv_iconst (v := 0) hx hb d_Numbers_isOf_23 (by decide) ?_
      have hk : k_Numbers_isOf p1 p2 = false := (by rw [k_Numbers_isOf]; rw [if_pos c_47]; rw [if_pos c_48]; try rfl)
      exact ct_rz hx hb hr hlocks hP hD hK hS d_Numbers_isOf_24 rfl (by rw [hk]; first | done | rfl) rfl
    · refine lv_iconst (v := 1) hx hb d_Numbers_isOf_19 (by decide) ?_
      refine lv_goto (tgt := 24) hx hb d_Numbers_isOf_20 (by decide) ?_
      have hk : k_Numbers_isOf p1 p2 = true := (by rw [k_Numbers_isOf]; rw [if_pos c_47]; rw [if_neg c_48]; try rfl)
      exact ct_rz hx hb hr hlocks hP hD hK hS d_Numbers_isOf_24 rfl (by rw [hk]; first | done | rfl) rfl
def k_Numbers_isOfS (p1 : Int32) : Bool :=
  (k_Numbers_isOf 256 p1)
set_option maxHeartbeats 4000000 in
set_option maxRecDepth 100000 in
theorem c_Numbers_isOfS (l : Launch) (G : gx) (tys : List (ClassId × FieldType)) (p1 : Int32) : ct_I l y_Numbers_isOfS ws_Numbers_isOfS ({ frames := 2, cells := 0, slots := 0, locals := 41 }) G tys [.int p1] [] (bI (k_Numbers_isOfS p1)) [] := by
  refine ct_hI (cc := cc_Numbers_isOfS) (maxL := 1) (ret := (some .boolean)) (by decide) rfl (Nat.le_of_ble_eq_true rfl) ?_
  intro p e s m below meth c A ls hx hb hr hml hts hown hlocks hP hK hD hA hE hS hl
  have hl : lv_has ls 1 [(0, .int p1)] := hl
  have hown : s.vm.findClass R_Numbers = some m.cls := hown
  refine lv_sipush (v := 256) hx hb d_Numbers_isOfS_0 (by decide) ?_
  refine lv_iload_n hx hb d_Numbers_isOfS_3 rfl (lv_at hl 0 rfl) ?_
  refine ct_cSi (wr := []) (w1 := []) (w2 := []) (r := (bI (k_Numbers_isOf 256 p1))) (As := [.int 256, .int p1]) (rest := []) ⟨hx, hb, hml, hown, hts⟩ (c_Numbers_isOf l G tys 256 p1) (va_cwS 2 hts (gdS gd_gd q_272 q_273 q_48 q_274) rfl rfl rfl (by decide +kernel) ⟨Nat.le_of_ble_eq_true rfl, Nat.le_of_ble_eq_true rfl⟩) hE hK hP hD hS hA [] [] [] rfl (by decide) rfl (by decide) (by decide) rfl (by decide) rfl hl.1 rfl (Nat.le_of_ble_eq_true rfl) d_Numbers_isOfS_4 ⟨Nat.zero_le _, Nat.zero_le _⟩ (fun H locs hP hD hS => ?_)
  have hk : k_Numbers_isOfS p1 = (k_Numbers_isOf 256 p1) := (by rw [k_Numbers_isOfS]; try rfl)
  exact ct_rz hx hb hr hlocks hP hD hK hS d_Numbers_isOfS_7 (bI_n _) (by rw [hk]; first | done | rfl) rfl
def k_Numbers_isOfVs (p1 : Int32) : Bool :=
  (k_Numbers_isOf 512 p1)
set_option maxHeartbeats 4000000 in
set_option maxRecDepth 100000 in
theorem c_Numbers_isOfVs (l : Launch) (G : gx) (tys : List (ClassId × FieldType)) (p1 : Int32) : ct_I l y_Numbers_isOfVs ws_Numbers_isOfVs ({ frames := 2, cells := 0, slots := 0, locals := 41 }) G tys [.int p1] [] (bI (k_Numbers_isOfVs p1)) [] := by
  refine ct_hI (cc := cc_Numbers_isOfVs) (maxL := 1) (ret := (some .boolean)) (by decide) rfl (Nat.le_of_ble_eq_true rfl) ?_
  intro p e s m below meth c A ls hx hb hr hml hts hown hlocks hP hK hD hA hE hS hl
  have hl : lv_has ls 1 [(0, .int p1)] := hl
  have hown : s.vm.findClass R_Numbers = some m.cls := hown
  refine lv_sipush (v := 512) hx hb d_Numbers_isOfVs_0 (by decide) ?_
  refine lv_iload_n hx hb d_Numbers_isOfVs_3 rfl (lv_at hl 0 rfl) ?_
  refine ct_cSi (wr := []) (w1 := []) (w2 := []) (r := (bI (k_Numbers_isOf 512 p1))) (As := [.int 512, .int p1]) (rest := []) ⟨hx, hb, hml, hown, hts⟩ (c_Numbers_isOf l G tys 512 p1) (va_cwS 2 hts (gdS gd_gd q_272 q_273 q_48 q_274) rfl rfl rfl (by decide +kernel) ⟨Nat.le_of_ble_eq_true rfl, Nat.le_of_ble_eq_true rfl⟩) hE hK hP hD hS hA [] [] [] rfl (by decide) rfl (by decide) (by decide) rfl (by decide) rfl hl.1 rfl (Nat.le_of_ble_eq_true rfl) d_Numbers_isOfVs_4 ⟨Nat.zero_le _, Nat.zero_le _⟩ (fun H locs hP hD hS => ?_)
  have hk : k_Numbers_isOfVs p1 = (k_Numbers_isOf 512 p1) := (by rw [k_Numbers_isOfVs]; try rfl)
  exact ct_rz hx hb hr hlocks hP hD hK hS d_Numbers_isOfVs_7 (bI_n _) (by rw [hk]; first | done | rfl) rfl
def k_Numbers_isOfH (p1 : Int32) : Bool :=
  if p1 = 1536 then true else if p1 = 1538 then true else if p1 = 1539 then true else if p1 = 1540 then true else if p1 = 1603 then true else if p1 = 1604 then true else if p1 = 1605 then true else if p1 = 1610 then true else if p1 = 1664 then true else false
set_option maxHeartbeats 4000000 in
set_option maxRecDepth 100000 in
theorem c_Numbers_isOfH (l : Launch) (G : gx) (tys : List (ClassId × FieldType)) (p1 : Int32) : ct_I l y_Numbers_isOfH ws_Numbers_isOfH ({ frames := 0, cells := 0, slots := 0, locals := 0 }) G tys [.int p1] [] (bI (k_Numbers_isOfH p1)) [] := by
  refine ct_hI (cc := cc_Numbers_isOfH) (maxL := 1) (ret := (some .boolean)) (by decide) rfl (Nat.le_of_ble_eq_true rfl) ?_
  intro p e s m below meth c A ls hx hb hr hml hts hown hlocks hP hK hD hA hE hS hl
  have hl : lv_has ls 1 [(0, .int p1)] := hl
  have hown : s.vm.findClass R_Numbers = some m.cls := hown
  refine lv_iload_n hx hb d_Numbers_isOfH_0 rfl (lv_at hl 0 rfl) ?_
  by_cases c_60 : p1 = 1536
  · refine lv_lookup (off := 83) (tgt := 84) hx hb d_Numbers_isOfH_1 (by decide) (by rw [c_60]; decide) (by decide) ?_
    refine lv_iconst (v := 1) hx hb d_Numbers_isOfH_84 (by decide) ?_
    have hk : k_Numbers_isOfH p1 = true := (by rw [k_Numbers_isOfH]; rw [if_pos c_60]; try rfl)
    exact ct_rz hx hb hr hlocks hP hD hK hS d_Numbers_isOfH_85 rfl (by rw [hk]; first | done | rfl) rfl
  · by_cases c_61 : p1 = 1538
    · refine lv_lookup (off := 83) (tgt := 84) hx hb d_Numbers_isOfH_1 (by decide) (by rw [c_61]; decide) (by decide) ?_
      refine lv_iconst (v := 1) hx hb d_Numbers_isOfH_84 (by decide) ?_
      have hk : k_Numbers_isOfH p1 = true := (by rw [k_Numbers_isOfH]; rw [if_neg c_60]; rw [if_pos c_61]; try rfl)
      exact ct_rz hx hb hr hlocks hP hD hK hS d_Numbers_isOfH_85 rfl (by rw [hk]; first | done | rfl) rfl
    · by_cases c_62 : p1 = 1539
      · refine lv_lookup (off := 83) (tgt := 84) hx hb d_Numbers_isOfH_1 (by decide) (by rw [c_62]; decide) (by decide) ?_
        refine lv_iconst (v := 1) hx hb d_Numbers_isOfH_84 (by decide) ?_
        have hk : k_Numbers_isOfH p1 = true := (by rw [k_Numbers_isOfH]; rw [if_neg c_60]; rw [if_neg c_61]; rw [if_pos c_62]; try rfl)
        exact ct_rz hx hb hr hlocks hP hD hK hS d_Numbers_isOfH_85 rfl (by rw [hk]; first | done | rfl) rfl
      · by_cases c_63 : p1 = 1540
        · refine lv_lookup (off := 83) (tgt := 84) hx hb d_Numbers_isOfH_1 (by decide) (by rw [c_63]; decide) (by decide) ?_
          refine lv_iconst (v := 1) hx hb d_Numbers_isOfH_84 (by decide) ?_
          have hk : k_Numbers_isOfH p1 = true := (by rw [k_Numbers_isOfH]; rw [if_neg c_60]; rw [if_neg c_61]; rw [if_neg c_62]; rw [if_pos c_63]; try rfl)
          exact ct_rz hx hb hr hlocks hP hD hK hS d_Numbers_isOfH_85 rfl (by rw [hk]; first | done | rfl) rfl
        · by_cases c_64 : p1 = 1603
          · refine lv_lookup (off := 83) (tgt := 84) hx hb d_Numbers_isOfH_1 (by decide) (by rw [c_64]; decide) (by decide) ?_
            refine lv_iconst (v := 1) hx hb d_Numbers_isOfH_84 (by decide) ?_
            have hk : k_Numbers_isOfH p1 = true := (by rw [k_Numbers_isOfH]; rw [if_neg c_60]; rw [if_neg c_61]; rw [if_neg c_62]; rw [if_neg c_63]; rw [if_pos c_64]; try rfl)
            exact ct_rz hx hb hr hlocks hP hD hK hS d_Numbers_isOfH_85 rfl (by rw [hk]; first | done | rfl) rfl
          · by_cases c_65 : p1 = 1604
            · refine lv_lookup (off := 83) (tgt := 84) hx hb d_Numbers_isOfH_1 (by decide) (by rw [c_65]; decide) (by decide) ?_
              refine lv_iconst (v := 1) hx hb d_Numbers_isOfH_84 (by decide) ?_
              have hk : k_Numbers_isOfH p1 = true := (by rw [k_Numbers_isOfH]; rw [if_neg c_60]; rw [if_neg c_61]; rw [if_neg c_62]; rw [if_neg c_63]; rw [if_neg c_64]; rw [if_pos c_65]; try rfl)
              exact ct_rz hx hb hr hlocks hP hD hK hS d_Numbers_isOfH_85 rfl (by rw [hk]; first | done | rfl) rfl
            · by_cases c_66 : p1 = 1605
              · refine lv_lookup (off := 83) (tgt := 84) hx hb d_Numbers_isOfH_1 (by decide) (by rw [c_66]; decide) (by decide) ?_
                refine lv_iconst (v := 1) hx hb d_Numbers_isOfH_84 (by decide) ?_
                have hk : k_Numbers_isOfH p1 = true := (by rw [k_Numbers_isOfH]; rw [if_neg c_60]; rw [if_neg c_61]; rw [if_neg c_62]; rw [if_neg c_63]; rw [if_neg c_64]; rw [if_neg c_65]; rw [if_pos c_66]; try rfl)
                exact ct_rz hx hb hr hlocks hP hD hK hS d_Numbers_isOfH_85 rfl (by rw [hk]; first | done | rfl) rfl
              · by_cases c_67 : p1 = 1610
                · refine lv_lookup (off := 83) (tgt := 84) hx hb d_Numbers_isOfH_1 (by decide) (by rw [c_67]; decide) (by decide) ?_
                  refine lv_iconst (v := 1) hx hb d_Numbers_isOfH_84 (by decide) ?_
                  have hk : k_Numbers_isOfH p1 = true := (by rw [k_Numbers_isOfH]; rw [if_neg c_60]; rw [if_neg c_61]; rw [if_neg c_62]; rw [if_neg c_63]; rw [if_neg c_64]; rw [if_neg c_65]; rw [if_neg c_66]; rw [if_pos c_67]; try rfl)
                  exact ct_rz hx hb hr hlocks hP hD hK hS d_Numbers_isOfH_85 rfl (by rw [hk]; first | done | rfl) rfl
                · by_cases c_68 : p1 = 1664
                  · refine lv_lookup (off := 83) (tgt := 84) hx hb d_Numbers_isOfH_1 (by decide) (by rw [c_68]; decide) (by decide) ?_
                    refine lv_iconst (v := 1) hx hb d_Numbers_isOfH_84 (by decide) ?_
                    have hk : k_Numbers_isOfH p1 = true := (by rw [k_Numbers_isOfH]; rw [if_neg c_60]; rw [if_neg c_61]; rw [if_neg c_62]; rw [if_neg c_63]; rw [if_neg c_64]; rw [if_neg c_65]; rw [if_neg c_66]; rw [if_neg c_67]; rw [if_pos c_68]; try rfl)
                    exact ct_rz hx hb hr hlocks hP hD hK hS d_Numbers_isOfH_85 rfl (by rw [hk]; first | done | rfl) rfl
                  · refine lv_lookup (off := 85) (tgt := 86) hx hb d_Numbers_isOfH_1 (by decide) ((lv_osw c_60 (by decide)).trans ((lv_osw c_61 (by decide)).trans ((lv_osw c_62 (by decide)).trans ((lv_osw c_63 (by decide)).trans ((lv_osw c_64 (by decide)).trans ((lv_osw c_65 (by decide)).trans ((lv_osw c_66 (by decide)).trans ((lv_osw c_67 (by decide)).trans ((lv_osw c_68 (by decide)).trans rfl))))))))) (by decide) ?_
                    refine lv_iconst (v := 0) hx hb d_Numbers_isOfH_86 (by decide) ?_
                    have hk : k_Numbers_isOfH p1 = false := (by rw [k_Numbers_isOfH]; rw [if_neg c_60]; rw [if_neg c_61]; rw [if_neg c_62]; rw [if_neg c_63]; rw [if_neg c_64]; rw [if_neg c_65]; rw [if_neg c_66]; rw [if_neg c_67]; rw [if_neg c_68]; try rfl)
                    exact ct_rz hx hb hr hlocks hP hD hK hS d_Numbers_isOfH_87 rfl (by rw [hk]; first | done | rfl) rfl
def k_Numbers_isTime (p1 : Int32) : Bool :=
  if p1 = 3073 then true else (if p1 = 3201 then true else false)
set_option maxHeartbeats 4000000 in
set_option maxRecDepth 100000 in
theorem c_Numbers_isTime (l : Launch) (G : gx) (tys : List (ClassId × FieldType)) (p1 : Int32) : ct_I l y_Numbers_isTime ws_Numbers_isTime ({ frames := 0, cells := 0, slots := 0, locals := 0 }) G tys [.int p1] [] (bI (k_Numbers_isTime p1)) [] := by
  refine ct_hI (cc := cc_Numbers_isTime) (maxL := 1) (ret := (some .boolean)) (by decide) rfl (Nat.le_of_ble_eq_true rfl) ?_
  intro p e s m below meth c A ls hx hb hr hml hts hown hlocks hP hK hD hA hE hS hl
  have hl : lv_has ls 1 [(0, .int p1)] := hl
  have hown : s.vm.findClass R_Numbers = some m.cls := hown
  refine lv_iload_n hx hb d_Numbers_isTime_0 rfl (lv_at hl 0 rfl) ?_
  refine lv_sipush (v := 3073) hx hb d_Numbers_isTime_1 (by decide) ?_
  refine lv_icmp_eq (tgt := 14) hx hb d_Numbers_isTime_4 (by decide) (fun c_72 => ?_) (fun c_72 => ?_)
  · refine lv_iconst (v := 1) hx hb d_Numbers_isTime_14 (by decide) ?_
    refine lv_goto (tgt := 19) hx hb d_Numbers_isTime_15 (by decide) ?_
    have hk : k_Numbers_isTime p1 = true := (by rw [k_Numbers_isTime]; rw [if_pos c_72]; try rfl)
    exact ct_rz hx hb hr hlocks hP hD hK hS d_Numbers_isTime_19 rfl (by rw [hk]; first | done | rfl) rfl
  · refine lv_iload_n hx hb d_Numbers_isTime_7 rfl (lv_at hl 0 rfl) ?_
    refine lv_sipush (v := 3201) hx hb d_Numbers_isTime_8 (by decide) ?_
    refine lv_icmp_ne (tgt := 18) hx hb d_Numbers_isTime_11 (by decide) (fun c_73 => ?_) (fun c_73 => ?_)
    · refine lv_iconst (v := 0) hx hb d_Numbers_isTime_18 (by decide) ?_
      have hk : k_Numbers_isTime p1 = false := (by rw [k_Numbers_isTime]; rw [if_neg c_72]; rw [if_neg c_73]; try rfl)
      exact ct_rz hx hb hr hlocks hP hD hK hS d_Numbers_isTime_19 rfl (by rw [hk]; first | done | rfl) rfl
    · refine lv_iconst (v := 1) hx hb d_Numbers_isTime_14 (by decide) ?_
      refine lv_goto (tgt := 19) hx hb d_Numbers_isTime_15 (by decide) ?_
      have hk : k_Numbers_isTime p1 = true := (by rw [k_Numbers_isTime]; rw [if_neg c_72]; rw [if_pos c_73]; try rfl)
      exact ct_rz hx hb hr hlocks hP hD hK hS d_Numbers_isTime_19 rfl (by rw [hk]; first | done | rfl) rfl
end
section
def k_Numbers_isKnown (p1 : Int32) : Bool :=
  if (bI (k_Numbers_isOfS p1)) = 0 then (if (bI (k_Numbers_isOfVs p1)) = 0 then (if (bI (k_Numbers_isOfH p1)) = 0 then (if (bI (k_Numbers_isTime p1)) = 0 then false else true) else true) else true) else true
set_option maxHeartbeats 4000000 in
set_option maxRecDepth 100000 in
theorem c_Numbers_isKnown (l : Launch) (G : gx) (tys : List (ClassId × FieldType)) (p1 : Int32) : ct_I l y_Numbers_isKnown ws_Numbers_isKnown ({ frames := 3, cells := 0, slots := 0, locals := 61 }) G tys [.int p1] [] (bI (k_Numbers_isKnown p1)) [] := by
  refine ct_hI (cc := cc_Numbers_isKnown) (maxL := 1) (ret := (some .boolean)) (by decide) rfl (Nat.le_of_ble_eq_true rfl) ?_
  intro p e s m below meth c A ls hx hb hr hml hts hown hlocks hP hK hD hA hE hS hl
  have hl : lv_has ls 1 [(0, .int p1)] := hl
  have hown : s.vm.findClass R_Numbers = some m.cls := hown
  refine lv_iload_n hx hb d_Numbers_isKnown_0 rfl (lv_at hl 0 rfl) ?_
  refine ct_cSi (wr := []) (w1 := []) (w2 := []) (r := (bI (k_Numbers_isOfS p1))) (As := [.int p1]) (rest := []) ⟨hx, hb, hml, hown, hts⟩ (c_Numbers_isOfS l G tys p1) (va_cwS 1 hts (gdS gd_gd q_269 q_270 q_48 q_271) rfl rfl rfl (by decide +kernel) ⟨Nat.le_of_ble_eq_true rfl, Nat.le_of_ble_eq_true rfl⟩) hE hK hP hD hS hA [] [] [] rfl (by decide) rfl (by decide) (by decide) rfl (by decide) rfl hl.1 rfl (Nat.le_of_ble_eq_true rfl) d_Numbers_isKnown_1 ⟨Nat.zero_le _, Nat.zero_le _⟩ (fun H locs hP hD hS => ?_)
  refine lv_if_ne (tgt := 28) hx hb d_Numbers_isKnown_4 (by decide) (fun c_75 => ?_) (fun c_75 => ?_)
  · refine lv_iconst (v := 1) hx hb d_Numbers_isKnown_28 (by decide) ?_
    refine lv_goto (tgt := 33) hx hb d_Numbers_isKnown_29 (by decide) ?_
    have hk : k_Numbers_isKnown p1 = true := (by rw [k_Numbers_isKnown]; rw [if_neg c_75]; try rfl)
    exact ct_rz hx hb hr hlocks hP hD hK hS d_Numbers_isKnown_33 rfl (by rw [hk]; first | done | rfl) rfl
  · refine lv_iload_n hx hb d_Numbers_isKnown_7 rfl (lv_at hl 0 rfl) ?_
    refine ct_cSi (wr := []) (w1 := []) (w2 := []) (r := (bI (k_Numbers_isOfVs p1))) (As := [.int p1]) (rest := []) ⟨hx, hb, hml, hown, hts⟩ (c_Numbers_isOfVs l G tys p1) (va_cwS 1 hts (gdS gd_gd q_281 q_282 q_48 q_283) rfl rfl rfl (by decide +kernel) ⟨Nat.le_of_ble_eq_true rfl, Nat.le_of_ble_eq_true rfl⟩) hE hK hP hD hS hA [] [] [] rfl (by decide) rfl (by decide) (by decide) rfl (by decide) rfl hl.1 rfl (Nat.le_of_ble_eq_true rfl) d_Numbers_isKnown_8 ⟨Nat.zero_le _, Nat.zero_le _⟩ (fun H locs hP hD hS => ?_)
    refine lv_if_ne (tgt := 28) hx hb d_Numbers_isKnown_11 (by decide) (fun c_76 => ?_) (fun c_76 => ?_)
    · refine lv_iconst (v := 1) hx hb d_Numbers_isKnown_28 (by decide) ?_
      refine lv_goto (tgt := 33) hx hb d_Numbers_isKnown_29 (by decide) ?_
      have hk : k_Numbers_isKnown p1 = true := (by rw [k_Numbers_isKnown]; rw [if_pos c_75]; rw [if_neg c_76]; try rfl)
      exact ct_rz hx hb hr hlocks hP hD hK hS d_Numbers_isKnown_33 rfl (by rw [hk]; first | done | rfl) rfl
    · refine lv_iload_n hx hb d_Numbers_isKnown_14 rfl (lv_at hl 0 rfl) ?_
      refine ct_cSi (wr := []) (w1 := []) (w2 := []) (r := (bI (k_Numbers_isOfH p1))) (As := [.int p1]) (rest := []) ⟨hx, hb, hml, hown, hts⟩ (c_Numbers_isOfH l G tys p1) (va_cwS 1 hts (gdS gd_gd q_284 q_285 q_48 q_286) rfl rfl rfl (by decide +kernel) ⟨Nat.le_of_ble_eq_true rfl, Nat.le_of_ble_eq_true rfl⟩) hE hK hP hD hS hA [] [] [] rfl (by decide) rfl (by decide) (by decide) rfl (by decide) rfl hl.1 rfl (Nat.le_of_ble_eq_true rfl) d_Numbers_isKnown_15 ⟨Nat.zero_le _, Nat.zero_le _⟩ (fun H locs hP hD hS => ?_)
      refine lv_if_ne (tgt := 28) hx hb d_Numbers_isKnown_18 (by decide) (fun c_77 => ?_) (fun c_77 => ?_)
      · refine lv_iconst (v := 1) hx hb d_Numbers_isKnown_28 (by decide) ?_
        refine lv_goto (tgt := 33) hx hb d_Numbers_isKnown_29 (by decide) ?_
        have hk : k_Numbers_isKnown p1 = true := (by rw [k_Numbers_isKnown]; rw [if_pos c_75]; rw [if_pos c_76]; rw [if_neg c_77]; try rfl)
        exact ct_rz hx hb hr hlocks hP hD hK hS d_Numbers_isKnown_33 rfl (by rw [hk]; first | done | rfl) rfl
      · refine lv_iload_n hx hb d_Numbers_isKnown_21 rfl (lv_at hl 0 rfl) ?_
        refine ct_cSi (wr := []) (w1 := []) (w2 := []) (r := (bI (k_Numbers_isTime p1))) (As := [.int p1]) (rest := []) ⟨hx, hb, hml, hown, hts⟩ (c_Numbers_isTime l G tys p1) (va_cwS 1 hts (gdS gd_gd q_287 q_288 q_48 q_289) rfl rfl rfl (by decide +kernel) ⟨Nat.le_of_ble_eq_true rfl, Nat.le_of_ble_eq_true rfl⟩) hE hK hP hD hS hA [] [] [] rfl (by decide) rfl (by decide) (by decide) rfl (by decide) rfl hl.1 rfl (Nat.le_of_ble_eq_true rfl) d_Numbers_isKnown_22 ⟨Nat.zero_le _, Nat.zero_le _⟩ (fun H locs hP hD hS => ?_)
        refine lv_if_eq (tgt := 32) hx hb d_Numbers_isKnown_25 (by decide) (fun c_78 => ?_) (fun c_78 => ?_)
        · refine lv_iconst (v := 0) hx hb d_Numbers_isKnown_32 (by decide) ?_
          have hk : k_Numbers_isKnown p1 = false := (by rw [k_Numbers_isKnown]; rw [if_pos c_75]; rw [if_pos c_76]; rw [if_pos c_77]; rw [if_pos c_78]; try rfl)
          exact ct_rz hx hb hr hlocks hP hD hK hS d_Numbers_isKnown_33 rfl (by rw [hk]; first | done | rfl) rfl
        · refine lv_iconst (v := 1) hx hb d_Numbers_isKnown_28 (by decide) ?_
          refine lv_goto (tgt := 33) hx hb d_Numbers_isKnown_29 (by decide) ?_
          have hk : k_Numbers_isKnown p1 = true := (by rw [k_Numbers_isKnown]; rw [if_pos c_75]; rw [if_pos c_76]; rw [if_pos c_77]; rw [if_neg c_78]; try rfl)
          exact ct_rz hx hb hr hlocks hP hD hK hS d_Numbers_isKnown_33 rfl (by rw [hk]; first | done | rfl) rfl
def k_Hyper_replaced (p1 : Int32) (p2 : Int32) (p3 : Int32) : Int32 :=
  ((p1 &&& (p2 ^^^ (-1))) ||| (p3 &&& p2))
set_option maxHeartbeats 4000000 in
set_option maxRecDepth 100000 in
theorem c_Hyper_replaced (l : Launch) (G : gx) (tys : List (ClassId × FieldType)) (p1 : Int32) (p2 : Int32) (p3 : Int32) : ct_I l y_Hyper_replaced ws_Hyper_replaced ({ frames := 0, cells := 0, slots := 0, locals := 0 }) G tys [.int p1, .int p2, .int p3] [] (k_Hyper_replaced p1 p2 p3) [] := by
  refine ct_hI (cc := cc_Hyper_replaced) (maxL := 3) (ret := (some .int)) (by decide) rfl (Nat.le_of_ble_eq_true rfl) ?_
  intro p e s m below meth c A ls hx hb hr hml hts hown hlocks hP hK hD hA hE hS hl
  have hl : lv_has ls 3 [(0, .int p1), (1, .int p2), (2, .int p3)] := hl
  have hown : s.vm.findClass R_Hyper = some m.cls := hown
  refine lv_iload_n hx hb d_Hyper_replaced_0 rfl (lv_at hl 0 rfl) ?_
  refine lv_iload_n hx hb d_Hyper_replaced_1 rfl (lv_at hl 1 rfl) ?_
  refine lv_iconst (v := (-1)) hx hb d_Hyper_replaced_2 (by decide) ?_
  refine lv_ixor hx hb d_Hyper_replaced_3 ?_
  refine lv_iand hx hb d_Hyper_replaced_4 ?_
  refine lv_iload_n hx hb d_Hyper_replaced_5 rfl (lv_at hl 2 rfl) ?_
  refine lv_iload_n hx hb d_Hyper_replaced_6 rfl (lv_at hl 1 rfl) ?_
  refine lv_iand hx hb d_Hyper_replaced_7 ?_
  refine lv_ior hx hb d_Hyper_replaced_8 ?_
  have hk : k_Hyper_replaced p1 p2 p3 = ((p1 &&& (p2 ^^^ (-1))) ||| (p3 &&& p2)) := (by rw [k_Hyper_replaced]; try rfl)
  exact ct_ri hx hb hr hlocks hP hD hK hS d_Hyper_replaced_9 (by rw [hk]; first | done | rfl) rfl
def k_Hyper_write (sy : ob) (p1 : Int32) (p2 : Int32) : ob :=
  if p1 = 1536 then (oi sy 0 (p2 &&& 7340992)) else if p1 = 1538 then (oi sy 1 (p2 &&& 45567)) else if p1 = 1539 then (oi sy 2 (p2 &&& 1092)) else if p1 = 1540 then (oi sy 3 (p2 &&& 1092)) else if p1 = 1603 then (oi sy 4 p2) else if p1 = 1604 then (oi sy 5 (k_Hyper_replaced (sy.1 5) 4 p2)) else if p1 = 1605 then (oi sy 5 (p2 &&& 1092)) else if p1 = 1610 then (oi sy 6 p2) else if p1 = 1664 then (oi sy 7 (p2 &&& (-2143289348))) else sy
set_option maxHeartbeats 4000000 in
set_option maxRecDepth 100000 in
theorem c_Hyper_write (l : Launch) (G : gx) (tys : List (ClassId × FieldType)) (qy : Nat) (sy : ob) (p1 : Int32) (p2 : Int32) : ct_V l y_Hyper_write ws_Hyper_write ({ frames := 1, cells := 0, slots := 0, locals := 22 }) G tys [.ref qy, .int p1, .int p2] [(qy, .inr (2, f_Hyper sy))] [(qy, .inr (2, f_Hyper (k_Hyper_write sy p1 p2)))] := by
  refine ct_hV (cc := cc_Hyper_write) (maxL := 3) (ret := none) (by decide) rfl (Nat.le_of_ble_eq_true rfl) ?_
  intro p e s m below meth c A ls hx hb hr hml hts hown hlocks hP hK hD hA hE hS hl
  have hl : lv_has ls 3 [(0, .ref qy), (1, .int p1), (2, .int p2)] := hl
  have hown : s.vm.findClass R_Hyper = some m.cls := hown
  refine lv_iload_n hx hb d_Hyper_write_0 rfl (lv_at hl 1 rfl) ?_
  by_cases c_92 : p1 = 1536
  · refine lv_lookup (off := 83) (tgt := 84) hx hb d_Hyper_write_1 (by decide) (by rw [c_92]; decide) (by decide) ?_
    refine lv_aload_n hx hb d_Hyper_write_84 rfl (lv_at hl 0 rfl) ?_
    refine lv_iload_n hx hb d_Hyper_write_85 rfl (lv_at hl 2 rfl) ?_
    refine lv_ldc (v := 7340992) hx hb hown (hts _ (gd_sub _ q_327)) d_Hyper_write_86 ?_
    refine lv_iand hx hb d_Hyper_write_88 ?_
    refine va_put (D := G.1) (ci := 2) (v := .int (p2 &&& 7340992)) (ty := .int) (C := R_Hyper) (T := T_Hyper) (N := 8) hx hb hts (fun w h => gd_sub _ (iw_Hyper w h)) ty_Hyper tyok_Hyper nm_Hyper hown hK hP hD hS 0 rfl rfl 0 (by decide) (hts _ (gd_sub _ q_132)) (fun _ h9 => h9) rfl (by decide +kernel) rfl rfl (Nat.le_of_ble_eq_true rfl) d_Hyper_write_89 (fun H locs hP hD hS => ?_)
    have hP : va_P G.1 vwCl [(qy, .inr (2, f_Hyper (oi sy 0 (p2 &&& 7340992))))] H := hP
    have hD : va_D A [(qy, .inr (2, f_Hyper (oi sy 0 (p2 &&& 7340992))))] := hD
    refine lv_goto (tgt := 185) hx hb d_Hyper_write_92 (by decide) ?_
    have hk : k_Hyper_write sy p1 p2 = (oi sy 0 (p2 &&& 7340992)) := (by rw [k_Hyper_write]; rw [if_pos c_92]; try rfl)
    exact ct_rv hx hb hr hlocks hP hD hK hS d_Hyper_write_185 (by rw [hk]; first | done | rfl)
  · by_cases c_93 : p1 = 1538
    · refine lv_lookup (off := 94) (tgt := 95) hx hb d_Hyper_write_1 (by decide) (by rw [c_93]; decide) (by decide) ?_
      refine lv_aload_n hx hb d_Hyper_write_95 rfl (lv_at hl 0 rfl) ?_
      refine lv_iload_n hx hb d_Hyper_write_96 rfl (lv_at hl 2 rfl) ?_
      refine lv_ldc (v := 45567) hx hb hown (hts _ (gd_sub _ q_328)) d_Hyper_write_97 ?_
      refine lv_iand hx hb d_Hyper_write_99 ?_
      refine va_put (D := G.1) (ci := 2) (v := .int (p2 &&& 45567)) (ty := .int) (C := R_Hyper) (T := T_Hyper) (N := 8) hx hb hts (fun w h => gd_sub _ (iw_Hyper w h)) ty_Hyper tyok_Hyper nm_Hyper hown hK hP hD hS 0 rfl rfl 1 (by decide) (hts _ (gd_sub _ q_133)) (fun _ h9 => h9) rfl (by decide +kernel) rfl rfl (Nat.le_of_ble_eq_true rfl) d_Hyper_write_100 (fun H locs hP hD hS => ?_)
      have hP : va_P G.1 vwCl [(qy, .inr (2, f_Hyper (oi sy 1 (p2 &&& 45567))))] H := hP
      have hD : va_D A [(qy, .inr (2, f_Hyper (oi sy 1 (p2 &&& 45567))))] := hD
      refine lv_goto (tgt := 185) hx hb d_Hyper_write_103 (by decide) ?_
      have hk : k_Hyper_write sy p1 p2 = (oi sy 1 (p2 &&& 45567)) := (by rw [k_Hyper_write]; rw [if_neg c_92]; rw [if_pos c_93]; try rfl)
      exact ct_rv hx hb hr hlocks hP hD hK hS d_Hyper_write_185 (by rw [hk]; first | done | rfl)
    · by_cases c_94 : p1 = 1539
      · refine lv_lookup (off := 105) (tgt := 106) hx hb d_Hyper_write_1 (by decide) (by rw [c_94]; decide) (by decide) ?_
        refine lv_aload_n hx hb d_Hyper_write_106 rfl (lv_at hl 0 rfl) ?_
        refine lv_iload_n hx hb d_Hyper_write_107 rfl (lv_at hl 2 rfl) ?_
        refine lv_sipush (v := 1092) hx hb d_Hyper_write_108 (by decide) ?_
        refine lv_iand hx hb d_Hyper_write_111 ?_
        refine va_put (D := G.1) (ci := 2) (v := .int (p2 &&& 1092)) (ty := .int) (C := R_Hyper) (T := T_Hyper) (N := 8) hx hb hts (fun w h => gd_sub _ (iw_Hyper w h)) ty_Hyper tyok_Hyper nm_Hyper hown hK hP hD hS 0 rfl rfl 2 (by decide) (hts _ (gd_sub _ q_135)) (fun _ h9 => h9) rfl (by decide +kernel) rfl rfl (Nat.le_of_ble_eq_true rfl) d_Hyper_write_112 (fun H locs hP hD hS => ?_)
        have hP : va_P G.1 vwCl [(qy, .inr (2, f_Hyper (oi sy 2 (p2 &&& 1092))))] H := hP
        have hD : va_D A [(qy, .inr (2, f_Hyper (oi sy 2 (p2 &&& 1092))))] := hD
        refine lv_goto (tgt := 185) hx hb d_Hyper_write_115 (by decide) ?_
        have hk : k_Hyper_write sy p1 p2 = (oi sy 2 (p2 &&& 1092)) := (by rw [k_Hyper_write]; rw [if_neg c_92]; rw [if_neg c_93]; rw [if_pos c_94]; try rfl)
        exact ct_rv hx hb hr hlocks hP hD hK hS d_Hyper_write_185 (by rw [hk]; first | done | rfl)
      · by_cases c_95 : p1 = 1540
        · refine lv_lookup (off := 117) (tgt := 118) hx hb d_Hyper_write_1 (by decide) (by rw [c_95]; decide) (by decide) ?_
          refine lv_aload_n hx hb d_Hyper_write_118 rfl (lv_at hl 0 rfl) ?_
          refine lv_iload_n hx hb d_Hyper_write_119 rfl (lv_at hl 2 rfl) ?_
          refine lv_sipush (v := 1092) hx hb d_Hyper_write_120 (by decide) ?_
          refine lv_iand hx hb d_Hyper_write_123 ?_
          refine va_put (D := G.1) (ci := 2) (v := .int (p2 &&& 1092)) (ty := .int) (C := R_Hyper) (T := T_Hyper) (N := 8) hx hb hts (fun w h => gd_sub _ (iw_Hyper w h)) ty_Hyper tyok_Hyper nm_Hyper hown hK hP hD hS 0 rfl rfl 3 (by decide) (hts _ (gd_sub _ q_137)) (fun _ h9 => h9) rfl (by decide +kernel) rfl rfl (Nat.le_of_ble_eq_true rfl) d_Hyper_write_124 (fun H locs hP hD hS => ?_)
          have hP : va_P G.1 vwCl [(qy, .inr (2, f_Hyper (oi sy 3 (p2 &&& 1092))))] H := hP
          have hD : va_D A [(qy, .inr (2, f_Hyper (oi sy 3 (p2 &&& 1092))))] := hD
          refine lv_goto (tgt := 185) hx hb d_Hyper_write_127 (by decide) ?_
          have hk : k_Hyper_write sy p1 p2 = (oi sy 3 (p2 &&& 1092)) := (by rw [k_Hyper_write]; rw [if_neg c_92]; rw [if_neg c_93]; rw [if_neg c_94]; rw [if_pos c_95]; try rfl)
          exact ct_rv hx hb hr hlocks hP hD hK hS d_Hyper_write_185 (by rw [hk]; first | done | rfl)
        · by_cases c_96 : p1 = 1603
          · refine lv_lookup (off := 129) (tgt := 130) hx hb d_Hyper_write_1 (by decide) (by rw [c_96]; decide) (by decide) ?_
            refine lv_aload_n hx hb d_Hyper_write_130 rfl (lv_at hl 0 rfl) ?_
            refine lv_iload_n hx hb d_Hyper_write_131 rfl (lv_at hl 2 rfl) ?_
            refine va_put (D := G.1) (ci := 2) (v := .int p2) (ty := .int) (C := R_Hyper) (T := T_Hyper) (N := 8) hx hb hts (fun w h => gd_sub _ (iw_Hyper w h)) ty_Hyper tyok_Hyper nm_Hyper hown hK hP hD hS 0 rfl rfl 4 (by decide) (hts _ (gd_sub _ q_139)) (fun _ h9 => h9) rfl (by decide +kernel) rfl rfl (Nat.le_of_ble_eq_true rfl) d_Hyper_write_132 (fun H locs hP hD hS => ?_)
            have hP : va_P G.1 vwCl [(qy, .inr (2, f_Hyper (oi sy 4 p2)))] H := hP
            have hD : va_D A [(qy, .inr (2, f_Hyper (oi sy 4 p2)))] := hD
            refine lv_goto (tgt := 185) hx hb d_Hyper_write_135 (by decide) ?_
            have hk : k_Hyper_write sy p1 p2 = (oi sy 4 p2) := (by rw [k_Hyper_write]; rw [if_neg c_92]; rw [if_neg c_93]; rw [if_neg c_94]; rw [if_neg c_95]; rw [if_pos c_96]; try rfl)
            exact ct_rv hx hb hr hlocks hP hD hK hS d_Hyper_write_185 (by rw [hk]; first | done | rfl)
          · by_cases c_97 : p1 = 1604
            · refine lv_lookup (off := 137) (tgt := 138) hx hb d_Hyper_write_1 (by decide) (by rw [c_97]; decide) (by decide) ?_
              refine lv_aload_n hx hb d_Hyper_write_138 rfl (lv_at hl 0 rfl) ?_
              refine lv_aload_n hx hb d_Hyper_write_139 rfl (lv_at hl 0 rfl) ?_
              refine va_get (D := G.1) (ci := 2) (v := .int (sy.1 5)) (C := R_Hyper) (T := T_Hyper) (N := 8) hx hb hts (fun w h => gd_sub _ (iw_Hyper w h)) hown hK hP 0 rfl rfl 5 (by decide) (hts _ (gd_sub _ q_141)) (fun _ h9 => h9) rfl d_Hyper_write_140 ?_
              refine lv_iconst (v := 4) hx hb d_Hyper_write_143 (by decide) ?_
              refine lv_iload_n hx hb d_Hyper_write_144 rfl (lv_at hl 2 rfl) ?_
              refine ct_cSi (wr := [(qy, .inr (2, f_Hyper sy))]) (w1 := []) (w2 := [(qy, .inr (2, f_Hyper sy))]) (r := (k_Hyper_replaced (sy.1 5) 4 p2)) (As := [.int (sy.1 5), .int 4, .int p2]) (rest := [.ref qy]) ⟨hx, hb, hml, hown, hts⟩ (c_Hyper_replaced l G tys (sy.1 5) 4 p2) (va_cwS 3 hts (gdS gd_gd q_316 q_317 q_45 q_318) rfl rfl rfl (by decide +kernel) ⟨Nat.le_of_ble_eq_true rfl, Nat.le_of_ble_eq_true rfl⟩) hE hK hP hD hS hA [] [0] [0] rfl (by decide) rfl (by decide) (by decide) rfl (by decide) rfl hl.1 rfl (Nat.le_of_ble_eq_true rfl) d_Hyper_write_145 ⟨Nat.zero_le _, Nat.zero_le _⟩ (fun H locs hP hD hS => ?_)
              refine va_put (D := G.1) (ci := 2) (v := .int (k_Hyper_replaced (sy.1 5) 4 p2)) (ty := .int) (C := R_Hyper) (T := T_Hyper) (N := 8) hx hb hts (fun w h => gd_sub _ (iw_Hyper w h)) ty_Hyper tyok_Hyper nm_Hyper hown hK hP hD hS 0 rfl rfl 5 (by decide) (hts _ (gd_sub _ q_141)) (fun _ h9 => h9) rfl (by decide +kernel) rfl rfl (Nat.le_of_ble_eq_true rfl) d_Hyper_write_148 (fun H locs hP hD hS => ?_)
              have hP : va_P G.1 vwCl [(qy, .inr (2, f_Hyper (oi sy 5 (k_Hyper_replaced (sy.1 5) 4 p2))))] H := hP
              have hD : va_D A [(qy, .inr (2, f_Hyper (oi sy 5 (k_Hyper_replaced (sy.1 5) 4 p2))))] := hD
              refine lv_goto (tgt := 185) hx hb d_Hyper_write_151 (by decide) ?_
              have hk : k_Hyper_write sy p1 p2 = (oi sy 5 (k_Hyper_replaced (sy.1 5) 4 p2)) := (by rw [k_Hyper_write]; rw [if_neg c_92]; rw [if_neg c_93]; rw [if_neg c_94]; rw [if_neg c_95]; rw [if_neg c_96]; rw [if_pos c_97]; try rfl)
              exact ct_rv hx hb hr hlocks hP hD hK hS d_Hyper_write_185 (by rw [hk]; first | done | rfl)
            · by_cases c_98 : p1 = 1605
              · refine lv_lookup (off := 153) (tgt := 154) hx hb d_Hyper_write_1 (by decide) (by rw [c_98]; decide) (by decide) ?_
                refine lv_aload_n hx hb d_Hyper_write_154 rfl (lv_at hl 0 rfl) ?_
                refine lv_iload_n hx hb d_Hyper_write_155 rfl (lv_at hl 2 rfl) ?_
                refine lv_sipush (v := 1092) hx hb d_Hyper_write_156 (by decide) ?_
                refine lv_iand hx hb d_Hyper_write_159 ?_
                refine va_put (D := G.1) (ci := 2) (v := .int (p2 &&& 1092)) (ty := .int) (C := R_Hyper) (T := T_Hyper) (N := 8) hx hb hts (fun w h => gd_sub _ (iw_Hyper w h)) ty_Hyper tyok_Hyper nm_Hyper hown hK hP hD hS 0 rfl rfl 5 (by decide) (hts _ (gd_sub _ q_141)) (fun _ h9 => h9) rfl (by decide +kernel) rfl rfl (Nat.le_of_ble_eq_true rfl) d_Hyper_write_160 (fun H locs hP hD hS => ?_)
                have hP : va_P G.1 vwCl [(qy, .inr (2, f_Hyper (oi sy 5 (p2 &&& 1092))))] H := hP
                have hD : va_D A [(qy, .inr (2, f_Hyper (oi sy 5 (p2 &&& 1092))))] := hD
                refine lv_goto (tgt := 185) hx hb d_Hyper_write_163 (by decide) ?_
                have hk : k_Hyper_write sy p1 p2 = (oi sy 5 (p2 &&& 1092)) := (by rw [k_Hyper_write]; rw [if_neg c_92]; rw [if_neg c_93]; rw [if_neg c_94]; rw [if_neg c_95]; rw [if_neg c_96]; rw [if_neg c_97]; rw [if_pos c_98]; try rfl)
                exact ct_rv hx hb hr hlocks hP hD hK hS d_Hyper_write_185 (by rw [hk]; first | done | rfl)
              · by_cases c_99 : p1 = 1610
                · refine lv_lookup (off := 165) (tgt := 166) hx hb d_Hyper_write_1 (by decide) (by rw [c_99]; decide) (by decide) ?_
                  refine lv_aload_n hx hb d_Hyper_write_166 rfl (lv_at hl 0 rfl) ?_
                  refine lv_iload_n hx hb d_Hyper_write_167 rfl (lv_at hl 2 rfl) ?_
                  refine va_put (D := G.1) (ci := 2) (v := .int p2) (ty := .int) (C := R_Hyper) (T := T_Hyper) (N := 8) hx hb hts (fun w h => gd_sub _ (iw_Hyper w h)) ty_Hyper tyok_Hyper nm_Hyper hown hK hP hD hS 0 rfl rfl 6 (by decide) (hts _ (gd_sub _ q_143)) (fun _ h9 => h9) rfl (by decide +kernel) rfl rfl (Nat.le_of_ble_eq_true rfl) d_Hyper_write_168 (fun H locs hP hD hS => ?_)
                  have hP : va_P G.1 vwCl [(qy, .inr (2, f_Hyper (oi sy 6 p2)))] H := hP
                  have hD : va_D A [(qy, .inr (2, f_Hyper (oi sy 6 p2)))] := hD
                  refine lv_goto (tgt := 185) hx hb d_Hyper_write_171 (by decide) ?_
                  have hk : k_Hyper_write sy p1 p2 = (oi sy 6 p2) := (by rw [k_Hyper_write]; rw [if_neg c_92]; rw [if_neg c_93]; rw [if_neg c_94]; rw [if_neg c_95]; rw [if_neg c_96]; rw [if_neg c_97]; rw [if_neg c_98]; rw [if_pos c_99]; try rfl)
                  exact ct_rv hx hb hr hlocks hP hD hK hS d_Hyper_write_185 (by rw [hk]; first | done | rfl)
                · by_cases c_100 : p1 = 1664
                  · refine lv_lookup (off := 173) (tgt := 174) hx hb d_Hyper_write_1 (by decide) (by rw [c_100]; decide) (by decide) ?_
                    refine lv_aload_n hx hb d_Hyper_write_174 rfl (lv_at hl 0 rfl) ?_
                    refine lv_iload_n hx hb d_Hyper_write_175 rfl (lv_at hl 2 rfl) ?_
                    refine lv_ldc (v := (-2143289348)) hx hb hown (hts _ (gd_sub _ q_329)) d_Hyper_write_176 ?_
                    refine lv_iand hx hb d_Hyper_write_178 ?_
                    refine va_put (D := G.1) (ci := 2) (v := .int (p2 &&& (-2143289348))) (ty := .int) (C := R_Hyper) (T := T_Hyper) (N := 8) hx hb hts (fun w h => gd_sub _ (iw_Hyper w h)) ty_Hyper tyok_Hyper nm_Hyper hown hK hP hD hS 0 rfl rfl 7 (by decide) (hts _ (gd_sub _ q_145)) (fun _ h9 => h9) rfl (by decide +kernel) rfl rfl (Nat.le_of_ble_eq_true rfl) d_Hyper_write_179 (fun H locs hP hD hS => ?_)
                    have hP : va_P G.1 vwCl [(qy, .inr (2, f_Hyper (oi sy 7 (p2 &&& (-2143289348)))))] H := hP
                    have hD : va_D A [(qy, .inr (2, f_Hyper (oi sy 7 (p2 &&& (-2143289348)))))] := hD
                    refine lv_goto (tgt := 185) hx hb d_Hyper_write_182 (by decide) ?_
                    have hk : k_Hyper_write sy p1 p2 = (oi sy 7 (p2 &&& (-2143289348))) := (by rw [k_Hyper_write]; rw [if_neg c_92]; rw [if_neg c_93]; rw [if_neg c_94]; rw [if_neg c_95]; rw [if_neg c_96]; rw [if_neg c_97]; rw [if_neg c_98]; rw [if_neg c_99]; rw [if_pos c_100]; try rfl)
                    exact ct_rv hx hb hr hlocks hP hD hK hS d_Hyper_write_185 (by rw [hk]; first | done | rfl)
                  · refine lv_lookup (off := 184) (tgt := 185) hx hb d_Hyper_write_1 (by decide) ((lv_osw c_92 (by decide)).trans ((lv_osw c_93 (by decide)).trans ((lv_osw c_94 (by decide)).trans ((lv_osw c_95 (by decide)).trans ((lv_osw c_96 (by decide)).trans ((lv_osw c_97 (by decide)).trans ((lv_osw c_98 (by decide)).trans ((lv_osw c_99 (by decide)).trans ((lv_osw c_100 (by decide)).trans rfl))))))))) (by decide) ?_
                    have hk : k_Hyper_write sy p1 p2 = sy := (by rw [k_Hyper_write]; rw [if_neg c_92]; rw [if_neg c_93]; rw [if_neg c_94]; rw [if_neg c_95]; rw [if_neg c_96]; rw [if_neg c_97]; rw [if_neg c_98]; rw [if_neg c_99]; rw [if_neg c_100]; try rfl)
                    exact ct_rv hx hb hr hlocks hP hD hK hS d_Hyper_write_185 (by rw [hk]; first | done | rfl)
def k_Hyper_writeGuestIe (sy : ob) (p1 : Int32) : ob :=
  (oi sy 3 (k_Hyper_replaced (sy.1 3) (sy.1 2) (p1 <<< (1 &&& 31))))
set_option maxHeartbeats 4000000 in
set_option maxRecDepth 100000 in
theorem c_Hyper_writeGuestIe (l : Launch) (G : gx) (tys : List (ClassId × FieldType)) (qy : Nat) (sy : ob) (p1 : Int32) : ct_V l y_Hyper_writeGuestIe ws_Hyper_writeGuestIe ({ frames := 1, cells := 0, slots := 0, locals := 22 }) G tys [.ref qy, .int p1] [(qy, .inr (2, f_Hyper sy))] [(qy, .inr (2, f_Hyper (k_Hyper_writeGuestIe sy p1)))] := by
  refine ct_hV (cc := cc_Hyper_writeGuestIe) (maxL := 2) (ret := none) (by decide) rfl (Nat.le_of_ble_eq_true rfl) ?_
  intro p e s m below meth c A ls hx hb hr hml hts hown hlocks hP hK hD hA hE hS hl
  have hl : lv_has ls 2 [(0, .ref qy), (1, .int p1)] := hl
  have hown : s.vm.findClass R_Hyper = some m.cls := hown
  refine lv_aload_n hx hb d_Hyper_writeGuestIe_0 rfl (lv_at hl 0 rfl) ?_
  refine lv_aload_n hx hb d_Hyper_writeGuestIe_1 rfl (lv_at hl 0 rfl) ?_
  refine va_get (D := G.1) (ci := 2) (v := .int (sy.1 3)) (C := R_Hyper) (T := T_Hyper) (N := 8) hx hb hts (fun w h => gd_sub _ (iw_Hyper w h)) hown hK hP 0 rfl rfl 3 (by decide) (hts _ (gd_sub _ q_137)) (fun _ h9 => h9) rfl d_Hyper_writeGuestIe_2 ?_
  refine lv_aload_n hx hb d_Hyper_writeGuestIe_5 rfl (lv_at hl 0 rfl) ?_
  refine va_get (D := G.1) (ci := 2) (v := .int (sy.1 2)) (C := R_Hyper) (T := T_Hyper) (N := 8) hx hb hts (fun w h => gd_sub _ (iw_Hyper w h)) hown hK hP 0 rfl rfl 2 (by decide) (hts _ (gd_sub _ q_135)) (fun _ h9 => h9) rfl d_Hyper_writeGuestIe_6 ?_
  refine lv_iload_n hx hb d_Hyper_writeGuestIe_9 rfl (lv_at hl 1 rfl) ?_
  refine lv_iconst (v := 1) hx hb d_Hyper_writeGuestIe_10 (by decide) ?_
  refine lv_ishl hx hb d_Hyper_writeGuestIe_11 ?_
  refine ct_cSi (wr := [(qy, .inr (2, f_Hyper sy))]) (w1 := []) (w2 := [(qy, .inr (2, f_Hyper sy))]) (r := (k_Hyper_replaced (sy.1 3) (sy.1 2) (p1 <<< (1 &&& 31)))) (As := [.int (sy.1 3), .int (sy.1 2), .int (p1 <<< (1 &&& 31))]) (rest := [.ref qy]) ⟨hx, hb, hml, hown, hts⟩ (c_Hyper_replaced l G tys (sy.1 3) (sy.1 2) (p1 <<< (1 &&& 31))) (va_cwS 3 hts (gdS gd_gd q_316 q_317 q_45 q_318) rfl rfl rfl (by decide +kernel) ⟨Nat.le_of_ble_eq_true rfl, Nat.le_of_ble_eq_true rfl⟩) hE hK hP hD hS hA [] [0] [0] rfl (by decide) rfl (by decide) (by decide) rfl (by decide) rfl hl.1 rfl (Nat.le_of_ble_eq_true rfl) d_Hyper_writeGuestIe_12 ⟨Nat.zero_le _, Nat.zero_le _⟩ (fun H locs hP hD hS => ?_)
  refine va_put (D := G.1) (ci := 2) (v := .int (k_Hyper_replaced (sy.1 3) (sy.1 2) (p1 <<< (1 &&& 31)))) (ty := .int) (C := R_Hyper) (T := T_Hyper) (N := 8) hx hb hts (fun w h => gd_sub _ (iw_Hyper w h)) ty_Hyper tyok_Hyper nm_Hyper hown hK hP hD hS 0 rfl rfl 3 (by decide) (hts _ (gd_sub _ q_137)) (fun _ h9 => h9) rfl (by decide +kernel) rfl rfl (Nat.le_of_ble_eq_true rfl) d_Hyper_writeGuestIe_15 (fun H locs hP hD hS => ?_)
  have hP : va_P G.1 vwCl [(qy, .inr (2, f_Hyper (oi sy 3 (k_Hyper_replaced (sy.1 3) (sy.1 2) (p1 <<< (1 &&& 31))))))] H := hP
  have hD : va_D A [(qy, .inr (2, f_Hyper (oi sy 3 (k_Hyper_replaced (sy.1 3) (sy.1 2) (p1 <<< (1 &&& 31))))))] := hD
  have hk : k_Hyper_writeGuestIe sy p1 = (oi sy 3 (k_Hyper_replaced (sy.1 3) (sy.1 2) (p1 <<< (1 &&& 31)))) := (by rw [k_Hyper_writeGuestIe]; try rfl)
  exact ct_rv hx hb hr hlocks hP hD hK hS d_Hyper_writeGuestIe_18 (by rw [hk]; first | done | rfl)
def k_Hyper_writeGuestIp (sy : ob) (p1 : Int32) : ob :=
  (oi sy 5 (k_Hyper_replaced (sy.1 5) ((sy.1 2) &&& 4) (p1 <<< (1 &&& 31))))
set_option maxHeartbeats 4000000 in
set_option maxRecDepth 100000 in
theorem c_Hyper_writeGuestIp (l : Launch) (G : gx) (tys : List (ClassId × FieldType)) (qy : Nat) (sy : ob) (p1 : Int32) : ct_V l y_Hyper_writeGuestIp ws_Hyper_writeGuestIp ({ frames := 1, cells := 0, slots := 0, locals := 22 }) G tys [.ref qy, .int p1] [(qy, .inr (2, f_Hyper sy))] [(qy, .inr (2, f_Hyper (k_Hyper_writeGuestIp sy p1)))] := by
  refine ct_hV (cc := cc_Hyper_writeGuestIp) (maxL := 2) (ret := none) (by decide) rfl (Nat.le_of_ble_eq_true rfl) ?_
  intro p e s m below meth c A ls hx hb hr hml hts hown hlocks hP hK hD hA hE hS hl
  have hl : lv_has ls 2 [(0, .ref qy), (1, .int p1)] := hl
  have hown : s.vm.findClass R_Hyper = some m.cls := hown
  refine lv_aload_n hx hb d_Hyper_writeGuestIp_0 rfl (lv_at hl 0 rfl) ?_
  refine lv_aload_n hx hb d_Hyper_writeGuestIp_1 rfl (lv_at hl 0 rfl) ?_
  refine va_get (D := G.1) (ci := 2) (v := .int (sy.1 5)) (C := R_Hyper) (T := T_Hyper) (N := 8) hx hb hts (fun w h => gd_sub _ (iw_Hyper w h)) hown hK hP 0 rfl rfl 5 (by decide) (hts _ (gd_sub _ q_141)) (fun _ h9 => h9) rfl d_Hyper_writeGuestIp_2 ?_
  refine lv_aload_n hx hb d_Hyper_writeGuestIp_5 rfl (lv_at hl 0 rfl) ?_
  refine va_get (D := G.1) (ci := 2) (v := .int (sy.1 2)) (C := R_Hyper) (T := T_Hyper) (N := 8) hx hb hts (fun w h => gd_sub _ (iw_Hyper w h)) hown hK hP 0 rfl rfl 2 (by decide) (hts _ (gd_sub _ q_135)) (fun _ h9 => h9) rfl d_Hyper_writeGuestIp_6 ?_
  refine lv_iconst (v := 4) hx hb d_Hyper_writeGuestIp_9 (by decide) ?_
  refine lv_iand hx hb d_Hyper_writeGuestIp_10 ?_
  refine lv_iload_n hx hb d_Hyper_writeGuestIp_11 rfl (lv_at hl 1 rfl) ?_
  refine lv_iconst (v := 1) hx hb d_Hyper_writeGuestIp_12 (by decide) ?_
  refine lv_ishl hx hb d_Hyper_writeGuestIp_13 ?_
  refine ct_cSi (wr := [(qy, .inr (2, f_Hyper sy))]) (w1 := []) (w2 := [(qy, .inr (2, f_Hyper sy))]) (r := (k_Hyper_replaced (sy.1 5) ((sy.1 2) &&& 4) (p1 <<< (1 &&& 31)))) (As := [.int (sy.1 5), .int ((sy.1 2) &&& 4), .int (p1 <<< (1 &&& 31))]) (rest := [.ref qy]) ⟨hx, hb, hml, hown, hts⟩ (c_Hyper_replaced l G tys (sy.1 5) ((sy.1 2) &&& 4) (p1 <<< (1 &&& 31))) (va_cwS 3 hts (gdS gd_gd q_316 q_317 q_45 q_318) rfl rfl rfl (by decide +kernel) ⟨Nat.le_of_ble_eq_true rfl, Nat.le_of_ble_eq_true rfl⟩) hE hK hP hD hS hA [] [0] [0] rfl (by decide) rfl (by decide) (by decide) rfl (by decide) rfl hl.1 rfl (Nat.le_of_ble_eq_true rfl) d_Hyper_writeGuestIp_14 ⟨Nat.zero_le _, Nat.zero_le _⟩ (fun H locs hP hD hS => ?_)
  refine va_put (D := G.1) (ci := 2) (v := .int (k_Hyper_replaced (sy.1 5) ((sy.1 2) &&& 4) (p1 <<< (1 &&& 31)))) (ty := .int) (C := R_Hyper) (T := T_Hyper) (N := 8) hx hb hts (fun w h => gd_sub _ (iw_Hyper w h)) ty_Hyper tyok_Hyper nm_Hyper hown hK hP hD hS 0 rfl rfl 5 (by decide) (hts _ (gd_sub _ q_141)) (fun _ h9 => h9) rfl (by decide +kernel) rfl rfl (Nat.le_of_ble_eq_true rfl) d_Hyper_writeGuestIp_17 (fun H locs hP hD hS => ?_)
  have hP : va_P G.1 vwCl [(qy, .inr (2, f_Hyper (oi sy 5 (k_Hyper_replaced (sy.1 5) ((sy.1 2) &&& 4) (p1 <<< (1 &&& 31))))))] H := hP
  have hD : va_D A [(qy, .inr (2, f_Hyper (oi sy 5 (k_Hyper_replaced (sy.1 5) ((sy.1 2) &&& 4) (p1 <<< (1 &&& 31))))))] := hD
  have hk : k_Hyper_writeGuestIp sy p1 = (oi sy 5 (k_Hyper_replaced (sy.1 5) ((sy.1 2) &&& 4) (p1 <<< (1 &&& 31)))) := (by rw [k_Hyper_writeGuestIp]; try rfl)
  exact ct_rv hx hb hr hlocks hP hD hK hS d_Hyper_writeGuestIp_20 (by rw [hk]; first | done | rfl)
def k_Bank_write (sb : ob) (p1 : Int32) (p2 : Int32) : ob :=
  if p1 = 0 then (oi sb 0 (p2 &&& 786722)) else if p1 = 5 then (oi sb 1 (p2 &&& (-3))) else if p1 = 64 then (oi sb 2 p2) else if p1 = 65 then (oi sb 3 (p2 &&& (-4))) else if p1 = 66 then (oi sb 4 p2) else if p1 = 67 then (oi sb 5 p2) else if p1 = 128 then (oi sb 6 (p2 &&& (-2143289345))) else sb
set_option maxHeartbeats 4000000 in
set_option maxRecDepth 100000 in
theorem c_Bank_write (l : Launch) (G : gx) (tys : List (ClassId × FieldType)) (qb : Nat) (sb : ob) (p1 : Int32) (p2 : Int32) : ct_V l y_Bank_write ws_Bank_write ({ frames := 0, cells := 0, slots := 0, locals := 0 }) G tys [.ref qb, .int p1, .int p2] [(qb, .inr (0, f_Bank sb))] [(qb, .inr (0, f_Bank (k_Bank_write sb p1 p2)))] := by
  refine ct_hV (cc := cc_Bank_write) (maxL := 3) (ret := none) (by decide) rfl (Nat.le_of_ble_eq_true rfl) ?_
  intro p e s m below meth c A ls hx hb hr hml hts hown hlocks hP hK hD hA hE hS hl
  have hl : lv_has ls 3 [(0, .ref qb), (1, .int p1), (2, .int p2)] := hl
  have hown : s.vm.findClass R_Bank = some m.cls := hown
  refine lv_iload_n hx hb d_Bank_write_0 rfl (lv_at hl 1 rfl) ?_
  by_cases c_113 : p1 = 0
  · refine lv_lookup (off := 67) (tgt := 68) hx hb d_Bank_write_1 (by decide) (by rw [c_113]; decide) (by decide) ?_
    refine lv_aload_n hx hb d_Bank_write_68 rfl (lv_at hl 0 rfl) ?_
    refine lv_iload_n hx hb d_Bank_write_69 rfl (lv_at hl 2 rfl) ?_
    refine lv_ldc (v := 786722) hx hb hown (hts _ (gd_sub _ q_305)) d_Bank_write_70 ?_
    refine lv_iand hx hb d_Bank_write_72 ?_
    refine va_put (D := G.1) (ci := 0) (v := .int (p2 &&& 786722)) (ty := .int) (C := R_Bank) (T := T_Bank) (N := 7) hx hb hts (fun w h => gd_sub _ (iw_Bank w h)) ty_Bank tyok_Bank nm_Bank hown hK hP hD hS 0 rfl rfl 0 (by decide) (hts _ (gd_sub _ q_103)) (fun _ h9 => h9) rfl (by decide +kernel) rfl rfl (Nat.le_of_ble_eq_true rfl) d_Bank_write_73 (fun H locs hP hD hS => ?_)
    have hP : va_P G.1 vwCl [(qb, .inr (0, f_Bank (oi sb 0 (p2 &&& 786722))))] H := hP
    have hD : va_D A [(qb, .inr (0, f_Bank (oi sb 0 (p2 &&& 786722))))] := hD
    refine lv_goto (tgt := 136) hx hb d_Bank_write_76 (by decide) ?_
    have hk : k_Bank_write sb p1 p2 = (oi sb 0 (p2 &&& 786722)) := (by rw [k_Bank_write]; rw [if_pos c_113]; try rfl)
    exact ct_rv hx hb hr hlocks hP hD hK hS d_Bank_write_136 (by rw [hk]; first | done | rfl)
  · by_cases c_114 : p1 = 5
    · refine lv_lookup (off := 78) (tgt := 79) hx hb d_Bank_write_1 (by decide) (by rw [c_114]; decide) (by decide) ?_
      refine lv_aload_n hx hb d_Bank_write_79 rfl (lv_at hl 0 rfl) ?_
      refine lv_iload_n hx hb d_Bank_write_80 rfl (lv_at hl 2 rfl) ?_
      refine lv_bipush (v := (-3)) hx hb d_Bank_write_81 (by decide) ?_
      refine lv_iand hx hb d_Bank_write_83 ?_
      refine va_put (D := G.1) (ci := 0) (v := .int (p2 &&& (-3))) (ty := .int) (C := R_Bank) (T := T_Bank) (N := 7) hx hb hts (fun w h => gd_sub _ (iw_Bank w h)) ty_Bank tyok_Bank nm_Bank hown hK hP hD hS 0 rfl rfl 1 (by decide) (hts _ (gd_sub _ q_104)) (fun _ h9 => h9) rfl (by decide +kernel) rfl rfl (Nat.le_of_ble_eq_true rfl) d_Bank_write_84 (fun H locs hP hD hS => ?_)
      have hP : va_P G.1 vwCl [(qb, .inr (0, f_Bank (oi sb 1 (p2 &&& (-3)))))] H := hP
      have hD : va_D A [(qb, .inr (0, f_Bank (oi sb 1 (p2 &&& (-3)))))] := hD
      refine lv_goto (tgt := 136) hx hb d_Bank_write_87 (by decide) ?_
      have hk : k_Bank_write sb p1 p2 = (oi sb 1 (p2 &&& (-3))) := (by rw [k_Bank_write]; rw [if_neg c_113]; rw [if_pos c_114]; try rfl)
      exact ct_rv hx hb hr hlocks hP hD hK hS d_Bank_write_136 (by rw [hk]; first | done | rfl)
    · by_cases c_115 : p1 = 64
      · refine lv_lookup (off := 89) (tgt := 90) hx hb d_Bank_write_1 (by decide) (by rw [c_115]; decide) (by decide) ?_
        refine lv_aload_n hx hb d_Bank_write_90 rfl (lv_at hl 0 rfl) ?_
        refine lv_iload_n hx hb d_Bank_write_91 rfl (lv_at hl 2 rfl) ?_
        refine va_put (D := G.1) (ci := 0) (v := .int p2) (ty := .int) (C := R_Bank) (T := T_Bank) (N := 7) hx hb hts (fun w h => gd_sub _ (iw_Bank w h)) ty_Bank tyok_Bank nm_Bank hown hK hP hD hS 0 rfl rfl 2 (by decide) (hts _ (gd_sub _ q_105)) (fun _ h9 => h9) rfl (by decide +kernel) rfl rfl (Nat.le_of_ble_eq_true rfl) d_Bank_write_92 (fun H locs hP hD hS => ?_)
        have hP : va_P G.1 vwCl [(qb, .inr (0, f_Bank (oi sb 2 p2)))] H := hP
        have hD : va_D A [(qb, .inr (0, f_Bank (oi sb 2 p2)))] := hD
        refine lv_goto (tgt := 136) hx hb d_Bank_write_95 (by decide) ?_
        have hk : k_Bank_write sb p1 p2 = (oi sb 2 p2) := (by rw [k_Bank_write]; rw [if_neg c_113]; rw [if_neg c_114]; rw [if_pos c_115]; try rfl)
        exact ct_rv hx hb hr hlocks hP hD hK hS d_Bank_write_136 (by rw [hk]; first | done | rfl)
      · by_cases c_116 : p1 = 65
        · refine lv_lookup (off := 97) (tgt := 98) hx hb d_Bank_write_1 (by decide) (by rw [c_116]; decide) (by decide) ?_
          refine lv_aload_n hx hb d_Bank_write_98 rfl (lv_at hl 0 rfl) ?_
          refine lv_iload_n hx hb d_Bank_write_99 rfl (lv_at hl 2 rfl) ?_
          refine lv_bipush (v := (-4)) hx hb d_Bank_write_100 (by decide) ?_
          refine lv_iand hx hb d_Bank_write_102 ?_
          refine va_put (D := G.1) (ci := 0) (v := .int (p2 &&& (-4))) (ty := .int) (C := R_Bank) (T := T_Bank) (N := 7) hx hb hts (fun w h => gd_sub _ (iw_Bank w h)) ty_Bank tyok_Bank nm_Bank hown hK hP hD hS 0 rfl rfl 3 (by decide) (hts _ (gd_sub _ q_106)) (fun _ h9 => h9) rfl (by decide +kernel) rfl rfl (Nat.le_of_ble_eq_true rfl) d_Bank_write_103 (fun H locs hP hD hS => ?_)
          have hP : va_P G.1 vwCl [(qb, .inr (0, f_Bank (oi sb 3 (p2 &&& (-4)))))] H := hP
          have hD : va_D A [(qb, .inr (0, f_Bank (oi sb 3 (p2 &&& (-4)))))] := hD
          refine lv_goto (tgt := 136) hx hb d_Bank_write_106 (by decide) ?_
          have hk : k_Bank_write sb p1 p2 = (oi sb 3 (p2 &&& (-4))) := (by rw [k_Bank_write]; rw [if_neg c_113]; rw [if_neg c_114]; rw [if_neg c_115]; rw [if_pos c_116]; try rfl)
          exact ct_rv hx hb hr hlocks hP hD hK hS d_Bank_write_136 (by rw [hk]; first | done | rfl)
        · by_cases c_117 : p1 = 66
          · refine lv_lookup (off := 108) (tgt := 109) hx hb d_Bank_write_1 (by decide) (by rw [c_117]; decide) (by decide) ?_
            refine lv_aload_n hx hb d_Bank_write_109 rfl (lv_at hl 0 rfl) ?_
            refine lv_iload_n hx hb d_Bank_write_110 rfl (lv_at hl 2 rfl) ?_
            refine va_put (D := G.1) (ci := 0) (v := .int p2) (ty := .int) (C := R_Bank) (T := T_Bank) (N := 7) hx hb hts (fun w h => gd_sub _ (iw_Bank w h)) ty_Bank tyok_Bank nm_Bank hown hK hP hD hS 0 rfl rfl 4 (by decide) (hts _ (gd_sub _ q_108)) (fun _ h9 => h9) rfl (by decide +kernel) rfl rfl (Nat.le_of_ble_eq_true rfl) d_Bank_write_111 (fun H locs hP hD hS => ?_)
            have hP : va_P G.1 vwCl [(qb, .inr (0, f_Bank (oi sb 4 p2)))] H := hP
            have hD : va_D A [(qb, .inr (0, f_Bank (oi sb 4 p2)))] := hD
            refine lv_goto (tgt := 136) hx hb d_Bank_write_114 (by decide) ?_
            have hk : k_Bank_write sb p1 p2 = (oi sb 4 p2) := (by rw [k_Bank_write]; rw [if_neg c_113]; rw [if_neg c_114]; rw [if_neg c_115]; rw [if_neg c_116]; rw [if_pos c_117]; try rfl)
            exact ct_rv hx hb hr hlocks hP hD hK hS d_Bank_write_136 (by rw [hk]; first | done | rfl)
          · by_cases c_118 : p1 = 67
            · refine lv_lookup (off := 116) (tgt := 117) hx hb d_Bank_write_1 (by decide) (by rw [c_118]; decide) (by decide) ?_
              refine lv_aload_n hx hb d_Bank_write_117 rfl (lv_at hl 0 rfl) ?_
              refine lv_iload_n hx hb d_Bank_write_118 rfl (lv_at hl 2 rfl) ?_
              refine va_put (D := G.1) (ci := 0) (v := .int p2) (ty := .int) (C := R_Bank) (T := T_Bank) (N := 7) hx hb hts (fun w h => gd_sub _ (iw_Bank w h)) ty_Bank tyok_Bank nm_Bank hown hK hP hD hS 0 rfl rfl 5 (by decide) (hts _ (gd_sub _ q_109)) (fun _ h9 => h9) rfl (by decide +kernel) rfl rfl (Nat.le_of_ble_eq_true rfl) d_Bank_write_119 (fun H locs hP hD hS => ?_)
              have hP : va_P G.1 vwCl [(qb, .inr (0, f_Bank (oi sb 5 p2)))] H := hP
              have hD : va_D A [(qb, .inr (0, f_Bank (oi sb 5 p2)))] := hD
              refine lv_goto (tgt := 136) hx hb d_Bank_write_122 (by decide) ?_
              have hk : k_Bank_write sb p1 p2 = (oi sb 5 p2) := (by rw [k_Bank_write]; rw [if_neg c_113]; rw [if_neg c_114]; rw [if_neg c_115]; rw [if_neg c_116]; rw [if_neg c_117]; rw [if_pos c_118]; try rfl)
              exact ct_rv hx hb hr hlocks hP hD hK hS d_Bank_write_136 (by rw [hk]; first | done | rfl)
            · by_cases c_119 : p1 = 128
              · refine lv_lookup (off := 124) (tgt := 125) hx hb d_Bank_write_1 (by decide) (by rw [c_119]; decide) (by decide) ?_
                refine lv_aload_n hx hb d_Bank_write_125 rfl (lv_at hl 0 rfl) ?_
                refine lv_iload_n hx hb d_Bank_write_126 rfl (lv_at hl 2 rfl) ?_
                refine lv_ldc (v := (-2143289345)) hx hb hown (hts _ (gd_sub _ q_306)) d_Bank_write_127 ?_
                refine lv_iand hx hb d_Bank_write_129 ?_
                refine va_put (D := G.1) (ci := 0) (v := .int (p2 &&& (-2143289345))) (ty := .int) (C := R_Bank) (T := T_Bank) (N := 7) hx hb hts (fun w h => gd_sub _ (iw_Bank w h)) ty_Bank tyok_Bank nm_Bank hown hK hP hD hS 0 rfl rfl 6 (by decide) (hts _ (gd_sub _ q_110)) (fun _ h9 => h9) rfl (by decide +kernel) rfl rfl (Nat.le_of_ble_eq_true rfl) d_Bank_write_130 (fun H locs hP hD hS => ?_)
                have hP : va_P G.1 vwCl [(qb, .inr (0, f_Bank (oi sb 6 (p2 &&& (-2143289345)))))] H := hP
                have hD : va_D A [(qb, .inr (0, f_Bank (oi sb 6 (p2 &&& (-2143289345)))))] := hD
                refine lv_goto (tgt := 136) hx hb d_Bank_write_133 (by decide) ?_
                have hk : k_Bank_write sb p1 p2 = (oi sb 6 (p2 &&& (-2143289345))) := (by rw [k_Bank_write]; rw [if_neg c_113]; rw [if_neg c_114]; rw [if_neg c_115]; rw [if_neg c_116]; rw [if_neg c_117]; rw [if_neg c_118]; rw [if_pos c_119]; try rfl)
                exact ct_rv hx hb hr hlocks hP hD hK hS d_Bank_write_136 (by rw [hk]; first | done | rfl)
              · refine lv_lookup (off := 135) (tgt := 136) hx hb d_Bank_write_1 (by decide) ((lv_osw c_113 (by decide)).trans ((lv_osw c_114 (by decide)).trans ((lv_osw c_115 (by decide)).trans ((lv_osw c_116 (by decide)).trans ((lv_osw c_117 (by decide)).trans ((lv_osw c_118 (by decide)).trans ((lv_osw c_119 (by decide)).trans rfl))))))) (by decide) ?_
                have hk : k_Bank_write sb p1 p2 = sb := (by rw [k_Bank_write]; rw [if_neg c_113]; rw [if_neg c_114]; rw [if_neg c_115]; rw [if_neg c_116]; rw [if_neg c_117]; rw [if_neg c_118]; rw [if_neg c_119]; try rfl)
                exact ct_rv hx hb hr hlocks hP hD hK hS d_Bank_write_136 (by rw [hk]; first | done | rfl)
def k_Controls_writeGuest (sc : ob) (sgs : ob) (sy : ob) (p1 : Int32) (p2 : Int32) : ob × ob :=
  if p1 = 4 then (sgs, ((k_Hyper_writeGuestIe sy p2))) else if p1 = 68 then (sgs, ((k_Hyper_writeGuestIp sy p2))) else (((k_Bank_write sgs p1 p2)), sy)
set_option maxHeartbeats 4000000 in
set_option maxRecDepth 100000 in
theorem c_Controls_writeGuest (l : Launch) (G : gx) (tys : List (ClassId × FieldType)) (qc qgs qy qo qhs : Nat) (sc : ob) (sgs : ob) (sy : ob) (p1 : Int32) (p2 : Int32) : ct_V l y_Controls_writeGuest ws_Controls_writeGuest ({ frames := 2, cells := 0, slots := 0, locals := 43 }) G tys [.ref qc, .int p1, .int p2] [(qc, .inr (1, f_Controls qo qhs qgs qy sc)), (qgs, .inr (0, f_Bank sgs)), (qy, .inr (2, f_Hyper sy))] [(qc, .inr (1, f_Controls qo qhs qgs qy sc)), (qgs, .inr (0, f_Bank ((k_Controls_writeGuest sc sgs sy p1 p2).1))), (qy, .inr (2, f_Hyper ((k_Controls_writeGuest sc sgs sy p1 p2).2)))] := by
  refine ct_hV (cc := cc_Controls_writeGuest) (maxL := 3) (ret := none) (by decide) rfl (Nat.le_of_ble_eq_true rfl) ?_
  intro p e s m below meth c A ls hx hb hr hml hts hown hlocks hP hK hD hA hE hS hl
  have hl : lv_has ls 3 [(0, .ref qc), (1, .int p1), (2, .int p2)] := hl
  have hown : s.vm.findClass R_Controls = some m.cls := hown
  refine lv_iload_n hx hb d_Controls_writeGuest_0 rfl (lv_at hl 1 rfl) ?_
  by_cases c_121 : p1 = 4
  · refine lv_lookup (off := 27) (tgt := 28) hx hb d_Controls_writeGuest_1 (by decide) (by rw [c_121]; decide) (by decide) ?_
    refine lv_aload_n hx hb d_Controls_writeGuest_28 rfl (lv_at hl 0 rfl) ?_
    refine va_get (D := G.1) (ci := 1) (v := .ref qy) (C := R_Controls) (T := T_Controls) (N := 6) hx hb hts (fun w h => gd_sub _ (iw_Controls w h)) hown hK hP 0 rfl rfl 3 (by decide) (hts _ (gd_sub _ q_169)) (fun _ h9 => h9) rfl d_Controls_writeGuest_29 ?_
    refine lv_iload_n hx hb d_Controls_writeGuest_32 rfl (lv_at hl 2 rfl) ?_
    obtain ⟨sy_122, esy_122⟩ : ∃ z, z = (k_Hyper_writeGuestIe sy p2) := ⟨_, rfl⟩
    have hM := c_Hyper_writeGuestIe l G tys qy sy p2
    rw [← esy_122] at hM
    refine ct_cVv (wr := [(qc, .inr (1, f_Controls qo qhs qgs qy sc)), (qgs, .inr (0, f_Bank sgs))]) (w1 := [(qy, .inr (2, f_Hyper sy_122))]) (w2 := [(qc, .inr (1, f_Controls qo qhs qgs qy sc)), (qgs, .inr (0, f_Bank sgs)), (qy, .inr (2, f_Hyper sy_122))]) (As := [.int p2]) (rest := []) (ci := 2) (q0 := 0) ⟨hx, hb, hml, hown, hts⟩ hM (cwV 1 hts (gdV gd_gd q_312 q_313 q_314 q_45 q_315) rfl rfl rfl (by decide +kernel) ⟨Nat.le_of_ble_eq_true rfl, Nat.le_of_ble_eq_true rfl⟩) hE hK hP hD hS hA [2] [0, 1] [0, 1, 2] rfl (by decide) rfl (by decide) (by decide) rfl (by decide) rfl rfl rfl hl.1 rfl (Nat.le_of_ble_eq_true rfl) d_Controls_writeGuest_33 ⟨Nat.zero_le _, Nat.zero_le _⟩ (fun H locs hP hD hS => ?_)
    refine lv_goto (tgt := 59) hx hb d_Controls_writeGuest_36 (by decide) ?_
    have hk : k_Controls_writeGuest sc sgs sy p1 p2 = (sgs, sy_122) := (by rw [k_Controls_writeGuest]; rw [if_pos c_121]; try rw [← esy_122]; try rfl)
    exact ct_rv hx hb hr hlocks hP hD hK hS d_Controls_writeGuest_59 (by rw [hk]; first | done | rfl)
  · by_cases c_123 : p1 = 68
    · refine lv_lookup (off := 38) (tgt := 39) hx hb d_Controls_writeGuest_1 (by decide) (by rw [c_123]; decide) (by decide) ?_
      refine lv_aload_n hx hb d_Controls_writeGuest_39 rfl (lv_at hl 0 rfl) ?_
      refine va_get (D := G.1) (ci := 1) (v := .ref qy) (C := R_Controls) (T := T_Controls) (N := 6) hx hb hts (fun w h => gd_sub _ (iw_Controls w h)) hown hK hP 0 rfl rfl 3 (by decide) (hts _ (gd_sub _ q_169)) (fun _ h9 => h9) rfl d_Controls_writeGuest_40 ?_
      refine lv_iload_n hx hb d_Controls_writeGuest_43 rfl (lv_at hl 2 rfl) ?_
      obtain ⟨sy_124, esy_124⟩ : ∃ z, z = (k_Hyper_writeGuestIp sy p2) := ⟨_, rfl⟩
      have hM := c_Hyper_writeGuestIp l G tys qy sy p2
      rw [← esy_124] at hM
      refine ct_cVv (wr := [(qc, .inr (1, f_Controls qo qhs qgs qy sc)), (qgs, .inr (0, f_Bank sgs))]) (w1 := [(qy, .inr (2, f_Hyper sy_124))]) (w2 := [(qc, .inr (1, f_Controls qo qhs qgs qy sc)), (qgs, .inr (0, f_Bank sgs)), (qy, .inr (2, f_Hyper sy_124))]) (As := [.int p2]) (rest := []) (ci := 2) (q0 := 0) ⟨hx, hb, hml, hown, hts⟩ hM (cwV 1 hts (gdV gd_gd q_319 q_320 q_321 q_45 q_322) rfl rfl rfl (by decide +kernel) ⟨Nat.le_of_ble_eq_true rfl, Nat.le_of_ble_eq_true rfl⟩) hE hK hP hD hS hA [2] [0, 1] [0, 1, 2] rfl (by decide) rfl (by decide) (by decide) rfl (by decide) rfl rfl rfl hl.1 rfl (Nat.le_of_ble_eq_true rfl) d_Controls_writeGuest_44 ⟨Nat.zero_le _, Nat.zero_le _⟩ (fun H locs hP hD hS => ?_)
      refine lv_goto (tgt := 59) hx hb d_Controls_writeGuest_47 (by decide) ?_
      have hk : k_Controls_writeGuest sc sgs sy p1 p2 = (sgs, sy_124) := (by rw [k_Controls_writeGuest]; rw [if_neg c_121]; rw [if_pos c_123]; try rw [← esy_124]; try rfl)
      exact ct_rv hx hb hr hlocks hP hD hK hS d_Controls_writeGuest_59 (by rw [hk]; first | done | rfl)
    · refine lv_lookup (off := 49) (tgt := 50) hx hb d_Controls_writeGuest_1 (by decide) ((lv_osw c_121 (by decide)).trans ((lv_osw c_123 (by decide)).trans rfl)) (by decide) ?_
      refine lv_aload_n hx hb d_Controls_writeGuest_50 rfl (lv_at hl 0 rfl) ?_
      refine va_get (D := G.1) (ci := 1) (v := .ref qgs) (C := R_Controls) (T := T_Controls) (N := 6) hx hb hts (fun w h => gd_sub _ (iw_Controls w h)) hown hK hP 0 rfl rfl 2 (by decide) (hts _ (gd_sub _ q_167)) (fun _ h9 => h9) rfl d_Controls_writeGuest_51 ?_
      refine lv_iload_n hx hb d_Controls_writeGuest_54 rfl (lv_at hl 1 rfl) ?_
      refine lv_iload_n hx hb d_Controls_writeGuest_55 rfl (lv_at hl 2 rfl) ?_
      obtain ⟨sgs_125, esgs_125⟩ : ∃ z, z = (k_Bank_write sgs p1 p2) := ⟨_, rfl⟩
      have hM := c_Bank_write l G tys qgs sgs p1 p2
      rw [← esgs_125] at hM
      refine ct_cVv (wr := [(qc, .inr (1, f_Controls qo qhs qgs qy sc)), (qy, .inr (2, f_Hyper sy))]) (w1 := [(qgs, .inr (0, f_Bank sgs_125))]) (w2 := [(qc, .inr (1, f_Controls qo qhs qgs qy sc)), (qgs, .inr (0, f_Bank sgs_125)), (qy, .inr (2, f_Hyper sy))]) (As := [.int p1, .int p2]) (rest := []) (ci := 0) (q0 := 0) ⟨hx, hb, hml, hown, hts⟩ hM (cwV 2 hts (gdV gd_gd q_301 q_302 q_303 q_44 q_304) rfl rfl rfl (by decide +kernel) ⟨Nat.le_of_ble_eq_true rfl, Nat.le_of_ble_eq_true rfl⟩) hE hK hP hD hS hA [1] [0, 2] [0, 2, 1] rfl (by decide) rfl (by decide) (by decide) rfl (by decide) rfl rfl rfl hl.1 rfl (Nat.le_of_ble_eq_true rfl) d_Controls_writeGuest_56 ⟨Nat.zero_le _, Nat.zero_le _⟩ (fun H locs hP hD hS => ?_)
      have hk : k_Controls_writeGuest sc sgs sy p1 p2 = (sgs_125, sy) := (by rw [k_Controls_writeGuest]; rw [if_neg c_121]; rw [if_neg c_123]; try rw [← esgs_125]; try rfl)
      exact ct_rv hx hb hr hlocks hP hD hK hS d_Controls_writeGuest_59 (by rw [hk]; first | done | rfl)
def k_Controls_writeHost (sc : ob) (shs : ob) (p1 : Int32) (p2 : Int32) : ob × ob :=
  if p1 = 4 then ((oi sc 4 (p2 &&& 546)), shs) else if p1 = 68 then ((oi sc 5 (p2 &&& 2)), shs) else (sc, ((k_Bank_write shs p1 p2)))
set_option maxHeartbeats 4000000 in
set_option maxRecDepth 100000 in
theorem c_Controls_writeHost (l : Launch) (G : gx) (tys : List (ClassId × FieldType)) (qc qhs qo qgs qy : Nat) (sc : ob) (shs : ob) (p1 : Int32) (p2 : Int32) : ct_V l y_Controls_writeHost ws_Controls_writeHost ({ frames := 1, cells := 0, slots := 0, locals := 22 }) G tys [.ref qc, .int p1, .int p2] [(qc, .inr (1, f_Controls qo qhs qgs qy sc)), (qhs, .inr (0, f_Bank shs))] [(qc, .inr (1, f_Controls qo qhs qgs qy ((k_Controls_writeHost sc shs p1 p2).1))), (qhs, .inr (0, f_Bank ((k_Controls_writeHost sc shs p1 p2).2)))] := by
  refine ct_hV (cc := cc_Controls_writeHost) (maxL := 3) (ret := none) (by decide) rfl (Nat.le_of_ble_eq_true rfl) ?_
  intro p e s m below meth c A ls hx hb hr hml hts hown hlocks hP hK hD hA hE hS hl
  have hl : lv_has ls 3 [(0, .ref qc), (1, .int p1), (2, .int p2)] := hl
  have hown : s.vm.findClass R_Controls = some m.cls := hown
  refine lv_iload_n hx hb d_Controls_writeHost_0 rfl (lv_at hl 1 rfl) ?_
  by_cases c_131 : p1 = 4
  · refine lv_lookup (off := 27) (tgt := 28) hx hb d_Controls_writeHost_1 (by decide) (by rw [c_131]; decide) (by decide) ?_
    refine lv_aload_n hx hb d_Controls_writeHost_28 rfl (lv_at hl 0 rfl) ?_
    refine lv_iload_n hx hb d_Controls_writeHost_29 rfl (lv_at hl 2 rfl) ?_
    refine lv_sipush (v := 546) hx hb d_Controls_writeHost_30 (by decide) ?_
    refine lv_iand hx hb d_Controls_writeHost_33 ?_
    refine va_put (D := G.1) (ci := 1) (v := .int (p2 &&& 546)) (ty := .int) (C := R_Controls) (T := T_Controls) (N := 6) hx hb hts (fun w h => gd_sub _ (iw_Controls w h)) ty_Controls tyok_Controls nm_Controls hown hK hP hD hS 0 rfl rfl 4 (by decide) (hts _ (gd_sub _ q_171)) (fun _ h9 => h9) rfl (by decide +kernel) rfl rfl (Nat.le_of_ble_eq_true rfl) d_Controls_writeHost_34 (fun H locs hP hD hS => ?_)
    have hP : va_P G.1 vwCl [(qc, .inr (1, f_Controls qo qhs qgs qy (oi sc 4 (p2 &&& 546)))), (qhs, .inr (0, f_Bank shs))] H := hP
    have hD : va_D A [(qc, .inr (1, f_Controls qo qhs qgs qy (oi sc 4 (p2 &&& 546)))), (qhs, .inr (0, f_Bank shs))] := hD
    refine lv_goto (tgt := 59) hx hb d_Controls_writeHost_37 (by decide) ?_
    have hk : k_Controls_writeHost sc shs p1 p2 = ((oi sc 4 (p2 &&& 546)), shs) := (by rw [k_Controls_writeHost]; rw [if_pos c_131]; try rfl)
    exact ct_rv hx hb hr hlocks hP hD hK hS d_Controls_writeHost_59 (by rw [hk]; first | done | rfl)
  · by_cases c_132 : p1 = 68
    · refine lv_lookup (off := 39) (tgt := 40) hx hb d_Controls_writeHost_1 (by decide) (by rw [c_132]; decide) (by decide) ?_
      refine lv_aload_n hx hb d_Controls_writeHost_40 rfl (lv_at hl 0 rfl) ?_
      refine lv_iload_n hx hb d_Controls_writeHost_41 rfl (lv_at hl 2 rfl) ?_
      refine lv_iconst (v := 2) hx hb d_Controls_writeHost_42 (by decide) ?_
      refine lv_iand hx hb d_Controls_writeHost_43 ?_
      refine va_put (D := G.1) (ci := 1) (v := .int (p2 &&& 2)) (ty := .int) (C := R_Controls) (T := T_Controls) (N := 6) hx hb hts (fun w h => gd_sub _ (iw_Controls w h)) ty_Controls tyok_Controls nm_Controls hown hK hP hD hS 0 rfl rfl 5 (by decide) (hts _ (gd_sub _ q_172)) (fun _ h9 => h9) rfl (by decide +kernel) rfl rfl (Nat.le_of_ble_eq_true rfl) d_Controls_writeHost_44 (fun H locs hP hD hS => ?_)
      have hP : va_P G.1 vwCl [(qc, .inr (1, f_Controls qo qhs qgs qy (oi sc 5 (p2 &&& 2)))), (qhs, .inr (0, f_Bank shs))] H := hP
      have hD : va_D A [(qc, .inr (1, f_Controls qo qhs qgs qy (oi sc 5 (p2 &&& 2)))), (qhs, .inr (0, f_Bank shs))] := hD
      refine lv_goto (tgt := 59) hx hb d_Controls_writeHost_47 (by decide) ?_
      have hk : k_Controls_writeHost sc shs p1 p2 = ((oi sc 5 (p2 &&& 2)), shs) := (by rw [k_Controls_writeHost]; rw [if_neg c_131]; rw [if_pos c_132]; try rfl)
      exact ct_rv hx hb hr hlocks hP hD hK hS d_Controls_writeHost_59 (by rw [hk]; first | done | rfl)
    · refine lv_lookup (off := 49) (tgt := 50) hx hb d_Controls_writeHost_1 (by decide) ((lv_osw c_131 (by decide)).trans ((lv_osw c_132 (by decide)).trans rfl)) (by decide) ?_
      refine lv_aload_n hx hb d_Controls_writeHost_50 rfl (lv_at hl 0 rfl) ?_
      refine va_get (D := G.1) (ci := 1) (v := .ref qhs) (C := R_Controls) (T := T_Controls) (N := 6) hx hb hts (fun w h => gd_sub _ (iw_Controls w h)) hown hK hP 0 rfl rfl 1 (by decide) (hts _ (gd_sub _ q_165)) (fun _ h9 => h9) rfl d_Controls_writeHost_51 ?_
      refine lv_iload_n hx hb d_Controls_writeHost_54 rfl (lv_at hl 1 rfl) ?_
      refine lv_iload_n hx hb d_Controls_writeHost_55 rfl (lv_at hl 2 rfl) ?_
      obtain ⟨shs_133, eshs_133⟩ : ∃ z, z = (k_Bank_write shs p1 p2) := ⟨_, rfl⟩
      have hM := c_Bank_write l G tys qhs shs p1 p2
      rw [← eshs_133] at hM
      refine ct_cVv (wr := [(qc, .inr (1, f_Controls qo qhs qgs qy sc))]) (w1 := [(qhs, .inr (0, f_Bank shs_133))]) (w2 := [(qc, .inr (1, f_Controls qo qhs qgs qy sc)), (qhs, .inr (0, f_Bank shs_133))]) (As := [.int p1, .int p2]) (rest := []) (ci := 0) (q0 := 0) ⟨hx, hb, hml, hown, hts⟩ hM (cwV 2 hts (gdV gd_gd q_301 q_302 q_303 q_44 q_304) rfl rfl rfl (by decide +kernel) ⟨Nat.le_of_ble_eq_true rfl, Nat.le_of_ble_eq_true rfl⟩) hE hK hP hD hS hA [1] [0] [0, 1] rfl (by decide) rfl (by decide) (by decide) rfl (by decide) rfl rfl rfl hl.1 rfl (Nat.le_of_ble_eq_true rfl) d_Controls_writeHost_56 ⟨Nat.zero_le _, Nat.zero_le _⟩ (fun H locs hP hD hS => ?_)
      have hk : k_Controls_writeHost sc shs p1 p2 = (sc, shs_133) := (by rw [k_Controls_writeHost]; rw [if_neg c_131]; rw [if_neg c_132]; try rw [← eshs_133]; try rfl)
      exact ct_rv hx hb hr hlocks hP hD hK hS d_Controls_writeHost_59 (by rw [hk]; first | done | rfl)
def k_Controls_write (sc : ob) (shs : ob) (sgs : ob) (sy : ob) (p1 : Int32) (p2 : Int32) : ob × ob × ob × ob :=
  if (bI (k_Numbers_isOfS p1)) = 0 then (if (bI (k_Numbers_isOfVs p1)) = 0 then (sc, shs, sgs, ((k_Hyper_write sy p1 p2))) else (sc, shs, ((k_Controls_writeGuest sc sgs sy (k_Numbers_kindOf p1) p2).1), ((k_Controls_writeGuest sc sgs sy (k_Numbers_kindOf p1) p2).2))) else (((k_Controls_writeHost sc shs (k_Numbers_kindOf p1) p2).1), ((k_Controls_writeHost sc shs (k_Numbers_kindOf p1) p2).2), sgs, sy)
set_option maxHeartbeats 4000000 in
set_option maxRecDepth 100000 in
theorem c_Controls_write (l : Launch) (G : gx) (tys : List (ClassId × FieldType)) (qc qhs qgs qy qo : Nat) (sc : ob) (shs : ob) (sgs : ob) (sy : ob) (p1 : Int32) (p2 : Int32) : ct_V l y_Controls_write ws_Controls_write ({ frames := 3, cells := 0, slots := 0, locals := 65 }) G tys [.ref qc, .int p1, .int p2] [(qc, .inr (1, f_Controls qo qhs qgs qy sc)), (qhs, .inr (0, f_Bank shs)), (qgs, .inr (0, f_Bank sgs)), (qy, .inr (2, f_Hyper sy))] [(qc, .inr (1, f_Controls qo qhs qgs qy ((k_Controls_write sc shs sgs sy p1 p2).1))), (qhs, .inr (0, f_Bank ((k_Controls_write sc shs sgs sy p1 p2).2.1))), (qgs, .inr (0, f_Bank ((k_Controls_write sc shs sgs sy p1 p2).2.2.1))), (qy, .inr (2, f_Hyper ((k_Controls_write sc shs sgs sy p1 p2).2.2.2)))] := by
  refine ct_hV (cc := cc_Controls_write) (maxL := 3) (ret := none) (by decide) rfl (Nat.le_of_ble_eq_true rfl) ?_
  intro p e s m below meth c A ls hx hb hr hml hts hown hlocks hP hK hD hA hE hS hl
  have hl : lv_has ls 3 [(0, .ref qc), (1, .int p1), (2, .int p2)] := hl
  have hown : s.vm.findClass R_Controls = some m.cls := hown
  refine lv_iload_n hx hb d_Controls_write_0 rfl (lv_at hl 1 rfl) ?_
  refine ct_cSi (wr := [(qc, .inr (1, f_Controls qo qhs qgs qy sc)), (qhs, .inr (0, f_Bank shs)), (qgs, .inr (0, f_Bank sgs)), (qy, .inr (2, f_Hyper sy))]) (w1 := []) (w2 := [(qc, .inr (1, f_Controls qo qhs qgs qy sc)), (qhs, .inr (0, f_Bank shs)), (qgs, .inr (0, f_Bank sgs)), (qy, .inr (2, f_Hyper sy))]) (r := (bI (k_Numbers_isOfS p1))) (As := [.int p1]) (rest := []) ⟨hx, hb, hml, hown, hts⟩ (c_Numbers_isOfS l G tys p1) (va_cwS 1 hts (gdS gd_gd q_295 q_270 q_48 q_271) rfl rfl rfl (by decide +kernel) ⟨Nat.le_of_ble_eq_true rfl, Nat.le_of_ble_eq_true rfl⟩) hE hK hP hD hS hA [] [0, 1, 2, 3] [0, 1, 2, 3] rfl (by decide) rfl (by decide) (by decide) rfl (by decide) rfl hl.1 rfl (Nat.le_of_ble_eq_true rfl) d_Controls_write_1 ⟨Nat.zero_le _, Nat.zero_le _⟩ (fun H locs hP hD hS => ?_)
  refine lv_if_eq (tgt := 19) hx hb d_Controls_write_4 (by decide) (fun c_136 => ?_) (fun c_136 => ?_)
  · refine lv_iload_n hx hb d_Controls_write_19 rfl (lv_at hl 1 rfl) ?_
    refine ct_cSi (wr := [(qc, .inr (1, f_Controls qo qhs qgs qy sc)), (qhs, .inr (0, f_Bank shs)), (qgs, .inr (0, f_Bank sgs)), (qy, .inr (2, f_Hyper sy))]) (w1 := []) (w2 := [(qc, .inr (1, f_Controls qo qhs qgs qy sc)), (qhs, .inr (0, f_Bank shs)), (qgs, .inr (0, f_Bank sgs)), (qy, .inr (2, f_Hyper sy))]) (r := (bI (k_Numbers_isOfVs p1))) (As := [.int p1]) (rest := []) ⟨hx, hb, hml, hown, hts⟩ (c_Numbers_isOfVs l G tys p1) (va_cwS 1 hts (gdS gd_gd q_307 q_282 q_48 q_283) rfl rfl rfl (by decide +kernel) ⟨Nat.le_of_ble_eq_true rfl, Nat.le_of_ble_eq_true rfl⟩) hE hK hP hD hS hA [] [0, 1, 2, 3] [0, 1, 2, 3] rfl (by decide) rfl (by decide) (by decide) rfl (by decide) rfl hl.1 rfl (Nat.le_of_ble_eq_true rfl) d_Controls_write_20 ⟨Nat.zero_le _, Nat.zero_le _⟩ (fun H locs hP hD hS => ?_)
    refine lv_if_eq (tgt := 38) hx hb d_Controls_write_23 (by decide) (fun c_137 => ?_) (fun c_137 => ?_)
    · refine lv_aload_n hx hb d_Controls_write_38 rfl (lv_at hl 0 rfl) ?_
      refine va_get (D := G.1) (ci := 1) (v := .ref qy) (C := R_Controls) (T := T_Controls) (N := 6) hx hb hts (fun w h => gd_sub _ (iw_Controls w h)) hown hK hP 0 rfl rfl 3 (by decide) (hts _ (gd_sub _ q_169)) (fun _ h9 => h9) rfl d_Controls_write_39 ?_
      refine lv_iload_n hx hb d_Controls_write_42 rfl (lv_at hl 1 rfl) ?_
      refine lv_iload_n hx hb d_Controls_write_43 rfl (lv_at hl 2 rfl) ?_
      obtain ⟨sy_138, esy_138⟩ : ∃ z, z = (k_Hyper_write sy p1 p2) := ⟨_, rfl⟩
      have hM := c_Hyper_write l G tys qy sy p1 p2
      rw [← esy_138] at hM
      refine ct_cVv (wr := [(qc, .inr (1, f_Controls qo qhs qgs qy sc)), (qhs, .inr (0, f_Bank shs)), (qgs, .inr (0, f_Bank sgs))]) (w1 := [(qy, .inr (2, f_Hyper sy_138))]) (w2 := [(qc, .inr (1, f_Controls qo qhs qgs qy sc)), (qhs, .inr (0, f_Bank shs)), (qgs, .inr (0, f_Bank sgs)), (qy, .inr (2, f_Hyper sy_138))]) (As := [.int p1, .int p2]) (rest := []) (ci := 2) (q0 := 0) ⟨hx, hb, hml, hown, hts⟩ hM (cwV 2 hts (gdV gd_gd q_323 q_324 q_325 q_45 q_326) rfl rfl rfl (by decide +kernel) ⟨Nat.le_of_ble_eq_true rfl, Nat.le_of_ble_eq_true rfl⟩) hE hK hP hD hS hA [3] [0, 1, 2] [0, 1, 2, 3] rfl (by decide) rfl (by decide) (by decide) rfl (by decide) rfl rfl rfl hl.1 rfl (Nat.le_of_ble_eq_true rfl) d_Controls_write_44 ⟨Nat.zero_le _, Nat.zero_le _⟩ (fun H locs hP hD hS => ?_)
      have hk : k_Controls_write sc shs sgs sy p1 p2 = (sc, shs, sgs, sy_138) := (by rw [k_Controls_write]; rw [if_pos c_136]; rw [if_pos c_137]; try rw [← esy_138]; try rfl)
      exact ct_rv hx hb hr hlocks hP hD hK hS d_Controls_write_47 (by rw [hk]; first | done | rfl)
    · refine lv_aload_n hx hb d_Controls_write_26 rfl (lv_at hl 0 rfl) ?_
      refine lv_iload_n hx hb d_Controls_write_27 rfl (lv_at hl 1 rfl) ?_
      refine ct_cSi (wr := [(qc, .inr (1, f_Controls qo qhs qgs qy sc)), (qhs, .inr (0, f_Bank shs)), (qgs, .inr (0, f_Bank sgs)), (qy, .inr (2, f_Hyper sy))]) (w1 := []) (w2 := [(qc, .inr (1, f_Controls qo qhs qgs qy sc)), (qhs, .inr (0, f_Bank shs)), (qgs, .inr (0, f_Bank sgs)), (qy, .inr (2, f_Hyper sy))]) (r := (k_Numbers_kindOf p1)) (As := [.int p1]) (rest := [.ref qc]) ⟨hx, hb, hml, hown, hts⟩ (c_Numbers_kindOf l G tys p1) (va_cwS 1 hts (gdS gd_gd q_296 q_276 q_48 q_277) rfl rfl rfl (by decide +kernel) ⟨Nat.le_of_ble_eq_true rfl, Nat.le_of_ble_eq_true rfl⟩) hE hK hP hD hS hA [] [0, 1, 2, 3] [0, 1, 2, 3] rfl (by decide) rfl (by decide) (by decide) rfl (by decide) rfl hl.1 rfl (Nat.le_of_ble_eq_true rfl) d_Controls_write_28 ⟨Nat.zero_le _, Nat.zero_le _⟩ (fun H locs hP hD hS => ?_)
      refine lv_iload_n hx hb d_Controls_write_31 rfl (lv_at hl 2 rfl) ?_
      obtain ⟨sgs_139, esgs_139⟩ : ∃ z, z = (k_Controls_writeGuest sc sgs sy (k_Numbers_kindOf p1) p2).1 := ⟨_, rfl⟩
      obtain ⟨sy_140, esy_140⟩ : ∃ z, z = (k_Controls_writeGuest sc sgs sy (k_Numbers_kindOf p1) p2).2 := ⟨_, rfl⟩
      have hM := c_Controls_writeGuest l G tys qc qgs qy qo qhs sc sgs sy (k_Numbers_kindOf p1) p2
      rw [← esgs_139, ← esy_140] at hM
      refine ct_cVv (wr := [(qhs, .inr (0, f_Bank shs))]) (w1 := [(qc, .inr (1, f_Controls qo qhs qgs qy sc)), (qgs, .inr (0, f_Bank sgs_139)), (qy, .inr (2, f_Hyper sy_140))]) (w2 := [(qc, .inr (1, f_Controls qo qhs qgs qy sc)), (qhs, .inr (0, f_Bank shs)), (qgs, .inr (0, f_Bank sgs_139)), (qy, .inr (2, f_Hyper sy_140))]) (As := [.int (k_Numbers_kindOf p1), .int p2]) (rest := []) (ci := 1) (q0 := 0) ⟨hx, hb, hml, hown, hts⟩ hM (cwV 2 hts (gdV gd_gd q_308 q_309 q_310 q_42 q_311) rfl rfl rfl (by decide +kernel) ⟨Nat.le_of_ble_eq_true rfl, Nat.le_of_ble_eq_true rfl⟩) hE hK hP hD hS hA [0, 2, 3] [1] [1, 0, 2, 3] rfl (by decide) rfl (by decide) (by decide) rfl (by decide) rfl rfl rfl hl.1 rfl (Nat.le_of_ble_eq_true rfl) d_Controls_write_32 ⟨Nat.zero_le _, Nat.zero_le _⟩ (fun H locs hP hD hS => ?_)
      refine lv_goto (tgt := 47) hx hb d_Controls_write_35 (by decide) ?_
      have hk : k_Controls_write sc shs sgs sy p1 p2 = (sc, shs, sgs_139, sy_140) := (by rw [k_Controls_write]; rw [if_pos c_136]; rw [if_neg c_137]; try rw [← esgs_139]; try rw [← esy_140]; try rfl)
      exact ct_rv hx hb hr hlocks hP hD hK hS d_Controls_write_47 (by rw [hk]; first | done | rfl)
  · refine lv_aload_n hx hb d_Controls_write_7 rfl (lv_at hl 0 rfl) ?_
    refine lv_iload_n hx hb d_Controls_write_8 rfl (lv_at hl 1 rfl) ?_
    refine ct_cSi (wr := [(qc, .inr (1, f_Controls qo qhs qgs qy sc)), (qhs, .inr (0, f_Bank shs)), (qgs, .inr (0, f_Bank sgs)), (qy, .inr (2, f_Hyper sy))]) (w1 := []) (w2 := [(qc, .inr (1, f_Controls qo qhs qgs qy sc)), (qhs, .inr (0, f_Bank shs)), (qgs, .inr (0, f_Bank sgs)), (qy, .inr (2, f_Hyper sy))]) (r := (k_Numbers_kindOf p1)) (As := [.int p1]) (rest := [.ref qc]) ⟨hx, hb, hml, hown, hts⟩ (c_Numbers_kindOf l G tys p1) (va_cwS 1 hts (gdS gd_gd q_296 q_276 q_48 q_277) rfl rfl rfl (by decide +kernel) ⟨Nat.le_of_ble_eq_true rfl, Nat.le_of_ble_eq_true rfl⟩) hE hK hP hD hS hA [] [0, 1, 2, 3] [0, 1, 2, 3] rfl (by decide) rfl (by decide) (by decide) rfl (by decide) rfl hl.1 rfl (Nat.le_of_ble_eq_true rfl) d_Controls_write_9 ⟨Nat.zero_le _, Nat.zero_le _⟩ (fun H locs hP hD hS => ?_)
    refine lv_iload_n hx hb d_Controls_write_12 rfl (lv_at hl 2 rfl) ?_
    obtain ⟨sc_141, esc_141⟩ : ∃ z, z = (k_Controls_writeHost sc shs (k_Numbers_kindOf p1) p2).1 := ⟨_, rfl⟩
    obtain ⟨shs_142, eshs_142⟩ : ∃ z, z = (k_Controls_writeHost sc shs (k_Numbers_kindOf p1) p2).2 := ⟨_, rfl⟩
    have hM := c_Controls_writeHost l G tys qc qhs qo qgs qy sc shs (k_Numbers_kindOf p1) p2
    rw [← esc_141, ← eshs_142] at hM
    refine ct_cVv (wr := [(qgs, .inr (0, f_Bank sgs)), (qy, .inr (2, f_Hyper sy))]) (w1 := [(qc, .inr (1, f_Controls qo qhs qgs qy sc_141)), (qhs, .inr (0, f_Bank shs_142))]) (w2 := [(qc, .inr (1, f_Controls qo qhs qgs qy sc_141)), (qhs, .inr (0, f_Bank shs_142)), (qgs, .inr (0, f_Bank sgs)), (qy, .inr (2, f_Hyper sy))]) (As := [.int (k_Numbers_kindOf p1), .int p2]) (rest := []) (ci := 1) (q0 := 0) ⟨hx, hb, hml, hown, hts⟩ hM (cwV 2 hts (gdV gd_gd q_297 q_298 q_299 q_42 q_300) rfl rfl rfl (by decide +kernel) ⟨Nat.le_of_ble_eq_true rfl, Nat.le_of_ble_eq_true rfl⟩) hE hK hP hD hS hA [0, 1] [2, 3] [2, 3, 0, 1] rfl (by decide) rfl (by decide) (by decide) rfl (by decide) rfl rfl rfl hl.1 rfl (Nat.le_of_ble_eq_true rfl) d_Controls_write_13 ⟨Nat.zero_le _, Nat.zero_le _⟩ (fun H locs hP hD hS => ?_)
    refine lv_goto (tgt := 47) hx hb d_Controls_write_16 (by decide) ?_
    have hk : k_Controls_write sc shs sgs sy p1 p2 = (sc_141, shs_142, sgs, sy) := (by rw [k_Controls_write]; rw [if_neg c_136]; try rw [← esc_141]; try rw [← eshs_142]; try rfl)
    exact ct_rv hx hb hr hlocks hP hD hK hS d_Controls_write_47 (by rw [hk]; first | done | rfl)
def k_Desk_put (sx : ob) (sc : ob) (shs : ob) (sgs : ob) (sy : ob) (p1 : Int32) (p2 : Int32) : Int32 × ob × ob × ob × ob :=
  if (bI (k_Numbers_isKnown p1)) = 0 then ((-1), sc, shs, sgs, sy) else (if (bI (k_Numbers_isTime p1)) = 0 then (0, ((k_Controls_write sc shs sgs sy p1 p2).1), ((k_Controls_write sc shs sgs sy p1 p2).2.1), ((k_Controls_write sc shs sgs sy p1 p2).2.2.1), ((k_Controls_write sc shs sgs sy p1 p2).2.2.2)) else ((-1), sc, shs, sgs, sy))
set_option maxHeartbeats 4000000 in
set_option maxRecDepth 100000 in
theorem c_Desk_put (l : Launch) (G : gx) (tys : List (ClassId × FieldType)) (qx qc qhs qgs qy qo qr : Nat) (sx : ob) (sc : ob) (shs : ob) (sgs : ob) (sy : ob) (p1 : Int32) (p2 : Int32) : ct_I l y_Desk_put ws_Desk_put ({ frames := 4, cells := 0, slots := 0, locals := 87 }) G tys [.ref qx, .int p1, .int p2] [(qx, .inr (5, f_Desk qc qo qr sx)), (qc, .inr (1, f_Controls qo qhs qgs qy sc)), (qhs, .inr (0, f_Bank shs)), (qgs, .inr (0, f_Bank sgs)), (qy, .inr (2, f_Hyper sy))] ((k_Desk_put sx sc shs sgs sy p1 p2).1) [(qx, .inr (5, f_Desk qc qo qr sx)), (qc, .inr (1, f_Controls qo qhs qgs qy ((k_Desk_put sx sc shs sgs sy p1 p2).2.1))), (qhs, .inr (0, f_Bank ((k_Desk_put sx sc shs sgs sy p1 p2).2.2.1))), (qgs, .inr (0, f_Bank ((k_Desk_put sx sc shs sgs sy p1 p2).2.2.2.1))), (qy, .inr (2, f_Hyper ((k_Desk_put sx sc shs sgs sy p1 p2).2.2.2.2)))] := by
  refine ct_hI (cc := cc_Desk_put) (maxL := 3) (ret := (some .int)) (by decide) rfl (Nat.le_of_ble_eq_true rfl) ?_
  intro p e s m below meth c A ls hx hb hr hml hts hown hlocks hP hK hD hA hE hS hl
  have hl : lv_has ls 3 [(0, .ref qx), (1, .int p1), (2, .int p2)] := hl
  have hown : s.vm.findClass R_Desk = some m.cls := hown
  refine lv_iload_n hx hb d_Desk_put_0 rfl (lv_at hl 1 rfl) ?_
  refine ct_cSi (wr := [(qx, .inr (5, f_Desk qc qo qr sx)), (qc, .inr (1, f_Controls qo qhs qgs qy sc)), (qhs, .inr (0, f_Bank shs)), (qgs, .inr (0, f_Bank sgs)), (qy, .inr (2, f_Hyper sy))]) (w1 := []) (w2 := [(qx, .inr (5, f_Desk qc qo qr sx)), (qc, .inr (1, f_Controls qo qhs qgs qy sc)), (qhs, .inr (0, f_Bank shs)), (qgs, .inr (0, f_Bank sgs)), (qy, .inr (2, f_Hyper sy))]) (r := (bI (k_Numbers_isKnown p1))) (As := [.int p1]) (rest := []) ⟨hx, hb, hml, hown, hts⟩ (c_Numbers_isKnown l G tys p1) (va_cwS 1 hts (gdS gd_gd q_266 q_267 q_48 q_268) rfl rfl rfl (by decide +kernel) ⟨Nat.le_of_ble_eq_true rfl, Nat.le_of_ble_eq_true rfl⟩) hE hK hP hD hS hA [] [0, 1, 2, 3, 4] [0, 1, 2, 3, 4] rfl (by decide) rfl (by decide) (by decide) rfl (by decide) rfl hl.1 rfl (Nat.le_of_ble_eq_true rfl) d_Desk_put_1 ⟨Nat.zero_le _, Nat.zero_le _⟩ (fun H locs hP hD hS => ?_)
  refine lv_if_eq (tgt := 14) hx hb d_Desk_put_4 (by decide) (fun c_147 => ?_) (fun c_147 => ?_)
  · refine lv_iconst (v := (-1)) hx hb d_Desk_put_14 (by decide) ?_
    have hk : k_Desk_put sx sc shs sgs sy p1 p2 = ((-1), sc, shs, sgs, sy) := (by rw [k_Desk_put]; rw [if_pos c_147]; try rfl)
    exact ct_ri hx hb hr hlocks hP hD hK hS d_Desk_put_15 (by rw [hk]; first | done | rfl) (by rw [hk]; first | done | rfl)
  · refine lv_iload_n hx hb d_Desk_put_7 rfl (lv_at hl 1 rfl) ?_
    refine ct_cSi (wr := [(qx, .inr (5, f_Desk qc qo qr sx)), (qc, .inr (1, f_Controls qo qhs qgs qy sc)), (qhs, .inr (0, f_Bank shs)), (qgs, .inr (0, f_Bank sgs)), (qy, .inr (2, f_Hyper sy))]) (w1 := []) (w2 := [(qx, .inr (5, f_Desk qc qo qr sx)), (qc, .inr (1, f_Controls qo qhs qgs qy sc)), (qhs, .inr (0, f_Bank shs)), (qgs, .inr (0, f_Bank sgs)), (qy, .inr (2, f_Hyper sy))]) (r := (bI (k_Numbers_isTime p1))) (As := [.int p1]) (rest := []) ⟨hx, hb, hml, hown, hts⟩ (c_Numbers_isTime l G tys p1) (va_cwS 1 hts (gdS gd_gd q_290 q_288 q_48 q_289) rfl rfl rfl (by decide +kernel) ⟨Nat.le_of_ble_eq_true rfl, Nat.le_of_ble_eq_true rfl⟩) hE hK hP hD hS hA [] [0, 1, 2, 3, 4] [0, 1, 2, 3, 4] rfl (by decide) rfl (by decide) (by decide) rfl (by decide) rfl hl.1 rfl (Nat.le_of_ble_eq_true rfl) d_Desk_put_8 ⟨Nat.zero_le _, Nat.zero_le _⟩ (fun H locs hP hD hS => ?_)
    refine lv_if_eq (tgt := 16) hx hb d_Desk_put_11 (by decide) (fun c_148 => ?_) (fun c_148 => ?_)
    · refine lv_aload_n hx hb d_Desk_put_16 rfl (lv_at hl 0 rfl) ?_
      refine va_get (D := G.1) (ci := 5) (v := .ref qc) (C := R_Desk) (T := T_Desk) (N := 8) hx hb hts (fun w h => gd_sub _ (iw_Desk w h)) hown hK hP 0 rfl rfl 0 (by decide) (hts _ (gd_sub _ q_205)) (fun _ h9 => h9) rfl d_Desk_put_17 ?_
      refine lv_iload_n hx hb d_Desk_put_20 rfl (lv_at hl 1 rfl) ?_
      refine lv_iload_n hx hb d_Desk_put_21 rfl (lv_at hl 2 rfl) ?_
      obtain ⟨sc_149, esc_149⟩ : ∃ z, z = (k_Controls_write sc shs sgs sy p1 p2).1 := ⟨_, rfl⟩
      obtain ⟨shs_150, eshs_150⟩ : ∃ z, z = (k_Controls_write sc shs sgs sy p1 p2).2.1 := ⟨_, rfl⟩
      obtain ⟨sgs_151, esgs_151⟩ : ∃ z, z = (k_Controls_write sc shs sgs sy p1 p2).2.2.1 := ⟨_, rfl⟩
      obtain ⟨sy_152, esy_152⟩ : ∃ z, z = (k_Controls_write sc shs sgs sy p1 p2).2.2.2 := ⟨_, rfl⟩
      have hM := c_Controls_write l G tys qc qhs qgs qy qo sc shs sgs sy p1 p2
      rw [← esc_149, ← eshs_150, ← esgs_151, ← esy_152] at hM
      refine ct_cVv (wr := [(qx, .inr (5, f_Desk qc qo qr sx))]) (w1 := [(qc, .inr (1, f_Controls qo qhs qgs qy sc_149)), (qhs, .inr (0, f_Bank shs_150)), (qgs, .inr (0, f_Bank sgs_151)), (qy, .inr (2, f_Hyper sy_152))]) (w2 := [(qx, .inr (5, f_Desk qc qo qr sx)), (qc, .inr (1, f_Controls qo qhs qgs qy sc_149)), (qhs, .inr (0, f_Bank shs_150)), (qgs, .inr (0, f_Bank sgs_151)), (qy, .inr (2, f_Hyper sy_152))]) (As := [.int p1, .int p2]) (rest := []) (ci := 1) (q0 := 0) ⟨hx, hb, hml, hown, hts⟩ hM (cwV 2 hts (gdV gd_gd q_291 q_292 q_293 q_42 q_294) rfl rfl rfl (by decide +kernel) ⟨Nat.le_of_ble_eq_true rfl, Nat.le_of_ble_eq_true rfl⟩) hE hK hP hD hS hA [1, 2, 3, 4] [0] [0, 1, 2, 3, 4] rfl (by decide) rfl (by decide) (by decide) rfl (by decide) rfl rfl rfl hl.1 rfl (Nat.le_of_ble_eq_true rfl) d_Desk_put_22 ⟨Nat.zero_le _, Nat.zero_le _⟩ (fun H locs hP hD hS => ?_)
      refine lv_iconst (v := 0) hx hb d_Desk_put_25 (by decide) ?_
      have hk : k_Desk_put sx sc shs sgs sy p1 p2 = (0, sc_149, shs_150, sgs_151, sy_152) := (by rw [k_Desk_put]; rw [if_neg c_147]; rw [if_pos c_148]; try rw [← esc_149]; try rw [← eshs_150]; try rw [← esgs_151]; try rw [← esy_152]; try rfl)
      exact ct_ri hx hb hr hlocks hP hD hK hS d_Desk_put_26 (by rw [hk]; first | done | rfl) (by rw [hk]; first | done | rfl)
    · refine lv_iconst (v := (-1)) hx hb d_Desk_put_14 (by decide) ?_
      have hk : k_Desk_put sx sc shs sgs sy p1 p2 = ((-1), sc, shs, sgs, sy) := (by rw [k_Desk_put]; rw [if_neg c_147]; rw [if_neg c_148]; try rfl)
      exact ct_ri hx hb hr hlocks hP hD hK hS d_Desk_put_15 (by rw [hk]; first | done | rfl) (by rw [hk]; first | done | rfl)
end
section
def k_Hyper_read (sy : ob) (p1 : Int32) : Int32 :=
  if p1 = 1536 then (sy.1 0) else if p1 = 1538 then (sy.1 1) else if p1 = 1539 then (sy.1 2) else if p1 = 1540 then (sy.1 3) else if p1 = 1603 then (sy.1 4) else if p1 = 1604 then (sy.1 5) else if p1 = 1605 then (sy.1 5) else if p1 = 1610 then (sy.1 6) else if p1 = 1664 then (sy.1 7) else 0
set_option maxHeartbeats 4000000 in
set_option maxRecDepth 100000 in
theorem c_Hyper_read (l : Launch) (G : gx) (tys : List (ClassId × FieldType)) (qy : Nat) (sy : ob) (p1 : Int32) : ct_I l y_Hyper_read ws_Hyper_read ({ frames := 0, cells := 0, slots := 0, locals := 0 }) G tys [.ref qy, .int p1] [(qy, .inr (2, f_Hyper sy))] (k_Hyper_read sy p1) [(qy, .inr (2, f_Hyper sy))] := by
  refine ct_hI (cc := cc_Hyper_read) (maxL := 2) (ret := (some .int)) (by decide) rfl (Nat.le_of_ble_eq_true rfl) ?_
  intro p e s m below meth c A ls hx hb hr hml hts hown hlocks hP hK hD hA hE hS hl
  have hl : lv_has ls 2 [(0, .ref qy), (1, .int p1)] := hl
  have hown : s.vm.findClass R_Hyper = some m.cls := hown
  refine lv_iload_n hx hb d_Hyper_read_0 rfl (lv_at hl 1 rfl) ?_
  by_cases c_166 : p1 = 1536
  · refine lv_lookup (off := 83) (tgt := 84) hx hb d_Hyper_read_1 (by decide) (by rw [c_166]; decide) (by decide) ?_
    refine lv_aload_n hx hb d_Hyper_read_84 rfl (lv_at hl 0 rfl) ?_
    refine va_get (D := G.1) (ci := 2) (v := .int (sy.1 0)) (C := R_Hyper) (T := T_Hyper) (N := 8) hx hb hts (fun w h => gd_sub _ (iw_Hyper w h)) hown hK hP 0 rfl rfl 0 (by decide) (hts _ (gd_sub _ q_132)) (fun _ h9 => h9) rfl d_Hyper_read_85 ?_
    have hk : k_Hyper_read sy p1 = (sy.1 0) := (by rw [k_Hyper_read]; rw [if_pos c_166]; try rfl)
    exact ct_ri hx hb hr hlocks hP hD hK hS d_Hyper_read_88 (by rw [hk]; first | done | rfl) rfl
  · by_cases c_167 : p1 = 1538
    · refine lv_lookup (off := 88) (tgt := 89) hx hb d_Hyper_read_1 (by decide) (by rw [c_167]; decide) (by decide) ?_
      refine lv_aload_n hx hb d_Hyper_read_89 rfl (lv_at hl 0 rfl) ?_
      refine va_get (D := G.1) (ci := 2) (v := .int (sy.1 1)) (C := R_Hyper) (T := T_Hyper) (N := 8) hx hb hts (fun w h => gd_sub _ (iw_Hyper w h)) hown hK hP 0 rfl rfl 1 (by decide) (hts _ (gd_sub _ q_133)) (fun _ h9 => h9) rfl d_Hyper_read_90 ?_
      have hk : k_Hyper_read sy p1 = (sy.1 1) := (by rw [k_Hyper_read]; rw [if_neg c_166]; rw [if_pos c_167]; try rfl)
      exact ct_ri hx hb hr hlocks hP hD hK hS d_Hyper_read_93 (by rw [hk]; first | done | rfl) rfl
    · by_cases c_168 : p1 = 1539
      · refine lv_lookup (off := 93) (tgt := 94) hx hb d_Hyper_read_1 (by decide) (by rw [c_168]; decide) (by decide) ?_
        refine lv_aload_n hx hb d_Hyper_read_94 rfl (lv_at hl 0 rfl) ?_
        refine va_get (D := G.1) (ci := 2) (v := .int (sy.1 2)) (C := R_Hyper) (T := T_Hyper) (N := 8) hx hb hts (fun w h => gd_sub _ (iw_Hyper w h)) hown hK hP 0 rfl rfl 2 (by decide) (hts _ (gd_sub _ q_135)) (fun _ h9 => h9) rfl d_Hyper_read_95 ?_
        have hk : k_Hyper_read sy p1 = (sy.1 2) := (by rw [k_Hyper_read]; rw [if_neg c_166]; rw [if_neg c_167]; rw [if_pos c_168]; try rfl)
        exact ct_ri hx hb hr hlocks hP hD hK hS d_Hyper_read_98 (by rw [hk]; first | done | rfl) rfl
      · by_cases c_169 : p1 = 1540
        · refine lv_lookup (off := 98) (tgt := 99) hx hb d_Hyper_read_1 (by decide) (by rw [c_169]; decide) (by decide) ?_
          refine lv_aload_n hx hb d_Hyper_read_99 rfl (lv_at hl 0 rfl) ?_
          refine va_get (D := G.1) (ci := 2) (v := .int (sy.1 3)) (C := R_Hyper) (T := T_Hyper) (N := 8) hx hb hts (fun w h => gd_sub _ (iw_Hyper w h)) hown hK hP 0 rfl rfl 3 (by decide) (hts _ (gd_sub _ q_137)) (fun _ h9 => h9) rfl d_Hyper_read_100 ?_
          have hk : k_Hyper_read sy p1 = (sy.1 3) := (by rw [k_Hyper_read]; rw [if_neg c_166]; rw [if_neg c_167]; rw [if_neg c_168]; rw [if_pos c_169]; try rfl)
          exact ct_ri hx hb hr hlocks hP hD hK hS d_Hyper_read_103 (by rw [hk]; first | done | rfl) rfl
        · by_cases c_170 : p1 = 1603
          · refine lv_lookup (off := 103) (tgt := 104) hx hb d_Hyper_read_1 (by decide) (by rw [c_170]; decide) (by decide) ?_
            refine lv_aload_n hx hb d_Hyper_read_104 rfl (lv_at hl 0 rfl) ?_
            refine va_get (D := G.1) (ci := 2) (v := .int (sy.1 4)) (C := R_Hyper) (T := T_Hyper) (N := 8) hx hb hts (fun w h => gd_sub _ (iw_Hyper w h)) hown hK hP 0 rfl rfl 4 (by decide) (hts _ (gd_sub _ q_139)) (fun _ h9 => h9) rfl d_Hyper_read_105 ?_
            have hk : k_Hyper_read sy p1 = (sy.1 4) := (by rw [k_Hyper_read]; rw [if_neg c_166]; rw [if_neg c_167]; rw [if_neg c_168]; rw [if_neg c_169]; rw [if_pos c_170]; try rfl)
            exact ct_ri hx hb hr hlocks hP hD hK hS d_Hyper_read_108 (by rw [hk]; first | done | rfl) rfl
          · by_cases c_171 : p1 = 1604
            · refine lv_lookup (off := 108) (tgt := 109) hx hb d_Hyper_read_1 (by decide) (by rw [c_171]; decide) (by decide) ?_
              refine lv_aload_n hx hb d_Hyper_read_109 rfl (lv_at hl 0 rfl) ?_
              refine va_get (D := G.1) (ci := 2) (v := .int (sy.1 5)) (C := R_Hyper) (T := T_Hyper) (N := 8) hx hb hts (fun w h => gd_sub _ (iw_Hyper w h)) hown hK hP 0 rfl rfl 5 (by decide) (hts _ (gd_sub _ q_141)) (fun _ h9 => h9) rfl d_Hyper_read_110 ?_
              have hk : k_Hyper_read sy p1 = (sy.1 5) := (by rw [k_Hyper_read]; rw [if_neg c_166]; rw [if_neg c_167]; rw [if_neg c_168]; rw [if_neg c_169]; rw [if_neg c_170]; rw [if_pos c_171]; try rfl)
              exact ct_ri hx hb hr hlocks hP hD hK hS d_Hyper_read_113 (by rw [hk]; first | done | rfl) rfl
            · by_cases c_172 : p1 = 1605
              · refine lv_lookup (off := 108) (tgt := 109) hx hb d_Hyper_read_1 (by decide) (by rw [c_172]; decide) (by decide) ?_
                refine lv_aload_n hx hb d_Hyper_read_109 rfl (lv_at hl 0 rfl) ?_
                refine va_get (D := G.1) (ci := 2) (v := .int (sy.1 5)) (C := R_Hyper) (T := T_Hyper) (N := 8) hx hb hts (fun w h => gd_sub _ (iw_Hyper w h)) hown hK hP 0 rfl rfl 5 (by decide) (hts _ (gd_sub _ q_141)) (fun _ h9 => h9) rfl d_Hyper_read_110 ?_
                have hk : k_Hyper_read sy p1 = (sy.1 5) := (by rw [k_Hyper_read]; rw [if_neg c_166]; rw [if_neg c_167]; rw [if_neg c_168]; rw [if_neg c_169]; rw [if_neg c_170]; rw [if_neg c_171]; rw [if_pos c_172]; try rfl)
                exact ct_ri hx hb hr hlocks hP hD hK hS d_Hyper_read_113 (by rw [hk]; first | done | rfl) rfl
              · by_cases c_173 : p1 = 1610
                · refine lv_lookup (off := 113) (tgt := 114) hx hb d_Hyper_read_1 (by decide) (by rw [c_173]; decide) (by decide) ?_
                  refine lv_aload_n hx hb d_Hyper_read_114 rfl (lv_at hl 0 rfl) ?_
                  refine va_get (D := G.1) (ci := 2) (v := .int (sy.1 6)) (C := R_Hyper) (T := T_Hyper) (N := 8) hx hb hts (fun w h => gd_sub _ (iw_Hyper w h)) hown hK hP 0 rfl rfl 6 (by decide) (hts _ (gd_sub _ q_143)) (fun _ h9 => h9) rfl d_Hyper_read_115 ?_
                  have hk : k_Hyper_read sy p1 = (sy.1 6) := (by rw [k_Hyper_read]; rw [if_neg c_166]; rw [if_neg c_167]; rw [if_neg c_168]; rw [if_neg c_169]; rw [if_neg c_170]; rw [if_neg c_171]; rw [if_neg c_172]; rw [if_pos c_173]; try rfl)
                  exact ct_ri hx hb hr hlocks hP hD hK hS d_Hyper_read_118 (by rw [hk]; first | done | rfl) rfl
                · by_cases c_174 : p1 = 1664
                  · refine lv_lookup (off := 118) (tgt := 119) hx hb d_Hyper_read_1 (by decide) (by rw [c_174]; decide) (by decide) ?_
                    refine lv_aload_n hx hb d_Hyper_read_119 rfl (lv_at hl 0 rfl) ?_
                    refine va_get (D := G.1) (ci := 2) (v := .int (sy.1 7)) (C := R_Hyper) (T := T_Hyper) (N := 8) hx hb hts (fun w h => gd_sub _ (iw_Hyper w h)) hown hK hP 0 rfl rfl 7 (by decide) (hts _ (gd_sub _ q_145)) (fun _ h9 => h9) rfl d_Hyper_read_120 ?_
                    have hk : k_Hyper_read sy p1 = (sy.1 7) := (by rw [k_Hyper_read]; rw [if_neg c_166]; rw [if_neg c_167]; rw [if_neg c_168]; rw [if_neg c_169]; rw [if_neg c_170]; rw [if_neg c_171]; rw [if_neg c_172]; rw [if_neg c_173]; rw [if_pos c_174]; try rfl)
                    exact ct_ri hx hb hr hlocks hP hD hK hS d_Hyper_read_123 (by rw [hk]; first | done | rfl) rfl
                  · refine lv_lookup (off := 123) (tgt := 124) hx hb d_Hyper_read_1 (by decide) ((lv_osw c_166 (by decide)).trans ((lv_osw c_167 (by decide)).trans ((lv_osw c_168 (by decide)).trans ((lv_osw c_169 (by decide)).trans ((lv_osw c_170 (by decide)).trans ((lv_osw c_171 (by decide)).trans ((lv_osw c_172 (by decide)).trans ((lv_osw c_173 (by decide)).trans ((lv_osw c_174 (by decide)).trans rfl))))))))) (by decide) ?_
                    refine lv_iconst (v := 0) hx hb d_Hyper_read_124 (by decide) ?_
                    have hk : k_Hyper_read sy p1 = 0 := (by rw [k_Hyper_read]; rw [if_neg c_166]; rw [if_neg c_167]; rw [if_neg c_168]; rw [if_neg c_169]; rw [if_neg c_170]; rw [if_neg c_171]; rw [if_neg c_172]; rw [if_neg c_173]; rw [if_neg c_174]; try rfl)
                    exact ct_ri hx hb hr hlocks hP hD hK hS d_Hyper_read_125 (by rw [hk]; first | done | rfl) rfl
def k_Hyper_guestIe (sy : ob) : Int32 :=
  (ush ((sy.1 3) &&& (sy.1 2)) 1)
set_option maxHeartbeats 4000000 in
set_option maxRecDepth 100000 in
theorem c_Hyper_guestIe (l : Launch) (G : gx) (tys : List (ClassId × FieldType)) (qy : Nat) (sy : ob) : ct_I l y_Hyper_guestIe ws_Hyper_guestIe ({ frames := 0, cells := 0, slots := 0, locals := 0 }) G tys [.ref qy] [(qy, .inr (2, f_Hyper sy))] (k_Hyper_guestIe sy) [(qy, .inr (2, f_Hyper sy))] := by
  refine ct_hI (cc := cc_Hyper_guestIe) (maxL := 1) (ret := (some .int)) (by decide) rfl (Nat.le_of_ble_eq_true rfl) ?_
  intro p e s m below meth c A ls hx hb hr hml hts hown hlocks hP hK hD hA hE hS hl
  have hl : lv_has ls 1 [(0, .ref qy)] := hl
  have hown : s.vm.findClass R_Hyper = some m.cls := hown
  refine lv_aload_n hx hb d_Hyper_guestIe_0 rfl (lv_at hl 0 rfl) ?_
  refine va_get (D := G.1) (ci := 2) (v := .int (sy.1 3)) (C := R_Hyper) (T := T_Hyper) (N := 8) hx hb hts (fun w h => gd_sub _ (iw_Hyper w h)) hown hK hP 0 rfl rfl 3 (by decide) (hts _ (gd_sub _ q_137)) (fun _ h9 => h9) rfl d_Hyper_guestIe_1 ?_
  refine lv_aload_n hx hb d_Hyper_guestIe_4 rfl (lv_at hl 0 rfl) ?_
  refine va_get (D := G.1) (ci := 2) (v := .int (sy.1 2)) (C := R_Hyper) (T := T_Hyper) (N := 8) hx hb hts (fun w h => gd_sub _ (iw_Hyper w h)) hown hK hP 0 rfl rfl 2 (by decide) (hts _ (gd_sub _ q_135)) (fun _ h9 => h9) rfl d_Hyper_guestIe_5 ?_
  refine lv_iand hx hb d_Hyper_guestIe_8 ?_
  refine lv_iconst (v := 1) hx hb d_Hyper_guestIe_9 (by decide) ?_
  refine lv_iushr (v := (ush ((sy.1 3) &&& (sy.1 2)) 1)) hx hb d_Hyper_guestIe_10 rfl ?_
  have hk : k_Hyper_guestIe sy = (ush ((sy.1 3) &&& (sy.1 2)) 1) := (by rw [k_Hyper_guestIe]; try rfl)
  exact ct_ri hx hb hr hlocks hP hD hK hS d_Hyper_guestIe_11 (by rw [hk]; first | done | rfl) rfl
def k_Hyper_guestIp (sy : ob) : Int32 :=
  (ush ((sy.1 5) &&& (sy.1 2)) 1)
set_option maxHeartbeats 4000000 in
set_option maxRecDepth 100000 in
theorem c_Hyper_guestIp (l : Launch) (G : gx) (tys : List (ClassId × FieldType)) (qy : Nat) (sy : ob) : ct_I l y_Hyper_guestIp ws_Hyper_guestIp ({ frames := 0, cells := 0, slots := 0, locals := 0 }) G tys [.ref qy] [(qy, .inr (2, f_Hyper sy))] (k_Hyper_guestIp sy) [(qy, .inr (2, f_Hyper sy))] := by
  refine ct_hI (cc := cc_Hyper_guestIp) (maxL := 1) (ret := (some .int)) (by decide) rfl (Nat.le_of_ble_eq_true rfl) ?_
  intro p e s m below meth c A ls hx hb hr hml hts hown hlocks hP hK hD hA hE hS hl
  have hl : lv_has ls 1 [(0, .ref qy)] := hl
  have hown : s.vm.findClass R_Hyper = some m.cls := hown
  refine lv_aload_n hx hb d_Hyper_guestIp_0 rfl (lv_at hl 0 rfl) ?_
  refine va_get (D := G.1) (ci := 2) (v := .int (sy.1 5)) (C := R_Hyper) (T := T_Hyper) (N := 8) hx hb hts (fun w h => gd_sub _ (iw_Hyper w h)) hown hK hP 0 rfl rfl 5 (by decide) (hts _ (gd_sub _ q_141)) (fun _ h9 => h9) rfl d_Hyper_guestIp_1 ?_
  refine lv_aload_n hx hb d_Hyper_guestIp_4 rfl (lv_at hl 0 rfl) ?_
  refine va_get (D := G.1) (ci := 2) (v := .int (sy.1 2)) (C := R_Hyper) (T := T_Hyper) (N := 8) hx hb hts (fun w h => gd_sub _ (iw_Hyper w h)) hown hK hP 0 rfl rfl 2 (by decide) (hts _ (gd_sub _ q_135)) (fun _ h9 => h9) rfl d_Hyper_guestIp_5 ?_
  refine lv_iand hx hb d_Hyper_guestIp_8 ?_
  refine lv_iconst (v := 1) hx hb d_Hyper_guestIp_9 (by decide) ?_
  refine lv_iushr (v := (ush ((sy.1 5) &&& (sy.1 2)) 1)) hx hb d_Hyper_guestIp_10 rfl ?_
  have hk : k_Hyper_guestIp sy = (ush ((sy.1 5) &&& (sy.1 2)) 1) := (by rw [k_Hyper_guestIp]; try rfl)
  exact ct_ri hx hb hr hlocks hP hD hK hS d_Hyper_guestIp_11 (by rw [hk]; first | done | rfl) rfl
def k_Bank_read (sb : ob) (p1 : Int32) : Int32 :=
  if p1 = 0 then (sb.1 0) else if p1 = 5 then (sb.1 1) else if p1 = 64 then (sb.1 2) else if p1 = 65 then (sb.1 3) else if p1 = 66 then (sb.1 4) else if p1 = 67 then (sb.1 5) else if p1 = 128 then (sb.1 6) else 0
set_option maxHeartbeats 4000000 in
set_option maxRecDepth 100000 in
theorem c_Bank_read (l : Launch) (G : gx) (tys : List (ClassId × FieldType)) (qb : Nat) (sb : ob) (p1 : Int32) : ct_I l y_Bank_read ws_Bank_read ({ frames := 0, cells := 0, slots := 0, locals := 0 }) G tys [.ref qb, .int p1] [(qb, .inr (0, f_Bank sb))] (k_Bank_read sb p1) [(qb, .inr (0, f_Bank sb))] := by
  refine ct_hI (cc := cc_Bank_read) (maxL := 2) (ret := (some .int)) (by decide) rfl (Nat.le_of_ble_eq_true rfl) ?_
  intro p e s m below meth c A ls hx hb hr hml hts hown hlocks hP hK hD hA hE hS hl
  have hl : lv_has ls 2 [(0, .ref qb), (1, .int p1)] := hl
  have hown : s.vm.findClass R_Bank = some m.cls := hown
  refine lv_iload_n hx hb d_Bank_read_0 rfl (lv_at hl 1 rfl) ?_
  by_cases c_184 : p1 = 0
  · refine lv_lookup (off := 67) (tgt := 68) hx hb d_Bank_read_1 (by decide) (by rw [c_184]; decide) (by decide) ?_
    refine lv_aload_n hx hb d_Bank_read_68 rfl (lv_at hl 0 rfl) ?_
    refine va_get (D := G.1) (ci := 0) (v := .int (sb.1 0)) (C := R_Bank) (T := T_Bank) (N := 7) hx hb hts (fun w h => gd_sub _ (iw_Bank w h)) hown hK hP 0 rfl rfl 0 (by decide) (hts _ (gd_sub _ q_103)) (fun _ h9 => h9) rfl d_Bank_read_69 ?_
    have hk : k_Bank_read sb p1 = (sb.1 0) := (by rw [k_Bank_read]; rw [if_pos c_184]; try rfl)
    exact ct_ri hx hb hr hlocks hP hD hK hS d_Bank_read_72 (by rw [hk]; first | done | rfl) rfl
  · by_cases c_185 : p1 = 5
    · refine lv_lookup (off := 72) (tgt := 73) hx hb d_Bank_read_1 (by decide) (by rw [c_185]; decide) (by decide) ?_
      refine lv_aload_n hx hb d_Bank_read_73 rfl (lv_at hl 0 rfl) ?_
      refine va_get (D := G.1) (ci := 0) (v := .int (sb.1 1)) (C := R_Bank) (T := T_Bank) (N := 7) hx hb hts (fun w h => gd_sub _ (iw_Bank w h)) hown hK hP 0 rfl rfl 1 (by decide) (hts _ (gd_sub _ q_104)) (fun _ h9 => h9) rfl d_Bank_read_74 ?_
      have hk : k_Bank_read sb p1 = (sb.1 1) := (by rw [k_Bank_read]; rw [if_neg c_184]; rw [if_pos c_185]; try rfl)
      exact ct_ri hx hb hr hlocks hP hD hK hS d_Bank_read_77 (by rw [hk]; first | done | rfl) rfl
    · by_cases c_186 : p1 = 64
      · refine lv_lookup (off := 77) (tgt := 78) hx hb d_Bank_read_1 (by decide) (by rw [c_186]; decide) (by decide) ?_
        refine lv_aload_n hx hb d_Bank_read_78 rfl (lv_at hl 0 rfl) ?_
        refine va_get (D := G.1) (ci := 0) (v := .int (sb.1 2)) (C := R_Bank) (T := T_Bank) (N := 7) hx hb hts (fun w h => gd_sub _ (iw_Bank w h)) hown hK hP 0 rfl rfl 2 (by decide) (hts _ (gd_sub _ q_105)) (fun _ h9 => h9) rfl d_Bank_read_79 ?_
        have hk : k_Bank_read sb p1 = (sb.1 2) := (by rw [k_Bank_read]; rw [if_neg c_184]; rw [if_neg c_185]; rw [if_pos c_186]; try rfl)
        exact ct_ri hx hb hr hlocks hP hD hK hS d_Bank_read_82 (by rw [hk]; first | done | rfl) rfl
      · by_cases c_187 : p1 = 65
        · refine lv_lookup (off := 82) (tgt := 83) hx hb d_Bank_read_1 (by decide) (by rw [c_187]; decide) (by decide) ?_
          refine lv_aload_n hx hb d_Bank_read_83 rfl (lv_at hl 0 rfl) ?_
          refine va_get (D := G.1) (ci := 0) (v := .int (sb.1 3)) (C := R_Bank) (T := T_Bank) (N := 7) hx hb hts (fun w h => gd_sub _ (iw_Bank w h)) hown hK hP 0 rfl rfl 3 (by decide) (hts _ (gd_sub _ q_106)) (fun _ h9 => h9) rfl d_Bank_read_84 ?_
          have hk : k_Bank_read sb p1 = (sb.1 3) := (by rw [k_Bank_read]; rw [if_neg c_184]; rw [if_neg c_185]; rw [if_neg c_186]; rw [if_pos c_187]; try rfl)
          exact ct_ri hx hb hr hlocks hP hD hK hS d_Bank_read_87 (by rw [hk]; first | done | rfl) rfl
        · by_cases c_188 : p1 = 66
          · refine lv_lookup (off := 87) (tgt := 88) hx hb d_Bank_read_1 (by decide) (by rw [c_188]; decide) (by decide) ?_
            refine lv_aload_n hx hb d_Bank_read_88 rfl (lv_at hl 0 rfl) ?_
            refine va_get (D := G.1) (ci := 0) (v := .int (sb.1 4)) (C := R_Bank) (T := T_Bank) (N := 7) hx hb hts (fun w h => gd_sub _ (iw_Bank w h)) hown hK hP 0 rfl rfl 4 (by decide) (hts _ (gd_sub _ q_108)) (fun _ h9 => h9) rfl d_Bank_read_89 ?_
            have hk : k_Bank_read sb p1 = (sb.1 4) := (by rw [k_Bank_read]; rw [if_neg c_184]; rw [if_neg c_185]; rw [if_neg c_186]; rw [if_neg c_187]; rw [if_pos c_188]; try rfl)
            exact ct_ri hx hb hr hlocks hP hD hK hS d_Bank_read_92 (by rw [hk]; first | done | rfl) rfl
          · by_cases c_189 : p1 = 67
            · refine lv_lookup (off := 92) (tgt := 93) hx hb d_Bank_read_1 (by decide) (by rw [c_189]; decide) (by decide) ?_
              refine lv_aload_n hx hb d_Bank_read_93 rfl (lv_at hl 0 rfl) ?_
              refine va_get (D := G.1) (ci := 0) (v := .int (sb.1 5)) (C := R_Bank) (T := T_Bank) (N := 7) hx hb hts (fun w h => gd_sub _ (iw_Bank w h)) hown hK hP 0 rfl rfl 5 (by decide) (hts _ (gd_sub _ q_109)) (fun _ h9 => h9) rfl d_Bank_read_94 ?_
              have hk : k_Bank_read sb p1 = (sb.1 5) := (by rw [k_Bank_read]; rw [if_neg c_184]; rw [if_neg c_185]; rw [if_neg c_186]; rw [if_neg c_187]; rw [if_neg c_188]; rw [if_pos c_189]; try rfl)
              exact ct_ri hx hb hr hlocks hP hD hK hS d_Bank_read_97 (by rw [hk]; first | done | rfl) rfl
            · by_cases c_190 : p1 = 128
              · refine lv_lookup (off := 97) (tgt := 98) hx hb d_Bank_read_1 (by decide) (by rw [c_190]; decide) (by decide) ?_
                refine lv_aload_n hx hb d_Bank_read_98 rfl (lv_at hl 0 rfl) ?_
                refine va_get (D := G.1) (ci := 0) (v := .int (sb.1 6)) (C := R_Bank) (T := T_Bank) (N := 7) hx hb hts (fun w h => gd_sub _ (iw_Bank w h)) hown hK hP 0 rfl rfl 6 (by decide) (hts _ (gd_sub _ q_110)) (fun _ h9 => h9) rfl d_Bank_read_99 ?_
                have hk : k_Bank_read sb p1 = (sb.1 6) := (by rw [k_Bank_read]; rw [if_neg c_184]; rw [if_neg c_185]; rw [if_neg c_186]; rw [if_neg c_187]; rw [if_neg c_188]; rw [if_neg c_189]; rw [if_pos c_190]; try rfl)
                exact ct_ri hx hb hr hlocks hP hD hK hS d_Bank_read_102 (by rw [hk]; first | done | rfl) rfl
              · refine lv_lookup (off := 102) (tgt := 103) hx hb d_Bank_read_1 (by decide) ((lv_osw c_184 (by decide)).trans ((lv_osw c_185 (by decide)).trans ((lv_osw c_186 (by decide)).trans ((lv_osw c_187 (by decide)).trans ((lv_osw c_188 (by decide)).trans ((lv_osw c_189 (by decide)).trans ((lv_osw c_190 (by decide)).trans rfl))))))) (by decide) ?_
                refine lv_iconst (v := 0) hx hb d_Bank_read_103 (by decide) ?_
                have hk : k_Bank_read sb p1 = 0 := (by rw [k_Bank_read]; rw [if_neg c_184]; rw [if_neg c_185]; rw [if_neg c_186]; rw [if_neg c_187]; rw [if_neg c_188]; rw [if_neg c_189]; rw [if_neg c_190]; try rfl)
                exact ct_ri hx hb hr hlocks hP hD hK hS d_Bank_read_104 (by rw [hk]; first | done | rfl) rfl
def k_Controls_readGuest (sc : ob) (sgs : ob) (sy : ob) (p1 : Int32) : Int32 :=
  if p1 = 4 then (k_Hyper_guestIe sy) else if p1 = 68 then (k_Hyper_guestIp sy) else (k_Bank_read sgs p1)
set_option maxHeartbeats 4000000 in
set_option maxRecDepth 100000 in
theorem c_Controls_readGuest (l : Launch) (G : gx) (tys : List (ClassId × FieldType)) (qc qgs qy qo qhs : Nat) (sc : ob) (sgs : ob) (sy : ob) (p1 : Int32) : ct_I l y_Controls_readGuest ws_Controls_readGuest ({ frames := 1, cells := 0, slots := 0, locals := 21 }) G tys [.ref qc, .int p1] [(qc, .inr (1, f_Controls qo qhs qgs qy sc)), (qgs, .inr (0, f_Bank sgs)), (qy, .inr (2, f_Hyper sy))] (k_Controls_readGuest sc sgs sy p1) [(qc, .inr (1, f_Controls qo qhs qgs qy sc)), (qgs, .inr (0, f_Bank sgs)), (qy, .inr (2, f_Hyper sy))] := by
  refine ct_hI (cc := cc_Controls_readGuest) (maxL := 2) (ret := (some .int)) (by decide) rfl (Nat.le_of_ble_eq_true rfl) ?_
  intro p e s m below meth c A ls hx hb hr hml hts hown hlocks hP hK hD hA hE hS hl
  have hl : lv_has ls 2 [(0, .ref qc), (1, .int p1)] := hl
  have hown : s.vm.findClass R_Controls = some m.cls := hown
  refine lv_iload_n hx hb d_Controls_readGuest_0 rfl (lv_at hl 1 rfl) ?_
  by_cases c_191 : p1 = 4
  · refine lv_lookup (off := 27) (tgt := 28) hx hb d_Controls_readGuest_1 (by decide) (by rw [c_191]; decide) (by decide) ?_
    refine lv_aload_n hx hb d_Controls_readGuest_28 rfl (lv_at hl 0 rfl) ?_
    refine va_get (D := G.1) (ci := 1) (v := .ref qy) (C := R_Controls) (T := T_Controls) (N := 6) hx hb hts (fun w h => gd_sub _ (iw_Controls w h)) hown hK hP 0 rfl rfl 3 (by decide) (hts _ (gd_sub _ q_169)) (fun _ h9 => h9) rfl d_Controls_readGuest_29 ?_
    refine ct_cVi (wr := [(qc, .inr (1, f_Controls qo qhs qgs qy sc)), (qgs, .inr (0, f_Bank sgs))]) (w1 := [(qy, .inr (2, f_Hyper sy))]) (w2 := [(qc, .inr (1, f_Controls qo qhs qgs qy sc)), (qgs, .inr (0, f_Bank sgs)), (qy, .inr (2, f_Hyper sy))]) (r := (k_Hyper_guestIe sy)) (As := []) (rest := []) (ci := 2) (q0 := 0) ⟨hx, hb, hml, hown, hts⟩ (c_Hyper_guestIe l G tys qy sy) (cwV 0 hts (gdV gd_gd q_358 q_359 q_360 q_45 q_361) rfl rfl rfl (by decide +kernel) ⟨Nat.le_of_ble_eq_true rfl, Nat.le_of_ble_eq_true rfl⟩) hE hK hP hD hS hA [2] [0, 1] [0, 1, 2] rfl (by decide) rfl (by decide) (by decide) rfl (by decide) rfl rfl rfl hl.1 rfl (Nat.le_of_ble_eq_true rfl) d_Controls_readGuest_32 ⟨Nat.zero_le _, Nat.zero_le _⟩ (fun H locs hP hD hS => ?_)
    have hk : k_Controls_readGuest sc sgs sy p1 = (k_Hyper_guestIe sy) := (by rw [k_Controls_readGuest]; rw [if_pos c_191]; try rfl)
    exact ct_ri hx hb hr hlocks hP hD hK hS d_Controls_readGuest_35 (by rw [hk]; first | done | rfl) rfl
  · by_cases c_192 : p1 = 68
    · refine lv_lookup (off := 35) (tgt := 36) hx hb d_Controls_readGuest_1 (by decide) (by rw [c_192]; decide) (by decide) ?_
      refine lv_aload_n hx hb d_Controls_readGuest_36 rfl (lv_at hl 0 rfl) ?_
      refine va_get (D := G.1) (ci := 1) (v := .ref qy) (C := R_Controls) (T := T_Controls) (N := 6) hx hb hts (fun w h => gd_sub _ (iw_Controls w h)) hown hK hP 0 rfl rfl 3 (by decide) (hts _ (gd_sub _ q_169)) (fun _ h9 => h9) rfl d_Controls_readGuest_37 ?_
      refine ct_cVi (wr := [(qc, .inr (1, f_Controls qo qhs qgs qy sc)), (qgs, .inr (0, f_Bank sgs))]) (w1 := [(qy, .inr (2, f_Hyper sy))]) (w2 := [(qc, .inr (1, f_Controls qo qhs qgs qy sc)), (qgs, .inr (0, f_Bank sgs)), (qy, .inr (2, f_Hyper sy))]) (r := (k_Hyper_guestIp sy)) (As := []) (rest := []) (ci := 2) (q0 := 0) ⟨hx, hb, hml, hown, hts⟩ (c_Hyper_guestIp l G tys qy sy) (cwV 0 hts (gdV gd_gd q_362 q_363 q_364 q_45 q_365) rfl rfl rfl (by decide +kernel) ⟨Nat.le_of_ble_eq_true rfl, Nat.le_of_ble_eq_true rfl⟩) hE hK hP hD hS hA [2] [0, 1] [0, 1, 2] rfl (by decide) rfl (by decide) (by decide) rfl (by decide) rfl rfl rfl hl.1 rfl (Nat.le_of_ble_eq_true rfl) d_Controls_readGuest_40 ⟨Nat.zero_le _, Nat.zero_le _⟩ (fun H locs hP hD hS => ?_)
      have hk : k_Controls_readGuest sc sgs sy p1 = (k_Hyper_guestIp sy) := (by rw [k_Controls_readGuest]; rw [if_neg c_191]; rw [if_pos c_192]; try rfl)
      exact ct_ri hx hb hr hlocks hP hD hK hS d_Controls_readGuest_43 (by rw [hk]; first | done | rfl) rfl
    · refine lv_lookup (off := 43) (tgt := 44) hx hb d_Controls_readGuest_1 (by decide) ((lv_osw c_191 (by decide)).trans ((lv_osw c_192 (by decide)).trans rfl)) (by decide) ?_
      refine lv_aload_n hx hb d_Controls_readGuest_44 rfl (lv_at hl 0 rfl) ?_
      refine va_get (D := G.1) (ci := 1) (v := .ref qgs) (C := R_Controls) (T := T_Controls) (N := 6) hx hb hts (fun w h => gd_sub _ (iw_Controls w h)) hown hK hP 0 rfl rfl 2 (by decide) (hts _ (gd_sub _ q_167)) (fun _ h9 => h9) rfl d_Controls_readGuest_45 ?_
      refine lv_iload_n hx hb d_Controls_readGuest_48 rfl (lv_at hl 1 rfl) ?_
      refine ct_cVi (wr := [(qc, .inr (1, f_Controls qo qhs qgs qy sc)), (qy, .inr (2, f_Hyper sy))]) (w1 := [(qgs, .inr (0, f_Bank sgs))]) (w2 := [(qc, .inr (1, f_Controls qo qhs qgs qy sc)), (qgs, .inr (0, f_Bank sgs)), (qy, .inr (2, f_Hyper sy))]) (r := (k_Bank_read sgs p1)) (As := [.int p1]) (rest := []) (ci := 0) (q0 := 0) ⟨hx, hb, hml, hown, hts⟩ (c_Bank_read l G tys qgs sgs p1) (cwV 1 hts (gdV gd_gd q_350 q_351 q_352 q_44 q_353) rfl rfl rfl (by decide +kernel) ⟨Nat.le_of_ble_eq_true rfl, Nat.le_of_ble_eq_true rfl⟩) hE hK hP hD hS hA [1] [0, 2] [0, 2, 1] rfl (by decide) rfl (by decide) (by decide) rfl (by decide) rfl rfl rfl hl.1 rfl (Nat.le_of_ble_eq_true rfl) d_Controls_readGuest_49 ⟨Nat.zero_le _, Nat.zero_le _⟩ (fun H locs hP hD hS => ?_)
      have hk : k_Controls_readGuest sc sgs sy p1 = (k_Bank_read sgs p1) := (by rw [k_Controls_readGuest]; rw [if_neg c_191]; rw [if_neg c_192]; try rfl)
      exact ct_ri hx hb hr hlocks hP hD hK hS d_Controls_readGuest_52 (by rw [hk]; first | done | rfl) rfl
def k_Outside_alarmRings (so : ob) : Bool :=
  if (lg_cmp (so.2.1 2) (so.2.1 3)) < 0 then false else true
set_option maxHeartbeats 4000000 in
set_option maxRecDepth 100000 in
theorem c_Outside_alarmRings (l : Launch) (G : gx) (tys : List (ClassId × FieldType)) (qo qa : Nat) (so : ob) : ct_I l y_Outside_alarmRings ws_Outside_alarmRings ({ frames := 0, cells := 0, slots := 0, locals := 0 }) G tys [.ref qo] [(qo, .inr (3, f_Outside qa so))] (bI (k_Outside_alarmRings so)) [(qo, .inr (3, f_Outside qa so))] := by
  refine ct_hI (cc := cc_Outside_alarmRings) (maxL := 1) (ret := (some .boolean)) (by decide) rfl (Nat.le_of_ble_eq_true rfl) ?_
  intro p e s m below meth c A ls hx hb hr hml hts hown hlocks hP hK hD hA hE hS hl
  have hl : lv_has ls 1 [(0, .ref qo)] := hl
  have hown : s.vm.findClass R_Outside = some m.cls := hown
  refine lv_aload_n hx hb d_Outside_alarmRings_0 rfl (lv_at hl 0 rfl) ?_
  refine va_get (D := G.1) (ci := 3) (v := .long (so.2.1 2)) (C := R_Outside) (T := T_Outside) (N := 6) hx hb hts (fun w h => gd_sub _ (iw_Outside w h)) hown hK hP 0 rfl rfl 2 (by decide) (hts _ (gd_sub _ q_73)) (fun _ h9 => h9) rfl d_Outside_alarmRings_1 ?_
  refine lv_aload_n hx hb d_Outside_alarmRings_4 rfl (lv_at hl 0 rfl) ?_
  refine va_get (D := G.1) (ci := 3) (v := .long (so.2.1 3)) (C := R_Outside) (T := T_Outside) (N := 6) hx hb hts (fun w h => gd_sub _ (iw_Outside w h)) hown hK hP 0 rfl rfl 3 (by decide) (hts _ (gd_sub _ q_76)) (fun _ h9 => h9) rfl d_Outside_alarmRings_5 ?_
  refine W.lcmp hx hb d_Outside_alarmRings_8 ?_
  refine lv_if_lt (tgt := 16) hx hb d_Outside_alarmRings_9 (by decide) (fun c_196 => ?_) (fun c_196 => ?_)
  · refine lv_iconst (v := 0) hx hb d_Outside_alarmRings_16 (by decide) ?_
    have hk : k_Outside_alarmRings so = false := (by rw [k_Outside_alarmRings]; rw [if_pos c_196]; try rfl)
    exact ct_rz hx hb hr hlocks hP hD hK hS d_Outside_alarmRings_17 rfl (by rw [hk]; first | done | rfl) rfl
  · refine lv_iconst (v := 1) hx hb d_Outside_alarmRings_12 (by decide) ?_
    refine lv_goto (tgt := 17) hx hb d_Outside_alarmRings_13 (by decide) ?_
    have hk : k_Outside_alarmRings so = true := (by rw [k_Outside_alarmRings]; rw [if_neg c_196]; try rfl)
    exact ct_rz hx hb hr hlocks hP hD hK hS d_Outside_alarmRings_17 rfl (by rw [hk]; first | done | rfl) rfl
def k_Controls_hostIp_j34 (sc : ob) (so : ob) (v1 : Int32) (t0 : Int32) : Int32 :=
  (((sc.1 5) ||| v1) ||| t0)
def k_Controls_hostIp_j16 (sc : ob) (so : ob) (t0 : Int32) : Int32 :=
  if (bI (so.2.2 4)) = 0 then (k_Controls_hostIp_j34 sc so t0 0) else (k_Controls_hostIp_j34 sc so t0 512)
def k_Controls_hostIp (sc : ob) (so : ob) : Int32 :=
  if (bI (k_Outside_alarmRings so)) = 0 then (k_Controls_hostIp_j16 sc so 0) else (k_Controls_hostIp_j16 sc so 32)
set_option maxHeartbeats 4000000 in
set_option maxRecDepth 100000 in
theorem c_Controls_hostIp (l : Launch) (G : gx) (tys : List (ClassId × FieldType)) (qc qo qhs qgs qy qa : Nat) (sc : ob) (so : ob) : ct_I l y_Controls_hostIp ws_Controls_hostIp ({ frames := 1, cells := 0, slots := 0, locals := 20 }) G tys [.ref qc] [(qc, .inr (1, f_Controls qo qhs qgs qy sc)), (qo, .inr (3, f_Outside qa so))] (k_Controls_hostIp sc so) [(qc, .inr (1, f_Controls qo qhs qgs qy sc)), (qo, .inr (3, f_Outside qa so))] := by
  refine ct_hI (cc := cc_Controls_hostIp) (maxL := 3) (ret := (some .int)) (by decide) rfl (Nat.le_of_ble_eq_true rfl) ?_
  intro p e s m below meth c A ls hx hb hr hml hts hown hlocks hP hK hD hA hE hS hl
  have hl : lv_has ls 3 [(0, .ref qc)] := hl
  have hown : s.vm.findClass R_Controls = some m.cls := hown
  have J34 : ∀ (v1 : Int32) (t0 : Int32) (H : Heap) (locs : List Loc) (ls : Array Slot), k_Controls_hostIp sc so = k_Controls_hostIp_j34 sc so v1 t0 → va_P G.1 vwCl [(qc, .inr (1, f_Controls qo qhs qgs qy sc)), (qo, .inr (3, f_Outside qa so))] H → va_D A [(qc, .inr (1, f_Controls qo qhs qgs qy sc)), (qo, .inr (3, f_Outside qa so))] → va_S A s.heap H locs → lv_has ls 3 [(0, .ref qc), (1, .int v1)] → W p l e ({ frames := 1, cells := 0, slots := 0, locals := 20 }) s m ([.ref qc] : List Value).toArray below meth c H locs 0 0 (MQ below (ct_qi G tys A (k_Controls_hostIp sc so) [(qc, .inr (1, f_Controls qo qhs qgs qy sc)), (qo, .inr (3, f_Outside qa so))]) ([.ref qc] : List Value).toArray s 0 0 A) (F0 m 34 ls [.int t0]) := by
    intro v1 t0 H locs ls hj hP hD hS hl
    refine lv_istore_n (lv' := [(2, .int t0), (0, .ref qc), (1, .int v1)]) hx hb d_Controls_hostIp_34 rfl hl (by decide) rfl (fun ls hl => ?_)
    refine lv_aload_n hx hb d_Controls_hostIp_35 rfl (lv_at hl 1 rfl) ?_
    refine va_get (D := G.1) (ci := 1) (v := .int (sc.1 5)) (C := R_Controls) (T := T_Controls) (N := 6) hx hb hts (fun w h => gd_sub _ (iw_Controls w h)) hown hK hP 0 rfl rfl 5 (by decide) (hts _ (gd_sub _ q_172)) (fun _ h9 => h9) rfl d_Controls_hostIp_36 ?_
    refine lv_iload_n hx hb d_Controls_hostIp_39 rfl (lv_at hl 2 rfl) ?_
    refine lv_ior hx hb d_Controls_hostIp_40 ?_
    refine lv_iload_n hx hb d_Controls_hostIp_41 rfl (lv_at hl 0 rfl) ?_
    refine lv_ior hx hb d_Controls_hostIp_42 ?_
    have hk : k_Controls_hostIp sc so = (((sc.1 5) ||| v1) ||| t0) := (hj.trans (by rw [k_Controls_hostIp_j34]; try rfl))
    exact ct_ri hx hb hr hlocks hP hD hK hS d_Controls_hostIp_43 (by rw [hk]; first | done | rfl) rfl
  have J16 : ∀ (t0 : Int32) (H : Heap) (locs : List Loc) (ls : Array Slot), k_Controls_hostIp sc so = k_Controls_hostIp_j16 sc so t0 → va_P G.1 vwCl [(qc, .inr (1, f_Controls qo qhs qgs qy sc)), (qo, .inr (3, f_Outside qa so))] H → va_D A [(qc, .inr (1, f_Controls qo qhs qgs qy sc)), (qo, .inr (3, f_Outside qa so))] → va_S A s.heap H locs → lv_has ls 3 [(0, .ref qc)] → W p l e ({ frames := 1, cells := 0, slots := 0, locals := 20 }) s m ([.ref qc] : List Value).toArray below meth c H locs 0 0 (MQ below (ct_qi G tys A (k_Controls_hostIp sc so) [(qc, .inr (1, f_Controls qo qhs qgs qy sc)), (qo, .inr (3, f_Outside qa so))]) ([.ref qc] : List Value).toArray s 0 0 A) (F0 m 16 ls [.int t0]) := by
    intro t0 H locs ls hj hP hD hS hl
    refine lv_istore_n (lv' := [(1, .int t0), (0, .ref qc)]) hx hb d_Controls_hostIp_16 rfl hl (by decide) rfl (fun ls hl => ?_)
    refine lv_aload_n hx hb d_Controls_hostIp_17 rfl (lv_at hl 1 rfl) ?_
    refine va_get (D := G.1) (ci := 1) (v := .ref qo) (C := R_Controls) (T := T_Controls) (N := 6) hx hb hts (fun w h => gd_sub _ (iw_Controls w h)) hown hK hP 0 rfl rfl 0 (by decide) (hts _ (gd_sub _ q_163)) (fun _ h9 => h9) rfl d_Controls_hostIp_18 ?_
    refine va_get (D := G.1) (ci := 3) (v := .int (bI (so.2.2 4))) (C := R_Outside) (T := T_Outside) (N := 6) hx hb hts (fun w h => gd_sub _ (iw_Outside w h)) hown hK hP 1 rfl rfl 4 (by decide) (hts _ (gd_sub _ q_80)) (fun _ h9 => h9) rfl d_Controls_hostIp_21 ?_
    refine lv_if_eq (tgt := 33) hx hb d_Controls_hostIp_24 (by decide) (fun c_199 => ?_) (fun c_199 => ?_)
    · refine lv_iconst (v := 0) hx hb d_Controls_hostIp_33 (by decide) ?_
      exact J34 t0 0 H locs ls (hj.trans (by rw [k_Controls_hostIp_j16]; rw [if_pos c_199]; try rfl)) hP hD hS (lv_sub hl [1, 0] rfl)
    · refine lv_sipush (v := 512) hx hb d_Controls_hostIp_27 (by decide) ?_
      refine lv_goto (tgt := 34) hx hb d_Controls_hostIp_30 (by decide) ?_
      exact J34 t0 512 H locs ls (hj.trans (by rw [k_Controls_hostIp_j16]; rw [if_neg c_199]; try rfl)) hP hD hS (lv_sub hl [1, 0] rfl)
  obtain ⟨H, eH⟩ : ∃ z, z = s.heap := ⟨_, rfl⟩
  obtain ⟨locs, eL⟩ : ∃ z, z = ([] : List Loc) := ⟨_, rfl⟩
  have hP : va_P G.1 vwCl [(qc, .inr (1, f_Controls qo qhs qgs qy sc)), (qo, .inr (3, f_Outside qa so))] H := by rw [eH]; exact hP
  have hS : va_S A s.heap H locs := by rw [eH, eL]; exact hS
  suffices hW : W p l e ({ frames := 1, cells := 0, slots := 0, locals := 20 }) s m ([.ref qc] : List Value).toArray below meth c H locs 0 0 (MQ below (ct_qi G tys A (k_Controls_hostIp sc so) [(qc, .inr (1, f_Controls qo qhs qgs qy sc)), (qo, .inr (3, f_Outside qa so))]) ([.ref qc] : List Value).toArray s 0 0 A) (F0 m 0 ls []) by rw [eH, eL] at hW; exact hW
  refine lv_aload_n hx hb d_Controls_hostIp_0 rfl (lv_at hl 0 rfl) ?_
  refine va_get (D := G.1) (ci := 1) (v := .ref qo) (C := R_Controls) (T := T_Controls) (N := 6) hx hb hts (fun w h => gd_sub _ (iw_Controls w h)) hown hK hP 0 rfl rfl 0 (by decide) (hts _ (gd_sub _ q_163)) (fun _ h9 => h9) rfl d_Controls_hostIp_1 ?_
  refine ct_cVi (wr := [(qc, .inr (1, f_Controls qo qhs qgs qy sc))]) (w1 := [(qo, .inr (3, f_Outside qa so))]) (w2 := [(qc, .inr (1, f_Controls qo qhs qgs qy sc)), (qo, .inr (3, f_Outside qa so))]) (r := (bI (k_Outside_alarmRings so))) (As := []) (rest := []) (ci := 3) (q0 := 0) ⟨hx, hb, hml, hown, hts⟩ (c_Outside_alarmRings l G tys qo qa so) (cwV 0 hts (gdV gd_gd q_346 q_347 q_348 q_43 q_349) rfl rfl rfl (by decide +kernel) ⟨Nat.le_of_ble_eq_true rfl, Nat.le_of_ble_eq_true rfl⟩) hE hK hP hD hS hA [1] [0] [0, 1] rfl (by decide) rfl (by decide) (by decide) rfl (by decide) rfl rfl rfl hl.1 rfl (Nat.le_of_ble_eq_true rfl) d_Controls_hostIp_4 ⟨Nat.zero_le _, Nat.zero_le _⟩ (fun H locs hP hD hS => ?_)
  refine lv_if_eq (tgt := 15) hx hb d_Controls_hostIp_7 (by decide) (fun c_200 => ?_) (fun c_200 => ?_)
  · refine lv_iconst (v := 0) hx hb d_Controls_hostIp_15 (by decide) ?_
    exact J16 0 H locs ls (by rw [k_Controls_hostIp]; rw [if_pos c_200]; try rfl) hP hD hS (lv_sub hl [0] rfl)
  · refine lv_bipush (v := 32) hx hb d_Controls_hostIp_10 (by decide) ?_
    refine lv_goto (tgt := 16) hx hb d_Controls_hostIp_12 (by decide) ?_
    exact J16 32 H locs ls (by rw [k_Controls_hostIp]; rw [if_neg c_200]; try rfl) hP hD hS (lv_sub hl [0] rfl)
def k_Controls_readHost (sc : ob) (so : ob) (shs : ob) (p1 : Int32) : Int32 :=
  if p1 = 4 then (sc.1 4) else if p1 = 68 then (k_Controls_hostIp sc so) else (k_Bank_read shs p1)
set_option maxHeartbeats 4000000 in
set_option maxRecDepth 100000 in
theorem c_Controls_readHost (l : Launch) (G : gx) (tys : List (ClassId × FieldType)) (qc qo qhs qgs qy qa : Nat) (sc : ob) (so : ob) (shs : ob) (p1 : Int32) : ct_I l y_Controls_readHost ws_Controls_readHost ({ frames := 2, cells := 0, slots := 0, locals := 42 }) G tys [.ref qc, .int p1] [(qc, .inr (1, f_Controls qo qhs qgs qy sc)), (qo, .inr (3, f_Outside qa so)), (qhs, .inr (0, f_Bank shs))] (k_Controls_readHost sc so shs p1) [(qc, .inr (1, f_Controls qo qhs qgs qy sc)), (qo, .inr (3, f_Outside qa so)), (qhs, .inr (0, f_Bank shs))] := by
  refine ct_hI (cc := cc_Controls_readHost) (maxL := 2) (ret := (some .int)) (by decide) rfl (Nat.le_of_ble_eq_true rfl) ?_
  intro p e s m below meth c A ls hx hb hr hml hts hown hlocks hP hK hD hA hE hS hl
  have hl : lv_has ls 2 [(0, .ref qc), (1, .int p1)] := hl
  have hown : s.vm.findClass R_Controls = some m.cls := hown
  refine lv_iload_n hx hb d_Controls_readHost_0 rfl (lv_at hl 1 rfl) ?_
  by_cases c_201 : p1 = 4
  · refine lv_lookup (off := 27) (tgt := 28) hx hb d_Controls_readHost_1 (by decide) (by rw [c_201]; decide) (by decide) ?_
    refine lv_aload_n hx hb d_Controls_readHost_28 rfl (lv_at hl 0 rfl) ?_
    refine va_get (D := G.1) (ci := 1) (v := .int (sc.1 4)) (C := R_Controls) (T := T_Controls) (N := 6) hx hb hts (fun w h => gd_sub _ (iw_Controls w h)) hown hK hP 0 rfl rfl 4 (by decide) (hts _ (gd_sub _ q_171)) (fun _ h9 => h9) rfl d_Controls_readHost_29 ?_
    have hk : k_Controls_readHost sc so shs p1 = (sc.1 4) := (by rw [k_Controls_readHost]; rw [if_pos c_201]; try rfl)
    exact ct_ri hx hb hr hlocks hP hD hK hS d_Controls_readHost_32 (by rw [hk]; first | done | rfl) rfl
  · by_cases c_202 : p1 = 68
    · refine lv_lookup (off := 32) (tgt := 33) hx hb d_Controls_readHost_1 (by decide) (by rw [c_202]; decide) (by decide) ?_
      refine lv_aload_n hx hb d_Controls_readHost_33 rfl (lv_at hl 0 rfl) ?_
      refine ct_cVi (wr := [(qhs, .inr (0, f_Bank shs))]) (w1 := [(qc, .inr (1, f_Controls qo qhs qgs qy sc)), (qo, .inr (3, f_Outside qa so))]) (w2 := [(qc, .inr (1, f_Controls qo qhs qgs qy sc)), (qo, .inr (3, f_Outside qa so)), (qhs, .inr (0, f_Bank shs))]) (r := (k_Controls_hostIp sc so)) (As := []) (rest := []) (ci := 1) (q0 := 0) ⟨hx, hb, hml, hown, hts⟩ (c_Controls_hostIp l G tys qc qo qhs qgs qy qa sc so) (cwV 0 hts (gdV gd_gd q_342 q_343 q_344 q_42 q_345) rfl rfl rfl (by decide +kernel) ⟨Nat.le_of_ble_eq_true rfl, Nat.le_of_ble_eq_true rfl⟩) hE hK hP hD hS hA [0, 1] [2] [1, 2, 0] rfl (by decide) rfl (by decide) (by decide) rfl (by decide) rfl rfl rfl hl.1 rfl (Nat.le_of_ble_eq_true rfl) d_Controls_readHost_34 ⟨Nat.zero_le _, Nat.zero_le _⟩ (fun H locs hP hD hS => ?_)
      have hk : k_Controls_readHost sc so shs p1 = (k_Controls_hostIp sc so) := (by rw [k_Controls_readHost]; rw [if_neg c_201]; rw [if_pos c_202]; try rfl)
      exact ct_ri hx hb hr hlocks hP hD hK hS d_Controls_readHost_37 (by rw [hk]; first | done | rfl) rfl
    · refine lv_lookup (off := 37) (tgt := 38) hx hb d_Controls_readHost_1 (by decide) ((lv_osw c_201 (by decide)).trans ((lv_osw c_202 (by decide)).trans rfl)) (by decide) ?_
      refine lv_aload_n hx hb d_Controls_readHost_38 rfl (lv_at hl 0 rfl) ?_
      refine va_get (D := G.1) (ci := 1) (v := .ref qhs) (C := R_Controls) (T := T_Controls) (N := 6) hx hb hts (fun w h => gd_sub _ (iw_Controls w h)) hown hK hP 0 rfl rfl 1 (by decide) (hts _ (gd_sub _ q_165)) (fun _ h9 => h9) rfl d_Controls_readHost_39 ?_
      refine lv_iload_n hx hb d_Controls_readHost_42 rfl (lv_at hl 1 rfl) ?_
      refine ct_cVi (wr := [(qc, .inr (1, f_Controls qo qhs qgs qy sc)), (qo, .inr (3, f_Outside qa so))]) (w1 := [(qhs, .inr (0, f_Bank shs))]) (w2 := [(qc, .inr (1, f_Controls qo qhs qgs qy sc)), (qo, .inr (3, f_Outside qa so)), (qhs, .inr (0, f_Bank shs))]) (r := (k_Bank_read shs p1)) (As := [.int p1]) (rest := []) (ci := 0) (q0 := 0) ⟨hx, hb, hml, hown, hts⟩ (c_Bank_read l G tys qhs shs p1) (cwV 1 hts (gdV gd_gd q_350 q_351 q_352 q_44 q_353) rfl rfl rfl (by decide +kernel) ⟨Nat.le_of_ble_eq_true rfl, Nat.le_of_ble_eq_true rfl⟩) hE hK hP hD hS hA [2] [0, 1] [0, 1, 2] rfl (by decide) rfl (by decide) (by decide) rfl (by decide) rfl rfl rfl hl.1 rfl (Nat.le_of_ble_eq_true rfl) d_Controls_readHost_43 ⟨Nat.zero_le _, Nat.zero_le _⟩ (fun H locs hP hD hS => ?_)
      have hk : k_Controls_readHost sc so shs p1 = (k_Bank_read shs p1) := (by rw [k_Controls_readHost]; rw [if_neg c_201]; rw [if_neg c_202]; try rfl)
      exact ct_ri hx hb hr hlocks hP hD hK hS d_Controls_readHost_46 (by rw [hk]; first | done | rfl) rfl
def k_Controls_read (sc : ob) (so : ob) (shs : ob) (sgs : ob) (sy : ob) (p1 : Int32) : Int32 :=
  if (bI (k_Numbers_isOfS p1)) = 0 then (if (bI (k_Numbers_isOfVs p1)) = 0 then (if p1 = 3073 then ((so.2.1 2).toInt32) else if p1 = 3201 then ((lush (so.2.1 2) 32).toInt32) else (k_Hyper_read sy p1)) else (k_Controls_readGuest sc sgs sy (k_Numbers_kindOf p1))) else (k_Controls_readHost sc so shs (k_Numbers_kindOf p1))
set_option maxHeartbeats 4000000 in
set_option maxRecDepth 100000 in
theorem c_Controls_read (l : Launch) (G : gx) (tys : List (ClassId × FieldType)) (qc qo qhs qgs qy qa : Nat) (sc : ob) (so : ob) (shs : ob) (sgs : ob) (sy : ob) (p1 : Int32) : ct_I l y_Controls_read ws_Controls_read ({ frames := 3, cells := 0, slots := 0, locals := 63 }) G tys [.ref qc, .int p1] [(qc, .inr (1, f_Controls qo qhs qgs qy sc)), (qo, .inr (3, f_Outside qa so)), (qhs, .inr (0, f_Bank shs)), (qgs, .inr (0, f_Bank sgs)), (qy, .inr (2, f_Hyper sy))] (k_Controls_read sc so shs sgs sy p1) [(qc, .inr (1, f_Controls qo qhs qgs qy sc)), (qo, .inr (3, f_Outside qa so)), (qhs, .inr (0, f_Bank shs)), (qgs, .inr (0, f_Bank sgs)), (qy, .inr (2, f_Hyper sy))] := by
  refine ct_hI (cc := cc_Controls_read) (maxL := 2) (ret := (some .int)) (by decide) rfl (Nat.le_of_ble_eq_true rfl) ?_
  intro p e s m below meth c A ls hx hb hr hml hts hown hlocks hP hK hD hA hE hS hl
  have hl : lv_has ls 2 [(0, .ref qc), (1, .int p1)] := hl
  have hown : s.vm.findClass R_Controls = some m.cls := hown
  refine lv_iload_n hx hb d_Controls_read_0 rfl (lv_at hl 1 rfl) ?_
  refine ct_cSi (wr := [(qc, .inr (1, f_Controls qo qhs qgs qy sc)), (qo, .inr (3, f_Outside qa so)), (qhs, .inr (0, f_Bank shs)), (qgs, .inr (0, f_Bank sgs)), (qy, .inr (2, f_Hyper sy))]) (w1 := []) (w2 := [(qc, .inr (1, f_Controls qo qhs qgs qy sc)), (qo, .inr (3, f_Outside qa so)), (qhs, .inr (0, f_Bank shs)), (qgs, .inr (0, f_Bank sgs)), (qy, .inr (2, f_Hyper sy))]) (r := (bI (k_Numbers_isOfS p1))) (As := [.int p1]) (rest := []) ⟨hx, hb, hml, hown, hts⟩ (c_Numbers_isOfS l G tys p1) (va_cwS 1 hts (gdS gd_gd q_295 q_270 q_48 q_271) rfl rfl rfl (by decide +kernel) ⟨Nat.le_of_ble_eq_true rfl, Nat.le_of_ble_eq_true rfl⟩) hE hK hP hD hS hA [] [0, 1, 2, 3, 4] [0, 1, 2, 3, 4] rfl (by decide) rfl (by decide) (by decide) rfl (by decide) rfl hl.1 rfl (Nat.le_of_ble_eq_true rfl) d_Controls_read_1 ⟨Nat.zero_le _, Nat.zero_le _⟩ (fun H locs hP hD hS => ?_)
  refine lv_if_eq (tgt := 16) hx hb d_Controls_read_4 (by decide) (fun c_203 => ?_) (fun c_203 => ?_)
  · refine lv_iload_n hx hb d_Controls_read_16 rfl (lv_at hl 1 rfl) ?_
    refine ct_cSi (wr := [(qc, .inr (1, f_Controls qo qhs qgs qy sc)), (qo, .inr (3, f_Outside qa so)), (qhs, .inr (0, f_Bank shs)), (qgs, .inr (0, f_Bank sgs)), (qy, .inr (2, f_Hyper sy))]) (w1 := []) (w2 := [(qc, .inr (1, f_Controls qo qhs qgs qy sc)), (qo, .inr (3, f_Outside qa so)), (qhs, .inr (0, f_Bank shs)), (qgs, .inr (0, f_Bank sgs)), (qy, .inr (2, f_Hyper sy))]) (r := (bI (k_Numbers_isOfVs p1))) (As := [.int p1]) (rest := []) ⟨hx, hb, hml, hown, hts⟩ (c_Numbers_isOfVs l G tys p1) (va_cwS 1 hts (gdS gd_gd q_307 q_282 q_48 q_283) rfl rfl rfl (by decide +kernel) ⟨Nat.le_of_ble_eq_true rfl, Nat.le_of_ble_eq_true rfl⟩) hE hK hP hD hS hA [] [0, 1, 2, 3, 4] [0, 1, 2, 3, 4] rfl (by decide) rfl (by decide) (by decide) rfl (by decide) rfl hl.1 rfl (Nat.le_of_ble_eq_true rfl) d_Controls_read_17 ⟨Nat.zero_le _, Nat.zero_le _⟩ (fun H locs hP hD hS => ?_)
    refine lv_if_eq (tgt := 32) hx hb d_Controls_read_20 (by decide) (fun c_204 => ?_) (fun c_204 => ?_)
    · refine lv_iload_n hx hb d_Controls_read_32 rfl (lv_at hl 1 rfl) ?_
      by_cases c_205 : p1 = 3073
      · refine lv_lookup (off := 27) (tgt := 60) hx hb d_Controls_read_33 (by decide) (by rw [c_205]; decide) (by decide) ?_
        refine lv_aload_n hx hb d_Controls_read_60 rfl (lv_at hl 0 rfl) ?_
        refine va_get (D := G.1) (ci := 1) (v := .ref qo) (C := R_Controls) (T := T_Controls) (N := 6) hx hb hts (fun w h => gd_sub _ (iw_Controls w h)) hown hK hP 0 rfl rfl 0 (by decide) (hts _ (gd_sub _ q_163)) (fun _ h9 => h9) rfl d_Controls_read_61 ?_
        refine va_get (D := G.1) (ci := 3) (v := .long (so.2.1 2)) (C := R_Outside) (T := T_Outside) (N := 6) hx hb hts (fun w h => gd_sub _ (iw_Outside w h)) hown hK hP 1 rfl rfl 2 (by decide) (hts _ (gd_sub _ q_74)) (fun _ h9 => h9) rfl d_Controls_read_64 ?_
        refine lv_l2i (v := (so.2.1 2).toInt32) hx hb d_Controls_read_67 rfl ?_
        have hk : k_Controls_read sc so shs sgs sy p1 = (so.2.1 2).toInt32 := (by rw [k_Controls_read]; rw [if_pos c_203]; rw [if_pos c_204]; rw [if_pos c_205]; try rfl)
        exact ct_ri hx hb hr hlocks hP hD hK hS d_Controls_read_68 (by rw [hk]; first | done | rfl) rfl
      · by_cases c_206 : p1 = 3201
        · refine lv_lookup (off := 36) (tgt := 69) hx hb d_Controls_read_33 (by decide) (by rw [c_206]; decide) (by decide) ?_
          refine lv_aload_n hx hb d_Controls_read_69 rfl (lv_at hl 0 rfl) ?_
          refine va_get (D := G.1) (ci := 1) (v := .ref qo) (C := R_Controls) (T := T_Controls) (N := 6) hx hb hts (fun w h => gd_sub _ (iw_Controls w h)) hown hK hP 0 rfl rfl 0 (by decide) (hts _ (gd_sub _ q_163)) (fun _ h9 => h9) rfl d_Controls_read_70 ?_
          refine va_get (D := G.1) (ci := 3) (v := .long (so.2.1 2)) (C := R_Outside) (T := T_Outside) (N := 6) hx hb hts (fun w h => gd_sub _ (iw_Outside w h)) hown hK hP 1 rfl rfl 2 (by decide) (hts _ (gd_sub _ q_74)) (fun _ h9 => h9) rfl d_Controls_read_73 ?_
          refine lv_bipush (v := 32) hx hb d_Controls_read_76 (by decide) ?_
          refine lv_lushr (v := (lush (so.2.1 2) 32)) hx hb d_Controls_read_78 rfl ?_
          refine lv_l2i (v := (lush (so.2.1 2) 32).toInt32) hx hb d_Controls_read_79 rfl ?_
          have hk : k_Controls_read sc so shs sgs sy p1 = (lush (so.2.1 2) 32).toInt32 := (by rw [k_Controls_read]; rw [if_pos c_203]; rw [if_pos c_204]; rw [if_neg c_205]; rw [if_pos c_206]; try rfl)
          exact ct_ri hx hb hr hlocks hP hD hK hS d_Controls_read_80 (by rw [hk]; first | done | rfl) rfl
        · refine lv_lookup (off := 48) (tgt := 81) hx hb d_Controls_read_33 (by decide) ((lv_osw c_205 (by decide)).trans ((lv_osw c_206 (by decide)).trans rfl)) (by decide) ?_
          refine lv_aload_n hx hb d_Controls_read_81 rfl (lv_at hl 0 rfl) ?_
          refine va_get (D := G.1) (ci := 1) (v := .ref qy) (C := R_Controls) (T := T_Controls) (N := 6) hx hb hts (fun w h => gd_sub _ (iw_Controls w h)) hown hK hP 0 rfl rfl 3 (by decide) (hts _ (gd_sub _ q_169)) (fun _ h9 => h9) rfl d_Controls_read_82 ?_
          refine lv_iload_n hx hb d_Controls_read_85 rfl (lv_at hl 1 rfl) ?_
          refine ct_cVi (wr := [(qc, .inr (1, f_Controls qo qhs qgs qy sc)), (qo, .inr (3, f_Outside qa so)), (qhs, .inr (0, f_Bank shs)), (qgs, .inr (0, f_Bank sgs))]) (w1 := [(qy, .inr (2, f_Hyper sy))]) (w2 := [(qc, .inr (1, f_Controls qo qhs qgs qy sc)), (qo, .inr (3, f_Outside qa so)), (qhs, .inr (0, f_Bank shs)), (qgs, .inr (0, f_Bank sgs)), (qy, .inr (2, f_Hyper sy))]) (r := (k_Hyper_read sy p1)) (As := [.int p1]) (rest := []) (ci := 2) (q0 := 0) ⟨hx, hb, hml, hown, hts⟩ (c_Hyper_read l G tys qy sy p1) (cwV 1 hts (gdV gd_gd q_366 q_367 q_368 q_45 q_369) rfl rfl rfl (by decide +kernel) ⟨Nat.le_of_ble_eq_true rfl, Nat.le_of_ble_eq_true rfl⟩) hE hK hP hD hS hA [4] [0, 1, 2, 3] [0, 1, 2, 3, 4] rfl (by decide) rfl (by decide) (by decide) rfl (by decide) rfl rfl rfl hl.1 rfl (Nat.le_of_ble_eq_true rfl) d_Controls_read_86 ⟨Nat.zero_le _, Nat.zero_le _⟩ (fun H locs hP hD hS => ?_)
          have hk : k_Controls_read sc so shs sgs sy p1 = (k_Hyper_read sy p1) := (by rw [k_Controls_read]; rw [if_pos c_203]; rw [if_pos c_204]; rw [if_neg c_205]; rw [if_neg c_206]; try rfl)
          exact ct_ri hx hb hr hlocks hP hD hK hS d_Controls_read_89 (by rw [hk]; first | done | rfl) rfl
    · refine lv_aload_n hx hb d_Controls_read_23 rfl (lv_at hl 0 rfl) ?_
      refine lv_iload_n hx hb d_Controls_read_24 rfl (lv_at hl 1 rfl) ?_
      refine ct_cSi (wr := [(qc, .inr (1, f_Controls qo qhs qgs qy sc)), (qo, .inr (3, f_Outside qa so)), (qhs, .inr (0, f_Bank shs)), (qgs, .inr (0, f_Bank sgs)), (qy, .inr (2, f_Hyper sy))]) (w1 := []) (w2 := [(qc, .inr (1, f_Controls qo qhs qgs qy sc)), (qo, .inr (3, f_Outside qa so)), (qhs, .inr (0, f_Bank shs)), (qgs, .inr (0, f_Bank sgs)), (qy, .inr (2, f_Hyper sy))]) (r := (k_Numbers_kindOf p1)) (As := [.int p1]) (rest := [.ref qc]) ⟨hx, hb, hml, hown, hts⟩ (c_Numbers_kindOf l G tys p1) (va_cwS 1 hts (gdS gd_gd q_296 q_276 q_48 q_277) rfl rfl rfl (by decide +kernel) ⟨Nat.le_of_ble_eq_true rfl, Nat.le_of_ble_eq_true rfl⟩) hE hK hP hD hS hA [] [0, 1, 2, 3, 4] [0, 1, 2, 3, 4] rfl (by decide) rfl (by decide) (by decide) rfl (by decide) rfl hl.1 rfl (Nat.le_of_ble_eq_true rfl) d_Controls_read_25 ⟨Nat.zero_le _, Nat.zero_le _⟩ (fun H locs hP hD hS => ?_)
      refine ct_cVi (wr := [(qo, .inr (3, f_Outside qa so)), (qhs, .inr (0, f_Bank shs))]) (w1 := [(qc, .inr (1, f_Controls qo qhs qgs qy sc)), (qgs, .inr (0, f_Bank sgs)), (qy, .inr (2, f_Hyper sy))]) (w2 := [(qc, .inr (1, f_Controls qo qhs qgs qy sc)), (qo, .inr (3, f_Outside qa so)), (qhs, .inr (0, f_Bank shs)), (qgs, .inr (0, f_Bank sgs)), (qy, .inr (2, f_Hyper sy))]) (r := (k_Controls_readGuest sc sgs sy (k_Numbers_kindOf p1))) (As := [.int (k_Numbers_kindOf p1)]) (rest := []) (ci := 1) (q0 := 0) ⟨hx, hb, hml, hown, hts⟩ (c_Controls_readGuest l G tys qc qgs qy qo qhs sc sgs sy (k_Numbers_kindOf p1)) (cwV 1 hts (gdV gd_gd q_354 q_355 q_356 q_42 q_357) rfl rfl rfl (by decide +kernel) ⟨Nat.le_of_ble_eq_true rfl, Nat.le_of_ble_eq_true rfl⟩) hE hK hP hD hS hA [0, 3, 4] [1, 2] [2, 0, 1, 3, 4] rfl (by decide) rfl (by decide) (by decide) rfl (by decide) rfl rfl rfl hl.1 rfl (Nat.le_of_ble_eq_true rfl) d_Controls_read_28 ⟨Nat.zero_le _, Nat.zero_le _⟩ (fun H locs hP hD hS => ?_)
      have hk : k_Controls_read sc so shs sgs sy p1 = (k_Controls_readGuest sc sgs sy (k_Numbers_kindOf p1)) := (by rw [k_Controls_read]; rw [if_pos c_203]; rw [if_neg c_204]; try rfl)
      exact ct_ri hx hb hr hlocks hP hD hK hS d_Controls_read_31 (by rw [hk]; first | done | rfl) rfl
  · refine lv_aload_n hx hb d_Controls_read_7 rfl (lv_at hl 0 rfl) ?_
    refine lv_iload_n hx hb d_Controls_read_8 rfl (lv_at hl 1 rfl) ?_
    refine ct_cSi (wr := [(qc, .inr (1, f_Controls qo qhs qgs qy sc)), (qo, .inr (3, f_Outside qa so)), (qhs, .inr (0, f_Bank shs)), (qgs, .inr (0, f_Bank sgs)), (qy, .inr (2, f_Hyper sy))]) (w1 := []) (w2 := [(qc, .inr (1, f_Controls qo qhs qgs qy sc)), (qo, .inr (3, f_Outside qa so)), (qhs, .inr (0, f_Bank shs)), (qgs, .inr (0, f_Bank sgs)), (qy, .inr (2, f_Hyper sy))]) (r := (k_Numbers_kindOf p1)) (As := [.int p1]) (rest := [.ref qc]) ⟨hx, hb, hml, hown, hts⟩ (c_Numbers_kindOf l G tys p1) (va_cwS 1 hts (gdS gd_gd q_296 q_276 q_48 q_277) rfl rfl rfl (by decide +kernel) ⟨Nat.le_of_ble_eq_true rfl, Nat.le_of_ble_eq_true rfl⟩) hE hK hP hD hS hA [] [0, 1, 2, 3, 4] [0, 1, 2, 3, 4] rfl (by decide) rfl (by decide) (by decide) rfl (by decide) rfl hl.1 rfl (Nat.le_of_ble_eq_true rfl) d_Controls_read_9 ⟨Nat.zero_le _, Nat.zero_le _⟩ (fun H locs hP hD hS => ?_)
    refine ct_cVi (wr := [(qgs, .inr (0, f_Bank sgs)), (qy, .inr (2, f_Hyper sy))]) (w1 := [(qc, .inr (1, f_Controls qo qhs qgs qy sc)), (qo, .inr (3, f_Outside qa so)), (qhs, .inr (0, f_Bank shs))]) (w2 := [(qc, .inr (1, f_Controls qo qhs qgs qy sc)), (qo, .inr (3, f_Outside qa so)), (qhs, .inr (0, f_Bank shs)), (qgs, .inr (0, f_Bank sgs)), (qy, .inr (2, f_Hyper sy))]) (r := (k_Controls_readHost sc so shs (k_Numbers_kindOf p1))) (As := [.int (k_Numbers_kindOf p1)]) (rest := []) (ci := 1) (q0 := 0) ⟨hx, hb, hml, hown, hts⟩ (c_Controls_readHost l G tys qc qo qhs qgs qy qa sc so shs (k_Numbers_kindOf p1)) (cwV 1 hts (gdV gd_gd q_338 q_339 q_340 q_42 q_341) rfl rfl rfl (by decide +kernel) ⟨Nat.le_of_ble_eq_true rfl, Nat.le_of_ble_eq_true rfl⟩) hE hK hP hD hS hA [0, 1, 2] [3, 4] [2, 3, 4, 0, 1] rfl (by decide) rfl (by decide) (by decide) rfl (by decide) rfl rfl rfl hl.1 rfl (Nat.le_of_ble_eq_true rfl) d_Controls_read_12 ⟨Nat.zero_le _, Nat.zero_le _⟩ (fun H locs hP hD hS => ?_)
    have hk : k_Controls_read sc so shs sgs sy p1 = (k_Controls_readHost sc so shs (k_Numbers_kindOf p1)) := (by rw [k_Controls_read]; rw [if_neg c_203]; try rfl)
    exact ct_ri hx hb hr hlocks hP hD hK hS d_Controls_read_15 (by rw [hk]; first | done | rfl) rfl
def k_Desk_get (sx : ob) (sc : ob) (so : ob) (shs : ob) (sgs : ob) (sy : ob) (p1 : Int32) : Int32 :=
  (k_Controls_read sc so shs sgs sy p1)
set_option maxHeartbeats 4000000 in
set_option maxRecDepth 100000 in
theorem c_Desk_get (l : Launch) (G : gx) (tys : List (ClassId × FieldType)) (qx qc qo qhs qgs qy qr qa : Nat) (sx : ob) (sc : ob) (so : ob) (shs : ob) (sgs : ob) (sy : ob) (p1 : Int32) : ct_I l y_Desk_get ws_Desk_get ({ frames := 4, cells := 0, slots := 0, locals := 84 }) G tys [.ref qx, .int p1] [(qx, .inr (5, f_Desk qc qo qr sx)), (qc, .inr (1, f_Controls qo qhs qgs qy sc)), (qo, .inr (3, f_Outside qa so)), (qhs, .inr (0, f_Bank shs)), (qgs, .inr (0, f_Bank sgs)), (qy, .inr (2, f_Hyper sy))] (k_Desk_get sx sc so shs sgs sy p1) [(qx, .inr (5, f_Desk qc qo qr sx)), (qc, .inr (1, f_Controls qo qhs qgs qy sc)), (qo, .inr (3, f_Outside qa so)), (qhs, .inr (0, f_Bank shs)), (qgs, .inr (0, f_Bank sgs)), (qy, .inr (2, f_Hyper sy))] := by
  refine ct_hI (cc := cc_Desk_get) (maxL := 2) (ret := (some .int)) (by decide) rfl (Nat.le_of_ble_eq_true rfl) ?_
  intro p e s m below meth c A ls hx hb hr hml hts hown hlocks hP hK hD hA hE hS hl
  have hl : lv_has ls 2 [(0, .ref qx), (1, .int p1)] := hl
  have hown : s.vm.findClass R_Desk = some m.cls := hown
  refine lv_aload_n hx hb d_Desk_get_0 rfl (lv_at hl 0 rfl) ?_
  refine va_get (D := G.1) (ci := 5) (v := .ref qc) (C := R_Desk) (T := T_Desk) (N := 8) hx hb hts (fun w h => gd_sub _ (iw_Desk w h)) hown hK hP 0 rfl rfl 0 (by decide) (hts _ (gd_sub _ q_205)) (fun _ h9 => h9) rfl d_Desk_get_1 ?_
  refine lv_iload_n hx hb d_Desk_get_4 rfl (lv_at hl 1 rfl) ?_
  refine ct_cVi (wr := [(qx, .inr (5, f_Desk qc qo qr sx))]) (w1 := [(qc, .inr (1, f_Controls qo qhs qgs qy sc)), (qo, .inr (3, f_Outside qa so)), (qhs, .inr (0, f_Bank shs)), (qgs, .inr (0, f_Bank sgs)), (qy, .inr (2, f_Hyper sy))]) (w2 := [(qx, .inr (5, f_Desk qc qo qr sx)), (qc, .inr (1, f_Controls qo qhs qgs qy sc)), (qo, .inr (3, f_Outside qa so)), (qhs, .inr (0, f_Bank shs)), (qgs, .inr (0, f_Bank sgs)), (qy, .inr (2, f_Hyper sy))]) (r := (k_Controls_read sc so shs sgs sy p1)) (As := [.int p1]) (rest := []) (ci := 1) (q0 := 0) ⟨hx, hb, hml, hown, hts⟩ (c_Controls_read l G tys qc qo qhs qgs qy qa sc so shs sgs sy p1) (cwV 1 hts (gdV gd_gd q_334 q_335 q_336 q_42 q_337) rfl rfl rfl (by decide +kernel) ⟨Nat.le_of_ble_eq_true rfl, Nat.le_of_ble_eq_true rfl⟩) hE hK hP hD hS hA [1, 2, 3, 4, 5] [0] [0, 1, 2, 3, 4, 5] rfl (by decide) rfl (by decide) (by decide) rfl (by decide) rfl rfl rfl hl.1 rfl (Nat.le_of_ble_eq_true rfl) d_Desk_get_5 ⟨Nat.zero_le _, Nat.zero_le _⟩ (fun H locs hP hD hS => ?_)
  have hk : k_Desk_get sx sc so shs sgs sy p1 = (k_Controls_read sc so shs sgs sy p1) := (by rw [k_Desk_get]; try rfl)
  exact ct_ri hx hb hr hlocks hP hD hK hS d_Desk_get_8 (by rw [hk]; first | done | rfl) rfl
def k_Desk_time (sx : ob) (so : ob) (p1 : Int64) : Int64 × ob :=
  if 0 ≤ (lg_cmp p1 0) then ((so.2.1 2), (ol so 2 p1)) else ((-1), so)
set_option maxHeartbeats 4000000 in
set_option maxRecDepth 100000 in
theorem c_Desk_time (l : Launch) (G : gx) (tys : List (ClassId × FieldType)) (qx qo qc qr qa : Nat) (sx : ob) (so : ob) (p1 : Int64) : ct_L l y_Desk_time ws_Desk_time ({ frames := 0, cells := 0, slots := 0, locals := 0 }) G tys [.ref qx, .long p1] [(qx, .inr (5, f_Desk qc qo qr sx)), (qo, .inr (3, f_Outside qa so))] ((k_Desk_time sx so p1).1) [(qx, .inr (5, f_Desk qc qo qr sx)), (qo, .inr (3, f_Outside qa ((k_Desk_time sx so p1).2)))] := by
  refine ct_hL (cc := cc_Desk_time) (maxL := 5) (ret := (some .long)) (by decide) rfl (Nat.le_of_ble_eq_true rfl) ?_
  intro p e s m below meth c A ls hx hb hr hml hts hown hlocks hP hK hD hA hE hS hl
  have hl : lv_has ls 5 [(0, .ref qx), (1, .long p1)] := hl
  have hown : s.vm.findClass R_Desk = some m.cls := hown
  refine lv_lload_n hx hb d_Desk_time_0 rfl (lv_at hl 1 rfl) ?_
  refine lv_lconst (v := 0) hx hb d_Desk_time_1 (by decide) ?_
  refine W.lcmp hx hb d_Desk_time_2 ?_
  refine lv_if_ge (tgt := 10) hx hb d_Desk_time_3 (by decide) (fun c_208 => ?_) (fun c_208 => ?_)
  · refine lv_aload_n hx hb d_Desk_time_10 rfl (lv_at hl 0 rfl) ?_
    refine va_get (D := G.1) (ci := 5) (v := .ref qo) (C := R_Desk) (T := T_Desk) (N := 8) hx hb hts (fun w h => gd_sub _ (iw_Desk w h)) hown hK hP 0 rfl rfl 1 (by decide) (hts _ (gd_sub _ q_206)) (fun _ h9 => h9) rfl d_Desk_time_11 ?_
    refine va_get (D := G.1) (ci := 3) (v := .long (so.2.1 2)) (C := R_Outside) (T := T_Outside) (N := 6) hx hb hts (fun w h => gd_sub _ (iw_Outside w h)) hown hK hP 1 rfl rfl 2 (by decide) (hts _ (gd_sub _ q_75)) (fun _ h9 => h9) rfl d_Desk_time_14 ?_
    refine lv_lstore_n (lv' := [(3, .long (so.2.1 2)), (0, .ref qx), (1, .long p1)]) hx hb d_Desk_time_17 rfl hl (by decide) rfl (fun ls hl => ?_)
    refine lv_aload_n hx hb d_Desk_time_18 rfl (lv_at hl 1 rfl) ?_
    refine va_get (D := G.1) (ci := 5) (v := .ref qo) (C := R_Desk) (T := T_Desk) (N := 8) hx hb hts (fun w h => gd_sub _ (iw_Desk w h)) hown hK hP 0 rfl rfl 1 (by decide) (hts _ (gd_sub _ q_206)) (fun _ h9 => h9) rfl d_Desk_time_19 ?_
    refine lv_lload_n hx hb d_Desk_time_22 rfl (lv_at hl 2 rfl) ?_
    refine va_put (D := G.1) (ci := 3) (v := .long p1) (ty := .long) (C := R_Outside) (T := T_Outside) (N := 6) hx hb hts (fun w h => gd_sub _ (iw_Outside w h)) ty_Outside tyok_Outside nm_Outside hown hK hP hD hS 1 rfl rfl 2 (by decide) (hts _ (gd_sub _ q_75)) (fun _ h9 => h9) rfl (by decide +kernel) rfl rfl (Nat.le_of_ble_eq_true rfl) d_Desk_time_23 (fun H locs hP hD hS => ?_)
    have hP : va_P G.1 vwCl [(qx, .inr (5, f_Desk qc qo qr sx)), (qo, .inr (3, f_Outside qa (ol so 2 p1)))] H := hP
    have hD : va_D A [(qx, .inr (5, f_Desk qc qo qr sx)), (qo, .inr (3, f_Outside qa (ol so 2 p1)))] := hD
    refine lv_lload_n hx hb d_Desk_time_26 rfl (lv_at hl 0 rfl) ?_
    have hk : k_Desk_time sx so p1 = ((so.2.1 2), (ol so 2 p1)) := (by rw [k_Desk_time]; rw [if_pos c_208]; try rfl)
    exact ct_rl hx hb hr hlocks hP hD hK hS d_Desk_time_27 (by rw [hk]; first | done | rfl) (by rw [hk]; first | done | rfl)
  · refine lv_ldc2 (v := (-1)) hx hb hown (hts _ (gd_sub _ q_374)) d_Desk_time_6 ?_
    have hk : k_Desk_time sx so p1 = ((-1), so) := (by rw [k_Desk_time]; rw [if_neg c_208]; try rfl)
    exact ct_rl hx hb hr hlocks hP hD hK hS d_Desk_time_9 (by rw [hk]; first | done | rfl) (by rw [hk]; first | done | rfl)
def k_Desk_line (sx : ob) (so : ob) (p1 : Bool) : Bool × ob :=
  ((so.2.2 4), (oz so 4 p1))
set_option maxHeartbeats 4000000 in
set_option maxRecDepth 100000 in
theorem c_Desk_line (l : Launch) (G : gx) (tys : List (ClassId × FieldType)) (qx qo qc qr qa : Nat) (sx : ob) (so : ob) (p1 : Bool) : ct_I l y_Desk_line ws_Desk_line ({ frames := 0, cells := 0, slots := 0, locals := 0 }) G tys [.ref qx, .int (bI p1)] [(qx, .inr (5, f_Desk qc qo qr sx)), (qo, .inr (3, f_Outside qa so))] (bI ((k_Desk_line sx so p1).1)) [(qx, .inr (5, f_Desk qc qo qr sx)), (qo, .inr (3, f_Outside qa ((k_Desk_line sx so p1).2)))] := by
  refine ct_hI (cc := cc_Desk_line) (maxL := 3) (ret := (some .boolean)) (by decide) rfl (Nat.le_of_ble_eq_true rfl) ?_
  intro p e s m below meth c A ls hx hb hr hml hts hown hlocks hP hK hD hA hE hS hl
  have hl : lv_has ls 3 [(0, .ref qx), (1, .int (bI p1))] := hl
  have hown : s.vm.findClass R_Desk = some m.cls := hown
  refine lv_aload_n hx hb d_Desk_line_0 rfl (lv_at hl 0 rfl) ?_
  refine va_get (D := G.1) (ci := 5) (v := .ref qo) (C := R_Desk) (T := T_Desk) (N := 8) hx hb hts (fun w h => gd_sub _ (iw_Desk w h)) hown hK hP 0 rfl rfl 1 (by decide) (hts _ (gd_sub _ q_206)) (fun _ h9 => h9) rfl d_Desk_line_1 ?_
  refine va_get (D := G.1) (ci := 3) (v := .int (bI (so.2.2 4))) (C := R_Outside) (T := T_Outside) (N := 6) hx hb hts (fun w h => gd_sub _ (iw_Outside w h)) hown hK hP 1 rfl rfl 4 (by decide) (hts _ (gd_sub _ q_79)) (fun _ h9 => h9) rfl d_Desk_line_4 ?_
  refine lv_istore_n (lv' := [(2, .int (bI (so.2.2 4))), (0, .ref qx), (1, .int (bI p1))]) hx hb d_Desk_line_7 rfl hl (by decide) rfl (fun ls hl => ?_)
  refine lv_aload_n hx hb d_Desk_line_8 rfl (lv_at hl 1 rfl) ?_
  refine va_get (D := G.1) (ci := 5) (v := .ref qo) (C := R_Desk) (T := T_Desk) (N := 8) hx hb hts (fun w h => gd_sub _ (iw_Desk w h)) hown hK hP 0 rfl rfl 1 (by decide) (hts _ (gd_sub _ q_206)) (fun _ h9 => h9) rfl d_Desk_line_9 ?_
  refine lv_iload_n hx hb d_Desk_line_12 rfl (lv_at hl 2 rfl) ?_
  refine va_put (D := G.1) (ci := 3) (v := .int (bI p1)) (ty := .boolean) (C := R_Outside) (T := T_Outside) (N := 6) hx hb hts (fun w h => gd_sub _ (iw_Outside w h)) ty_Outside tyok_Outside nm_Outside hown hK hP hD hS 1 rfl rfl 4 (by decide) (hts _ (gd_sub _ q_79)) (fun _ h9 => h9) rfl (by decide +kernel) (bI_n _) (bI_f _) (Nat.le_of_ble_eq_true rfl) d_Desk_line_13 (fun H locs hP hD hS => ?_)
  have hP : va_P G.1 vwCl [(qx, .inr (5, f_Desk qc qo qr sx)), (qo, .inr (3, f_Outside qa (oz so 4 p1)))] H := hP
  have hD : va_D A [(qx, .inr (5, f_Desk qc qo qr sx)), (qo, .inr (3, f_Outside qa (oz so 4 p1)))] := hD
  refine lv_iload_n hx hb d_Desk_line_16 rfl (lv_at hl 0 rfl) ?_
  have hk : k_Desk_line sx so p1 = ((so.2.2 4), (oz so 4 p1)) := (by rw [k_Desk_line]; try rfl)
  exact ct_rz hx hb hr hlocks hP hD hK hS d_Desk_line_17 (bI_n _) (by rw [hk]; first | done | rfl) (by rw [hk]; first | done | rfl)
def k_Registers_read (sr : ob) (p1 : Int32) : Int32 :=
  if p1 = 10 then (sr.1 0) else if p1 = 11 then (sr.1 1) else if p1 = 17 then (sr.1 2) else 0
set_option maxHeartbeats 4000000 in
set_option maxRecDepth 100000 in
theorem c_Registers_read (l : Launch) (G : gx) (tys : List (ClassId × FieldType)) (qr : Nat) (sr : ob) (p1 : Int32) : ct_I l y_Registers_read ws_Registers_read ({ frames := 0, cells := 0, slots := 0, locals := 0 }) G tys [.ref qr, .int p1] [(qr, .inr (4, f_Registers sr))] (k_Registers_read sr p1) [(qr, .inr (4, f_Registers sr))] := by
  refine ct_hI (cc := cc_Registers_read) (maxL := 2) (ret := (some .int)) (by decide) rfl (Nat.le_of_ble_eq_true rfl) ?_
  intro p e s m below meth c A ls hx hb hr hml hts hown hlocks hP hK hD hA hE hS hl
  have hl : lv_has ls 2 [(0, .ref qr), (1, .int p1)] := hl
  have hown : s.vm.findClass R_Registers = some m.cls := hown
  refine lv_iload_n hx hb d_Registers_read_0 rfl (lv_at hl 1 rfl) ?_
  by_cases c_212 : p1 = 10
  · refine lv_lookup (off := 35) (tgt := 36) hx hb d_Registers_read_1 (by decide) (by rw [c_212]; decide) (by decide) ?_
    refine lv_aload_n hx hb d_Registers_read_36 rfl (lv_at hl 0 rfl) ?_
    refine va_get (D := G.1) (ci := 4) (v := .int (sr.1 0)) (C := R_Registers) (T := T_Registers) (N := 3) hx hb hts (fun w h => gd_sub _ (iw_Registers w h)) hown hK hP 0 rfl rfl 0 (by decide) (hts _ (gd_sub _ q_192)) (fun _ h9 => h9) rfl d_Registers_read_37 ?_
    have hk : k_Registers_read sr p1 = (sr.1 0) := (by rw [k_Registers_read]; rw [if_pos c_212]; try rfl)
    exact ct_ri hx hb hr hlocks hP hD hK hS d_Registers_read_40 (by rw [hk]; first | done | rfl) rfl
  · by_cases c_213 : p1 = 11
    · refine lv_lookup (off := 40) (tgt := 41) hx hb d_Registers_read_1 (by decide) (by rw [c_213]; decide) (by decide) ?_
      refine lv_aload_n hx hb d_Registers_read_41 rfl (lv_at hl 0 rfl) ?_
      refine va_get (D := G.1) (ci := 4) (v := .int (sr.1 1)) (C := R_Registers) (T := T_Registers) (N := 3) hx hb hts (fun w h => gd_sub _ (iw_Registers w h)) hown hK hP 0 rfl rfl 1 (by decide) (hts _ (gd_sub _ q_194)) (fun _ h9 => h9) rfl d_Registers_read_42 ?_
      have hk : k_Registers_read sr p1 = (sr.1 1) := (by rw [k_Registers_read]; rw [if_neg c_212]; rw [if_pos c_213]; try rfl)
      exact ct_ri hx hb hr hlocks hP hD hK hS d_Registers_read_45 (by rw [hk]; first | done | rfl) rfl
    · by_cases c_214 : p1 = 17
      · refine lv_lookup (off := 45) (tgt := 46) hx hb d_Registers_read_1 (by decide) (by rw [c_214]; decide) (by decide) ?_
        refine lv_aload_n hx hb d_Registers_read_46 rfl (lv_at hl 0 rfl) ?_
        refine va_get (D := G.1) (ci := 4) (v := .int (sr.1 2)) (C := R_Registers) (T := T_Registers) (N := 3) hx hb hts (fun w h => gd_sub _ (iw_Registers w h)) hown hK hP 0 rfl rfl 2 (by decide) (hts _ (gd_sub _ q_196)) (fun _ h9 => h9) rfl d_Registers_read_47 ?_
        have hk : k_Registers_read sr p1 = (sr.1 2) := (by rw [k_Registers_read]; rw [if_neg c_212]; rw [if_neg c_213]; rw [if_pos c_214]; try rfl)
        exact ct_ri hx hb hr hlocks hP hD hK hS d_Registers_read_50 (by rw [hk]; first | done | rfl) rfl
      · refine lv_lookup (off := 50) (tgt := 51) hx hb d_Registers_read_1 (by decide) ((lv_osw c_212 (by decide)).trans ((lv_osw c_213 (by decide)).trans ((lv_osw c_214 (by decide)).trans rfl))) (by decide) ?_
        refine lv_iconst (v := 0) hx hb d_Registers_read_51 (by decide) ?_
        have hk : k_Registers_read sr p1 = 0 := (by rw [k_Registers_read]; rw [if_neg c_212]; rw [if_neg c_213]; rw [if_neg c_214]; try rfl)
        exact ct_ri hx hb hr hlocks hP hD hK hS d_Registers_read_52 (by rw [hk]; first | done | rfl) rfl
def k_Registers_write (sr : ob) (p1 : Int32) (p2 : Int32) : ob :=
  if p1 = 10 then (oi sr 0 p2) else if p1 = 11 then (oi sr 1 p2) else if p1 = 17 then (oi sr 2 p2) else sr
set_option maxHeartbeats 4000000 in
set_option maxRecDepth 100000 in
theorem c_Registers_write (l : Launch) (G : gx) (tys : List (ClassId × FieldType)) (qr : Nat) (sr : ob) (p1 : Int32) (p2 : Int32) : ct_V l y_Registers_write ws_Registers_write ({ frames := 0, cells := 0, slots := 0, locals := 0 }) G tys [.ref qr, .int p1, .int p2] [(qr, .inr (4, f_Registers sr))] [(qr, .inr (4, f_Registers (k_Registers_write sr p1 p2)))] := by
  refine ct_hV (cc := cc_Registers_write) (maxL := 3) (ret := none) (by decide) rfl (Nat.le_of_ble_eq_true rfl) ?_
  intro p e s m below meth c A ls hx hb hr hml hts hown hlocks hP hK hD hA hE hS hl
  have hl : lv_has ls 3 [(0, .ref qr), (1, .int p1), (2, .int p2)] := hl
  have hown : s.vm.findClass R_Registers = some m.cls := hown
  refine lv_iload_n hx hb d_Registers_write_0 rfl (lv_at hl 1 rfl) ?_
  by_cases c_218 : p1 = 10
  · refine lv_lookup (off := 35) (tgt := 36) hx hb d_Registers_write_1 (by decide) (by rw [c_218]; decide) (by decide) ?_
    refine lv_aload_n hx hb d_Registers_write_36 rfl (lv_at hl 0 rfl) ?_
    refine lv_iload_n hx hb d_Registers_write_37 rfl (lv_at hl 2 rfl) ?_
    refine va_put (D := G.1) (ci := 4) (v := .int p2) (ty := .int) (C := R_Registers) (T := T_Registers) (N := 3) hx hb hts (fun w h => gd_sub _ (iw_Registers w h)) ty_Registers tyok_Registers nm_Registers hown hK hP hD hS 0 rfl rfl 0 (by decide) (hts _ (gd_sub _ q_192)) (fun _ h9 => h9) rfl (by decide +kernel) rfl rfl (Nat.le_of_ble_eq_true rfl) d_Registers_write_38 (fun H locs hP hD hS => ?_)
    have hP : va_P G.1 vwCl [(qr, .inr (4, f_Registers (oi sr 0 p2)))] H := hP
    have hD : va_D A [(qr, .inr (4, f_Registers (oi sr 0 p2)))] := hD
    refine lv_goto (tgt := 60) hx hb d_Registers_write_41 (by decide) ?_
    have hk : k_Registers_write sr p1 p2 = (oi sr 0 p2) := (by rw [k_Registers_write]; rw [if_pos c_218]; try rfl)
    exact ct_rv hx hb hr hlocks hP hD hK hS d_Registers_write_60 (by rw [hk]; first | done | rfl)
  · by_cases c_219 : p1 = 11
    · refine lv_lookup (off := 43) (tgt := 44) hx hb d_Registers_write_1 (by decide) (by rw [c_219]; decide) (by decide) ?_
      refine lv_aload_n hx hb d_Registers_write_44 rfl (lv_at hl 0 rfl) ?_
      refine lv_iload_n hx hb d_Registers_write_45 rfl (lv_at hl 2 rfl) ?_
      refine va_put (D := G.1) (ci := 4) (v := .int p2) (ty := .int) (C := R_Registers) (T := T_Registers) (N := 3) hx hb hts (fun w h => gd_sub _ (iw_Registers w h)) ty_Registers tyok_Registers nm_Registers hown hK hP hD hS 0 rfl rfl 1 (by decide) (hts _ (gd_sub _ q_194)) (fun _ h9 => h9) rfl (by decide +kernel) rfl rfl (Nat.le_of_ble_eq_true rfl) d_Registers_write_46 (fun H locs hP hD hS => ?_)
      have hP : va_P G.1 vwCl [(qr, .inr (4, f_Registers (oi sr 1 p2)))] H := hP
      have hD : va_D A [(qr, .inr (4, f_Registers (oi sr 1 p2)))] := hD
      refine lv_goto (tgt := 60) hx hb d_Registers_write_49 (by decide) ?_
      have hk : k_Registers_write sr p1 p2 = (oi sr 1 p2) := (by rw [k_Registers_write]; rw [if_neg c_218]; rw [if_pos c_219]; try rfl)
      exact ct_rv hx hb hr hlocks hP hD hK hS d_Registers_write_60 (by rw [hk]; first | done | rfl)
    · by_cases c_220 : p1 = 17
      · refine lv_lookup (off := 51) (tgt := 52) hx hb d_Registers_write_1 (by decide) (by rw [c_220]; decide) (by decide) ?_
        refine lv_aload_n hx hb d_Registers_write_52 rfl (lv_at hl 0 rfl) ?_
        refine lv_iload_n hx hb d_Registers_write_53 rfl (lv_at hl 2 rfl) ?_
        refine va_put (D := G.1) (ci := 4) (v := .int p2) (ty := .int) (C := R_Registers) (T := T_Registers) (N := 3) hx hb hts (fun w h => gd_sub _ (iw_Registers w h)) ty_Registers tyok_Registers nm_Registers hown hK hP hD hS 0 rfl rfl 2 (by decide) (hts _ (gd_sub _ q_196)) (fun _ h9 => h9) rfl (by decide +kernel) rfl rfl (Nat.le_of_ble_eq_true rfl) d_Registers_write_54 (fun H locs hP hD hS => ?_)
        have hP : va_P G.1 vwCl [(qr, .inr (4, f_Registers (oi sr 2 p2)))] H := hP
        have hD : va_D A [(qr, .inr (4, f_Registers (oi sr 2 p2)))] := hD
        refine lv_goto (tgt := 60) hx hb d_Registers_write_57 (by decide) ?_
        have hk : k_Registers_write sr p1 p2 = (oi sr 2 p2) := (by rw [k_Registers_write]; rw [if_neg c_218]; rw [if_neg c_219]; rw [if_pos c_220]; try rfl)
        exact ct_rv hx hb hr hlocks hP hD hK hS d_Registers_write_60 (by rw [hk]; first | done | rfl)
      · refine lv_lookup (off := 59) (tgt := 60) hx hb d_Registers_write_1 (by decide) ((lv_osw c_218 (by decide)).trans ((lv_osw c_219 (by decide)).trans ((lv_osw c_220 (by decide)).trans rfl))) (by decide) ?_
        have hk : k_Registers_write sr p1 p2 = sr := (by rw [k_Registers_write]; rw [if_neg c_218]; rw [if_neg c_219]; rw [if_neg c_220]; try rfl)
        exact ct_rv hx hb hr hlocks hP hD hK hS d_Registers_write_60 (by rw [hk]; first | done | rfl)
end
section
def k_Desk_set (sx : ob) (sr : ob) (p1 : Int32) (p2 : Int32) : Int32 × ob :=
  ((k_Registers_read sr p1), ((k_Registers_write sr p1 p2)))
set_option maxHeartbeats 4000000 in
set_option maxRecDepth 100000 in
theorem c_Desk_set (l : Launch) (G : gx) (tys : List (ClassId × FieldType)) (qx qr qc qo : Nat) (sx : ob) (sr : ob) (p1 : Int32) (p2 : Int32) : ct_I l y_Desk_set ws_Desk_set ({ frames := 1, cells := 0, slots := 0, locals := 22 }) G tys [.ref qx, .int p1, .int p2] [(qx, .inr (5, f_Desk qc qo qr sx)), (qr, .inr (4, f_Registers sr))] ((k_Desk_set sx sr p1 p2).1) [(qx, .inr (5, f_Desk qc qo qr sx)), (qr, .inr (4, f_Registers ((k_Desk_set sx sr p1 p2).2)))] := by
  refine ct_hI (cc := cc_Desk_set) (maxL := 4) (ret := (some .int)) (by decide) rfl (Nat.le_of_ble_eq_true rfl) ?_
  intro p e s m below meth c A ls hx hb hr hml hts hown hlocks hP hK hD hA hE hS hl
  have hl : lv_has ls 4 [(0, .ref qx), (1, .int p1), (2, .int p2)] := hl
  have hown : s.vm.findClass R_Desk = some m.cls := hown
  refine lv_aload_n hx hb d_Desk_set_0 rfl (lv_at hl 0 rfl) ?_
  refine va_get (D := G.1) (ci := 5) (v := .ref qr) (C := R_Desk) (T := T_Desk) (N := 8) hx hb hts (fun w h => gd_sub _ (iw_Desk w h)) hown hK hP 0 rfl rfl 2 (by decide) (hts _ (gd_sub _ q_207)) (fun _ h9 => h9) rfl d_Desk_set_1 ?_
  refine lv_iload_n hx hb d_Desk_set_4 rfl (lv_at hl 1 rfl) ?_
  refine ct_cVi (wr := [(qx, .inr (5, f_Desk qc qo qr sx))]) (w1 := [(qr, .inr (4, f_Registers sr))]) (w2 := [(qx, .inr (5, f_Desk qc qo qr sx)), (qr, .inr (4, f_Registers sr))]) (r := (k_Registers_read sr p1)) (As := [.int p1]) (rest := []) (ci := 4) (q0 := 0) ⟨hx, hb, hml, hown, hts⟩ (c_Registers_read l G tys qr sr p1) (cwV 1 hts (gdV gd_gd q_383 q_384 q_385 q_46 q_386) rfl rfl rfl (by decide +kernel) ⟨Nat.le_of_ble_eq_true rfl, Nat.le_of_ble_eq_true rfl⟩) hE hK hP hD hS hA [1] [0] [0, 1] rfl (by decide) rfl (by decide) (by decide) rfl (by decide) rfl rfl rfl hl.1 rfl (Nat.le_of_ble_eq_true rfl) d_Desk_set_5 ⟨Nat.zero_le _, Nat.zero_le _⟩ (fun H locs hP hD hS => ?_)
  refine lv_istore_n (lv' := [(3, .int (k_Registers_read sr p1)), (0, .ref qx), (1, .int p1), (2, .int p2)]) hx hb d_Desk_set_8 rfl hl (by decide) rfl (fun ls hl => ?_)
  refine lv_aload_n hx hb d_Desk_set_9 rfl (lv_at hl 1 rfl) ?_
  refine va_get (D := G.1) (ci := 5) (v := .ref qr) (C := R_Desk) (T := T_Desk) (N := 8) hx hb hts (fun w h => gd_sub _ (iw_Desk w h)) hown hK hP 0 rfl rfl 2 (by decide) (hts _ (gd_sub _ q_207)) (fun _ h9 => h9) rfl d_Desk_set_10 ?_
  refine lv_iload_n hx hb d_Desk_set_13 rfl (lv_at hl 2 rfl) ?_
  refine lv_iload_n hx hb d_Desk_set_14 rfl (lv_at hl 3 rfl) ?_
  obtain ⟨sr_222, esr_222⟩ : ∃ z, z = (k_Registers_write sr p1 p2) := ⟨_, rfl⟩
  have hM := c_Registers_write l G tys qr sr p1 p2
  rw [← esr_222] at hM
  refine ct_cVv (wr := [(qx, .inr (5, f_Desk qc qo qr sx))]) (w1 := [(qr, .inr (4, f_Registers sr_222))]) (w2 := [(qx, .inr (5, f_Desk qc qo qr sx)), (qr, .inr (4, f_Registers sr_222))]) (As := [.int p1, .int p2]) (rest := []) (ci := 4) (q0 := 0) ⟨hx, hb, hml, hown, hts⟩ hM (cwV 2 hts (gdV gd_gd q_387 q_388 q_389 q_46 q_390) rfl rfl rfl (by decide +kernel) ⟨Nat.le_of_ble_eq_true rfl, Nat.le_of_ble_eq_true rfl⟩) hE hK hP hD hS hA [1] [0] [0, 1] rfl (by decide) rfl (by decide) (by decide) rfl (by decide) rfl rfl rfl hl.1 rfl (Nat.le_of_ble_eq_true rfl) d_Desk_set_15 ⟨Nat.zero_le _, Nat.zero_le _⟩ (fun H locs hP hD hS => ?_)
  refine lv_iload_n hx hb d_Desk_set_18 rfl (lv_at hl 0 rfl) ?_
  have hk : k_Desk_set sx sr p1 p2 = ((k_Registers_read sr p1), sr_222) := (by rw [k_Desk_set]; try rw [← esr_222]; try rfl)
  exact ct_ri hx hb hr hlocks hP hD hK hS d_Desk_set_19 (by rw [hk]; first | done | rfl) (by rw [hk]; first | done | rfl)
def k_Desk_register (sx : ob) (sr : ob) (p1 : Int32) : Int32 :=
  (k_Registers_read sr p1)
set_option maxHeartbeats 4000000 in
set_option maxRecDepth 100000 in
theorem c_Desk_register (l : Launch) (G : gx) (tys : List (ClassId × FieldType)) (qx qr qc qo : Nat) (sx : ob) (sr : ob) (p1 : Int32) : ct_I l y_Desk_register ws_Desk_register ({ frames := 1, cells := 0, slots := 0, locals := 21 }) G tys [.ref qx, .int p1] [(qx, .inr (5, f_Desk qc qo qr sx)), (qr, .inr (4, f_Registers sr))] (k_Desk_register sx sr p1) [(qx, .inr (5, f_Desk qc qo qr sx)), (qr, .inr (4, f_Registers sr))] := by
  refine ct_hI (cc := cc_Desk_register) (maxL := 2) (ret := (some .int)) (by decide) rfl (Nat.le_of_ble_eq_true rfl) ?_
  intro p e s m below meth c A ls hx hb hr hml hts hown hlocks hP hK hD hA hE hS hl
  have hl : lv_has ls 2 [(0, .ref qx), (1, .int p1)] := hl
  have hown : s.vm.findClass R_Desk = some m.cls := hown
  refine lv_aload_n hx hb d_Desk_register_0 rfl (lv_at hl 0 rfl) ?_
  refine va_get (D := G.1) (ci := 5) (v := .ref qr) (C := R_Desk) (T := T_Desk) (N := 8) hx hb hts (fun w h => gd_sub _ (iw_Desk w h)) hown hK hP 0 rfl rfl 2 (by decide) (hts _ (gd_sub _ q_207)) (fun _ h9 => h9) rfl d_Desk_register_1 ?_
  refine lv_iload_n hx hb d_Desk_register_4 rfl (lv_at hl 1 rfl) ?_
  refine ct_cVi (wr := [(qx, .inr (5, f_Desk qc qo qr sx))]) (w1 := [(qr, .inr (4, f_Registers sr))]) (w2 := [(qx, .inr (5, f_Desk qc qo qr sx)), (qr, .inr (4, f_Registers sr))]) (r := (k_Registers_read sr p1)) (As := [.int p1]) (rest := []) (ci := 4) (q0 := 0) ⟨hx, hb, hml, hown, hts⟩ (c_Registers_read l G tys qr sr p1) (cwV 1 hts (gdV gd_gd q_383 q_384 q_385 q_46 q_386) rfl rfl rfl (by decide +kernel) ⟨Nat.le_of_ble_eq_true rfl, Nat.le_of_ble_eq_true rfl⟩) hE hK hP hD hS hA [1] [0] [0, 1] rfl (by decide) rfl (by decide) (by decide) rfl (by decide) rfl rfl rfl hl.1 rfl (Nat.le_of_ble_eq_true rfl) d_Desk_register_5 ⟨Nat.zero_le _, Nat.zero_le _⟩ (fun H locs hP hD hS => ?_)
  have hk : k_Desk_register sx sr p1 = (k_Registers_read sr p1) := (by rw [k_Desk_register]; try rfl)
  exact ct_ri hx hb hr hlocks hP hD hK hS d_Desk_register_8 (by rw [hk]; first | done | rfl) rfl
def k_Desk_fieldA (p1 : Int32) : Int32 :=
  ((ush p1 15) &&& 31)
set_option maxHeartbeats 4000000 in
set_option maxRecDepth 100000 in
theorem c_Desk_fieldA (l : Launch) (G : gx) (tys : List (ClassId × FieldType)) (p1 : Int32) : ct_I l y_Desk_fieldA ws_Desk_fieldA ({ frames := 0, cells := 0, slots := 0, locals := 0 }) G tys [.int p1] [] (k_Desk_fieldA p1) [] := by
  refine ct_hI (cc := cc_Desk_fieldA) (maxL := 1) (ret := (some .int)) (by decide) rfl (Nat.le_of_ble_eq_true rfl) ?_
  intro p e s m below meth c A ls hx hb hr hml hts hown hlocks hP hK hD hA hE hS hl
  have hl : lv_has ls 1 [(0, .int p1)] := hl
  have hown : s.vm.findClass R_Desk = some m.cls := hown
  refine lv_iload_n hx hb d_Desk_fieldA_0 rfl (lv_at hl 0 rfl) ?_
  refine lv_bipush (v := 15) hx hb d_Desk_fieldA_1 (by decide) ?_
  refine lv_iushr (v := (ush p1 15)) hx hb d_Desk_fieldA_3 rfl ?_
  refine lv_bipush (v := 31) hx hb d_Desk_fieldA_4 (by decide) ?_
  refine lv_iand hx hb d_Desk_fieldA_6 ?_
  have hk : k_Desk_fieldA p1 = ((ush p1 15) &&& 31) := (by rw [k_Desk_fieldA]; try rfl)
  exact ct_ri hx hb hr hlocks hP hD hK hS d_Desk_fieldA_7 (by rw [hk]; first | done | rfl) rfl
def k_Hyper_hasStatus (sy : ob) (p1 : Int32) : Bool :=
  if ((sy.1 0) &&& p1) = 0 then false else true
set_option maxHeartbeats 4000000 in
set_option maxRecDepth 100000 in
theorem c_Hyper_hasStatus (l : Launch) (G : gx) (tys : List (ClassId × FieldType)) (qy : Nat) (sy : ob) (p1 : Int32) : ct_I l y_Hyper_hasStatus ws_Hyper_hasStatus ({ frames := 0, cells := 0, slots := 0, locals := 0 }) G tys [.ref qy, .int p1] [(qy, .inr (2, f_Hyper sy))] (bI (k_Hyper_hasStatus sy p1)) [(qy, .inr (2, f_Hyper sy))] := by
  refine ct_hI (cc := cc_Hyper_hasStatus) (maxL := 2) (ret := (some .boolean)) (by decide) rfl (Nat.le_of_ble_eq_true rfl) ?_
  intro p e s m below meth c A ls hx hb hr hml hts hown hlocks hP hK hD hA hE hS hl
  have hl : lv_has ls 2 [(0, .ref qy), (1, .int p1)] := hl
  have hown : s.vm.findClass R_Hyper = some m.cls := hown
  refine lv_aload_n hx hb d_Hyper_hasStatus_0 rfl (lv_at hl 0 rfl) ?_
  refine va_get (D := G.1) (ci := 2) (v := .int (sy.1 0)) (C := R_Hyper) (T := T_Hyper) (N := 8) hx hb hts (fun w h => gd_sub _ (iw_Hyper w h)) hown hK hP 0 rfl rfl 0 (by decide) (hts _ (gd_sub _ q_132)) (fun _ h9 => h9) rfl d_Hyper_hasStatus_1 ?_
  refine lv_iload_n hx hb d_Hyper_hasStatus_4 rfl (lv_at hl 1 rfl) ?_
  refine lv_iand hx hb d_Hyper_hasStatus_5 ?_
  refine lv_if_eq (tgt := 13) hx hb d_Hyper_hasStatus_6 (by decide) (fun c_238 => ?_) (fun c_238 => ?_)
  · refine lv_iconst (v := 0) hx hb d_Hyper_hasStatus_13 (by decide) ?_
    have hk : k_Hyper_hasStatus sy p1 = false := (by rw [k_Hyper_hasStatus]; rw [if_pos c_238]; try rfl)
    exact ct_rz hx hb hr hlocks hP hD hK hS d_Hyper_hasStatus_14 rfl (by rw [hk]; first | done | rfl) rfl
  · refine lv_iconst (v := 1) hx hb d_Hyper_hasStatus_9 (by decide) ?_
    refine lv_goto (tgt := 14) hx hb d_Hyper_hasStatus_10 (by decide) ?_
    have hk : k_Hyper_hasStatus sy p1 = true := (by rw [k_Hyper_hasStatus]; rw [if_neg c_238]; try rfl)
    exact ct_rz hx hb hr hlocks hP hD hK hS d_Hyper_hasStatus_14 rfl (by rw [hk]; first | done | rfl) rfl
def k_Desk_isOpenToVs (sx : ob) (sc : ob) (sy : ob) (p1 : Int32) : Bool :=
  if (bI (k_Numbers_isOfS p1)) = 0 then false else (if p1 = 384 then (if (bI (k_Hyper_hasStatus sy 1048576)) = 0 then true else false) else true)
set_option maxHeartbeats 4000000 in
set_option maxRecDepth 100000 in
theorem c_Desk_isOpenToVs (l : Launch) (G : gx) (tys : List (ClassId × FieldType)) (qx qc qy qo qr qhs qgs : Nat) (sx : ob) (sc : ob) (sy : ob) (p1 : Int32) : ct_I l y_Desk_isOpenToVs ws_Desk_isOpenToVs ({ frames := 3, cells := 0, slots := 0, locals := 61 }) G tys [.ref qx, .int p1] [(qx, .inr (5, f_Desk qc qo qr sx)), (qc, .inr (1, f_Controls qo qhs qgs qy sc)), (qy, .inr (2, f_Hyper sy))] (bI (k_Desk_isOpenToVs sx sc sy p1)) [(qx, .inr (5, f_Desk qc qo qr sx)), (qc, .inr (1, f_Controls qo qhs qgs qy sc)), (qy, .inr (2, f_Hyper sy))] := by
  refine ct_hI (cc := cc_Desk_isOpenToVs) (maxL := 2) (ret := (some .boolean)) (by decide) rfl (Nat.le_of_ble_eq_true rfl) ?_
  intro p e s m below meth c A ls hx hb hr hml hts hown hlocks hP hK hD hA hE hS hl
  have hl : lv_has ls 2 [(0, .ref qx), (1, .int p1)] := hl
  have hown : s.vm.findClass R_Desk = some m.cls := hown
  refine lv_iload_n hx hb d_Desk_isOpenToVs_0 rfl (lv_at hl 1 rfl) ?_
  refine ct_cSi (wr := [(qx, .inr (5, f_Desk qc qo qr sx)), (qc, .inr (1, f_Controls qo qhs qgs qy sc)), (qy, .inr (2, f_Hyper sy))]) (w1 := []) (w2 := [(qx, .inr (5, f_Desk qc qo qr sx)), (qc, .inr (1, f_Controls qo qhs qgs qy sc)), (qy, .inr (2, f_Hyper sy))]) (r := (bI (k_Numbers_isOfS p1))) (As := [.int p1]) (rest := []) ⟨hx, hb, hml, hown, hts⟩ (c_Numbers_isOfS l G tys p1) (va_cwS 1 hts (gdS gd_gd q_499 q_270 q_48 q_271) rfl rfl rfl (by decide +kernel) ⟨Nat.le_of_ble_eq_true rfl, Nat.le_of_ble_eq_true rfl⟩) hE hK hP hD hS hA [] [0, 1, 2] [0, 1, 2] rfl (by decide) rfl (by decide) (by decide) rfl (by decide) rfl hl.1 rfl (Nat.le_of_ble_eq_true rfl) d_Desk_isOpenToVs_1 ⟨Nat.zero_le _, Nat.zero_le _⟩ (fun H locs hP hD hS => ?_)
  refine lv_if_ne (tgt := 9) hx hb d_Desk_isOpenToVs_4 (by decide) (fun c_240 => ?_) (fun c_240 => ?_)
  · refine lv_iload_n hx hb d_Desk_isOpenToVs_9 rfl (lv_at hl 1 rfl) ?_
    refine lv_sipush (v := 384) hx hb d_Desk_isOpenToVs_10 (by decide) ?_
    refine lv_icmp_ne (tgt := 31) hx hb d_Desk_isOpenToVs_13 (by decide) (fun c_241 => ?_) (fun c_241 => ?_)
    · refine lv_iconst (v := 1) hx hb d_Desk_isOpenToVs_31 (by decide) ?_
      refine lv_goto (tgt := 36) hx hb d_Desk_isOpenToVs_32 (by decide) ?_
      have hk : k_Desk_isOpenToVs sx sc sy p1 = true := (by rw [k_Desk_isOpenToVs]; rw [if_neg c_240]; rw [if_neg c_241]; try rfl)
      exact ct_rz hx hb hr hlocks hP hD hK hS d_Desk_isOpenToVs_36 rfl (by rw [hk]; first | done | rfl) rfl
    · refine lv_aload_n hx hb d_Desk_isOpenToVs_16 rfl (lv_at hl 0 rfl) ?_
      refine va_get (D := G.1) (ci := 5) (v := .ref qc) (C := R_Desk) (T := T_Desk) (N := 8) hx hb hts (fun w h => gd_sub _ (iw_Desk w h)) hown hK hP 0 rfl rfl 0 (by decide) (hts _ (gd_sub _ q_205)) (fun _ h9 => h9) rfl d_Desk_isOpenToVs_17 ?_
      refine va_get (D := G.1) (ci := 1) (v := .ref qy) (C := R_Controls) (T := T_Controls) (N := 6) hx hb hts (fun w h => gd_sub _ (iw_Controls w h)) hown hK hP 1 rfl rfl 3 (by decide) (hts _ (gd_sub _ q_170)) (fun _ h9 => h9) rfl d_Desk_isOpenToVs_20 ?_
      refine lv_ldc (v := 1048576) hx hb hown (hts _ (gd_sub _ q_413)) d_Desk_isOpenToVs_23 ?_
      refine ct_cVi (wr := [(qx, .inr (5, f_Desk qc qo qr sx)), (qc, .inr (1, f_Controls qo qhs qgs qy sc))]) (w1 := [(qy, .inr (2, f_Hyper sy))]) (w2 := [(qx, .inr (5, f_Desk qc qo qr sx)), (qc, .inr (1, f_Controls qo qhs qgs qy sc)), (qy, .inr (2, f_Hyper sy))]) (r := (bI (k_Hyper_hasStatus sy 1048576))) (As := [.int 1048576]) (rest := []) (ci := 2) (q0 := 0) ⟨hx, hb, hml, hown, hts⟩ (c_Hyper_hasStatus l G tys qy sy 1048576) (cwV 1 hts (gdV gd_gd q_422 q_423 q_424 q_45 q_425) rfl rfl rfl (by decide +kernel) ⟨Nat.le_of_ble_eq_true rfl, Nat.le_of_ble_eq_true rfl⟩) hE hK hP hD hS hA [2] [0, 1] [0, 1, 2] rfl (by decide) rfl (by decide) (by decide) rfl (by decide) rfl rfl rfl hl.1 rfl (Nat.le_of_ble_eq_true rfl) d_Desk_isOpenToVs_25 ⟨Nat.zero_le _, Nat.zero_le _⟩ (fun H locs hP hD hS => ?_)
      refine lv_if_ne (tgt := 35) hx hb d_Desk_isOpenToVs_28 (by decide) (fun c_242 => ?_) (fun c_242 => ?_)
      · refine lv_iconst (v := 0) hx hb d_Desk_isOpenToVs_35 (by decide) ?_
        have hk : k_Desk_isOpenToVs sx sc sy p1 = false := (by rw [k_Desk_isOpenToVs]; rw [if_neg c_240]; rw [if_pos c_241]; rw [if_neg c_242]; try rfl)
        exact ct_rz hx hb hr hlocks hP hD hK hS d_Desk_isOpenToVs_36 rfl (by rw [hk]; first | done | rfl) rfl
      · refine lv_iconst (v := 1) hx hb d_Desk_isOpenToVs_31 (by decide) ?_
        refine lv_goto (tgt := 36) hx hb d_Desk_isOpenToVs_32 (by decide) ?_
        have hk : k_Desk_isOpenToVs sx sc sy p1 = true := (by rw [k_Desk_isOpenToVs]; rw [if_neg c_240]; rw [if_pos c_241]; rw [if_pos c_242]; try rfl)
        exact ct_rz hx hb hr hlocks hP hD hK hS d_Desk_isOpenToVs_36 rfl (by rw [hk]; first | done | rfl) rfl
  · refine lv_iconst (v := 0) hx hb d_Desk_isOpenToVs_7 (by decide) ?_
    have hk : k_Desk_isOpenToVs sx sc sy p1 = false := (by rw [k_Desk_isOpenToVs]; rw [if_pos c_240]; try rfl)
    exact ct_rz hx hb hr hlocks hP hD hK hS d_Desk_isOpenToVs_8 rfl (by rw [hk]; first | done | rfl) rfl
def k_Desk_refusalOfAccess (sx : ob) (sc : ob) (sy : ob) (p1 : Int32) (p2 : Bool) : Int32 :=
  if (bI (k_Numbers_isKnown p1)) = 0 then 2 else (if (bI (k_Numbers_isTime p1)) = 0 then (if (sx.1 3) = 0 then 2 else if (sx.1 3) = 1 then (-1) else if (sx.1 3) = 2 then 22 else if (sx.1 3) = 3 then (if (bI (k_Desk_isOpenToVs sx sc sy p1)) = 0 then 22 else (-1)) else 22) else (if (bI p2) = 0 then (-1) else 2))
set_option maxHeartbeats 4000000 in
set_option maxRecDepth 100000 in
theorem c_Desk_refusalOfAccess (l : Launch) (G : gx) (tys : List (ClassId × FieldType)) (qx qc qy qo qr qhs qgs : Nat) (sx : ob) (sc : ob) (sy : ob) (p1 : Int32) (p2 : Bool) : ct_I l y_Desk_refusalOfAccess ws_Desk_refusalOfAccess ({ frames := 4, cells := 0, slots := 0, locals := 82 }) G tys [.ref qx, .int p1, .int (bI p2)] [(qx, .inr (5, f_Desk qc qo qr sx)), (qc, .inr (1, f_Controls qo qhs qgs qy sc)), (qy, .inr (2, f_Hyper sy))] (k_Desk_refusalOfAccess sx sc sy p1 p2) [(qx, .inr (5, f_Desk qc qo qr sx)), (qc, .inr (1, f_Controls qo qhs qgs qy sc)), (qy, .inr (2, f_Hyper sy))] := by
  refine ct_hI (cc := cc_Desk_refusalOfAccess) (maxL := 3) (ret := (some .int)) (by decide) rfl (Nat.le_of_ble_eq_true rfl) ?_
  intro p e s m below meth c A ls hx hb hr hml hts hown hlocks hP hK hD hA hE hS hl
  have hl : lv_has ls 3 [(0, .ref qx), (1, .int p1), (2, .int (bI p2))] := hl
  have hown : s.vm.findClass R_Desk = some m.cls := hown
  refine lv_iload_n hx hb d_Desk_refusalOfAccess_0 rfl (lv_at hl 1 rfl) ?_
  refine ct_cSi (wr := [(qx, .inr (5, f_Desk qc qo qr sx)), (qc, .inr (1, f_Controls qo qhs qgs qy sc)), (qy, .inr (2, f_Hyper sy))]) (w1 := []) (w2 := [(qx, .inr (5, f_Desk qc qo qr sx)), (qc, .inr (1, f_Controls qo qhs qgs qy sc)), (qy, .inr (2, f_Hyper sy))]) (r := (bI (k_Numbers_isKnown p1))) (As := [.int p1]) (rest := []) ⟨hx, hb, hml, hown, hts⟩ (c_Numbers_isKnown l G tys p1) (va_cwS 1 hts (gdS gd_gd q_266 q_267 q_48 q_268) rfl rfl rfl (by decide +kernel) ⟨Nat.le_of_ble_eq_true rfl, Nat.le_of_ble_eq_true rfl⟩) hE hK hP hD hS hA [] [0, 1, 2] [0, 1, 2] rfl (by decide) rfl (by decide) (by decide) rfl (by decide) rfl hl.1 rfl (Nat.le_of_ble_eq_true rfl) d_Desk_refusalOfAccess_1 ⟨Nat.zero_le _, Nat.zero_le _⟩ (fun H locs hP hD hS => ?_)
  refine lv_if_ne (tgt := 9) hx hb d_Desk_refusalOfAccess_4 (by decide) (fun c_245 => ?_) (fun c_245 => ?_)
  · refine lv_iload_n hx hb d_Desk_refusalOfAccess_9 rfl (lv_at hl 1 rfl) ?_
    refine ct_cSi (wr := [(qx, .inr (5, f_Desk qc qo qr sx)), (qc, .inr (1, f_Controls qo qhs qgs qy sc)), (qy, .inr (2, f_Hyper sy))]) (w1 := []) (w2 := [(qx, .inr (5, f_Desk qc qo qr sx)), (qc, .inr (1, f_Controls qo qhs qgs qy sc)), (qy, .inr (2, f_Hyper sy))]) (r := (bI (k_Numbers_isTime p1))) (As := [.int p1]) (rest := []) ⟨hx, hb, hml, hown, hts⟩ (c_Numbers_isTime l G tys p1) (va_cwS 1 hts (gdS gd_gd q_290 q_288 q_48 q_289) rfl rfl rfl (by decide +kernel) ⟨Nat.le_of_ble_eq_true rfl, Nat.le_of_ble_eq_true rfl⟩) hE hK hP hD hS hA [] [0, 1, 2] [0, 1, 2] rfl (by decide) rfl (by decide) (by decide) rfl (by decide) rfl hl.1 rfl (Nat.le_of_ble_eq_true rfl) d_Desk_refusalOfAccess_10 ⟨Nat.zero_le _, Nat.zero_le _⟩ (fun H locs hP hD hS => ?_)
    refine lv_if_eq (tgt := 26) hx hb d_Desk_refusalOfAccess_13 (by decide) (fun c_246 => ?_) (fun c_246 => ?_)
    · refine lv_aload_n hx hb d_Desk_refusalOfAccess_26 rfl (lv_at hl 0 rfl) ?_
      refine va_get (D := G.1) (ci := 5) (v := .int (sx.1 3)) (C := R_Desk) (T := T_Desk) (N := 8) hx hb hts (fun w h => gd_sub _ (iw_Desk w h)) hown hK hP 0 rfl rfl 3 (by decide) (hts _ (gd_sub _ q_208)) (fun _ h9 => h9) rfl d_Desk_refusalOfAccess_27 ?_
      by_cases c_247 : (sx.1 3) = 0
      · refine lv_tableIn (off := 32) (tgt := 62) hx hb d_Desk_refusalOfAccess_30 (by rw [c_247]; decide) (by rw [c_247]; decide) (by rw [c_247]; decide) (by decide) ?_
        refine lv_iconst (v := 2) hx hb d_Desk_refusalOfAccess_62 (by decide) ?_
        have hk : k_Desk_refusalOfAccess sx sc sy p1 p2 = 2 := (by rw [k_Desk_refusalOfAccess]; rw [if_neg c_245]; rw [if_pos c_246]; rw [if_pos c_247]; try rfl)
        exact ct_ri hx hb hr hlocks hP hD hK hS d_Desk_refusalOfAccess_63 (by rw [hk]; first | done | rfl) rfl
      · by_cases c_248 : (sx.1 3) = 1
        · refine lv_tableIn (off := 30) (tgt := 60) hx hb d_Desk_refusalOfAccess_30 (by rw [c_248]; decide) (by rw [c_248]; decide) (by rw [c_248]; decide) (by decide) ?_
          refine lv_iconst (v := (-1)) hx hb d_Desk_refusalOfAccess_60 (by decide) ?_
          have hk : k_Desk_refusalOfAccess sx sc sy p1 p2 = (-1) := (by rw [k_Desk_refusalOfAccess]; rw [if_neg c_245]; rw [if_pos c_246]; rw [if_neg c_247]; rw [if_pos c_248]; try rfl)
          exact ct_ri hx hb hr hlocks hP hD hK hS d_Desk_refusalOfAccess_61 (by rw [hk]; first | done | rfl) rfl
        · by_cases c_249 : (sx.1 3) = 2
          · refine lv_tableIn (off := 49) (tgt := 79) hx hb d_Desk_refusalOfAccess_30 (by rw [c_249]; decide) (by rw [c_249]; decide) (by rw [c_249]; decide) (by decide) ?_
            refine lv_bipush (v := 22) hx hb d_Desk_refusalOfAccess_79 (by decide) ?_
            have hk : k_Desk_refusalOfAccess sx sc sy p1 p2 = 22 := (by rw [k_Desk_refusalOfAccess]; rw [if_neg c_245]; rw [if_pos c_246]; rw [if_neg c_247]; rw [if_neg c_248]; rw [if_pos c_249]; try rfl)
            exact ct_ri hx hb hr hlocks hP hD hK hS d_Desk_refusalOfAccess_81 (by rw [hk]; first | done | rfl) rfl
          · by_cases c_250 : (sx.1 3) = 3
            · refine lv_tableIn (off := 34) (tgt := 64) hx hb d_Desk_refusalOfAccess_30 (by rw [c_250]; decide) (by rw [c_250]; decide) (by rw [c_250]; decide) (by decide) ?_
              refine lv_aload_n hx hb d_Desk_refusalOfAccess_64 rfl (lv_at hl 0 rfl) ?_
              refine lv_iload_n hx hb d_Desk_refusalOfAccess_65 rfl (lv_at hl 1 rfl) ?_
              refine ct_cVi (wr := []) (w1 := [(qx, .inr (5, f_Desk qc qo qr sx)), (qc, .inr (1, f_Controls qo qhs qgs qy sc)), (qy, .inr (2, f_Hyper sy))]) (w2 := [(qx, .inr (5, f_Desk qc qo qr sx)), (qc, .inr (1, f_Controls qo qhs qgs qy sc)), (qy, .inr (2, f_Hyper sy))]) (r := (bI (k_Desk_isOpenToVs sx sc sy p1))) (As := [.int p1]) (rest := []) (ci := 5) (q0 := 0) ⟨hx, hb, hml, hown, hts⟩ (c_Desk_isOpenToVs l G tys qx qc qy qo qr qhs qgs sx sc sy p1) (cwV 1 hts (gdV gd_gd q_495 q_497 q_13 q_41 q_498) rfl rfl rfl (by decide +kernel) ⟨Nat.le_of_ble_eq_true rfl, Nat.le_of_ble_eq_true rfl⟩) hE hK hP hD hS hA [0, 1, 2] [] [0, 1, 2] rfl (by decide) rfl (by decide) (by decide) rfl (by decide) rfl rfl rfl hl.1 rfl (Nat.le_of_ble_eq_true rfl) d_Desk_refusalOfAccess_66 ⟨Nat.zero_le _, Nat.zero_le _⟩ (fun H locs hP hD hS => ?_)
              refine lv_if_eq (tgt := 76) hx hb d_Desk_refusalOfAccess_69 (by decide) (fun c_251 => ?_) (fun c_251 => ?_)
              · refine lv_bipush (v := 22) hx hb d_Desk_refusalOfAccess_76 (by decide) ?_
                have hk : k_Desk_refusalOfAccess sx sc sy p1 p2 = 22 := (by rw [k_Desk_refusalOfAccess]; rw [if_neg c_245]; rw [if_pos c_246]; rw [if_neg c_247]; rw [if_neg c_248]; rw [if_neg c_249]; rw [if_pos c_250]; rw [if_pos c_251]; try rfl)
                exact ct_ri hx hb hr hlocks hP hD hK hS d_Desk_refusalOfAccess_78 (by rw [hk]; first | done | rfl) rfl
              · refine lv_iconst (v := (-1)) hx hb d_Desk_refusalOfAccess_72 (by decide) ?_
                refine lv_goto (tgt := 78) hx hb d_Desk_refusalOfAccess_73 (by decide) ?_
                have hk : k_Desk_refusalOfAccess sx sc sy p1 p2 = (-1) := (by rw [k_Desk_refusalOfAccess]; rw [if_neg c_245]; rw [if_pos c_246]; rw [if_neg c_247]; rw [if_neg c_248]; rw [if_neg c_249]; rw [if_pos c_250]; rw [if_neg c_251]; try rfl)
                exact ct_ri hx hb hr hlocks hP hD hK hS d_Desk_refusalOfAccess_78 (by rw [hk]; first | done | rfl) rfl
            · refine lv_tableOut (tgt := 79) hx hb d_Desk_refusalOfAccess_30 (by have := lv_neT (a := 0) c_247 (by decide); have := lv_neT (a := 1) c_248 (by decide); have := lv_neT (a := 2) c_249 (by decide); have := lv_neT (a := 3) c_250 (by decide); omega) (by decide) ?_
              refine lv_bipush (v := 22) hx hb d_Desk_refusalOfAccess_79 (by decide) ?_
              have hk : k_Desk_refusalOfAccess sx sc sy p1 p2 = 22 := (by rw [k_Desk_refusalOfAccess]; rw [if_neg c_245]; rw [if_pos c_246]; rw [if_neg c_247]; rw [if_neg c_248]; rw [if_neg c_249]; rw [if_neg c_250]; try rfl)
              exact ct_ri hx hb hr hlocks hP hD hK hS d_Desk_refusalOfAccess_81 (by rw [hk]; first | done | rfl) rfl
    · refine lv_iload_n hx hb d_Desk_refusalOfAccess_16 rfl (lv_at hl 2 rfl) ?_
      refine lv_if_eq (tgt := 24) hx hb d_Desk_refusalOfAccess_17 (by decide) (fun c_252 => ?_) (fun c_252 => ?_)
      · refine lv_iconst (v := (-1)) hx hb d_Desk_refusalOfAccess_24 (by decide) ?_
        have hk : k_Desk_refusalOfAccess sx sc sy p1 p2 = (-1) := (by rw [k_Desk_refusalOfAccess]; rw [if_neg c_245]; rw [if_neg c_246]; rw [if_pos c_252]; try rfl)
        exact ct_ri hx hb hr hlocks hP hD hK hS d_Desk_refusalOfAccess_25 (by rw [hk]; first | done | rfl) rfl
      · refine lv_iconst (v := 2) hx hb d_Desk_refusalOfAccess_20 (by decide) ?_
        refine lv_goto (tgt := 25) hx hb d_Desk_refusalOfAccess_21 (by decide) ?_
        have hk : k_Desk_refusalOfAccess sx sc sy p1 p2 = 2 := (by rw [k_Desk_refusalOfAccess]; rw [if_neg c_245]; rw [if_neg c_246]; rw [if_neg c_252]; try rfl)
        exact ct_ri hx hb hr hlocks hP hD hK hS d_Desk_refusalOfAccess_25 (by rw [hk]; first | done | rfl) rfl
  · refine lv_iconst (v := 2) hx hb d_Desk_refusalOfAccess_7 (by decide) ?_
    have hk : k_Desk_refusalOfAccess sx sc sy p1 p2 = 2 := (by rw [k_Desk_refusalOfAccess]; rw [if_pos c_245]; try rfl)
    exact ct_ri hx hb hr hlocks hP hD hK hS d_Desk_refusalOfAccess_8 (by rw [hk]; first | done | rfl) rfl
def k_Numbers_inVs (p1 : Int32) : Int32 :=
  if (bI (k_Numbers_isOfS p1)) = 0 then p1 else (512 ||| (k_Numbers_kindOf p1))
set_option maxHeartbeats 4000000 in
set_option maxRecDepth 100000 in
theorem c_Numbers_inVs (l : Launch) (G : gx) (tys : List (ClassId × FieldType)) (p1 : Int32) : ct_I l y_Numbers_inVs ws_Numbers_inVs ({ frames := 3, cells := 0, slots := 0, locals := 61 }) G tys [.int p1] [] (k_Numbers_inVs p1) [] := by
  refine ct_hI (cc := cc_Numbers_inVs) (maxL := 1) (ret := (some .int)) (by decide) rfl (Nat.le_of_ble_eq_true rfl) ?_
  intro p e s m below meth c A ls hx hb hr hml hts hown hlocks hP hK hD hA hE hS hl
  have hl : lv_has ls 1 [(0, .int p1)] := hl
  have hown : s.vm.findClass R_Numbers = some m.cls := hown
  refine lv_iload_n hx hb d_Numbers_inVs_0 rfl (lv_at hl 0 rfl) ?_
  refine ct_cSi (wr := []) (w1 := []) (w2 := []) (r := (bI (k_Numbers_isOfS p1))) (As := [.int p1]) (rest := []) ⟨hx, hb, hml, hown, hts⟩ (c_Numbers_isOfS l G tys p1) (va_cwS 1 hts (gdS gd_gd q_269 q_270 q_48 q_271) rfl rfl rfl (by decide +kernel) ⟨Nat.le_of_ble_eq_true rfl, Nat.le_of_ble_eq_true rfl⟩) hE hK hP hD hS hA [] [] [] rfl (by decide) rfl (by decide) (by decide) rfl (by decide) rfl hl.1 rfl (Nat.le_of_ble_eq_true rfl) d_Numbers_inVs_1 ⟨Nat.zero_le _, Nat.zero_le _⟩ (fun H locs hP hD hS => ?_)
  refine lv_if_eq (tgt := 18) hx hb d_Numbers_inVs_4 (by decide) (fun c_256 => ?_) (fun c_256 => ?_)
  · refine lv_iload_n hx hb d_Numbers_inVs_18 rfl (lv_at hl 0 rfl) ?_
    have hk : k_Numbers_inVs p1 = p1 := (by rw [k_Numbers_inVs]; rw [if_pos c_256]; try rfl)
    exact ct_ri hx hb hr hlocks hP hD hK hS d_Numbers_inVs_19 (by rw [hk]; first | done | rfl) rfl
  · refine lv_sipush (v := 512) hx hb d_Numbers_inVs_7 (by decide) ?_
    refine lv_iload_n hx hb d_Numbers_inVs_10 rfl (lv_at hl 0 rfl) ?_
    refine ct_cSi (wr := []) (w1 := []) (w2 := []) (r := (k_Numbers_kindOf p1)) (As := [.int p1]) (rest := [.int 512]) ⟨hx, hb, hml, hown, hts⟩ (c_Numbers_kindOf l G tys p1) (va_cwS 1 hts (gdS gd_gd q_275 q_276 q_48 q_277) rfl rfl rfl (by decide +kernel) ⟨Nat.le_of_ble_eq_true rfl, Nat.le_of_ble_eq_true rfl⟩) hE hK hP hD hS hA [] [] [] rfl (by decide) rfl (by decide) (by decide) rfl (by decide) rfl hl.1 rfl (Nat.le_of_ble_eq_true rfl) d_Numbers_inVs_11 ⟨Nat.zero_le _, Nat.zero_le _⟩ (fun H locs hP hD hS => ?_)
    refine lv_ior hx hb d_Numbers_inVs_14 ?_
    refine lv_goto (tgt := 19) hx hb d_Numbers_inVs_15 (by decide) ?_
    have hk : k_Numbers_inVs p1 = (512 ||| (k_Numbers_kindOf p1)) := (by rw [k_Numbers_inVs]; rw [if_neg c_256]; try rfl)
    exact ct_ri hx hb hr hlocks hP hD hK hS d_Numbers_inVs_19 (by rw [hk]; first | done | rfl) rfl
def k_Desk_combined (p1 : Int32) (p2 : Int32) (p3 : Int32) : Int32 :=
  if p1 = 1 then p3 else if p1 = 2 then (p2 ||| p3) else (p2 &&& (p3 ^^^ (-1)))
set_option maxHeartbeats 4000000 in
set_option maxRecDepth 100000 in
theorem c_Desk_combined (l : Launch) (G : gx) (tys : List (ClassId × FieldType)) (p1 : Int32) (p2 : Int32) (p3 : Int32) : ct_I l y_Desk_combined ws_Desk_combined ({ frames := 0, cells := 0, slots := 0, locals := 0 }) G tys [.int p1, .int p2, .int p3] [] (k_Desk_combined p1 p2 p3) [] := by
  refine ct_hI (cc := cc_Desk_combined) (maxL := 3) (ret := (some .int)) (by decide) rfl (Nat.le_of_ble_eq_true rfl) ?_
  intro p e s m below meth c A ls hx hb hr hml hts hown hlocks hP hK hD hA hE hS hl
  have hl : lv_has ls 3 [(0, .int p1), (1, .int p2), (2, .int p3)] := hl
  have hown : s.vm.findClass R_Desk = some m.cls := hown
  refine lv_iload_n hx hb d_Desk_combined_0 rfl (lv_at hl 0 rfl) ?_
  by_cases c_261 : p1 = 1
  · refine lv_lookup (off := 27) (tgt := 28) hx hb d_Desk_combined_1 (by decide) (by rw [c_261]; decide) (by decide) ?_
    refine lv_iload_n hx hb d_Desk_combined_28 rfl (lv_at hl 2 rfl) ?_
    have hk : k_Desk_combined p1 p2 p3 = p3 := (by rw [k_Desk_combined]; rw [if_pos c_261]; try rfl)
    exact ct_ri hx hb hr hlocks hP hD hK hS d_Desk_combined_29 (by rw [hk]; first | done | rfl) rfl
  · by_cases c_262 : p1 = 2
    · refine lv_lookup (off := 29) (tgt := 30) hx hb d_Desk_combined_1 (by decide) (by rw [c_262]; decide) (by decide) ?_
      refine lv_iload_n hx hb d_Desk_combined_30 rfl (lv_at hl 1 rfl) ?_
      refine lv_iload_n hx hb d_Desk_combined_31 rfl (lv_at hl 2 rfl) ?_
      refine lv_ior hx hb d_Desk_combined_32 ?_
      have hk : k_Desk_combined p1 p2 p3 = (p2 ||| p3) := (by rw [k_Desk_combined]; rw [if_neg c_261]; rw [if_pos c_262]; try rfl)
      exact ct_ri hx hb hr hlocks hP hD hK hS d_Desk_combined_33 (by rw [hk]; first | done | rfl) rfl
    · refine lv_lookup (off := 33) (tgt := 34) hx hb d_Desk_combined_1 (by decide) ((lv_osw c_261 (by decide)).trans ((lv_osw c_262 (by decide)).trans rfl)) (by decide) ?_
      refine lv_iload_n hx hb d_Desk_combined_34 rfl (lv_at hl 1 rfl) ?_
      refine lv_iload_n hx hb d_Desk_combined_35 rfl (lv_at hl 2 rfl) ?_
      refine lv_iconst (v := (-1)) hx hb d_Desk_combined_36 (by decide) ?_
      refine lv_ixor hx hb d_Desk_combined_37 ?_
      refine lv_iand hx hb d_Desk_combined_38 ?_
      have hk : k_Desk_combined p1 p2 p3 = (p2 &&& (p3 ^^^ (-1))) := (by rw [k_Desk_combined]; rw [if_neg c_261]; rw [if_neg c_262]; try rfl)
      exact ct_ri hx hb hr hlocks hP hD hK hS d_Desk_combined_39 (by rw [hk]; first | done | rfl) rfl
def k_Desk_fieldD (p1 : Int32) : Int32 :=
  ((ush p1 7) &&& 31)
set_option maxHeartbeats 4000000 in
set_option maxRecDepth 100000 in
theorem c_Desk_fieldD (l : Launch) (G : gx) (tys : List (ClassId × FieldType)) (p1 : Int32) : ct_I l y_Desk_fieldD ws_Desk_fieldD ({ frames := 0, cells := 0, slots := 0, locals := 0 }) G tys [.int p1] [] (k_Desk_fieldD p1) [] := by
  refine ct_hI (cc := cc_Desk_fieldD) (maxL := 1) (ret := (some .int)) (by decide) rfl (Nat.le_of_ble_eq_true rfl) ?_
  intro p e s m below meth c A ls hx hb hr hml hts hown hlocks hP hK hD hA hE hS hl
  have hl : lv_has ls 1 [(0, .int p1)] := hl
  have hown : s.vm.findClass R_Desk = some m.cls := hown
  refine lv_iload_n hx hb d_Desk_fieldD_0 rfl (lv_at hl 0 rfl) ?_
  refine lv_bipush (v := 7) hx hb d_Desk_fieldD_1 (by decide) ?_
  refine lv_iushr (v := (ush p1 7)) hx hb d_Desk_fieldD_3 rfl ?_
  refine lv_bipush (v := 31) hx hb d_Desk_fieldD_4 (by decide) ?_
  refine lv_iand hx hb d_Desk_fieldD_6 ?_
  have hk : k_Desk_fieldD p1 = ((ush p1 7) &&& 31) := (by rw [k_Desk_fieldD]; try rfl)
  exact ct_ri hx hb hr hlocks hP hD hK hS d_Desk_fieldD_7 (by rw [hk]; first | done | rfl) rfl
def k_Desk_goOn (sx : ob) : Int32 × ob :=
  ((-1), (oi sx 4 ((sx.1 4) + 4)))
set_option maxHeartbeats 4000000 in
set_option maxRecDepth 100000 in
theorem c_Desk_goOn (l : Launch) (G : gx) (tys : List (ClassId × FieldType)) (qx qc qo qr : Nat) (sx : ob) : ct_I l y_Desk_goOn ws_Desk_goOn ({ frames := 0, cells := 0, slots := 0, locals := 0 }) G tys [.ref qx] [(qx, .inr (5, f_Desk qc qo qr sx))] ((k_Desk_goOn sx).1) [(qx, .inr (5, f_Desk qc qo qr ((k_Desk_goOn sx).2)))] := by
  refine ct_hI (cc := cc_Desk_goOn) (maxL := 1) (ret := (some .int)) (by decide) rfl (Nat.le_of_ble_eq_true rfl) ?_
  intro p e s m below meth c A ls hx hb hr hml hts hown hlocks hP hK hD hA hE hS hl
  have hl : lv_has ls 1 [(0, .ref qx)] := hl
  have hown : s.vm.findClass R_Desk = some m.cls := hown
  refine lv_aload_n hx hb d_Desk_goOn_0 rfl (lv_at hl 0 rfl) ?_
  refine lv_dup hx hb d_Desk_goOn_1 rfl ?_
  refine va_get (D := G.1) (ci := 5) (v := .int (sx.1 4)) (C := R_Desk) (T := T_Desk) (N := 8) hx hb hts (fun w h => gd_sub _ (iw_Desk w h)) hown hK hP 0 rfl rfl 4 (by decide) (hts _ (gd_sub _ q_209)) (fun _ h9 => h9) rfl d_Desk_goOn_2 ?_
  refine lv_iconst (v := 4) hx hb d_Desk_goOn_5 (by decide) ?_
  refine lv_iadd hx hb d_Desk_goOn_6 ?_
  refine va_put (D := G.1) (ci := 5) (v := .int ((sx.1 4) + 4)) (ty := .int) (C := R_Desk) (T := T_Desk) (N := 8) hx hb hts (fun w h => gd_sub _ (iw_Desk w h)) ty_Desk tyok_Desk nm_Desk hown hK hP hD hS 0 rfl rfl 4 (by decide) (hts _ (gd_sub _ q_209)) (fun _ h9 => h9) rfl (by decide +kernel) rfl rfl (Nat.le_of_ble_eq_true rfl) d_Desk_goOn_7 (fun H locs hP hD hS => ?_)
  have hP : va_P G.1 vwCl [(qx, .inr (5, f_Desk qc qo qr (oi sx 4 ((sx.1 4) + 4))))] H := hP
  have hD : va_D A [(qx, .inr (5, f_Desk qc qo qr (oi sx 4 ((sx.1 4) + 4))))] := hD
  refine lv_iconst (v := (-1)) hx hb d_Desk_goOn_10 (by decide) ?_
  have hk : k_Desk_goOn sx = ((-1), (oi sx 4 ((sx.1 4) + 4))) := (by rw [k_Desk_goOn]; try rfl)
  exact ct_ri hx hb hr hlocks hP hD hK hS d_Desk_goOn_11 (by rw [hk]; first | done | rfl) (by rw [hk]; first | done | rfl)
def k_Desk_controlWord_j125 (sx : ob) (sc : ob) (so : ob) (shs : ob) (sgs : ob) (sy : ob) (sr : ob) (p1 : Int32) (p2 : Int32) (v3 : Int32) (v4 : Int32) (v5 : Int32) (v6 : Bool) (v7 : Int32) (v8 : Int32) (v9 : Int32) (v10 : Int32) (uc : ob) (uhs : ob) (ugs : ob) (uy : ob) : Int32 × ob × ob × ob × ob × ob × ob :=
  (((k_Desk_goOn sx).1), ((k_Desk_goOn sx).2), uc, uhs, ugs, uy, ((k_Registers_write sr (k_Desk_fieldD p1) v10)))
def k_Desk_controlWord_j89 (sx : ob) (sc : ob) (so : ob) (shs : ob) (sgs : ob) (sy : ob) (sr : ob) (p1 : Int32) (p2 : Int32) (v3 : Int32) (v4 : Int32) (v5 : Int32) (v6 : Bool) (v7 : Int32) (v8 : Int32) (t0 : Int32) : Int32 × ob × ob × ob × ob × ob × ob :=
  if (bI v6) = 0 then (k_Desk_controlWord_j125 sx sc so shs sgs sy sr p1 p2 v3 v4 v5 v6 v7 v8 t0 (k_Controls_read sc so shs sgs sy v8) sc shs sgs sy) else (k_Desk_controlWord_j125 sx sc so shs sgs sy sr p1 p2 v3 v4 v5 v6 v7 v8 t0 (k_Controls_read sc so shs sgs sy v8) ((k_Controls_write sc shs sgs sy v8 (k_Desk_combined v5 (k_Controls_read sc so shs sgs sy v8) t0)).1) ((k_Controls_write sc shs sgs sy v8 (k_Desk_combined v5 (k_Controls_read sc so shs sgs sy v8) t0)).2.1) ((k_Controls_write sc shs sgs sy v8 (k_Desk_combined v5 (k_Controls_read sc so shs sgs sy v8) t0)).2.2.1) ((k_Controls_write sc shs sgs sy v8 (k_Desk_combined v5 (k_Controls_read sc so shs sgs sy v8) t0)).2.2.2))
def k_Desk_controlWord_j68 (sx : ob) (sc : ob) (so : ob) (shs : ob) (sgs : ob) (sy : ob) (sr : ob) (p1 : Int32) (p2 : Int32) (v3 : Int32) (v4 : Int32) (v5 : Int32) (v6 : Bool) (v7 : Int32) (t0 : Int32) : Int32 × ob × ob × ob × ob × ob × ob :=
  if p2 ≤ 4 then (k_Desk_controlWord_j89 sx sc so shs sgs sy sr p1 p2 v3 v4 v5 v6 v7 t0 (k_Registers_read sr v4)) else (k_Desk_controlWord_j89 sx sc so shs sgs sy sr p1 p2 v3 v4 v5 v6 v7 t0 v4)
def k_Desk_controlWord_j32 (sx : ob) (sc : ob) (so : ob) (shs : ob) (sgs : ob) (sy : ob) (sr : ob) (p1 : Int32) (p2 : Int32) (v3 : Int32) (v4 : Int32) (v5 : Int32) (t0 : Bool) : Int32 × ob × ob × ob × ob × ob × ob :=
  if (k_Desk_refusalOfAccess sx sc sy v3 t0) = (-1) then (if (sx.1 3) = 3 then (k_Desk_controlWord_j68 sx sc so shs sgs sy sr p1 p2 v3 v4 v5 t0 (k_Desk_refusalOfAccess sx sc sy v3 t0) (k_Numbers_inVs v3)) else (k_Desk_controlWord_j68 sx sc so shs sgs sy sr p1 p2 v3 v4 v5 t0 (k_Desk_refusalOfAccess sx sc sy v3 t0) v3)) else ((k_Desk_refusalOfAccess sx sc sy v3 t0), sx, sc, shs, sgs, sy, sr)
def k_Desk_controlWord_j27 (sx : ob) (sc : ob) (so : ob) (shs : ob) (sgs : ob) (sy : ob) (sr : ob) (p1 : Int32) (p2 : Int32) (v3 : Int32) (v4 : Int32) (v5 : Int32) : Int32 × ob × ob × ob × ob × ob × ob :=
  k_Desk_controlWord_j32 sx sc so shs sgs sy sr p1 p2 v3 v4 v5 true
def k_Desk_controlWord (sx : ob) (sc : ob) (so : ob) (shs : ob) (sgs : ob) (sy : ob) (sr : ob) (p1 : Int32) (p2 : Int32) : Int32 × ob × ob × ob × ob × ob × ob :=
  if (p2 &&& 3) = 1 then (k_Desk_controlWord_j27 sx sc so shs sgs sy sr p1 p2 (ush p1 20) (k_Desk_fieldA p1) (p2 &&& 3)) else (if (k_Desk_fieldA p1) = 0 then (k_Desk_controlWord_j32 sx sc so shs sgs sy sr p1 p2 (ush p1 20) (k_Desk_fieldA p1) (p2 &&& 3) false) else (k_Desk_controlWord_j27 sx sc so shs sgs sy sr p1 p2 (ush p1 20) (k_Desk_fieldA p1) (p2 &&& 3)))
set_option maxHeartbeats 4000000 in
set_option maxRecDepth 100000 in
theorem c_Desk_controlWord (l : Launch) (G : gx) (tys : List (ClassId × FieldType)) (qx qc qo qhs qgs qy qr qa : Nat) (sx : ob) (sc : ob) (so : ob) (shs : ob) (sgs : ob) (sy : ob) (sr : ob) (p1 : Int32) (p2 : Int32) : ct_I l y_Desk_controlWord ws_Desk_controlWord ({ frames := 5, cells := 0, slots := 0, locals := 104 }) G tys [.ref qx, .int p1, .int p2] [(qx, .inr (5, f_Desk qc qo qr sx)), (qc, .inr (1, f_Controls qo qhs qgs qy sc)), (qo, .inr (3, f_Outside qa so)), (qhs, .inr (0, f_Bank shs)), (qgs, .inr (0, f_Bank sgs)), (qy, .inr (2, f_Hyper sy)), (qr, .inr (4, f_Registers sr))] ((k_Desk_controlWord sx sc so shs sgs sy sr p1 p2).1) [(qx, .inr (5, f_Desk qc qo qr ((k_Desk_controlWord sx sc so shs sgs sy sr p1 p2).2.1))), (qc, .inr (1, f_Controls qo qhs qgs qy ((k_Desk_controlWord sx sc so shs sgs sy sr p1 p2).2.2.1))), (qo, .inr (3, f_Outside qa so)), (qhs, .inr (0, f_Bank ((k_Desk_controlWord sx sc so shs sgs sy sr p1 p2).2.2.2.1))), (qgs, .inr (0, f_Bank ((k_Desk_controlWord sx sc so shs sgs sy sr p1 p2).2.2.2.2.1))), (qy, .inr (2, f_Hyper ((k_Desk_controlWord sx sc so shs sgs sy sr p1 p2).2.2.2.2.2.1))), (qr, .inr (4, f_Registers ((k_Desk_controlWord sx sc so shs sgs sy sr p1 p2).2.2.2.2.2.2)))] := by
  refine ct_hI (cc := cc_Desk_controlWord) (maxL := 11) (ret := (some .int)) (by decide) rfl (Nat.le_of_ble_eq_true rfl) ?_
  intro p e s m below meth c A ls hx hb hr hml hts hown hlocks hP hK hD hA hE hS hl
  have hl : lv_has ls 11 [(0, .ref qx), (1, .int p1), (2, .int p2)] := hl
  have hown : s.vm.findClass R_Desk = some m.cls := hown
  have J125 : ∀ (v3 : Int32) (v4 : Int32) (v5 : Int32) (v6 : Bool) (v7 : Int32) (v8 : Int32) (v9 : Int32) (v10 : Int32) (uc : ob) (uhs : ob) (ugs : ob) (uy : ob) (H : Heap) (locs : List Loc) (ls : Array Slot), k_Desk_controlWord sx sc so shs sgs sy sr p1 p2 = k_Desk_controlWord_j125 sx sc so shs sgs sy sr p1 p2 v3 v4 v5 v6 v7 v8 v9 v10 uc uhs ugs uy → va_P G.1 vwCl [(qx, .inr (5, f_Desk qc qo qr sx)), (qc, .inr (1, f_Controls qo qhs qgs qy uc)), (qo, .inr (3, f_Outside qa so)), (qhs, .inr (0, f_Bank uhs)), (qgs, .inr (0, f_Bank ugs)), (qy, .inr (2, f_Hyper uy)), (qr, .inr (4, f_Registers sr))] H → va_D A [(qx, .inr (5, f_Desk qc qo qr sx)), (qc, .inr (1, f_Controls qo qhs qgs qy uc)), (qo, .inr (3, f_Outside qa so)), (qhs, .inr (0, f_Bank uhs)), (qgs, .inr (0, f_Bank ugs)), (qy, .inr (2, f_Hyper uy)), (qr, .inr (4, f_Registers sr))] → va_S A s.heap H locs → lv_has ls 11 [(0, .ref qx), (1, .int p1), (2, .int p2), (3, .int v3), (4, .int v4), (5, .int v5), (6, .int (bI v6)), (7, .int v7), (8, .int v8), (9, .int v9), (10, .int v10)] → W p l e ({ frames := 5, cells := 0, slots := 0, locals := 104 }) s m ([.ref qx, .int p1, .int p2] : List Value).toArray below meth c H locs 0 0 (MQ below (ct_qi G tys A ((k_Desk_controlWord sx sc so shs sgs sy sr p1 p2).1) [(qx, .inr (5, f_Desk qc qo qr ((k_Desk_controlWord sx sc so shs sgs sy sr p1 p2).2.1))), (qc, .inr (1, f_Controls qo qhs qgs qy ((k_Desk_controlWord sx sc so shs sgs sy sr p1 p2).2.2.1))), (qo, .inr (3, f_Outside qa so)), (qhs, .inr (0, f_Bank ((k_Desk_controlWord sx sc so shs sgs sy sr p1 p2).2.2.2.1))), (qgs, .inr (0, f_Bank ((k_Desk_controlWord sx sc so shs sgs sy sr p1 p2).2.2.2.2.1))), (qy, .inr (2, f_Hyper ((k_Desk_controlWord sx sc so shs sgs sy sr p1 p2).2.2.2.2.2.1))), (qr, .inr (4, f_Registers ((k_Desk_controlWord sx sc so shs sgs sy sr p1 p2).2.2.2.2.2.2)))]) ([.ref qx, .int p1, .int p2] : List Value).toArray s 0 0 A) (F0 m 125 ls []) := by
    intro v3 v4 v5 v6 v7 v8 v9 v10 uc uhs ugs uy H locs ls hj hP hD hS hl
    refine lv_aload_n hx hb d_Desk_controlWord_125 rfl (lv_at hl 0 rfl) ?_
    refine va_get (D := G.1) (ci := 5) (v := .ref qr) (C := R_Desk) (T := T_Desk) (N := 8) hx hb hts (fun w h => gd_sub _ (iw_Desk w h)) hown hK hP 0 rfl rfl 2 (by decide) (hts _ (gd_sub _ q_207)) (fun _ h9 => h9) rfl d_Desk_controlWord_126 ?_
    refine lv_iload_n hx hb d_Desk_controlWord_129 rfl (lv_at hl 1 rfl) ?_
    refine ct_cSi (wr := [(qx, .inr (5, f_Desk qc qo qr sx)), (qc, .inr (1, f_Controls qo qhs qgs qy uc)), (qo, .inr (3, f_Outside qa so)), (qhs, .inr (0, f_Bank uhs)), (qgs, .inr (0, f_Bank ugs)), (qy, .inr (2, f_Hyper uy)), (qr, .inr (4, f_Registers sr))]) (w1 := []) (w2 := [(qx, .inr (5, f_Desk qc qo qr sx)), (qc, .inr (1, f_Controls qo qhs qgs qy uc)), (qo, .inr (3, f_Outside qa so)), (qhs, .inr (0, f_Bank uhs)), (qgs, .inr (0, f_Bank ugs)), (qy, .inr (2, f_Hyper uy)), (qr, .inr (4, f_Registers sr))]) (r := (k_Desk_fieldD p1)) (As := [.int p1]) (rest := [.ref qr]) ⟨hx, hb, hml, hown, hts⟩ (c_Desk_fieldD l G tys p1) (va_cwS 1 hts (gdS gd_gd q_407 q_408 q_41 q_409) rfl rfl rfl (by decide +kernel) ⟨Nat.le_of_ble_eq_true rfl, Nat.le_of_ble_eq_true rfl⟩) hE hK hP hD hS hA [] [0, 1, 2, 3, 4, 5, 6] [0, 1, 2, 3, 4, 5, 6] rfl (by decide) rfl (by decide) (by decide) rfl (by decide) rfl hl.1 rfl (Nat.le_of_ble_eq_true rfl) d_Desk_controlWord_130 ⟨Nat.zero_le _, Nat.zero_le _⟩ (fun H locs hP hD hS => ?_)
    refine lv_iload hx hb d_Desk_controlWord_133 (lv_at hl 10 rfl) ?_
    obtain ⟨sr_270, esr_270⟩ : ∃ z, z = (k_Registers_write sr (k_Desk_fieldD p1) v10) := ⟨_, rfl⟩
    have hM := c_Registers_write l G tys qr sr (k_Desk_fieldD p1) v10
    rw [← esr_270] at hM
    refine ct_cVv (wr := [(qx, .inr (5, f_Desk qc qo qr sx)), (qc, .inr (1, f_Controls qo qhs qgs qy uc)), (qo, .inr (3, f_Outside qa so)), (qhs, .inr (0, f_Bank uhs)), (qgs, .inr (0, f_Bank ugs)), (qy, .inr (2, f_Hyper uy))]) (w1 := [(qr, .inr (4, f_Registers sr_270))]) (w2 := [(qx, .inr (5, f_Desk qc qo qr sx)), (qc, .inr (1, f_Controls qo qhs qgs qy uc)), (qo, .inr (3, f_Outside qa so)), (qhs, .inr (0, f_Bank uhs)), (qgs, .inr (0, f_Bank ugs)), (qy, .inr (2, f_Hyper uy)), (qr, .inr (4, f_Registers sr_270))]) (As := [.int (k_Desk_fieldD p1), .int v10]) (rest := []) (ci := 4) (q0 := 0) ⟨hx, hb, hml, hown, hts⟩ hM (cwV 2 hts (gdV gd_gd q_387 q_388 q_389 q_46 q_390) rfl rfl rfl (by decide +kernel) ⟨Nat.le_of_ble_eq_true rfl, Nat.le_of_ble_eq_true rfl⟩) hE hK hP hD hS hA [6] [0, 1, 2, 3, 4, 5] [0, 1, 2, 3, 4, 5, 6] rfl (by decide) rfl (by decide) (by decide) rfl (by decide) rfl rfl rfl hl.1 rfl (Nat.le_of_ble_eq_true rfl) d_Desk_controlWord_135 ⟨Nat.zero_le _, Nat.zero_le _⟩ (fun H locs hP hD hS => ?_)
    refine lv_aload_n hx hb d_Desk_controlWord_138 rfl (lv_at hl 0 rfl) ?_
    obtain ⟨r_271, er_271⟩ : ∃ z, z = (k_Desk_goOn sx).1 := ⟨_, rfl⟩
    obtain ⟨sx_272, esx_272⟩ : ∃ z, z = (k_Desk_goOn sx).2 := ⟨_, rfl⟩
    have hM := c_Desk_goOn l G tys qx qc qo qr sx
    rw [← er_271, ← esx_272] at hM
    refine ct_cVi (wr := [(qc, .inr (1, f_Controls qo qhs qgs qy uc)), (qo, .inr (3, f_Outside qa so)), (qhs, .inr (0, f_Bank uhs)), (qgs, .inr (0, f_Bank ugs)), (qy, .inr (2, f_Hyper uy)), (qr, .inr (4, f_Registers sr_270))]) (w1 := [(qx, .inr (5, f_Desk qc qo qr sx_272))]) (w2 := [(qx, .inr (5, f_Desk qc qo qr sx_272)), (qc, .inr (1, f_Controls qo qhs qgs qy uc)), (qo, .inr (3, f_Outside qa so)), (qhs, .inr (0, f_Bank uhs)), (qgs, .inr (0, f_Bank ugs)), (qy, .inr (2, f_Hyper uy)), (qr, .inr (4, f_Registers sr_270))]) (r := r_271) (As := []) (rest := []) (ci := 5) (q0 := 0) ⟨hx, hb, hml, hown, hts⟩ hM (cwV 0 hts (gdV gd_gd q_426 q_428 q_4 q_41 q_429) rfl rfl rfl (by decide +kernel) ⟨Nat.le_of_ble_eq_true rfl, Nat.le_of_ble_eq_true rfl⟩) hE hK hP hD hS hA [0] [1, 2, 3, 4, 5, 6] [6, 0, 1, 2, 3, 4, 5] rfl (by decide) rfl (by decide) (by decide) rfl (by decide) rfl rfl rfl hl.1 rfl (Nat.le_of_ble_eq_true rfl) d_Desk_controlWord_139 ⟨Nat.zero_le _, Nat.zero_le _⟩ (fun H locs hP hD hS => ?_)
    have hk : k_Desk_controlWord sx sc so shs sgs sy sr p1 p2 = (r_271, sx_272, uc, uhs, ugs, uy, sr_270) := (hj.trans (by rw [k_Desk_controlWord_j125]; try rw [← esr_270]; try rw [← er_271]; try rw [← esx_272]; try rfl))
    exact ct_ri hx hb hr hlocks hP hD hK hS d_Desk_controlWord_142 (by rw [hk]; first | done | rfl) (by rw [hk]; first | done | rfl)
  have J89 : ∀ (v3 : Int32) (v4 : Int32) (v5 : Int32) (v6 : Bool) (v7 : Int32) (v8 : Int32) (t0 : Int32) (H : Heap) (locs : List Loc) (ls : Array Slot), k_Desk_controlWord sx sc so shs sgs sy sr p1 p2 = k_Desk_controlWord_j89 sx sc so shs sgs sy sr p1 p2 v3 v4 v5 v6 v7 v8 t0 → va_P G.1 vwCl [(qx, .inr (5, f_Desk qc qo qr sx)), (qc, .inr (1, f_Controls qo qhs qgs qy sc)), (qo, .inr (3, f_Outside qa so)), (qhs, .inr (0, f_Bank shs)), (qgs, .inr (0, f_Bank sgs)), (qy, .inr (2, f_Hyper sy)), (qr, .inr (4, f_Registers sr))] H → va_D A [(qx, .inr (5, f_Desk qc qo qr sx)), (qc, .inr (1, f_Controls qo qhs qgs qy sc)), (qo, .inr (3, f_Outside qa so)), (qhs, .inr (0, f_Bank shs)), (qgs, .inr (0, f_Bank sgs)), (qy, .inr (2, f_Hyper sy)), (qr, .inr (4, f_Registers sr))] → va_S A s.heap H locs → lv_has ls 11 [(0, .ref qx), (1, .int p1), (2, .int p2), (3, .int v3), (4, .int v4), (5, .int v5), (6, .int (bI v6)), (7, .int v7), (8, .int v8)] → W p l e ({ frames := 5, cells := 0, slots := 0, locals := 104 }) s m ([.ref qx, .int p1, .int p2] : List Value).toArray below meth c H locs 0 0 (MQ below (ct_qi G tys A ((k_Desk_controlWord sx sc so shs sgs sy sr p1 p2).1) [(qx, .inr (5, f_Desk qc qo qr ((k_Desk_controlWord sx sc so shs sgs sy sr p1 p2).2.1))), (qc, .inr (1, f_Controls qo qhs qgs qy ((k_Desk_controlWord sx sc so shs sgs sy sr p1 p2).2.2.1))), (qo, .inr (3, f_Outside qa so)), (qhs, .inr (0, f_Bank ((k_Desk_controlWord sx sc so shs sgs sy sr p1 p2).2.2.2.1))), (qgs, .inr (0, f_Bank ((k_Desk_controlWord sx sc so shs sgs sy sr p1 p2).2.2.2.2.1))), (qy, .inr (2, f_Hyper ((k_Desk_controlWord sx sc so shs sgs sy sr p1 p2).2.2.2.2.2.1))), (qr, .inr (4, f_Registers ((k_Desk_controlWord sx sc so shs sgs sy sr p1 p2).2.2.2.2.2.2)))]) ([.ref qx, .int p1, .int p2] : List Value).toArray s 0 0 A) (F0 m 89 ls [.int t0]) := by
    intro v3 v4 v5 v6 v7 v8 t0 H locs ls hj hP hD hS hl
    refine lv_istore (lv' := [(9, .int t0), (0, .ref qx), (1, .int p1), (2, .int p2), (3, .int v3), (4, .int v4), (5, .int v5), (6, .int (bI v6)), (7, .int v7), (8, .int v8)]) hx hb d_Desk_controlWord_89 hl (by decide) rfl (fun ls hl => ?_)
    refine lv_aload_n hx hb d_Desk_controlWord_91 rfl (lv_at hl 1 rfl) ?_
    refine va_get (D := G.1) (ci := 5) (v := .ref qc) (C := R_Desk) (T := T_Desk) (N := 8) hx hb hts (fun w h => gd_sub _ (iw_Desk w h)) hown hK hP 0 rfl rfl 0 (by decide) (hts _ (gd_sub _ q_205)) (fun _ h9 => h9) rfl d_Desk_controlWord_92 ?_
    refine lv_iload hx hb d_Desk_controlWord_95 (lv_at hl 9 rfl) ?_
    refine ct_cVi (wr := [(qx, .inr (5, f_Desk qc qo qr sx)), (qr, .inr (4, f_Registers sr))]) (w1 := [(qc, .inr (1, f_Controls qo qhs qgs qy sc)), (qo, .inr (3, f_Outside qa so)), (qhs, .inr (0, f_Bank shs)), (qgs, .inr (0, f_Bank sgs)), (qy, .inr (2, f_Hyper sy))]) (w2 := [(qx, .inr (5, f_Desk qc qo qr sx)), (qc, .inr (1, f_Controls qo qhs qgs qy sc)), (qo, .inr (3, f_Outside qa so)), (qhs, .inr (0, f_Bank shs)), (qgs, .inr (0, f_Bank sgs)), (qy, .inr (2, f_Hyper sy)), (qr, .inr (4, f_Registers sr))]) (r := (k_Controls_read sc so shs sgs sy v8)) (As := [.int v8]) (rest := []) (ci := 1) (q0 := 0) ⟨hx, hb, hml, hown, hts⟩ (c_Controls_read l G tys qc qo qhs qgs qy qa sc so shs sgs sy v8) (cwV 1 hts (gdV gd_gd q_334 q_335 q_336 q_42 q_337) rfl rfl rfl (by decide +kernel) ⟨Nat.le_of_ble_eq_true rfl, Nat.le_of_ble_eq_true rfl⟩) hE hK hP hD hS hA [1, 2, 3, 4, 5] [0, 6] [0, 2, 3, 4, 5, 6, 1] rfl (by decide) rfl (by decide) (by decide) rfl (by decide) rfl rfl rfl hl.1 rfl (Nat.le_of_ble_eq_true rfl) d_Desk_controlWord_97 ⟨Nat.zero_le _, Nat.zero_le _⟩ (fun H locs hP hD hS => ?_)
    refine lv_istore (lv' := [(10, .int (k_Controls_read sc so shs sgs sy v8)), (9, .int t0), (0, .ref qx), (1, .int p1), (2, .int p2), (3, .int v3), (4, .int v4), (5, .int v5), (6, .int (bI v6)), (7, .int v7), (8, .int v8)]) hx hb d_Desk_controlWord_100 hl (by decide) rfl (fun ls hl => ?_)
    refine lv_iload hx hb d_Desk_controlWord_102 (lv_at hl 8 rfl) ?_
    refine lv_if_eq (tgt := 125) hx hb d_Desk_controlWord_104 (by decide) (fun c_273 => ?_) (fun c_273 => ?_)
    · exact J125 v3 v4 v5 v6 v7 v8 t0 (k_Controls_read sc so shs sgs sy v8) sc shs sgs sy H locs ls (hj.trans (by rw [k_Desk_controlWord_j89]; rw [if_pos c_273]; try rfl)) hP hD hS (lv_sub hl [2, 3, 4, 5, 6, 7, 8, 9, 10, 1, 0] rfl)
    · refine lv_aload_n hx hb d_Desk_controlWord_107 rfl (lv_at hl 2 rfl) ?_
      refine va_get (D := G.1) (ci := 5) (v := .ref qc) (C := R_Desk) (T := T_Desk) (N := 8) hx hb hts (fun w h => gd_sub _ (iw_Desk w h)) hown hK hP 0 rfl rfl 0 (by decide) (hts _ (gd_sub _ q_205)) (fun _ h9 => h9) rfl d_Desk_controlWord_108 ?_
      refine lv_iload hx hb d_Desk_controlWord_111 (lv_at hl 10 rfl) ?_
      refine lv_iload hx hb d_Desk_controlWord_113 (lv_at hl 7 rfl) ?_
      refine lv_iload hx hb d_Desk_controlWord_115 (lv_at hl 0 rfl) ?_
      refine lv_iload hx hb d_Desk_controlWord_117 (lv_at hl 1 rfl) ?_
      refine ct_cSi (wr := [(qx, .inr (5, f_Desk qc qo qr sx)), (qc, .inr (1, f_Controls qo qhs qgs qy sc)), (qo, .inr (3, f_Outside qa so)), (qhs, .inr (0, f_Bank shs)), (qgs, .inr (0, f_Bank sgs)), (qy, .inr (2, f_Hyper sy)), (qr, .inr (4, f_Registers sr))]) (w1 := []) (w2 := [(qx, .inr (5, f_Desk qc qo qr sx)), (qc, .inr (1, f_Controls qo qhs qgs qy sc)), (qo, .inr (3, f_Outside qa so)), (qhs, .inr (0, f_Bank shs)), (qgs, .inr (0, f_Bank sgs)), (qy, .inr (2, f_Hyper sy)), (qr, .inr (4, f_Registers sr))]) (r := (k_Desk_combined v5 (k_Controls_read sc so shs sgs sy v8) t0)) (As := [.int v5, .int (k_Controls_read sc so shs sgs sy v8), .int t0]) (rest := [.int v8, .ref qc]) ⟨hx, hb, hml, hown, hts⟩ (c_Desk_combined l G tys v5 (k_Controls_read sc so shs sgs sy v8) t0) (va_cwS 3 hts (gdS gd_gd q_503 q_504 q_41 q_505) rfl rfl rfl (by decide +kernel) ⟨Nat.le_of_ble_eq_true rfl, Nat.le_of_ble_eq_true rfl⟩) hE hK hP hD hS hA [] [0, 1, 2, 3, 4, 5, 6] [0, 1, 2, 3, 4, 5, 6] rfl (by decide) rfl (by decide) (by decide) rfl (by decide) rfl hl.1 rfl (Nat.le_of_ble_eq_true rfl) d_Desk_controlWord_119 ⟨Nat.zero_le _, Nat.zero_le _⟩ (fun H locs hP hD hS => ?_)
      obtain ⟨sc_274, esc_274⟩ : ∃ z, z = (k_Controls_write sc shs sgs sy v8 (k_Desk_combined v5 (k_Controls_read sc so shs sgs sy v8) t0)).1 := ⟨_, rfl⟩
      obtain ⟨shs_275, eshs_275⟩ : ∃ z, z = (k_Controls_write sc shs sgs sy v8 (k_Desk_combined v5 (k_Controls_read sc so shs sgs sy v8) t0)).2.1 := ⟨_, rfl⟩
      obtain ⟨sgs_276, esgs_276⟩ : ∃ z, z = (k_Controls_write sc shs sgs sy v8 (k_Desk_combined v5 (k_Controls_read sc so shs sgs sy v8) t0)).2.2.1 := ⟨_, rfl⟩
      obtain ⟨sy_277, esy_277⟩ : ∃ z, z = (k_Controls_write sc shs sgs sy v8 (k_Desk_combined v5 (k_Controls_read sc so shs sgs sy v8) t0)).2.2.2 := ⟨_, rfl⟩
      have hM := c_Controls_write l G tys qc qhs qgs qy qo sc shs sgs sy v8 (k_Desk_combined v5 (k_Controls_read sc so shs sgs sy v8) t0)
      rw [← esc_274, ← eshs_275, ← esgs_276, ← esy_277] at hM
      refine ct_cVv (wr := [(qx, .inr (5, f_Desk qc qo qr sx)), (qo, .inr (3, f_Outside qa so)), (qr, .inr (4, f_Registers sr))]) (w1 := [(qc, .inr (1, f_Controls qo qhs qgs qy sc_274)), (qhs, .inr (0, f_Bank shs_275)), (qgs, .inr (0, f_Bank sgs_276)), (qy, .inr (2, f_Hyper sy_277))]) (w2 := [(qx, .inr (5, f_Desk qc qo qr sx)), (qc, .inr (1, f_Controls qo qhs qgs qy sc_274)), (qo, .inr (3, f_Outside qa so)), (qhs, .inr (0, f_Bank shs_275)), (qgs, .inr (0, f_Bank sgs_276)), (qy, .inr (2, f_Hyper sy_277)), (qr, .inr (4, f_Registers sr))]) (As := [.int v8, .int (k_Desk_combined v5 (k_Controls_read sc so shs sgs sy v8) t0)]) (rest := []) (ci := 1) (q0 := 0) ⟨hx, hb, hml, hown, hts⟩ hM (cwV 2 hts (gdV gd_gd q_291 q_292 q_293 q_42 q_294) rfl rfl rfl (by decide +kernel) ⟨Nat.le_of_ble_eq_true rfl, Nat.le_of_ble_eq_true rfl⟩) hE hK hP hD hS hA [1, 3, 4, 5] [0, 2, 6] [0, 3, 1, 4, 5, 6, 2] rfl (by decide) rfl (by decide) (by decide) rfl (by decide) rfl rfl rfl hl.1 rfl (Nat.le_of_ble_eq_true rfl) d_Desk_controlWord_122 ⟨Nat.zero_le _, Nat.zero_le _⟩ (fun H locs hP hD hS => ?_)
      exact J125 v3 v4 v5 v6 v7 v8 t0 (k_Controls_read sc so shs sgs sy v8) sc_274 shs_275 sgs_276 sy_277 H locs ls (hj.trans (by rw [k_Desk_controlWord_j89]; rw [if_neg c_273]; try rw [← esc_274]; try rw [← eshs_275]; try rw [← esgs_276]; try rw [← esy_277]; try rfl)) hP hD hS (lv_sub hl [2, 3, 4, 5, 6, 7, 8, 9, 10, 1, 0] rfl)
  have J68 : ∀ (v3 : Int32) (v4 : Int32) (v5 : Int32) (v6 : Bool) (v7 : Int32) (t0 : Int32) (H : Heap) (locs : List Loc) (ls : Array Slot), k_Desk_controlWord sx sc so shs sgs sy sr p1 p2 = k_Desk_controlWord_j68 sx sc so shs sgs sy sr p1 p2 v3 v4 v5 v6 v7 t0 → va_P G.1 vwCl [(qx, .inr (5, f_Desk qc qo qr sx)), (qc, .inr (1, f_Controls qo qhs qgs qy sc)), (qo, .inr (3, f_Outside qa so)), (qhs, .inr (0, f_Bank shs)), (qgs, .inr (0, f_Bank sgs)), (qy, .inr (2, f_Hyper sy)), (qr, .inr (4, f_Registers sr))] H → va_D A [(qx, .inr (5, f_Desk qc qo qr sx)), (qc, .inr (1, f_Controls qo qhs qgs qy sc)), (qo, .inr (3, f_Outside qa so)), (qhs, .inr (0, f_Bank shs)), (qgs, .inr (0, f_Bank sgs)), (qy, .inr (2, f_Hyper sy)), (qr, .inr (4, f_Registers sr))] → va_S A s.heap H locs → lv_has ls 11 [(0, .ref qx), (1, .int p1), (2, .int p2), (3, .int v3), (4, .int v4), (5, .int v5), (6, .int (bI v6)), (7, .int v7)] → W p l e ({ frames := 5, cells := 0, slots := 0, locals := 104 }) s m ([.ref qx, .int p1, .int p2] : List Value).toArray below meth c H locs 0 0 (MQ below (ct_qi G tys A ((k_Desk_controlWord sx sc so shs sgs sy sr p1 p2).1) [(qx, .inr (5, f_Desk qc qo qr ((k_Desk_controlWord sx sc so shs sgs sy sr p1 p2).2.1))), (qc, .inr (1, f_Controls qo qhs qgs qy ((k_Desk_controlWord sx sc so shs sgs sy sr p1 p2).2.2.1))), (qo, .inr (3, f_Outside qa so)), (qhs, .inr (0, f_Bank ((k_Desk_controlWord sx sc so shs sgs sy sr p1 p2).2.2.2.1))), (qgs, .inr (0, f_Bank ((k_Desk_controlWord sx sc so shs sgs sy sr p1 p2).2.2.2.2.1))), (qy, .inr (2, f_Hyper ((k_Desk_controlWord sx sc so shs sgs sy sr p1 p2).2.2.2.2.2.1))), (qr, .inr (4, f_Registers ((k_Desk_controlWord sx sc so shs sgs sy sr p1 p2).2.2.2.2.2.2)))]) ([.ref qx, .int p1, .int p2] : List Value).toArray s 0 0 A) (F0 m 68 ls [.int t0]) := by
    intro v3 v4 v5 v6 v7 t0 H locs ls hj hP hD hS hl
    refine lv_istore (lv' := [(8, .int t0), (0, .ref qx), (1, .int p1), (2, .int p2), (3, .int v3), (4, .int v4), (5, .int v5), (6, .int (bI v6)), (7, .int v7)]) hx hb d_Desk_controlWord_68 hl (by decide) rfl (fun ls hl => ?_)
    refine lv_iload_n hx hb d_Desk_controlWord_70 rfl (lv_at hl 3 rfl) ?_
    refine lv_iconst (v := 4) hx hb d_Desk_controlWord_71 (by decide) ?_
    refine lv_icmp_le (tgt := 80) hx hb d_Desk_controlWord_72 (by decide) (fun c_278 => ?_) (fun c_278 => ?_)
    · refine lv_aload_n hx hb d_Desk_controlWord_80 rfl (lv_at hl 1 rfl) ?_
      refine va_get (D := G.1) (ci := 5) (v := .ref qr) (C := R_Desk) (T := T_Desk) (N := 8) hx hb hts (fun w h => gd_sub _ (iw_Desk w h)) hown hK hP 0 rfl rfl 2 (by decide) (hts _ (gd_sub _ q_207)) (fun _ h9 => h9) rfl d_Desk_controlWord_81 ?_
      refine lv_iload hx hb d_Desk_controlWord_84 (lv_at hl 5 rfl) ?_
      refine ct_cVi (wr := [(qx, .inr (5, f_Desk qc qo qr sx)), (qc, .inr (1, f_Controls qo qhs qgs qy sc)), (qo, .inr (3, f_Outside qa so)), (qhs, .inr (0, f_Bank shs)), (qgs, .inr (0, f_Bank sgs)), (qy, .inr (2, f_Hyper sy))]) (w1 := [(qr, .inr (4, f_Registers sr))]) (w2 := [(qx, .inr (5, f_Desk qc qo qr sx)), (qc, .inr (1, f_Controls qo qhs qgs qy sc)), (qo, .inr (3, f_Outside qa so)), (qhs, .inr (0, f_Bank shs)), (qgs, .inr (0, f_Bank sgs)), (qy, .inr (2, f_Hyper sy)), (qr, .inr (4, f_Registers sr))]) (r := (k_Registers_read sr v4)) (As := [.int v4]) (rest := []) (ci := 4) (q0 := 0) ⟨hx, hb, hml, hown, hts⟩ (c_Registers_read l G tys qr sr v4) (cwV 1 hts (gdV gd_gd q_383 q_384 q_385 q_46 q_386) rfl rfl rfl (by decide +kernel) ⟨Nat.le_of_ble_eq_true rfl, Nat.le_of_ble_eq_true rfl⟩) hE hK hP hD hS hA [6] [0, 1, 2, 3, 4, 5] [0, 1, 2, 3, 4, 5, 6] rfl (by decide) rfl (by decide) (by decide) rfl (by decide) rfl rfl rfl hl.1 rfl (Nat.le_of_ble_eq_true rfl) d_Desk_controlWord_86 ⟨Nat.zero_le _, Nat.zero_le _⟩ (fun H locs hP hD hS => ?_)
      exact J89 v3 v4 v5 v6 v7 t0 (k_Registers_read sr v4) H locs ls (hj.trans (by rw [k_Desk_controlWord_j68]; rw [if_pos c_278]; try rfl)) hP hD hS (lv_sub hl [1, 2, 3, 4, 5, 6, 7, 8, 0] rfl)
    · refine lv_iload hx hb d_Desk_controlWord_75 (lv_at hl 5 rfl) ?_
      refine lv_goto (tgt := 89) hx hb d_Desk_controlWord_77 (by decide) ?_
      exact J89 v3 v4 v5 v6 v7 t0 v4 H locs ls (hj.trans (by rw [k_Desk_controlWord_j68]; rw [if_neg c_278]; try rfl)) hP hD hS (lv_sub hl [1, 2, 3, 4, 5, 6, 7, 8, 0] rfl)
  have J32 : ∀ (v3 : Int32) (v4 : Int32) (v5 : Int32) (t0 : Bool) (H : Heap) (locs : List Loc) (ls : Array Slot), k_Desk_controlWord sx sc so shs sgs sy sr p1 p2 = k_Desk_controlWord_j32 sx sc so shs sgs sy sr p1 p2 v3 v4 v5 t0 → va_P G.1 vwCl [(qx, .inr (5, f_Desk qc qo qr sx)), (qc, .inr (1, f_Controls qo qhs qgs qy sc)), (qo, .inr (3, f_Outside qa so)), (qhs, .inr (0, f_Bank shs)), (qgs, .inr (0, f_Bank sgs)), (qy, .inr (2, f_Hyper sy)), (qr, .inr (4, f_Registers sr))] H → va_D A [(qx, .inr (5, f_Desk qc qo qr sx)), (qc, .inr (1, f_Controls qo qhs qgs qy sc)), (qo, .inr (3, f_Outside qa so)), (qhs, .inr (0, f_Bank shs)), (qgs, .inr (0, f_Bank sgs)), (qy, .inr (2, f_Hyper sy)), (qr, .inr (4, f_Registers sr))] → va_S A s.heap H locs → lv_has ls 11 [(0, .ref qx), (1, .int p1), (2, .int p2), (3, .int v3), (4, .int v4), (5, .int v5)] → W p l e ({ frames := 5, cells := 0, slots := 0, locals := 104 }) s m ([.ref qx, .int p1, .int p2] : List Value).toArray below meth c H locs 0 0 (MQ below (ct_qi G tys A ((k_Desk_controlWord sx sc so shs sgs sy sr p1 p2).1) [(qx, .inr (5, f_Desk qc qo qr ((k_Desk_controlWord sx sc so shs sgs sy sr p1 p2).2.1))), (qc, .inr (1, f_Controls qo qhs qgs qy ((k_Desk_controlWord sx sc so shs sgs sy sr p1 p2).2.2.1))), (qo, .inr (3, f_Outside qa so)), (qhs, .inr (0, f_Bank ((k_Desk_controlWord sx sc so shs sgs sy sr p1 p2).2.2.2.1))), (qgs, .inr (0, f_Bank ((k_Desk_controlWord sx sc so shs sgs sy sr p1 p2).2.2.2.2.1))), (qy, .inr (2, f_Hyper ((k_Desk_controlWord sx sc so shs sgs sy sr p1 p2).2.2.2.2.2.1))), (qr, .inr (4, f_Registers ((k_Desk_controlWord sx sc so shs sgs sy sr p1 p2).2.2.2.2.2.2)))]) ([.ref qx, .int p1, .int p2] : List Value).toArray s 0 0 A) (F0 m 32 ls [.int (bI t0)]) := by
    intro v3 v4 v5 t0 H locs ls hj hP hD hS hl
    refine lv_istore (lv' := [(6, .int (bI t0)), (0, .ref qx), (1, .int p1), (2, .int p2), (3, .int v3), (4, .int v4), (5, .int v5)]) hx hb d_Desk_controlWord_32 hl (by decide) rfl (fun ls hl => ?_)
    refine lv_aload_n hx hb d_Desk_controlWord_34 rfl (lv_at hl 1 rfl) ?_
    refine lv_iload_n hx hb d_Desk_controlWord_35 rfl (lv_at hl 4 rfl) ?_
    refine lv_iload hx hb d_Desk_controlWord_36 (lv_at hl 0 rfl) ?_
    refine ct_cVi (wr := [(qo, .inr (3, f_Outside qa so)), (qhs, .inr (0, f_Bank shs)), (qgs, .inr (0, f_Bank sgs)), (qr, .inr (4, f_Registers sr))]) (w1 := [(qx, .inr (5, f_Desk qc qo qr sx)), (qc, .inr (1, f_Controls qo qhs qgs qy sc)), (qy, .inr (2, f_Hyper sy))]) (w2 := [(qx, .inr (5, f_Desk qc qo qr sx)), (qc, .inr (1, f_Controls qo qhs qgs qy sc)), (qo, .inr (3, f_Outside qa so)), (qhs, .inr (0, f_Bank shs)), (qgs, .inr (0, f_Bank sgs)), (qy, .inr (2, f_Hyper sy)), (qr, .inr (4, f_Registers sr))]) (r := (k_Desk_refusalOfAccess sx sc sy v3 t0)) (As := [.int v3, .int (bI t0)]) (rest := []) (ci := 5) (q0 := 0) ⟨hx, hb, hml, hown, hts⟩ (c_Desk_refusalOfAccess l G tys qx qc qy qo qr qhs qgs sx sc sy v3 t0) (cwV 2 hts (gdV gd_gd q_491 q_493 q_12 q_41 q_494) rfl rfl rfl (by decide +kernel) ⟨Nat.le_of_ble_eq_true rfl, Nat.le_of_ble_eq_true rfl⟩) hE hK hP hD hS hA [0, 1, 5] [2, 3, 4, 6] [4, 5, 0, 1, 2, 6, 3] rfl (by decide) rfl (by decide) (by decide) rfl (by decide) rfl rfl rfl hl.1 rfl (Nat.le_of_ble_eq_true rfl) d_Desk_controlWord_38 ⟨Nat.zero_le _, Nat.zero_le _⟩ (fun H locs hP hD hS => ?_)
    refine lv_istore (lv' := [(7, .int (k_Desk_refusalOfAccess sx sc sy v3 t0)), (6, .int (bI t0)), (0, .ref qx), (1, .int p1), (2, .int p2), (3, .int v3), (4, .int v4), (5, .int v5)]) hx hb d_Desk_controlWord_41 hl (by decide) rfl (fun ls hl => ?_)
    refine lv_iload hx hb d_Desk_controlWord_43 (lv_at hl 0 rfl) ?_
    refine lv_iconst (v := (-1)) hx hb d_Desk_controlWord_45 (by decide) ?_
    refine lv_icmp_eq (tgt := 52) hx hb d_Desk_controlWord_46 (by decide) (fun c_279 => ?_) (fun c_279 => ?_)
    · refine lv_aload_n hx hb d_Desk_controlWord_52 rfl (lv_at hl 2 rfl) ?_
      refine va_get (D := G.1) (ci := 5) (v := .int (sx.1 3)) (C := R_Desk) (T := T_Desk) (N := 8) hx hb hts (fun w h => gd_sub _ (iw_Desk w h)) hown hK hP 0 rfl rfl 3 (by decide) (hts _ (gd_sub _ q_208)) (fun _ h9 => h9) rfl d_Desk_controlWord_53 ?_
      refine lv_iconst (v := 3) hx hb d_Desk_controlWord_56 (by decide) ?_
      refine lv_icmp_ne (tgt := 67) hx hb d_Desk_controlWord_57 (by decide) (fun c_280 => ?_) (fun c_280 => ?_)
      · refine lv_iload_n hx hb d_Desk_controlWord_67 rfl (lv_at hl 5 rfl) ?_
        exact J68 v3 v4 v5 t0 (k_Desk_refusalOfAccess sx sc sy v3 t0) v3 H locs ls (hj.trans (by rw [k_Desk_controlWord_j32]; rw [if_pos c_279]; rw [if_neg c_280]; try rfl)) hP hD hS (lv_sub hl [2, 3, 4, 5, 6, 7, 1, 0] rfl)
      · refine lv_iload_n hx hb d_Desk_controlWord_60 rfl (lv_at hl 5 rfl) ?_
        refine ct_cSi (wr := [(qx, .inr (5, f_Desk qc qo qr sx)), (qc, .inr (1, f_Controls qo qhs qgs qy sc)), (qo, .inr (3, f_Outside qa so)), (qhs, .inr (0, f_Bank shs)), (qgs, .inr (0, f_Bank sgs)), (qy, .inr (2, f_Hyper sy)), (qr, .inr (4, f_Registers sr))]) (w1 := []) (w2 := [(qx, .inr (5, f_Desk qc qo qr sx)), (qc, .inr (1, f_Controls qo qhs qgs qy sc)), (qo, .inr (3, f_Outside qa so)), (qhs, .inr (0, f_Bank shs)), (qgs, .inr (0, f_Bank sgs)), (qy, .inr (2, f_Hyper sy)), (qr, .inr (4, f_Registers sr))]) (r := (k_Numbers_inVs v3)) (As := [.int v3]) (rest := []) ⟨hx, hb, hml, hown, hts⟩ (c_Numbers_inVs l G tys v3) (va_cwS 1 hts (gdS gd_gd q_500 q_501 q_48 q_502) rfl rfl rfl (by decide +kernel) ⟨Nat.le_of_ble_eq_true rfl, Nat.le_of_ble_eq_true rfl⟩) hE hK hP hD hS hA [] [0, 1, 2, 3, 4, 5, 6] [0, 1, 2, 3, 4, 5, 6] rfl (by decide) rfl (by decide) (by decide) rfl (by decide) rfl hl.1 rfl (Nat.le_of_ble_eq_true rfl) d_Desk_controlWord_61 ⟨Nat.zero_le _, Nat.zero_le _⟩ (fun H locs hP hD hS => ?_)
        refine lv_goto (tgt := 68) hx hb d_Desk_controlWord_64 (by decide) ?_
        exact J68 v3 v4 v5 t0 (k_Desk_refusalOfAccess sx sc sy v3 t0) (k_Numbers_inVs v3) H locs ls (hj.trans (by rw [k_Desk_controlWord_j32]; rw [if_pos c_279]; rw [if_pos c_280]; try rfl)) hP hD hS (lv_sub hl [2, 3, 4, 5, 6, 7, 1, 0] rfl)
    · refine lv_iload hx hb d_Desk_controlWord_49 (lv_at hl 0 rfl) ?_
      have hk : k_Desk_controlWord sx sc so shs sgs sy sr p1 p2 = ((k_Desk_refusalOfAccess sx sc sy v3 t0), sx, sc, shs, sgs, sy, sr) := (hj.trans (by rw [k_Desk_controlWord_j32]; rw [if_neg c_279]; try rfl))
      exact ct_ri hx hb hr hlocks hP hD hK hS d_Desk_controlWord_51 (by rw [hk]; first | done | rfl) (by rw [hk]; first | done | rfl)
  have J27 : ∀ (v3 : Int32) (v4 : Int32) (v5 : Int32) (H : Heap) (locs : List Loc) (ls : Array Slot), k_Desk_controlWord sx sc so shs sgs sy sr p1 p2 = k_Desk_controlWord_j27 sx sc so shs sgs sy sr p1 p2 v3 v4 v5 → va_P G.1 vwCl [(qx, .inr (5, f_Desk qc qo qr sx)), (qc, .inr (1, f_Controls qo qhs qgs qy sc)), (qo, .inr (3, f_Outside qa so)), (qhs, .inr (0, f_Bank shs)), (qgs, .inr (0, f_Bank sgs)), (qy, .inr (2, f_Hyper sy)), (qr, .inr (4, f_Registers sr))] H → va_D A [(qx, .inr (5, f_Desk qc qo qr sx)), (qc, .inr (1, f_Controls qo qhs qgs qy sc)), (qo, .inr (3, f_Outside qa so)), (qhs, .inr (0, f_Bank shs)), (qgs, .inr (0, f_Bank sgs)), (qy, .inr (2, f_Hyper sy)), (qr, .inr (4, f_Registers sr))] → va_S A s.heap H locs → lv_has ls 11 [(0, .ref qx), (1, .int p1), (2, .int p2), (3, .int v3), (4, .int v4), (5, .int v5)] → W p l e ({ frames := 5, cells := 0, slots := 0, locals := 104 }) s m ([.ref qx, .int p1, .int p2] : List Value).toArray below meth c H locs 0 0 (MQ below (ct_qi G tys A ((k_Desk_controlWord sx sc so shs sgs sy sr p1 p2).1) [(qx, .inr (5, f_Desk qc qo qr ((k_Desk_controlWord sx sc so shs sgs sy sr p1 p2).2.1))), (qc, .inr (1, f_Controls qo qhs qgs qy ((k_Desk_controlWord sx sc so shs sgs sy sr p1 p2).2.2.1))), (qo, .inr (3, f_Outside qa so)), (qhs, .inr (0, f_Bank ((k_Desk_controlWord sx sc so shs sgs sy sr p1 p2).2.2.2.1))), (qgs, .inr (0, f_Bank ((k_Desk_controlWord sx sc so shs sgs sy sr p1 p2).2.2.2.2.1))), (qy, .inr (2, f_Hyper ((k_Desk_controlWord sx sc so shs sgs sy sr p1 p2).2.2.2.2.2.1))), (qr, .inr (4, f_Registers ((k_Desk_controlWord sx sc so shs sgs sy sr p1 p2).2.2.2.2.2.2)))]) ([.ref qx, .int p1, .int p2] : List Value).toArray s 0 0 A) (F0 m 27 ls []) := by
    intro v3 v4 v5 H locs ls hj hP hD hS hl
    refine lv_iconst (v := 1) hx hb d_Desk_controlWord_27 (by decide) ?_
    refine lv_goto (tgt := 32) hx hb d_Desk_controlWord_28 (by decide) ?_
    exact J32 v3 v4 v5 true H locs ls (hj.trans (by rw [k_Desk_controlWord_j27]; try rfl)) hP hD hS (lv_sub hl [0, 1, 2, 3, 4, 5] rfl)
  obtain ⟨H, eH⟩ : ∃ z, z = s.heap := ⟨_, rfl⟩
  obtain ⟨locs, eL⟩ : ∃ z, z = ([] : List Loc) := ⟨_, rfl⟩
  have hP : va_P G.1 vwCl [(qx, .inr (5, f_Desk qc qo qr sx)), (qc, .inr (1, f_Controls qo qhs qgs qy sc)), (qo, .inr (3, f_Outside qa so)), (qhs, .inr (0, f_Bank shs)), (qgs, .inr (0, f_Bank sgs)), (qy, .inr (2, f_Hyper sy)), (qr, .inr (4, f_Registers sr))] H := by rw [eH]; exact hP
  have hS : va_S A s.heap H locs := by rw [eH, eL]; exact hS
  suffices hW : W p l e ({ frames := 5, cells := 0, slots := 0, locals := 104 }) s m ([.ref qx, .int p1, .int p2] : List Value).toArray below meth c H locs 0 0 (MQ below (ct_qi G tys A ((k_Desk_controlWord sx sc so shs sgs sy sr p1 p2).1) [(qx, .inr (5, f_Desk qc qo qr ((k_Desk_controlWord sx sc so shs sgs sy sr p1 p2).2.1))), (qc, .inr (1, f_Controls qo qhs qgs qy ((k_Desk_controlWord sx sc so shs sgs sy sr p1 p2).2.2.1))), (qo, .inr (3, f_Outside qa so)), (qhs, .inr (0, f_Bank ((k_Desk_controlWord sx sc so shs sgs sy sr p1 p2).2.2.2.1))), (qgs, .inr (0, f_Bank ((k_Desk_controlWord sx sc so shs sgs sy sr p1 p2).2.2.2.2.1))), (qy, .inr (2, f_Hyper ((k_Desk_controlWord sx sc so shs sgs sy sr p1 p2).2.2.2.2.2.1))), (qr, .inr (4, f_Registers ((k_Desk_controlWord sx sc so shs sgs sy sr p1 p2).2.2.2.2.2.2)))]) ([.ref qx, .int p1, .int p2] : List Value).toArray s 0 0 A) (F0 m 0 ls []) by rw [eH, eL] at hW; exact hW
  refine lv_iload_n hx hb d_Desk_controlWord_0 rfl (lv_at hl 1 rfl) ?_
  refine lv_bipush (v := 20) hx hb d_Desk_controlWord_1 (by decide) ?_
  refine lv_iushr (v := (ush p1 20)) hx hb d_Desk_controlWord_3 rfl ?_
  refine lv_istore_n (lv' := [(3, .int (ush p1 20)), (0, .ref qx), (1, .int p1), (2, .int p2)]) hx hb d_Desk_controlWord_4 rfl hl (by decide) rfl (fun ls hl => ?_)
  refine lv_iload_n hx hb d_Desk_controlWord_5 rfl (lv_at hl 2 rfl) ?_
  refine ct_cSi (wr := [(qx, .inr (5, f_Desk qc qo qr sx)), (qc, .inr (1, f_Controls qo qhs qgs qy sc)), (qo, .inr (3, f_Outside qa so)), (qhs, .inr (0, f_Bank shs)), (qgs, .inr (0, f_Bank sgs)), (qy, .inr (2, f_Hyper sy)), (qr, .inr (4, f_Registers sr))]) (w1 := []) (w2 := [(qx, .inr (5, f_Desk qc qo qr sx)), (qc, .inr (1, f_Controls qo qhs qgs qy sc)), (qo, .inr (3, f_Outside qa so)), (qhs, .inr (0, f_Bank shs)), (qgs, .inr (0, f_Bank sgs)), (qy, .inr (2, f_Hyper sy)), (qr, .inr (4, f_Registers sr))]) (r := (k_Desk_fieldA p1)) (As := [.int p1]) (rest := []) ⟨hx, hb, hml, hown, hts⟩ (c_Desk_fieldA l G tys p1) (va_cwS 1 hts (gdS gd_gd q_442 q_443 q_41 q_444) rfl rfl rfl (by decide +kernel) ⟨Nat.le_of_ble_eq_true rfl, Nat.le_of_ble_eq_true rfl⟩) hE hK hP hD hS hA [] [0, 1, 2, 3, 4, 5, 6] [0, 1, 2, 3, 4, 5, 6] rfl (by decide) rfl (by decide) (by decide) rfl (by decide) rfl hl.1 rfl (Nat.le_of_ble_eq_true rfl) d_Desk_controlWord_6 ⟨Nat.zero_le _, Nat.zero_le _⟩ (fun H locs hP hD hS => ?_)
  refine lv_istore (lv' := [(4, .int (k_Desk_fieldA p1)), (3, .int (ush p1 20)), (0, .ref qx), (1, .int p1), (2, .int p2)]) hx hb d_Desk_controlWord_9 hl (by decide) rfl (fun ls hl => ?_)
  refine lv_iload_n hx hb d_Desk_controlWord_11 rfl (lv_at hl 4 rfl) ?_
  refine lv_iconst (v := 3) hx hb d_Desk_controlWord_12 (by decide) ?_
  refine lv_iand hx hb d_Desk_controlWord_13 ?_
  refine lv_istore (lv' := [(5, .int (p2 &&& 3)), (4, .int (k_Desk_fieldA p1)), (3, .int (ush p1 20)), (0, .ref qx), (1, .int p1), (2, .int p2)]) hx hb d_Desk_controlWord_14 hl (by decide) rfl (fun ls hl => ?_)
  refine lv_iload hx hb d_Desk_controlWord_16 (lv_at hl 0 rfl) ?_
  refine lv_iconst (v := 1) hx hb d_Desk_controlWord_18 (by decide) ?_
  refine lv_icmp_eq (tgt := 27) hx hb d_Desk_controlWord_19 (by decide) (fun c_281 => ?_) (fun c_281 => ?_)
  · exact J27 (ush p1 20) (k_Desk_fieldA p1) (p2 &&& 3) H locs ls (by rw [k_Desk_controlWord]; rw [if_pos c_281]; try rfl) hP hD hS (lv_sub hl [3, 4, 5, 2, 1, 0] rfl)
  · refine lv_iload hx hb d_Desk_controlWord_22 (lv_at hl 1 rfl) ?_
    refine lv_if_eq (tgt := 31) hx hb d_Desk_controlWord_24 (by decide) (fun c_282 => ?_) (fun c_282 => ?_)
    · refine lv_iconst (v := 0) hx hb d_Desk_controlWord_31 (by decide) ?_
      exact J32 (ush p1 20) (k_Desk_fieldA p1) (p2 &&& 3) false H locs ls (by rw [k_Desk_controlWord]; rw [if_neg c_281]; rw [if_pos c_282]; try rfl) hP hD hS (lv_sub hl [3, 4, 5, 2, 1, 0] rfl)
    · exact J27 (ush p1 20) (k_Desk_fieldA p1) (p2 &&& 3) H locs ls (by rw [k_Desk_controlWord]; rw [if_neg c_281]; rw [if_neg c_282]; try rfl) hP hD hS (lv_sub hl [3, 4, 5, 2, 1, 0] rfl)
end
section
def k_Desk_fieldG (p1 : Int32) : Int32 :=
  (ush p1 25)
set_option maxHeartbeats 4000000 in
set_option maxRecDepth 100000 in
theorem c_Desk_fieldG (l : Launch) (G : gx) (tys : List (ClassId × FieldType)) (p1 : Int32) : ct_I l y_Desk_fieldG ws_Desk_fieldG ({ frames := 0, cells := 0, slots := 0, locals := 0 }) G tys [.int p1] [] (k_Desk_fieldG p1) [] := by
  refine ct_hI (cc := cc_Desk_fieldG) (maxL := 1) (ret := (some .int)) (by decide) rfl (Nat.le_of_ble_eq_true rfl) ?_
  intro p e s m below meth c A ls hx hb hr hml hts hown hlocks hP hK hD hA hE hS hl
  have hl : lv_has ls 1 [(0, .int p1)] := hl
  have hown : s.vm.findClass R_Desk = some m.cls := hown
  refine lv_iload_n hx hb d_Desk_fieldG_0 rfl (lv_at hl 0 rfl) ?_
  refine lv_bipush (v := 25) hx hb d_Desk_fieldG_1 (by decide) ?_
  refine lv_iushr (v := (ush p1 25)) hx hb d_Desk_fieldG_3 rfl ?_
  have hk : k_Desk_fieldG p1 = (ush p1 25) := (by rw [k_Desk_fieldG]; try rfl)
  exact ct_ri hx hb hr hlocks hP hD hK hS d_Desk_fieldG_4 (by rw [hk]; first | done | rfl) rfl
def k_Desk_fieldB (p1 : Int32) : Int32 :=
  ((ush p1 20) &&& 31)
set_option maxHeartbeats 4000000 in
set_option maxRecDepth 100000 in
theorem c_Desk_fieldB (l : Launch) (G : gx) (tys : List (ClassId × FieldType)) (p1 : Int32) : ct_I l y_Desk_fieldB ws_Desk_fieldB ({ frames := 0, cells := 0, slots := 0, locals := 0 }) G tys [.int p1] [] (k_Desk_fieldB p1) [] := by
  refine ct_hI (cc := cc_Desk_fieldB) (maxL := 1) (ret := (some .int)) (by decide) rfl (Nat.le_of_ble_eq_true rfl) ?_
  intro p e s m below meth c A ls hx hb hr hml hts hown hlocks hP hK hD hA hE hS hl
  have hl : lv_has ls 1 [(0, .int p1)] := hl
  have hown : s.vm.findClass R_Desk = some m.cls := hown
  refine lv_iload_n hx hb d_Desk_fieldB_0 rfl (lv_at hl 0 rfl) ?_
  refine lv_bipush (v := 20) hx hb d_Desk_fieldB_1 (by decide) ?_
  refine lv_iushr (v := (ush p1 20)) hx hb d_Desk_fieldB_3 rfl ?_
  refine lv_bipush (v := 31) hx hb d_Desk_fieldB_4 (by decide) ?_
  refine lv_iand hx hb d_Desk_fieldB_6 ?_
  have hk : k_Desk_fieldB p1 = ((ush p1 20) &&& 31) := (by rw [k_Desk_fieldB]; try rfl)
  exact ct_ri hx hb hr hlocks hP hD hK hS d_Desk_fieldB_7 (by rw [hk]; first | done | rfl) rfl
def k_Desk_isFarAccess (p1 : Int32) (p2 : Int32) (p3 : Int32) : Bool :=
  if p1 = 48 then (if p2 = 0 then true else (if p2 = 1 then true else false)) else if p1 = 49 then (if p3 = 0 then true else false) else if p1 = 50 then (if p2 = 0 then true else (if p2 = 1 then true else (if p2 = 3 then true else false))) else if p1 = 51 then (if p3 = 0 then true else false) else if p1 = 52 then (if p2 = 0 then true else (if p2 = 3 then true else false)) else if p1 = 53 then (if p3 = 0 then true else false) else false
set_option maxHeartbeats 4000000 in
set_option maxRecDepth 100000 in
theorem c_Desk_isFarAccess (l : Launch) (G : gx) (tys : List (ClassId × FieldType)) (p1 : Int32) (p2 : Int32) (p3 : Int32) : ct_I l y_Desk_isFarAccess ws_Desk_isFarAccess ({ frames := 0, cells := 0, slots := 0, locals := 0 }) G tys [.int p1, .int p2, .int p3] [] (bI (k_Desk_isFarAccess p1 p2 p3)) [] := by
  refine ct_hI (cc := cc_Desk_isFarAccess) (maxL := 3) (ret := (some .boolean)) (by decide) rfl (Nat.le_of_ble_eq_true rfl) ?_
  intro p e s m below meth c A ls hx hb hr hml hts hown hlocks hP hK hD hA hE hS hl
  have hl : lv_has ls 3 [(0, .int p1), (1, .int p2), (2, .int p3)] := hl
  have hown : s.vm.findClass R_Desk = some m.cls := hown
  refine lv_iload_n hx hb d_Desk_isFarAccess_0 rfl (lv_at hl 0 rfl) ?_
  by_cases c_306 : p1 = 48
  · refine lv_tableIn (off := 39) (tgt := 40) hx hb d_Desk_isFarAccess_1 (by rw [c_306]; decide) (by rw [c_306]; decide) (by rw [c_306]; decide) (by decide) ?_
    refine lv_iload_n hx hb d_Desk_isFarAccess_40 rfl (lv_at hl 1 rfl) ?_
    refine lv_if_eq (tgt := 49) hx hb d_Desk_isFarAccess_41 (by decide) (fun c_307 => ?_) (fun c_307 => ?_)
    · refine lv_iconst (v := 1) hx hb d_Desk_isFarAccess_49 (by decide) ?_
      refine lv_goto (tgt := 54) hx hb d_Desk_isFarAccess_50 (by decide) ?_
      have hk : k_Desk_isFarAccess p1 p2 p3 = true := (by rw [k_Desk_isFarAccess]; rw [if_pos c_306]; rw [if_pos c_307]; try rfl)
      exact ct_rz hx hb hr hlocks hP hD hK hS d_Desk_isFarAccess_54 rfl (by rw [hk]; first | done | rfl) rfl
    · refine lv_iload_n hx hb d_Desk_isFarAccess_44 rfl (lv_at hl 1 rfl) ?_
      refine lv_iconst (v := 1) hx hb d_Desk_isFarAccess_45 (by decide) ?_
      refine lv_icmp_ne (tgt := 53) hx hb d_Desk_isFarAccess_46 (by decide) (fun c_308 => ?_) (fun c_308 => ?_)
      · refine lv_iconst (v := 0) hx hb d_Desk_isFarAccess_53 (by decide) ?_
        have hk : k_Desk_isFarAccess p1 p2 p3 = false := (by rw [k_Desk_isFarAccess]; rw [if_pos c_306]; rw [if_neg c_307]; rw [if_neg c_308]; try rfl)
        exact ct_rz hx hb hr hlocks hP hD hK hS d_Desk_isFarAccess_54 rfl (by rw [hk]; first | done | rfl) rfl
      · refine lv_iconst (v := 1) hx hb d_Desk_isFarAccess_49 (by decide) ?_
        refine lv_goto (tgt := 54) hx hb d_Desk_isFarAccess_50 (by decide) ?_
        have hk : k_Desk_isFarAccess p1 p2 p3 = true := (by rw [k_Desk_isFarAccess]; rw [if_pos c_306]; rw [if_neg c_307]; rw [if_pos c_308]; try rfl)
        exact ct_rz hx hb hr hlocks hP hD hK hS d_Desk_isFarAccess_54 rfl (by rw [hk]; first | done | rfl) rfl
  · by_cases c_309 : p1 = 49
    · refine lv_tableIn (off := 89) (tgt := 90) hx hb d_Desk_isFarAccess_1 (by rw [c_309]; decide) (by rw [c_309]; decide) (by rw [c_309]; decide) (by decide) ?_
      refine lv_iload_n hx hb d_Desk_isFarAccess_90 rfl (lv_at hl 2 rfl) ?_
      refine lv_if_ne (tgt := 98) hx hb d_Desk_isFarAccess_91 (by decide) (fun c_310 => ?_) (fun c_310 => ?_)
      · refine lv_iconst (v := 0) hx hb d_Desk_isFarAccess_98 (by decide) ?_
        have hk : k_Desk_isFarAccess p1 p2 p3 = false := (by rw [k_Desk_isFarAccess]; rw [if_neg c_306]; rw [if_pos c_309]; rw [if_neg c_310]; try rfl)
        exact ct_rz hx hb hr hlocks hP hD hK hS d_Desk_isFarAccess_99 rfl (by rw [hk]; first | done | rfl) rfl
      · refine lv_iconst (v := 1) hx hb d_Desk_isFarAccess_94 (by decide) ?_
        refine lv_goto (tgt := 99) hx hb d_Desk_isFarAccess_95 (by decide) ?_
        have hk : k_Desk_isFarAccess p1 p2 p3 = true := (by rw [k_Desk_isFarAccess]; rw [if_neg c_306]; rw [if_pos c_309]; rw [if_pos c_310]; try rfl)
        exact ct_rz hx hb hr hlocks hP hD hK hS d_Desk_isFarAccess_99 rfl (by rw [hk]; first | done | rfl) rfl
    · by_cases c_311 : p1 = 50
      · refine lv_tableIn (off := 54) (tgt := 55) hx hb d_Desk_isFarAccess_1 (by rw [c_311]; decide) (by rw [c_311]; decide) (by rw [c_311]; decide) (by decide) ?_
        refine lv_iload_n hx hb d_Desk_isFarAccess_55 rfl (lv_at hl 1 rfl) ?_
        refine lv_if_eq (tgt := 69) hx hb d_Desk_isFarAccess_56 (by decide) (fun c_312 => ?_) (fun c_312 => ?_)
        · refine lv_iconst (v := 1) hx hb d_Desk_isFarAccess_69 (by decide) ?_
          refine lv_goto (tgt := 74) hx hb d_Desk_isFarAccess_70 (by decide) ?_
          have hk : k_Desk_isFarAccess p1 p2 p3 = true := (by rw [k_Desk_isFarAccess]; rw [if_neg c_306]; rw [if_neg c_309]; rw [if_pos c_311]; rw [if_pos c_312]; try rfl)
          exact ct_rz hx hb hr hlocks hP hD hK hS d_Desk_isFarAccess_74 rfl (by rw [hk]; first | done | rfl) rfl
        · refine lv_iload_n hx hb d_Desk_isFarAccess_59 rfl (lv_at hl 1 rfl) ?_
          refine lv_iconst (v := 1) hx hb d_Desk_isFarAccess_60 (by decide) ?_
          refine lv_icmp_eq (tgt := 69) hx hb d_Desk_isFarAccess_61 (by decide) (fun c_313 => ?_) (fun c_313 => ?_)
          · refine lv_iconst (v := 1) hx hb d_Desk_isFarAccess_69 (by decide) ?_
            refine lv_goto (tgt := 74) hx hb d_Desk_isFarAccess_70 (by decide) ?_
            have hk : k_Desk_isFarAccess p1 p2 p3 = true := (by rw [k_Desk_isFarAccess]; rw [if_neg c_306]; rw [if_neg c_309]; rw [if_pos c_311]; rw [if_neg c_312]; rw [if_pos c_313]; try rfl)
            exact ct_rz hx hb hr hlocks hP hD hK hS d_Desk_isFarAccess_74 rfl (by rw [hk]; first | done | rfl) rfl
          · refine lv_iload_n hx hb d_Desk_isFarAccess_64 rfl (lv_at hl 1 rfl) ?_
            refine lv_iconst (v := 3) hx hb d_Desk_isFarAccess_65 (by decide) ?_
            refine lv_icmp_ne (tgt := 73) hx hb d_Desk_isFarAccess_66 (by decide) (fun c_314 => ?_) (fun c_314 => ?_)
            · refine lv_iconst (v := 0) hx hb d_Desk_isFarAccess_73 (by decide) ?_
              have hk : k_Desk_isFarAccess p1 p2 p3 = false := (by rw [k_Desk_isFarAccess]; rw [if_neg c_306]; rw [if_neg c_309]; rw [if_pos c_311]; rw [if_neg c_312]; rw [if_neg c_313]; rw [if_neg c_314]; try rfl)
              exact ct_rz hx hb hr hlocks hP hD hK hS d_Desk_isFarAccess_74 rfl (by rw [hk]; first | done | rfl) rfl
            · refine lv_iconst (v := 1) hx hb d_Desk_isFarAccess_69 (by decide) ?_
              refine lv_goto (tgt := 74) hx hb d_Desk_isFarAccess_70 (by decide) ?_
              have hk : k_Desk_isFarAccess p1 p2 p3 = true := (by rw [k_Desk_isFarAccess]; rw [if_neg c_306]; rw [if_neg c_309]; rw [if_pos c_311]; rw [if_neg c_312]; rw [if_neg c_313]; rw [if_pos c_314]; try rfl)
              exact ct_rz hx hb hr hlocks hP hD hK hS d_Desk_isFarAccess_74 rfl (by rw [hk]; first | done | rfl) rfl
      · by_cases c_315 : p1 = 51
        · refine lv_tableIn (off := 89) (tgt := 90) hx hb d_Desk_isFarAccess_1 (by rw [c_315]; decide) (by rw [c_315]; decide) (by rw [c_315]; decide) (by decide) ?_
          refine lv_iload_n hx hb d_Desk_isFarAccess_90 rfl (lv_at hl 2 rfl) ?_
          refine lv_if_ne (tgt := 98) hx hb d_Desk_isFarAccess_91 (by decide) (fun c_316 => ?_) (fun c_316 => ?_)
          · refine lv_iconst (v := 0) hx hb d_Desk_isFarAccess_98 (by decide) ?_
            have hk : k_Desk_isFarAccess p1 p2 p3 = false := (by rw [k_Desk_isFarAccess]; rw [if_neg c_306]; rw [if_neg c_309]; rw [if_neg c_311]; rw [if_pos c_315]; rw [if_neg c_316]; try rfl)
            exact ct_rz hx hb hr hlocks hP hD hK hS d_Desk_isFarAccess_99 rfl (by rw [hk]; first | done | rfl) rfl
          · refine lv_iconst (v := 1) hx hb d_Desk_isFarAccess_94 (by decide) ?_
            refine lv_goto (tgt := 99) hx hb d_Desk_isFarAccess_95 (by decide) ?_
            have hk : k_Desk_isFarAccess p1 p2 p3 = true := (by rw [k_Desk_isFarAccess]; rw [if_neg c_306]; rw [if_neg c_309]; rw [if_neg c_311]; rw [if_pos c_315]; rw [if_pos c_316]; try rfl)
            exact ct_rz hx hb hr hlocks hP hD hK hS d_Desk_isFarAccess_99 rfl (by rw [hk]; first | done | rfl) rfl
        · by_cases c_317 : p1 = 52
          · refine lv_tableIn (off := 74) (tgt := 75) hx hb d_Desk_isFarAccess_1 (by rw [c_317]; decide) (by rw [c_317]; decide) (by rw [c_317]; decide) (by decide) ?_
            refine lv_iload_n hx hb d_Desk_isFarAccess_75 rfl (lv_at hl 1 rfl) ?_
            refine lv_if_eq (tgt := 84) hx hb d_Desk_isFarAccess_76 (by decide) (fun c_318 => ?_) (fun c_318 => ?_)
            · refine lv_iconst (v := 1) hx hb d_Desk_isFarAccess_84 (by decide) ?_
              refine lv_goto (tgt := 89) hx hb d_Desk_isFarAccess_85 (by decide) ?_
              have hk : k_Desk_isFarAccess p1 p2 p3 = true := (by rw [k_Desk_isFarAccess]; rw [if_neg c_306]; rw [if_neg c_309]; rw [if_neg c_311]; rw [if_neg c_315]; rw [if_pos c_317]; rw [if_pos c_318]; try rfl)
              exact ct_rz hx hb hr hlocks hP hD hK hS d_Desk_isFarAccess_89 rfl (by rw [hk]; first | done | rfl) rfl
            · refine lv_iload_n hx hb d_Desk_isFarAccess_79 rfl (lv_at hl 1 rfl) ?_
              refine lv_iconst (v := 3) hx hb d_Desk_isFarAccess_80 (by decide) ?_
              refine lv_icmp_ne (tgt := 88) hx hb d_Desk_isFarAccess_81 (by decide) (fun c_319 => ?_) (fun c_319 => ?_)
              · refine lv_iconst (v := 0) hx hb d_Desk_isFarAccess_88 (by decide) ?_
                have hk : k_Desk_isFarAccess p1 p2 p3 = false := (by rw [k_Desk_isFarAccess]; rw [if_neg c_306]; rw [if_neg c_309]; rw [if_neg c_311]; rw [if_neg c_315]; rw [if_pos c_317]; rw [if_neg c_318]; rw [if_neg c_319]; try rfl)
                exact ct_rz hx hb hr hlocks hP hD hK hS d_Desk_isFarAccess_89 rfl (by rw [hk]; first | done | rfl) rfl
              · refine lv_iconst (v := 1) hx hb d_Desk_isFarAccess_84 (by decide) ?_
                refine lv_goto (tgt := 89) hx hb d_Desk_isFarAccess_85 (by decide) ?_
                have hk : k_Desk_isFarAccess p1 p2 p3 = true := (by rw [k_Desk_isFarAccess]; rw [if_neg c_306]; rw [if_neg c_309]; rw [if_neg c_311]; rw [if_neg c_315]; rw [if_pos c_317]; rw [if_neg c_318]; rw [if_pos c_319]; try rfl)
                exact ct_rz hx hb hr hlocks hP hD hK hS d_Desk_isFarAccess_89 rfl (by rw [hk]; first | done | rfl) rfl
          · by_cases c_320 : p1 = 53
            · refine lv_tableIn (off := 89) (tgt := 90) hx hb d_Desk_isFarAccess_1 (by rw [c_320]; decide) (by rw [c_320]; decide) (by rw [c_320]; decide) (by decide) ?_
              refine lv_iload_n hx hb d_Desk_isFarAccess_90 rfl (lv_at hl 2 rfl) ?_
              refine lv_if_ne (tgt := 98) hx hb d_Desk_isFarAccess_91 (by decide) (fun c_321 => ?_) (fun c_321 => ?_)
              · refine lv_iconst (v := 0) hx hb d_Desk_isFarAccess_98 (by decide) ?_
                have hk : k_Desk_isFarAccess p1 p2 p3 = false := (by rw [k_Desk_isFarAccess]; rw [if_neg c_306]; rw [if_neg c_309]; rw [if_neg c_311]; rw [if_neg c_315]; rw [if_neg c_317]; rw [if_pos c_320]; rw [if_neg c_321]; try rfl)
                exact ct_rz hx hb hr hlocks hP hD hK hS d_Desk_isFarAccess_99 rfl (by rw [hk]; first | done | rfl) rfl
              · refine lv_iconst (v := 1) hx hb d_Desk_isFarAccess_94 (by decide) ?_
                refine lv_goto (tgt := 99) hx hb d_Desk_isFarAccess_95 (by decide) ?_
                have hk : k_Desk_isFarAccess p1 p2 p3 = true := (by rw [k_Desk_isFarAccess]; rw [if_neg c_306]; rw [if_neg c_309]; rw [if_neg c_311]; rw [if_neg c_315]; rw [if_neg c_317]; rw [if_pos c_320]; rw [if_pos c_321]; try rfl)
                exact ct_rz hx hb hr hlocks hP hD hK hS d_Desk_isFarAccess_99 rfl (by rw [hk]; first | done | rfl) rfl
            · refine lv_tableOut (tgt := 100) hx hb d_Desk_isFarAccess_1 (by have := lv_neT (a := 48) c_306 (by decide); have := lv_neT (a := 49) c_309 (by decide); have := lv_neT (a := 50) c_311 (by decide); have := lv_neT (a := 51) c_315 (by decide); have := lv_neT (a := 52) c_317 (by decide); have := lv_neT (a := 53) c_320 (by decide); omega) (by decide) ?_
              refine lv_iconst (v := 0) hx hb d_Desk_isFarAccess_100 (by decide) ?_
              have hk : k_Desk_isFarAccess p1 p2 p3 = false := (by rw [k_Desk_isFarAccess]; rw [if_neg c_306]; rw [if_neg c_309]; rw [if_neg c_311]; rw [if_neg c_315]; rw [if_neg c_317]; rw [if_neg c_320]; try rfl)
              exact ct_rz hx hb hr hlocks hP hD hK hS d_Desk_isFarAccess_101 rfl (by rw [hk]; first | done | rfl) rfl
def k_Desk_isVirtual (sx : ob) : Bool :=
  if (sx.1 3) = 2 then true else (if (sx.1 3) = 3 then true else false)
set_option maxHeartbeats 4000000 in
set_option maxRecDepth 100000 in
theorem c_Desk_isVirtual (l : Launch) (G : gx) (tys : List (ClassId × FieldType)) (qx qc qo qr : Nat) (sx : ob) : ct_I l y_Desk_isVirtual ws_Desk_isVirtual ({ frames := 0, cells := 0, slots := 0, locals := 0 }) G tys [.ref qx] [(qx, .inr (5, f_Desk qc qo qr sx))] (bI (k_Desk_isVirtual sx)) [(qx, .inr (5, f_Desk qc qo qr sx))] := by
  refine ct_hI (cc := cc_Desk_isVirtual) (maxL := 1) (ret := (some .boolean)) (by decide) rfl (Nat.le_of_ble_eq_true rfl) ?_
  intro p e s m below meth c A ls hx hb hr hml hts hown hlocks hP hK hD hA hE hS hl
  have hl : lv_has ls 1 [(0, .ref qx)] := hl
  have hown : s.vm.findClass R_Desk = some m.cls := hown
  refine lv_aload_n hx hb d_Desk_isVirtual_0 rfl (lv_at hl 0 rfl) ?_
  refine va_get (D := G.1) (ci := 5) (v := .int (sx.1 3)) (C := R_Desk) (T := T_Desk) (N := 8) hx hb hts (fun w h => gd_sub _ (iw_Desk w h)) hown hK hP 0 rfl rfl 3 (by decide) (hts _ (gd_sub _ q_208)) (fun _ h9 => h9) rfl d_Desk_isVirtual_1 ?_
  refine lv_iconst (v := 2) hx hb d_Desk_isVirtual_4 (by decide) ?_
  refine lv_icmp_eq (tgt := 16) hx hb d_Desk_isVirtual_5 (by decide) (fun c_325 => ?_) (fun c_325 => ?_)
  · refine lv_iconst (v := 1) hx hb d_Desk_isVirtual_16 (by decide) ?_
    refine lv_goto (tgt := 21) hx hb d_Desk_isVirtual_17 (by decide) ?_
    have hk : k_Desk_isVirtual sx = true := (by rw [k_Desk_isVirtual]; rw [if_pos c_325]; try rfl)
    exact ct_rz hx hb hr hlocks hP hD hK hS d_Desk_isVirtual_21 rfl (by rw [hk]; first | done | rfl) rfl
  · refine lv_aload_n hx hb d_Desk_isVirtual_8 rfl (lv_at hl 0 rfl) ?_
    refine va_get (D := G.1) (ci := 5) (v := .int (sx.1 3)) (C := R_Desk) (T := T_Desk) (N := 8) hx hb hts (fun w h => gd_sub _ (iw_Desk w h)) hown hK hP 0 rfl rfl 3 (by decide) (hts _ (gd_sub _ q_208)) (fun _ h9 => h9) rfl d_Desk_isVirtual_9 ?_
    refine lv_iconst (v := 3) hx hb d_Desk_isVirtual_12 (by decide) ?_
    refine lv_icmp_ne (tgt := 20) hx hb d_Desk_isVirtual_13 (by decide) (fun c_326 => ?_) (fun c_326 => ?_)
    · refine lv_iconst (v := 0) hx hb d_Desk_isVirtual_20 (by decide) ?_
      have hk : k_Desk_isVirtual sx = false := (by rw [k_Desk_isVirtual]; rw [if_neg c_325]; rw [if_neg c_326]; try rfl)
      exact ct_rz hx hb hr hlocks hP hD hK hS d_Desk_isVirtual_21 rfl (by rw [hk]; first | done | rfl) rfl
    · refine lv_iconst (v := 1) hx hb d_Desk_isVirtual_16 (by decide) ?_
      refine lv_goto (tgt := 21) hx hb d_Desk_isVirtual_17 (by decide) ?_
      have hk : k_Desk_isVirtual sx = true := (by rw [k_Desk_isVirtual]; rw [if_neg c_325]; rw [if_pos c_326]; try rfl)
      exact ct_rz hx hb hr hlocks hP hD hK hS d_Desk_isVirtual_21 rfl (by rw [hk]; first | done | rfl) rfl
def k_Desk_farAccessWord (sx : ob) (sc : ob) (sy : ob) (p1 : Int32) : Int32 :=
  if (bI (k_Desk_isFarAccess (k_Desk_fieldG p1) (k_Desk_fieldB p1) (k_Desk_fieldD p1))) = 0 then 2 else (if (bI (k_Desk_isVirtual sx)) = 0 then (if (sx.1 3) = 0 then (if (bI (k_Hyper_hasStatus sy 512)) = 0 then 2 else (-2)) else (-2)) else 22)
set_option maxHeartbeats 4000000 in
set_option maxRecDepth 100000 in
theorem c_Desk_farAccessWord (l : Launch) (G : gx) (tys : List (ClassId × FieldType)) (qx qc qy qo qr qhs qgs : Nat) (sx : ob) (sc : ob) (sy : ob) (p1 : Int32) : ct_I l y_Desk_farAccessWord ws_Desk_farAccessWord ({ frames := 1, cells := 0, slots := 0, locals := 22 }) G tys [.ref qx, .int p1] [(qx, .inr (5, f_Desk qc qo qr sx)), (qc, .inr (1, f_Controls qo qhs qgs qy sc)), (qy, .inr (2, f_Hyper sy))] (k_Desk_farAccessWord sx sc sy p1) [(qx, .inr (5, f_Desk qc qo qr sx)), (qc, .inr (1, f_Controls qo qhs qgs qy sc)), (qy, .inr (2, f_Hyper sy))] := by
  refine ct_hI (cc := cc_Desk_farAccessWord) (maxL := 2) (ret := (some .int)) (by decide) rfl (Nat.le_of_ble_eq_true rfl) ?_
  intro p e s m below meth c A ls hx hb hr hml hts hown hlocks hP hK hD hA hE hS hl
  have hl : lv_has ls 2 [(0, .ref qx), (1, .int p1)] := hl
  have hown : s.vm.findClass R_Desk = some m.cls := hown
  refine lv_iload_n hx hb d_Desk_farAccessWord_0 rfl (lv_at hl 1 rfl) ?_
  refine ct_cSi (wr := [(qx, .inr (5, f_Desk qc qo qr sx)), (qc, .inr (1, f_Controls qo qhs qgs qy sc)), (qy, .inr (2, f_Hyper sy))]) (w1 := []) (w2 := [(qx, .inr (5, f_Desk qc qo qr sx)), (qc, .inr (1, f_Controls qo qhs qgs qy sc)), (qy, .inr (2, f_Hyper sy))]) (r := (k_Desk_fieldG p1)) (As := [.int p1]) (rest := []) ⟨hx, hb, hml, hown, hts⟩ (c_Desk_fieldG l G tys p1) (va_cwS 1 hts (gdS gd_gd q_410 q_411 q_41 q_412) rfl rfl rfl (by decide +kernel) ⟨Nat.le_of_ble_eq_true rfl, Nat.le_of_ble_eq_true rfl⟩) hE hK hP hD hS hA [] [0, 1, 2] [0, 1, 2] rfl (by decide) rfl (by decide) (by decide) rfl (by decide) rfl hl.1 rfl (Nat.le_of_ble_eq_true rfl) d_Desk_farAccessWord_1 ⟨Nat.zero_le _, Nat.zero_le _⟩ (fun H locs hP hD hS => ?_)
  refine lv_iload_n hx hb d_Desk_farAccessWord_4 rfl (lv_at hl 1 rfl) ?_
  refine ct_cSi (wr := [(qx, .inr (5, f_Desk qc qo qr sx)), (qc, .inr (1, f_Controls qo qhs qgs qy sc)), (qy, .inr (2, f_Hyper sy))]) (w1 := []) (w2 := [(qx, .inr (5, f_Desk qc qo qr sx)), (qc, .inr (1, f_Controls qo qhs qgs qy sc)), (qy, .inr (2, f_Hyper sy))]) (r := (k_Desk_fieldB p1)) (As := [.int p1]) (rest := [.int (k_Desk_fieldG p1)]) ⟨hx, hb, hml, hown, hts⟩ (c_Desk_fieldB l G tys p1) (va_cwS 1 hts (gdS gd_gd q_481 q_482 q_41 q_483) rfl rfl rfl (by decide +kernel) ⟨Nat.le_of_ble_eq_true rfl, Nat.le_of_ble_eq_true rfl⟩) hE hK hP hD hS hA [] [0, 1, 2] [0, 1, 2] rfl (by decide) rfl (by decide) (by decide) rfl (by decide) rfl hl.1 rfl (Nat.le_of_ble_eq_true rfl) d_Desk_farAccessWord_5 ⟨Nat.zero_le _, Nat.zero_le _⟩ (fun H locs hP hD hS => ?_)
  refine lv_iload_n hx hb d_Desk_farAccessWord_8 rfl (lv_at hl 1 rfl) ?_
  refine ct_cSi (wr := [(qx, .inr (5, f_Desk qc qo qr sx)), (qc, .inr (1, f_Controls qo qhs qgs qy sc)), (qy, .inr (2, f_Hyper sy))]) (w1 := []) (w2 := [(qx, .inr (5, f_Desk qc qo qr sx)), (qc, .inr (1, f_Controls qo qhs qgs qy sc)), (qy, .inr (2, f_Hyper sy))]) (r := (k_Desk_fieldD p1)) (As := [.int p1]) (rest := [.int (k_Desk_fieldB p1), .int (k_Desk_fieldG p1)]) ⟨hx, hb, hml, hown, hts⟩ (c_Desk_fieldD l G tys p1) (va_cwS 1 hts (gdS gd_gd q_407 q_408 q_41 q_409) rfl rfl rfl (by decide +kernel) ⟨Nat.le_of_ble_eq_true rfl, Nat.le_of_ble_eq_true rfl⟩) hE hK hP hD hS hA [] [0, 1, 2] [0, 1, 2] rfl (by decide) rfl (by decide) (by decide) rfl (by decide) rfl hl.1 rfl (Nat.le_of_ble_eq_true rfl) d_Desk_farAccessWord_9 ⟨Nat.zero_le _, Nat.zero_le _⟩ (fun H locs hP hD hS => ?_)
  refine ct_cSi (wr := [(qx, .inr (5, f_Desk qc qo qr sx)), (qc, .inr (1, f_Controls qo qhs qgs qy sc)), (qy, .inr (2, f_Hyper sy))]) (w1 := []) (w2 := [(qx, .inr (5, f_Desk qc qo qr sx)), (qc, .inr (1, f_Controls qo qhs qgs qy sc)), (qy, .inr (2, f_Hyper sy))]) (r := (bI (k_Desk_isFarAccess (k_Desk_fieldG p1) (k_Desk_fieldB p1) (k_Desk_fieldD p1)))) (As := [.int (k_Desk_fieldG p1), .int (k_Desk_fieldB p1), .int (k_Desk_fieldD p1)]) (rest := []) ⟨hx, hb, hml, hown, hts⟩ (c_Desk_isFarAccess l G tys (k_Desk_fieldG p1) (k_Desk_fieldB p1) (k_Desk_fieldD p1)) (va_cwS 3 hts (gdS gd_gd q_484 q_485 q_41 q_486) rfl rfl rfl (by decide +kernel) ⟨Nat.le_of_ble_eq_true rfl, Nat.le_of_ble_eq_true rfl⟩) hE hK hP hD hS hA [] [0, 1, 2] [0, 1, 2] rfl (by decide) rfl (by decide) (by decide) rfl (by decide) rfl hl.1 rfl (Nat.le_of_ble_eq_true rfl) d_Desk_farAccessWord_12 ⟨Nat.zero_le _, Nat.zero_le _⟩ (fun H locs hP hD hS => ?_)
  refine lv_if_ne (tgt := 20) hx hb d_Desk_farAccessWord_15 (by decide) (fun c_330 => ?_) (fun c_330 => ?_)
  · refine lv_aload_n hx hb d_Desk_farAccessWord_20 rfl (lv_at hl 0 rfl) ?_
    refine ct_cVi (wr := [(qc, .inr (1, f_Controls qo qhs qgs qy sc)), (qy, .inr (2, f_Hyper sy))]) (w1 := [(qx, .inr (5, f_Desk qc qo qr sx))]) (w2 := [(qx, .inr (5, f_Desk qc qo qr sx)), (qc, .inr (1, f_Controls qo qhs qgs qy sc)), (qy, .inr (2, f_Hyper sy))]) (r := (bI (k_Desk_isVirtual sx))) (As := []) (rest := []) (ci := 5) (q0 := 0) ⟨hx, hb, hml, hown, hts⟩ (c_Desk_isVirtual l G tys qx qc qo qr sx) (cwV 0 hts (gdV gd_gd q_434 q_436 q_6 q_41 q_437) rfl rfl rfl (by decide +kernel) ⟨Nat.le_of_ble_eq_true rfl, Nat.le_of_ble_eq_true rfl⟩) hE hK hP hD hS hA [0] [1, 2] [2, 0, 1] rfl (by decide) rfl (by decide) (by decide) rfl (by decide) rfl rfl rfl hl.1 rfl (Nat.le_of_ble_eq_true rfl) d_Desk_farAccessWord_21 ⟨Nat.zero_le _, Nat.zero_le _⟩ (fun H locs hP hD hS => ?_)
    refine lv_if_eq (tgt := 30) hx hb d_Desk_farAccessWord_24 (by decide) (fun c_331 => ?_) (fun c_331 => ?_)
    · refine lv_aload_n hx hb d_Desk_farAccessWord_30 rfl (lv_at hl 0 rfl) ?_
      refine va_get (D := G.1) (ci := 5) (v := .int (sx.1 3)) (C := R_Desk) (T := T_Desk) (N := 8) hx hb hts (fun w h => gd_sub _ (iw_Desk w h)) hown hK hP 0 rfl rfl 3 (by decide) (hts _ (gd_sub _ q_208)) (fun _ h9 => h9) rfl d_Desk_farAccessWord_31 ?_
      refine lv_if_ne (tgt := 55) hx hb d_Desk_farAccessWord_34 (by decide) (fun c_332 => ?_) (fun c_332 => ?_)
      · refine lv_bipush (v := (-2)) hx hb d_Desk_farAccessWord_55 (by decide) ?_
        have hk : k_Desk_farAccessWord sx sc sy p1 = (-2) := (by rw [k_Desk_farAccessWord]; rw [if_neg c_330]; rw [if_pos c_331]; rw [if_neg c_332]; try rfl)
        exact ct_ri hx hb hr hlocks hP hD hK hS d_Desk_farAccessWord_57 (by rw [hk]; first | done | rfl) rfl
      · refine lv_aload_n hx hb d_Desk_farAccessWord_37 rfl (lv_at hl 0 rfl) ?_
        refine va_get (D := G.1) (ci := 5) (v := .ref qc) (C := R_Desk) (T := T_Desk) (N := 8) hx hb hts (fun w h => gd_sub _ (iw_Desk w h)) hown hK hP 0 rfl rfl 0 (by decide) (hts _ (gd_sub _ q_205)) (fun _ h9 => h9) rfl d_Desk_farAccessWord_38 ?_
        refine va_get (D := G.1) (ci := 1) (v := .ref qy) (C := R_Controls) (T := T_Controls) (N := 6) hx hb hts (fun w h => gd_sub _ (iw_Controls w h)) hown hK hP 1 rfl rfl 3 (by decide) (hts _ (gd_sub _ q_170)) (fun _ h9 => h9) rfl d_Desk_farAccessWord_41 ?_
        refine lv_sipush (v := 512) hx hb d_Desk_farAccessWord_44 (by decide) ?_
        refine ct_cVi (wr := [(qx, .inr (5, f_Desk qc qo qr sx)), (qc, .inr (1, f_Controls qo qhs qgs qy sc))]) (w1 := [(qy, .inr (2, f_Hyper sy))]) (w2 := [(qx, .inr (5, f_Desk qc qo qr sx)), (qc, .inr (1, f_Controls qo qhs qgs qy sc)), (qy, .inr (2, f_Hyper sy))]) (r := (bI (k_Hyper_hasStatus sy 512))) (As := [.int 512]) (rest := []) (ci := 2) (q0 := 0) ⟨hx, hb, hml, hown, hts⟩ (c_Hyper_hasStatus l G tys qy sy 512) (cwV 1 hts (gdV gd_gd q_422 q_423 q_424 q_45 q_425) rfl rfl rfl (by decide +kernel) ⟨Nat.le_of_ble_eq_true rfl, Nat.le_of_ble_eq_true rfl⟩) hE hK hP hD hS hA [2] [0, 1] [0, 1, 2] rfl (by decide) rfl (by decide) (by decide) rfl (by decide) rfl rfl rfl hl.1 rfl (Nat.le_of_ble_eq_true rfl) d_Desk_farAccessWord_47 ⟨Nat.zero_le _, Nat.zero_le _⟩ (fun H locs hP hD hS => ?_)
        refine lv_if_ne (tgt := 55) hx hb d_Desk_farAccessWord_50 (by decide) (fun c_333 => ?_) (fun c_333 => ?_)
        · refine lv_bipush (v := (-2)) hx hb d_Desk_farAccessWord_55 (by decide) ?_
          have hk : k_Desk_farAccessWord sx sc sy p1 = (-2) := (by rw [k_Desk_farAccessWord]; rw [if_neg c_330]; rw [if_pos c_331]; rw [if_pos c_332]; rw [if_neg c_333]; try rfl)
          exact ct_ri hx hb hr hlocks hP hD hK hS d_Desk_farAccessWord_57 (by rw [hk]; first | done | rfl) rfl
        · refine lv_iconst (v := 2) hx hb d_Desk_farAccessWord_53 (by decide) ?_
          have hk : k_Desk_farAccessWord sx sc sy p1 = 2 := (by rw [k_Desk_farAccessWord]; rw [if_neg c_330]; rw [if_pos c_331]; rw [if_pos c_332]; rw [if_pos c_333]; try rfl)
          exact ct_ri hx hb hr hlocks hP hD hK hS d_Desk_farAccessWord_54 (by rw [hk]; first | done | rfl) rfl
    · refine lv_bipush (v := 22) hx hb d_Desk_farAccessWord_27 (by decide) ?_
      have hk : k_Desk_farAccessWord sx sc sy p1 = 22 := (by rw [k_Desk_farAccessWord]; rw [if_neg c_330]; rw [if_neg c_331]; try rfl)
      exact ct_ri hx hb hr hlocks hP hD hK hS d_Desk_farAccessWord_29 (by rw [hk]; first | done | rfl) rfl
  · refine lv_iconst (v := 2) hx hb d_Desk_farAccessWord_18 (by decide) ?_
    have hk : k_Desk_farAccessWord sx sc sy p1 = 2 := (by rw [k_Desk_farAccessWord]; rw [if_pos c_330]; try rfl)
    exact ct_ri hx hb hr hlocks hP hD hK hS d_Desk_farAccessWord_19 (by rw [hk]; first | done | rfl) rfl
def k_Desk_refusalOfSupervisorWord (sx : ob) (sc : ob) (sy : ob) (p1 : Int32) : Int32 :=
  if (sx.1 3) = 1 then (-1) else if (sx.1 3) = 2 then 22 else if (sx.1 3) = 3 then (if (bI (k_Hyper_hasStatus sy p1)) = 0 then (-1) else 22) else 2
set_option maxHeartbeats 4000000 in
set_option maxRecDepth 100000 in
theorem c_Desk_refusalOfSupervisorWord (l : Launch) (G : gx) (tys : List (ClassId × FieldType)) (qx qc qy qo qr qhs qgs : Nat) (sx : ob) (sc : ob) (sy : ob) (p1 : Int32) : ct_I l y_Desk_refusalOfSupervisorWord ws_Desk_refusalOfSupervisorWord ({ frames := 1, cells := 0, slots := 0, locals := 21 }) G tys [.ref qx, .int p1] [(qx, .inr (5, f_Desk qc qo qr sx)), (qc, .inr (1, f_Controls qo qhs qgs qy sc)), (qy, .inr (2, f_Hyper sy))] (k_Desk_refusalOfSupervisorWord sx sc sy p1) [(qx, .inr (5, f_Desk qc qo qr sx)), (qc, .inr (1, f_Controls qo qhs qgs qy sc)), (qy, .inr (2, f_Hyper sy))] := by
  refine ct_hI (cc := cc_Desk_refusalOfSupervisorWord) (maxL := 2) (ret := (some .int)) (by decide) rfl (Nat.le_of_ble_eq_true rfl) ?_
  intro p e s m below meth c A ls hx hb hr hml hts hown hlocks hP hK hD hA hE hS hl
  have hl : lv_has ls 2 [(0, .ref qx), (1, .int p1)] := hl
  have hown : s.vm.findClass R_Desk = some m.cls := hown
  refine lv_aload_n hx hb d_Desk_refusalOfSupervisorWord_0 rfl (lv_at hl 0 rfl) ?_
  refine va_get (D := G.1) (ci := 5) (v := .int (sx.1 3)) (C := R_Desk) (T := T_Desk) (N := 8) hx hb hts (fun w h => gd_sub _ (iw_Desk w h)) hown hK hP 0 rfl rfl 3 (by decide) (hts _ (gd_sub _ q_208)) (fun _ h9 => h9) rfl d_Desk_refusalOfSupervisorWord_1 ?_
  by_cases c_340 : (sx.1 3) = 1
  · refine lv_tableIn (off := 28) (tgt := 32) hx hb d_Desk_refusalOfSupervisorWord_4 (by rw [c_340]; decide) (by rw [c_340]; decide) (by rw [c_340]; decide) (by decide) ?_
    refine lv_iconst (v := (-1)) hx hb d_Desk_refusalOfSupervisorWord_32 (by decide) ?_
    have hk : k_Desk_refusalOfSupervisorWord sx sc sy p1 = (-1) := (by rw [k_Desk_refusalOfSupervisorWord]; rw [if_pos c_340]; try rfl)
    exact ct_ri hx hb hr hlocks hP hD hK hS d_Desk_refusalOfSupervisorWord_33 (by rw [hk]; first | done | rfl) rfl
  · by_cases c_341 : (sx.1 3) = 2
    · refine lv_tableIn (off := 51) (tgt := 55) hx hb d_Desk_refusalOfSupervisorWord_4 (by rw [c_341]; decide) (by rw [c_341]; decide) (by rw [c_341]; decide) (by decide) ?_
      refine lv_bipush (v := 22) hx hb d_Desk_refusalOfSupervisorWord_55 (by decide) ?_
      have hk : k_Desk_refusalOfSupervisorWord sx sc sy p1 = 22 := (by rw [k_Desk_refusalOfSupervisorWord]; rw [if_neg c_340]; rw [if_pos c_341]; try rfl)
      exact ct_ri hx hb hr hlocks hP hD hK hS d_Desk_refusalOfSupervisorWord_57 (by rw [hk]; first | done | rfl) rfl
    · by_cases c_342 : (sx.1 3) = 3
      · refine lv_tableIn (off := 30) (tgt := 34) hx hb d_Desk_refusalOfSupervisorWord_4 (by rw [c_342]; decide) (by rw [c_342]; decide) (by rw [c_342]; decide) (by decide) ?_
        refine lv_aload_n hx hb d_Desk_refusalOfSupervisorWord_34 rfl (lv_at hl 0 rfl) ?_
        refine va_get (D := G.1) (ci := 5) (v := .ref qc) (C := R_Desk) (T := T_Desk) (N := 8) hx hb hts (fun w h => gd_sub _ (iw_Desk w h)) hown hK hP 0 rfl rfl 0 (by decide) (hts _ (gd_sub _ q_205)) (fun _ h9 => h9) rfl d_Desk_refusalOfSupervisorWord_35 ?_
        refine va_get (D := G.1) (ci := 1) (v := .ref qy) (C := R_Controls) (T := T_Controls) (N := 6) hx hb hts (fun w h => gd_sub _ (iw_Controls w h)) hown hK hP 1 rfl rfl 3 (by decide) (hts _ (gd_sub _ q_170)) (fun _ h9 => h9) rfl d_Desk_refusalOfSupervisorWord_38 ?_
        refine lv_iload_n hx hb d_Desk_refusalOfSupervisorWord_41 rfl (lv_at hl 1 rfl) ?_
        refine ct_cVi (wr := [(qx, .inr (5, f_Desk qc qo qr sx)), (qc, .inr (1, f_Controls qo qhs qgs qy sc))]) (w1 := [(qy, .inr (2, f_Hyper sy))]) (w2 := [(qx, .inr (5, f_Desk qc qo qr sx)), (qc, .inr (1, f_Controls qo qhs qgs qy sc)), (qy, .inr (2, f_Hyper sy))]) (r := (bI (k_Hyper_hasStatus sy p1))) (As := [.int p1]) (rest := []) (ci := 2) (q0 := 0) ⟨hx, hb, hml, hown, hts⟩ (c_Hyper_hasStatus l G tys qy sy p1) (cwV 1 hts (gdV gd_gd q_422 q_423 q_424 q_45 q_425) rfl rfl rfl (by decide +kernel) ⟨Nat.le_of_ble_eq_true rfl, Nat.le_of_ble_eq_true rfl⟩) hE hK hP hD hS hA [2] [0, 1] [0, 1, 2] rfl (by decide) rfl (by decide) (by decide) rfl (by decide) rfl rfl rfl hl.1 rfl (Nat.le_of_ble_eq_true rfl) d_Desk_refusalOfSupervisorWord_42 ⟨Nat.zero_le _, Nat.zero_le _⟩ (fun H locs hP hD hS => ?_)
        refine lv_if_eq (tgt := 53) hx hb d_Desk_refusalOfSupervisorWord_45 (by decide) (fun c_343 => ?_) (fun c_343 => ?_)
        · refine lv_iconst (v := (-1)) hx hb d_Desk_refusalOfSupervisorWord_53 (by decide) ?_
          have hk : k_Desk_refusalOfSupervisorWord sx sc sy p1 = (-1) := (by rw [k_Desk_refusalOfSupervisorWord]; rw [if_neg c_340]; rw [if_neg c_341]; rw [if_pos c_342]; rw [if_pos c_343]; try rfl)
          exact ct_ri hx hb hr hlocks hP hD hK hS d_Desk_refusalOfSupervisorWord_54 (by rw [hk]; first | done | rfl) rfl
        · refine lv_bipush (v := 22) hx hb d_Desk_refusalOfSupervisorWord_48 (by decide) ?_
          refine lv_goto (tgt := 54) hx hb d_Desk_refusalOfSupervisorWord_50 (by decide) ?_
          have hk : k_Desk_refusalOfSupervisorWord sx sc sy p1 = 22 := (by rw [k_Desk_refusalOfSupervisorWord]; rw [if_neg c_340]; rw [if_neg c_341]; rw [if_pos c_342]; rw [if_neg c_343]; try rfl)
          exact ct_ri hx hb hr hlocks hP hD hK hS d_Desk_refusalOfSupervisorWord_54 (by rw [hk]; first | done | rfl) rfl
      · refine lv_tableOut (tgt := 58) hx hb d_Desk_refusalOfSupervisorWord_4 (by have := lv_neT (a := 1) c_340 (by decide); have := lv_neT (a := 2) c_341 (by decide); have := lv_neT (a := 3) c_342 (by decide); omega) (by decide) ?_
        refine lv_iconst (v := 2) hx hb d_Desk_refusalOfSupervisorWord_58 (by decide) ?_
        have hk : k_Desk_refusalOfSupervisorWord sx sc sy p1 = 2 := (by rw [k_Desk_refusalOfSupervisorWord]; rw [if_neg c_340]; rw [if_neg c_341]; rw [if_neg c_342]; try rfl)
        exact ct_ri hx hb hr hlocks hP hD hK hS d_Desk_refusalOfSupervisorWord_59 (by rw [hk]; first | done | rfl) rfl
def k_Desk_nothingUnless (sx : ob) (sc : ob) (sy : ob) (p1 : Int32) : Int32 × ob :=
  if (k_Desk_refusalOfSupervisorWord sx sc sy p1) = (-1) then (((k_Desk_goOn sx).1), ((k_Desk_goOn sx).2)) else ((k_Desk_refusalOfSupervisorWord sx sc sy p1), sx)
set_option maxHeartbeats 4000000 in
set_option maxRecDepth 100000 in
theorem c_Desk_nothingUnless (l : Launch) (G : gx) (tys : List (ClassId × FieldType)) (qx qc qy qo qr qhs qgs : Nat) (sx : ob) (sc : ob) (sy : ob) (p1 : Int32) : ct_I l y_Desk_nothingUnless ws_Desk_nothingUnless ({ frames := 2, cells := 0, slots := 0, locals := 42 }) G tys [.ref qx, .int p1] [(qx, .inr (5, f_Desk qc qo qr sx)), (qc, .inr (1, f_Controls qo qhs qgs qy sc)), (qy, .inr (2, f_Hyper sy))] ((k_Desk_nothingUnless sx sc sy p1).1) [(qx, .inr (5, f_Desk qc qo qr ((k_Desk_nothingUnless sx sc sy p1).2))), (qc, .inr (1, f_Controls qo qhs qgs qy sc)), (qy, .inr (2, f_Hyper sy))] := by
  refine ct_hI (cc := cc_Desk_nothingUnless) (maxL := 3) (ret := (some .int)) (by decide) rfl (Nat.le_of_ble_eq_true rfl) ?_
  intro p e s m below meth c A ls hx hb hr hml hts hown hlocks hP hK hD hA hE hS hl
  have hl : lv_has ls 3 [(0, .ref qx), (1, .int p1)] := hl
  have hown : s.vm.findClass R_Desk = some m.cls := hown
  refine lv_aload_n hx hb d_Desk_nothingUnless_0 rfl (lv_at hl 0 rfl) ?_
  refine lv_iload_n hx hb d_Desk_nothingUnless_1 rfl (lv_at hl 1 rfl) ?_
  refine ct_cVi (wr := []) (w1 := [(qx, .inr (5, f_Desk qc qo qr sx)), (qc, .inr (1, f_Controls qo qhs qgs qy sc)), (qy, .inr (2, f_Hyper sy))]) (w2 := [(qx, .inr (5, f_Desk qc qo qr sx)), (qc, .inr (1, f_Controls qo qhs qgs qy sc)), (qy, .inr (2, f_Hyper sy))]) (r := (k_Desk_refusalOfSupervisorWord sx sc sy p1)) (As := [.int p1]) (rest := []) (ci := 5) (q0 := 0) ⟨hx, hb, hml, hown, hts⟩ (c_Desk_refusalOfSupervisorWord l G tys qx qc qy qo qr qhs qgs sx sc sy p1) (cwV 1 hts (gdV gd_gd q_418 q_420 q_3 q_41 q_421) rfl rfl rfl (by decide +kernel) ⟨Nat.le_of_ble_eq_true rfl, Nat.le_of_ble_eq_true rfl⟩) hE hK hP hD hS hA [0, 1, 2] [] [0, 1, 2] rfl (by decide) rfl (by decide) (by decide) rfl (by decide) rfl rfl rfl hl.1 rfl (Nat.le_of_ble_eq_true rfl) d_Desk_nothingUnless_2 ⟨Nat.zero_le _, Nat.zero_le _⟩ (fun H locs hP hD hS => ?_)
  refine lv_istore_n (lv' := [(2, .int (k_Desk_refusalOfSupervisorWord sx sc sy p1)), (0, .ref qx), (1, .int p1)]) hx hb d_Desk_nothingUnless_5 rfl hl (by decide) rfl (fun ls hl => ?_)
  refine lv_iload_n hx hb d_Desk_nothingUnless_6 rfl (lv_at hl 0 rfl) ?_
  refine lv_iconst (v := (-1)) hx hb d_Desk_nothingUnless_7 (by decide) ?_
  refine lv_icmp_ne (tgt := 18) hx hb d_Desk_nothingUnless_8 (by decide) (fun c_347 => ?_) (fun c_347 => ?_)
  · refine lv_iload_n hx hb d_Desk_nothingUnless_18 rfl (lv_at hl 0 rfl) ?_
    have hk : k_Desk_nothingUnless sx sc sy p1 = ((k_Desk_refusalOfSupervisorWord sx sc sy p1), sx) := (by rw [k_Desk_nothingUnless]; rw [if_neg c_347]; try rfl)
    exact ct_ri hx hb hr hlocks hP hD hK hS d_Desk_nothingUnless_19 (by rw [hk]; first | done | rfl) (by rw [hk]; first | done | rfl)
  · refine lv_aload_n hx hb d_Desk_nothingUnless_11 rfl (lv_at hl 1 rfl) ?_
    obtain ⟨r_348, er_348⟩ : ∃ z, z = (k_Desk_goOn sx).1 := ⟨_, rfl⟩
    obtain ⟨sx_349, esx_349⟩ : ∃ z, z = (k_Desk_goOn sx).2 := ⟨_, rfl⟩
    have hM := c_Desk_goOn l G tys qx qc qo qr sx
    rw [← er_348, ← esx_349] at hM
    refine ct_cVi (wr := [(qc, .inr (1, f_Controls qo qhs qgs qy sc)), (qy, .inr (2, f_Hyper sy))]) (w1 := [(qx, .inr (5, f_Desk qc qo qr sx_349))]) (w2 := [(qx, .inr (5, f_Desk qc qo qr sx_349)), (qc, .inr (1, f_Controls qo qhs qgs qy sc)), (qy, .inr (2, f_Hyper sy))]) (r := r_348) (As := []) (rest := []) (ci := 5) (q0 := 0) ⟨hx, hb, hml, hown, hts⟩ hM (cwV 0 hts (gdV gd_gd q_426 q_428 q_4 q_41 q_429) rfl rfl rfl (by decide +kernel) ⟨Nat.le_of_ble_eq_true rfl, Nat.le_of_ble_eq_true rfl⟩) hE hK hP hD hS hA [0] [1, 2] [2, 0, 1] rfl (by decide) rfl (by decide) (by decide) rfl (by decide) rfl rfl rfl hl.1 rfl (Nat.le_of_ble_eq_true rfl) d_Desk_nothingUnless_12 ⟨Nat.zero_le _, Nat.zero_le _⟩ (fun H locs hP hD hS => ?_)
    refine lv_goto (tgt := 19) hx hb d_Desk_nothingUnless_15 (by decide) ?_
    have hk : k_Desk_nothingUnless sx sc sy p1 = (r_348, sx_349) := (by rw [k_Desk_nothingUnless]; rw [if_pos c_347]; try rw [← er_348]; try rw [← esx_349]; try rfl)
    exact ct_ri hx hb hr hlocks hP hD hK hS d_Desk_nothingUnless_19 (by rw [hk]; first | done | rfl) (by rw [hk]; first | done | rfl)
def k_Desk_hypervisorFence (sx : ob) : Int32 × ob :=
  if (bI (k_Desk_isVirtual sx)) = 0 then (if (sx.1 3) = 0 then (2, sx) else (((k_Desk_goOn sx).1), ((k_Desk_goOn sx).2))) else (22, sx)
set_option maxHeartbeats 4000000 in
set_option maxRecDepth 100000 in
theorem c_Desk_hypervisorFence (l : Launch) (G : gx) (tys : List (ClassId × FieldType)) (qx qc qo qr : Nat) (sx : ob) : ct_I l y_Desk_hypervisorFence ws_Desk_hypervisorFence ({ frames := 1, cells := 0, slots := 0, locals := 20 }) G tys [.ref qx] [(qx, .inr (5, f_Desk qc qo qr sx))] ((k_Desk_hypervisorFence sx).1) [(qx, .inr (5, f_Desk qc qo qr ((k_Desk_hypervisorFence sx).2)))] := by
  refine ct_hI (cc := cc_Desk_hypervisorFence) (maxL := 1) (ret := (some .int)) (by decide) rfl (Nat.le_of_ble_eq_true rfl) ?_
  intro p e s m below meth c A ls hx hb hr hml hts hown hlocks hP hK hD hA hE hS hl
  have hl : lv_has ls 1 [(0, .ref qx)] := hl
  have hown : s.vm.findClass R_Desk = some m.cls := hown
  refine lv_aload_n hx hb d_Desk_hypervisorFence_0 rfl (lv_at hl 0 rfl) ?_
  refine ct_cVi (wr := []) (w1 := [(qx, .inr (5, f_Desk qc qo qr sx))]) (w2 := [(qx, .inr (5, f_Desk qc qo qr sx))]) (r := (bI (k_Desk_isVirtual sx))) (As := []) (rest := []) (ci := 5) (q0 := 0) ⟨hx, hb, hml, hown, hts⟩ (c_Desk_isVirtual l G tys qx qc qo qr sx) (cwV 0 hts (gdV gd_gd q_434 q_436 q_6 q_41 q_437) rfl rfl rfl (by decide +kernel) ⟨Nat.le_of_ble_eq_true rfl, Nat.le_of_ble_eq_true rfl⟩) hE hK hP hD hS hA [0] [] [0] rfl (by decide) rfl (by decide) (by decide) rfl (by decide) rfl rfl rfl hl.1 rfl (Nat.le_of_ble_eq_true rfl) d_Desk_hypervisorFence_1 ⟨Nat.zero_le _, Nat.zero_le _⟩ (fun H locs hP hD hS => ?_)
  refine lv_if_eq (tgt := 10) hx hb d_Desk_hypervisorFence_4 (by decide) (fun c_357 => ?_) (fun c_357 => ?_)
  · refine lv_aload_n hx hb d_Desk_hypervisorFence_10 rfl (lv_at hl 0 rfl) ?_
    refine va_get (D := G.1) (ci := 5) (v := .int (sx.1 3)) (C := R_Desk) (T := T_Desk) (N := 8) hx hb hts (fun w h => gd_sub _ (iw_Desk w h)) hown hK hP 0 rfl rfl 3 (by decide) (hts _ (gd_sub _ q_208)) (fun _ h9 => h9) rfl d_Desk_hypervisorFence_11 ?_
    refine lv_if_ne (tgt := 21) hx hb d_Desk_hypervisorFence_14 (by decide) (fun c_358 => ?_) (fun c_358 => ?_)
    · refine lv_aload_n hx hb d_Desk_hypervisorFence_21 rfl (lv_at hl 0 rfl) ?_
      obtain ⟨r_359, er_359⟩ : ∃ z, z = (k_Desk_goOn sx).1 := ⟨_, rfl⟩
      obtain ⟨sx_360, esx_360⟩ : ∃ z, z = (k_Desk_goOn sx).2 := ⟨_, rfl⟩
      have hM := c_Desk_goOn l G tys qx qc qo qr sx
      rw [← er_359, ← esx_360] at hM
      refine ct_cVi (wr := []) (w1 := [(qx, .inr (5, f_Desk qc qo qr sx_360))]) (w2 := [(qx, .inr (5, f_Desk qc qo qr sx_360))]) (r := r_359) (As := []) (rest := []) (ci := 5) (q0 := 0) ⟨hx, hb, hml, hown, hts⟩ hM (cwV 0 hts (gdV gd_gd q_426 q_428 q_4 q_41 q_429) rfl rfl rfl (by decide +kernel) ⟨Nat.le_of_ble_eq_true rfl, Nat.le_of_ble_eq_true rfl⟩) hE hK hP hD hS hA [0] [] [0] rfl (by decide) rfl (by decide) (by decide) rfl (by decide) rfl rfl rfl hl.1 rfl (Nat.le_of_ble_eq_true rfl) d_Desk_hypervisorFence_22 ⟨Nat.zero_le _, Nat.zero_le _⟩ (fun H locs hP hD hS => ?_)
      have hk : k_Desk_hypervisorFence sx = (r_359, sx_360) := (by rw [k_Desk_hypervisorFence]; rw [if_pos c_357]; rw [if_neg c_358]; try rw [← er_359]; try rw [← esx_360]; try rfl)
      exact ct_ri hx hb hr hlocks hP hD hK hS d_Desk_hypervisorFence_25 (by rw [hk]; first | done | rfl) (by rw [hk]; first | done | rfl)
    · refine lv_iconst (v := 2) hx hb d_Desk_hypervisorFence_17 (by decide) ?_
      refine lv_goto (tgt := 25) hx hb d_Desk_hypervisorFence_18 (by decide) ?_
      have hk : k_Desk_hypervisorFence sx = (2, sx) := (by rw [k_Desk_hypervisorFence]; rw [if_pos c_357]; rw [if_pos c_358]; try rfl)
      exact ct_ri hx hb hr hlocks hP hD hK hS d_Desk_hypervisorFence_25 (by rw [hk]; first | done | rfl) (by rw [hk]; first | done | rfl)
  · refine lv_bipush (v := 22) hx hb d_Desk_hypervisorFence_7 (by decide) ?_
    have hk : k_Desk_hypervisorFence sx = (22, sx) := (by rw [k_Desk_hypervisorFence]; rw [if_neg c_357]; try rfl)
    exact ct_ri hx hb hr hlocks hP hD hK hS d_Desk_hypervisorFence_9 (by rw [hk]; first | done | rfl) (by rw [hk]; first | done | rfl)
def k_Outside_setAlarm (so : ob) (p1 : Int32) (p2 : Int32) : ob :=
  if 0 ≤ p2 then (ol so 3 ((lsh p2.toInt64 32) ||| (p1.toInt64 &&& 4294967295))) else (ol so 3 9223372036854775807)
set_option maxHeartbeats 4000000 in
set_option maxRecDepth 100000 in
theorem c_Outside_setAlarm (l : Launch) (G : gx) (tys : List (ClassId × FieldType)) (qo qa : Nat) (so : ob) (p1 : Int32) (p2 : Int32) : ct_V l y_Outside_setAlarm ws_Outside_setAlarm ({ frames := 0, cells := 0, slots := 0, locals := 0 }) G tys [.ref qo, .int p1, .int p2] [(qo, .inr (3, f_Outside qa so))] [(qo, .inr (3, f_Outside qa (k_Outside_setAlarm so p1 p2)))] := by
  refine ct_hV (cc := cc_Outside_setAlarm) (maxL := 3) (ret := none) (by decide) rfl (Nat.le_of_ble_eq_true rfl) ?_
  intro p e s m below meth c A ls hx hb hr hml hts hown hlocks hP hK hD hA hE hS hl
  have hl : lv_has ls 3 [(0, .ref qo), (1, .int p1), (2, .int p2)] := hl
  have hown : s.vm.findClass R_Outside = some m.cls := hown
  refine lv_iload_n hx hb d_Outside_setAlarm_0 rfl (lv_at hl 2 rfl) ?_
  refine lv_if_ge (tgt := 14) hx hb d_Outside_setAlarm_1 (by decide) (fun c_372 => ?_) (fun c_372 => ?_)
  · refine lv_aload_n hx hb d_Outside_setAlarm_14 rfl (lv_at hl 0 rfl) ?_
    refine lv_iload_n hx hb d_Outside_setAlarm_15 rfl (lv_at hl 2 rfl) ?_
    refine lv_i2l (v := p2.toInt64) hx hb d_Outside_setAlarm_16 rfl ?_
    refine lv_bipush (v := 32) hx hb d_Outside_setAlarm_17 (by decide) ?_
    refine lv_lshl (v := (lsh p2.toInt64 32)) hx hb d_Outside_setAlarm_19 rfl ?_
    refine lv_iload_n hx hb d_Outside_setAlarm_20 rfl (lv_at hl 1 rfl) ?_
    refine lv_i2l (v := p1.toInt64) hx hb d_Outside_setAlarm_21 rfl ?_
    refine lv_ldc2 (v := 4294967295) hx hb hown (hts _ (gd_sub _ q_457)) d_Outside_setAlarm_22 ?_
    refine lv_land hx hb d_Outside_setAlarm_25 ?_
    refine lv_lor hx hb d_Outside_setAlarm_26 ?_
    refine va_put (D := G.1) (ci := 3) (v := .long ((lsh p2.toInt64 32) ||| (p1.toInt64 &&& 4294967295))) (ty := .long) (C := R_Outside) (T := T_Outside) (N := 6) hx hb hts (fun w h => gd_sub _ (iw_Outside w h)) ty_Outside tyok_Outside nm_Outside hown hK hP hD hS 0 rfl rfl 3 (by decide) (hts _ (gd_sub _ q_76)) (fun _ h9 => h9) rfl (by decide +kernel) rfl rfl (Nat.le_of_ble_eq_true rfl) d_Outside_setAlarm_27 (fun H locs hP hD hS => ?_)
    have hP : va_P G.1 vwCl [(qo, .inr (3, f_Outside qa (ol so 3 ((lsh p2.toInt64 32) ||| (p1.toInt64 &&& 4294967295)))))] H := hP
    have hD : va_D A [(qo, .inr (3, f_Outside qa (ol so 3 ((lsh p2.toInt64 32) ||| (p1.toInt64 &&& 4294967295)))))] := hD
    have hk : k_Outside_setAlarm so p1 p2 = (ol so 3 ((lsh p2.toInt64 32) ||| (p1.toInt64 &&& 4294967295))) := (by rw [k_Outside_setAlarm]; rw [if_pos c_372]; try rfl)
    exact ct_rv hx hb hr hlocks hP hD hK hS d_Outside_setAlarm_30 (by rw [hk]; first | done | rfl)
  · refine lv_aload_n hx hb d_Outside_setAlarm_4 rfl (lv_at hl 0 rfl) ?_
    refine lv_ldc2 (v := 9223372036854775807) hx hb hown (hts _ (gd_sub _ q_69)) d_Outside_setAlarm_5 ?_
    refine va_put (D := G.1) (ci := 3) (v := .long 9223372036854775807) (ty := .long) (C := R_Outside) (T := T_Outside) (N := 6) hx hb hts (fun w h => gd_sub _ (iw_Outside w h)) ty_Outside tyok_Outside nm_Outside hown hK hP hD hS 0 rfl rfl 3 (by decide) (hts _ (gd_sub _ q_76)) (fun _ h9 => h9) rfl (by decide +kernel) rfl rfl (Nat.le_of_ble_eq_true rfl) d_Outside_setAlarm_8 (fun H locs hP hD hS => ?_)
    have hP : va_P G.1 vwCl [(qo, .inr (3, f_Outside qa (ol so 3 9223372036854775807)))] H := hP
    have hD : va_D A [(qo, .inr (3, f_Outside qa (ol so 3 9223372036854775807)))] := hD
    refine lv_goto (tgt := 30) hx hb d_Outside_setAlarm_11 (by decide) ?_
    have hk : k_Outside_setAlarm so p1 p2 = (ol so 3 9223372036854775807) := (by rw [k_Outside_setAlarm]; rw [if_neg c_372]; try rfl)
    exact ct_rv hx hb hr hlocks hP hD hK hS d_Outside_setAlarm_30 (by rw [hk]; first | done | rfl)
def k_Outside_print (so : ob) (sa : Nat → Int32) (p1 : Int32) : ob × (Nat → Int32) :=
  if 256 ≤ (so.1 1) then (so, sa) else ((oi so 1 ((so.1 1) + 1)), (upd sa (so.1 1).toNatClampNeg (vp_nar .byte p1.toInt8.toInt32)))
set_option maxHeartbeats 4000000 in
set_option maxRecDepth 100000 in
theorem c_Outside_print (l : Launch) (G : gx) (tys : List (ClassId × FieldType)) {cA : ClassId} (ht : tys[0]? = some (cA, .byte)) (qo qa : Nat) (so : ob) (sa : Nat → Int32) (p1 : Int32) (hp9 : ¬ so.1 1 < 0) : ct_V l y_Outside_print ws_Outside_print ({ frames := 0, cells := 0, slots := 0, locals := 0 }) G tys [.ref qo, .int p1] [(qo, .inr (3, f_Outside qa so)), (qa, .inl (cA, 256, .inl sa))] [(qo, .inr (3, f_Outside qa ((k_Outside_print so sa p1).1))), (qa, .inl (cA, 256, .inl ((k_Outside_print so sa p1).2)))] := by
  refine ct_hV (cc := cc_Outside_print) (maxL := 2) (ret := none) (by decide) rfl (Nat.le_of_ble_eq_true rfl) ?_
  intro p e s m below meth c A ls hx hb hr hml hts hown hlocks hP hK hD hA hE hS hl
  have hl : lv_has ls 2 [(0, .ref qo), (1, .int p1)] := hl
  have hown : s.vm.findClass R_Outside = some m.cls := hown
  refine lv_aload_n hx hb d_Outside_print_0 rfl (lv_at hl 0 rfl) ?_
  refine va_get (D := G.1) (ci := 3) (v := .int (so.1 1)) (C := R_Outside) (T := T_Outside) (N := 6) hx hb hts (fun w h => gd_sub _ (iw_Outside w h)) hown hK hP 0 rfl rfl 1 (by decide) (hts _ (gd_sub _ q_71)) (fun _ h9 => h9) rfl d_Outside_print_1 ?_
  refine lv_aload_n hx hb d_Outside_print_4 rfl (lv_at hl 0 rfl) ?_
  refine va_get (D := G.1) (ci := 3) (v := .ref qa) (C := R_Outside) (T := T_Outside) (N := 6) hx hb hts (fun w h => gd_sub _ (iw_Outside w h)) hown hK hP 0 rfl rfl 0 (by decide) (hts _ (gd_sub _ q_70)) (fun _ h9 => h9) rfl d_Outside_print_5 ?_
  refine va_alen (v := 256) hx hb hK hP 1 0 rfl ht rfl d_Outside_print_8 ?_
  refine lv_icmp_ge (tgt := 33) hx hb d_Outside_print_9 (by decide) (fun c_376 => ?_) (fun c_376 => ?_)
  · have hk : k_Outside_print so sa p1 = (so, sa) := (by rw [k_Outside_print]; rw [if_pos c_376]; try rfl)
    exact ct_rv hx hb hr hlocks hP hD hK hS d_Outside_print_33 (by rw [hk]; first | done | rfl)
  · refine lv_aload_n hx hb d_Outside_print_12 rfl (lv_at hl 0 rfl) ?_
    refine va_get (D := G.1) (ci := 3) (v := .ref qa) (C := R_Outside) (T := T_Outside) (N := 6) hx hb hts (fun w h => gd_sub _ (iw_Outside w h)) hown hK hP 0 rfl rfl 0 (by decide) (hts _ (gd_sub _ q_70)) (fun _ h9 => h9) rfl d_Outside_print_13 ?_
    refine lv_aload_n hx hb d_Outside_print_16 rfl (lv_at hl 0 rfl) ?_
    refine va_get (D := G.1) (ci := 3) (v := .int (so.1 1)) (C := R_Outside) (T := T_Outside) (N := 6) hx hb hts (fun w h => gd_sub _ (iw_Outside w h)) hown hK hP 0 rfl rfl 1 (by decide) (hts _ (gd_sub _ q_71)) (fun _ h9 => h9) rfl d_Outside_print_17 ?_
    refine lv_iload_n hx hb d_Outside_print_20 rfl (lv_at hl 1 rfl) ?_
    refine lv_i2b (v := p1.toInt8.toInt32) hx hb d_Outside_print_21 rfl ?_
    refine va_bast hx hb hK hP hD hS 1 0 rfl ht (in256 hp9 c_376) d_Outside_print_22 (fun H locs hP hD hS => ?_)
    have hP : va_P G.1 vwCl [(qo, .inr (3, f_Outside qa so)), (qa, .inl (cA, 256, .inl (upd sa (so.1 1).toNatClampNeg (vp_nar .byte p1.toInt8.toInt32))))] H := hP
    have hD : va_D A [(qo, .inr (3, f_Outside qa so)), (qa, .inl (cA, 256, .inl (upd sa (so.1 1).toNatClampNeg (vp_nar .byte p1.toInt8.toInt32))))] := hD
    refine lv_aload_n hx hb d_Outside_print_23 rfl (lv_at hl 0 rfl) ?_
    refine lv_dup hx hb d_Outside_print_24 rfl ?_
    refine va_get (D := G.1) (ci := 3) (v := .int (so.1 1)) (C := R_Outside) (T := T_Outside) (N := 6) hx hb hts (fun w h => gd_sub _ (iw_Outside w h)) hown hK hP 0 rfl rfl 1 (by decide) (hts _ (gd_sub _ q_71)) (fun _ h9 => h9) rfl d_Outside_print_25 ?_
    refine lv_iconst (v := 1) hx hb d_Outside_print_28 (by decide) ?_
    refine lv_iadd hx hb d_Outside_print_29 ?_
    refine va_put (D := G.1) (ci := 3) (v := .int ((so.1 1) + 1)) (ty := .int) (C := R_Outside) (T := T_Outside) (N := 6) hx hb hts (fun w h => gd_sub _ (iw_Outside w h)) ty_Outside tyok_Outside nm_Outside hown hK hP hD hS 0 rfl rfl 1 (by decide) (hts _ (gd_sub _ q_71)) (fun _ h9 => h9) rfl (by decide +kernel) rfl rfl (Nat.le_of_ble_eq_true rfl) d_Outside_print_30 (fun H locs hP hD hS => ?_)
    have hP : va_P G.1 vwCl [(qo, .inr (3, f_Outside qa (oi so 1 ((so.1 1) + 1)))), (qa, .inl (cA, 256, .inl (upd sa (so.1 1).toNatClampNeg (vp_nar .byte p1.toInt8.toInt32))))] H := hP
    have hD : va_D A [(qo, .inr (3, f_Outside qa (oi so 1 ((so.1 1) + 1)))), (qa, .inl (cA, 256, .inl (upd sa (so.1 1).toNatClampNeg (vp_nar .byte p1.toInt8.toInt32))))] := hD
    have hk : k_Outside_print so sa p1 = ((oi so 1 ((so.1 1) + 1)), (upd sa (so.1 1).toNatClampNeg (vp_nar .byte p1.toInt8.toInt32))) := (by rw [k_Outside_print]; rw [if_neg c_376]; try rfl)
    exact ct_rv hx hb hr hlocks hP hD hK hS d_Outside_print_33 (by rw [hk]; first | done | rfl)
def k_Outside_serve (so : ob) (sa : Nat → Int32) (p1 : Int32) (p2 : Int32) (p3 : Int32) : Int32 × ob × (Nat → Int32) :=
  if p1 = 0 then (0, ((k_Outside_setAlarm so p2 p3)), sa) else if p1 = 1 then (0, ((k_Outside_print so sa p2).1), ((k_Outside_print so sa p2).2)) else if p1 = 8 then (0, (oz so 5 true), sa) else ((-2), so, sa)
set_option maxHeartbeats 4000000 in
set_option maxRecDepth 100000 in
theorem c_Outside_serve (l : Launch) (G : gx) (tys : List (ClassId × FieldType)) {cA : ClassId} (ht : tys[0]? = some (cA, .byte)) (qo qa : Nat) (so : ob) (sa : Nat → Int32) (p1 : Int32) (p2 : Int32) (p3 : Int32) (hp9 : ¬ so.1 1 < 0) : ct_I l y_Outside_serve ws_Outside_serve ({ frames := 1, cells := 0, slots := 0, locals := 22 }) G tys [.ref qo, .int p1, .int p2, .int p3] [(qo, .inr (3, f_Outside qa so)), (qa, .inl (cA, 256, .inl sa))] ((k_Outside_serve so sa p1 p2 p3).1) [(qo, .inr (3, f_Outside qa ((k_Outside_serve so sa p1 p2 p3).2.1))), (qa, .inl (cA, 256, .inl ((k_Outside_serve so sa p1 p2 p3).2.2)))] := by
  refine ct_hI (cc := cc_Outside_serve) (maxL := 4) (ret := (some .int)) (by decide) rfl (Nat.le_of_ble_eq_true rfl) ?_
  intro p e s m below meth c A ls hx hb hr hml hts hown hlocks hP hK hD hA hE hS hl
  have hl : lv_has ls 4 [(0, .ref qo), (1, .int p1), (2, .int p2), (3, .int p3)] := hl
  have hown : s.vm.findClass R_Outside = some m.cls := hown
  refine lv_iload_n hx hb d_Outside_serve_0 rfl (lv_at hl 1 rfl) ?_
  by_cases c_380 : p1 = 0
  · refine lv_lookup (off := 35) (tgt := 36) hx hb d_Outside_serve_1 (by decide) (by rw [c_380]; decide) (by decide) ?_
    refine lv_aload_n hx hb d_Outside_serve_36 rfl (lv_at hl 0 rfl) ?_
    refine lv_iload_n hx hb d_Outside_serve_37 rfl (lv_at hl 2 rfl) ?_
    refine lv_iload_n hx hb d_Outside_serve_38 rfl (lv_at hl 3 rfl) ?_
    obtain ⟨so_381, eso_381⟩ : ∃ z, z = (k_Outside_setAlarm so p2 p3) := ⟨_, rfl⟩
    have hM := c_Outside_setAlarm l G tys qo qa so p2 p3
    rw [← eso_381] at hM
    refine ct_cVv (wr := [(qa, .inl (cA, 256, .inl sa))]) (w1 := [(qo, .inr (3, f_Outside qa so_381))]) (w2 := [(qo, .inr (3, f_Outside qa so_381)), (qa, .inl (cA, 256, .inl sa))]) (As := [.int p2, .int p3]) (rest := []) (ci := 3) (q0 := 0) ⟨hx, hb, hml, hown, hts⟩ hM (cwV 2 hts (gdV gd_gd q_453 q_454 q_455 q_43 q_456) rfl rfl rfl (by decide +kernel) ⟨Nat.le_of_ble_eq_true rfl, Nat.le_of_ble_eq_true rfl⟩) hE hK hP hD hS hA [0] [1] [1, 0] rfl (by decide) rfl (by decide) (by decide) rfl (by decide) rfl rfl rfl hl.1 rfl (Nat.le_of_ble_eq_true rfl) d_Outside_serve_39 ⟨Nat.zero_le _, Nat.zero_le _⟩ (fun H locs hP hD hS => ?_)
    refine lv_iconst (v := 0) hx hb d_Outside_serve_42 (by decide) ?_
    have hk : k_Outside_serve so sa p1 p2 p3 = (0, so_381, sa) := (by rw [k_Outside_serve]; rw [if_pos c_380]; try rw [← eso_381]; try rfl)
    exact ct_ri hx hb hr hlocks hP hD hK hS d_Outside_serve_43 (by rw [hk]; first | done | rfl) (by rw [hk]; first | done | rfl)
  · by_cases c_382 : p1 = 1
    · refine lv_lookup (off := 43) (tgt := 44) hx hb d_Outside_serve_1 (by decide) (by rw [c_382]; decide) (by decide) ?_
      refine lv_aload_n hx hb d_Outside_serve_44 rfl (lv_at hl 0 rfl) ?_
      refine lv_iload_n hx hb d_Outside_serve_45 rfl (lv_at hl 2 rfl) ?_
      obtain ⟨so_383, eso_383⟩ : ∃ z, z = (k_Outside_print so sa p2).1 := ⟨_, rfl⟩
      obtain ⟨sa_384, esa_384⟩ : ∃ z, z = (k_Outside_print so sa p2).2 := ⟨_, rfl⟩
      have hM := c_Outside_print l G tys ht qo qa so sa p2 hp9
      rw [← eso_383, ← esa_384] at hM
      refine ct_cVv (wr := []) (w1 := [(qo, .inr (3, f_Outside qa so_383)), (qa, .inl (cA, 256, .inl sa_384))]) (w2 := [(qo, .inr (3, f_Outside qa so_383)), (qa, .inl (cA, 256, .inl sa_384))]) (As := [.int p2]) (rest := []) (ci := 3) (q0 := 0) ⟨hx, hb, hml, hown, hts⟩ hM (cwV 1 hts (gdV gd_gd q_458 q_459 q_460 q_43 q_461) rfl rfl rfl (by decide +kernel) ⟨Nat.le_of_ble_eq_true rfl, Nat.le_of_ble_eq_true rfl⟩) hE hK hP hD hS hA [0, 1] [] [0, 1] rfl (by decide) rfl (by decide) (by decide) rfl (by decide) rfl rfl rfl hl.1 rfl (Nat.le_of_ble_eq_true rfl) d_Outside_serve_46 ⟨Nat.zero_le _, Nat.zero_le _⟩ (fun H locs hP hD hS => ?_)
      refine lv_iconst (v := 0) hx hb d_Outside_serve_49 (by decide) ?_
      have hk : k_Outside_serve so sa p1 p2 p3 = (0, so_383, sa_384) := (by rw [k_Outside_serve]; rw [if_neg c_380]; rw [if_pos c_382]; try rw [← eso_383]; try rw [← esa_384]; try rfl)
      exact ct_ri hx hb hr hlocks hP hD hK hS d_Outside_serve_50 (by rw [hk]; first | done | rfl) (by rw [hk]; first | done | rfl)
    · by_cases c_385 : p1 = 8
      · refine lv_lookup (off := 50) (tgt := 51) hx hb d_Outside_serve_1 (by decide) (by rw [c_385]; decide) (by decide) ?_
        refine lv_aload_n hx hb d_Outside_serve_51 rfl (lv_at hl 0 rfl) ?_
        refine lv_iconst (v := 1) hx hb d_Outside_serve_52 (by decide) ?_
        refine va_put (D := G.1) (ci := 3) (v := .int 1) (ty := .boolean) (C := R_Outside) (T := T_Outside) (N := 6) hx hb hts (fun w h => gd_sub _ (iw_Outside w h)) ty_Outside tyok_Outside nm_Outside hown hK hP hD hS 0 rfl rfl 5 (by decide) (hts _ (gd_sub _ q_81)) (fun _ h9 => h9) rfl (by decide +kernel) rfl rfl (Nat.le_of_ble_eq_true rfl) d_Outside_serve_53 (fun H locs hP hD hS => ?_)
        have hP : va_P G.1 vwCl [(qo, .inr (3, f_Outside qa (oz so 5 true))), (qa, .inl (cA, 256, .inl sa))] H := hP
        have hD : va_D A [(qo, .inr (3, f_Outside qa (oz so 5 true))), (qa, .inl (cA, 256, .inl sa))] := hD
        refine lv_iconst (v := 0) hx hb d_Outside_serve_56 (by decide) ?_
        have hk : k_Outside_serve so sa p1 p2 p3 = (0, (oz so 5 true), sa) := (by rw [k_Outside_serve]; rw [if_neg c_380]; rw [if_neg c_382]; rw [if_pos c_385]; try rfl)
        exact ct_ri hx hb hr hlocks hP hD hK hS d_Outside_serve_57 (by rw [hk]; first | done | rfl) (by rw [hk]; first | done | rfl)
      · refine lv_lookup (off := 57) (tgt := 58) hx hb d_Outside_serve_1 (by decide) ((lv_osw c_380 (by decide)).trans ((lv_osw c_382 (by decide)).trans ((lv_osw c_385 (by decide)).trans rfl))) (by decide) ?_
        refine lv_bipush (v := (-2)) hx hb d_Outside_serve_58 (by decide) ?_
        have hk : k_Outside_serve so sa p1 p2 p3 = ((-2), so, sa) := (by rw [k_Outside_serve]; rw [if_neg c_380]; rw [if_neg c_382]; rw [if_neg c_385]; try rfl)
        exact ct_ri hx hb hr hlocks hP hD hK hS d_Outside_serve_60 (by rw [hk]; first | done | rfl) (by rw [hk]; first | done | rfl)
def k_Desk_environmentCall (sx : ob) (so : ob) (sa : Nat → Int32) (sr : ob) : Int32 × ob × ob × (Nat → Int32) × ob :=
  if (sx.1 3) = 3 then (10, sx, so, sa, sr) else (if (sx.1 3) = 1 then (((k_Desk_goOn sx).1), ((k_Desk_goOn sx).2), ((k_Outside_serve so sa (sr.1 2) (sr.1 0) (sr.1 1)).2.1), ((k_Outside_serve so sa (sr.1 2) (sr.1 0) (sr.1 1)).2.2), (oi sr 0 ((k_Outside_serve so sa (sr.1 2) (sr.1 0) (sr.1 1)).1))) else (8, sx, so, sa, sr))
set_option maxHeartbeats 4000000 in
set_option maxRecDepth 100000 in
theorem c_Desk_environmentCall (l : Launch) (G : gx) (tys : List (ClassId × FieldType)) {cA : ClassId} (ht : tys[0]? = some (cA, .byte)) (qx qo qa qr qc : Nat) (sx : ob) (so : ob) (sa : Nat → Int32) (sr : ob) (hp9 : ¬ so.1 1 < 0) : ct_I l y_Desk_environmentCall ws_Desk_environmentCall ({ frames := 2, cells := 0, slots := 0, locals := 45 }) G tys [.ref qx] [(qx, .inr (5, f_Desk qc qo qr sx)), (qo, .inr (3, f_Outside qa so)), (qa, .inl (cA, 256, .inl sa)), (qr, .inr (4, f_Registers sr))] ((k_Desk_environmentCall sx so sa sr).1) [(qx, .inr (5, f_Desk qc qo qr ((k_Desk_environmentCall sx so sa sr).2.1))), (qo, .inr (3, f_Outside qa ((k_Desk_environmentCall sx so sa sr).2.2.1))), (qa, .inl (cA, 256, .inl ((k_Desk_environmentCall sx so sa sr).2.2.2.1))), (qr, .inr (4, f_Registers ((k_Desk_environmentCall sx so sa sr).2.2.2.2)))] := by
  refine ct_hI (cc := cc_Desk_environmentCall) (maxL := 2) (ret := (some .int)) (by decide) rfl (Nat.le_of_ble_eq_true rfl) ?_
  intro p e s m below meth c A ls hx hb hr hml hts hown hlocks hP hK hD hA hE hS hl
  have hl : lv_has ls 2 [(0, .ref qx)] := hl
  have hown : s.vm.findClass R_Desk = some m.cls := hown
  refine lv_aload_n hx hb d_Desk_environmentCall_0 rfl (lv_at hl 0 rfl) ?_
  refine va_get (D := G.1) (ci := 5) (v := .int (sx.1 3)) (C := R_Desk) (T := T_Desk) (N := 8) hx hb hts (fun w h => gd_sub _ (iw_Desk w h)) hown hK hP 0 rfl rfl 3 (by decide) (hts _ (gd_sub _ q_208)) (fun _ h9 => h9) rfl d_Desk_environmentCall_1 ?_
  refine lv_iconst (v := 3) hx hb d_Desk_environmentCall_4 (by decide) ?_
  refine lv_icmp_ne (tgt := 11) hx hb d_Desk_environmentCall_5 (by decide) (fun c_391 => ?_) (fun c_391 => ?_)
  · refine lv_aload_n hx hb d_Desk_environmentCall_11 rfl (lv_at hl 0 rfl) ?_
    refine va_get (D := G.1) (ci := 5) (v := .int (sx.1 3)) (C := R_Desk) (T := T_Desk) (N := 8) hx hb hts (fun w h => gd_sub _ (iw_Desk w h)) hown hK hP 0 rfl rfl 3 (by decide) (hts _ (gd_sub _ q_208)) (fun _ h9 => h9) rfl d_Desk_environmentCall_12 ?_
    refine lv_iconst (v := 1) hx hb d_Desk_environmentCall_15 (by decide) ?_
    refine lv_icmp_eq (tgt := 22) hx hb d_Desk_environmentCall_16 (by decide) (fun c_392 => ?_) (fun c_392 => ?_)
    · refine lv_aload_n hx hb d_Desk_environmentCall_22 rfl (lv_at hl 0 rfl) ?_
      refine va_get (D := G.1) (ci := 5) (v := .ref qo) (C := R_Desk) (T := T_Desk) (N := 8) hx hb hts (fun w h => gd_sub _ (iw_Desk w h)) hown hK hP 0 rfl rfl 1 (by decide) (hts _ (gd_sub _ q_206)) (fun _ h9 => h9) rfl d_Desk_environmentCall_23 ?_
      refine lv_aload_n hx hb d_Desk_environmentCall_26 rfl (lv_at hl 0 rfl) ?_
      refine va_get (D := G.1) (ci := 5) (v := .ref qr) (C := R_Desk) (T := T_Desk) (N := 8) hx hb hts (fun w h => gd_sub _ (iw_Desk w h)) hown hK hP 0 rfl rfl 2 (by decide) (hts _ (gd_sub _ q_207)) (fun _ h9 => h9) rfl d_Desk_environmentCall_27 ?_
      refine va_get (D := G.1) (ci := 4) (v := .int (sr.1 2)) (C := R_Registers) (T := T_Registers) (N := 3) hx hb hts (fun w h => gd_sub _ (iw_Registers w h)) hown hK hP 3 rfl rfl 2 (by decide) (hts _ (gd_sub _ q_197)) (fun _ h9 => h9) rfl d_Desk_environmentCall_30 ?_
      refine lv_aload_n hx hb d_Desk_environmentCall_33 rfl (lv_at hl 0 rfl) ?_
      refine va_get (D := G.1) (ci := 5) (v := .ref qr) (C := R_Desk) (T := T_Desk) (N := 8) hx hb hts (fun w h => gd_sub _ (iw_Desk w h)) hown hK hP 0 rfl rfl 2 (by decide) (hts _ (gd_sub _ q_207)) (fun _ h9 => h9) rfl d_Desk_environmentCall_34 ?_
      refine va_get (D := G.1) (ci := 4) (v := .int (sr.1 0)) (C := R_Registers) (T := T_Registers) (N := 3) hx hb hts (fun w h => gd_sub _ (iw_Registers w h)) hown hK hP 3 rfl rfl 0 (by decide) (hts _ (gd_sub _ q_193)) (fun _ h9 => h9) rfl d_Desk_environmentCall_37 ?_
      refine lv_aload_n hx hb d_Desk_environmentCall_40 rfl (lv_at hl 0 rfl) ?_
      refine va_get (D := G.1) (ci := 5) (v := .ref qr) (C := R_Desk) (T := T_Desk) (N := 8) hx hb hts (fun w h => gd_sub _ (iw_Desk w h)) hown hK hP 0 rfl rfl 2 (by decide) (hts _ (gd_sub _ q_207)) (fun _ h9 => h9) rfl d_Desk_environmentCall_41 ?_
      refine va_get (D := G.1) (ci := 4) (v := .int (sr.1 1)) (C := R_Registers) (T := T_Registers) (N := 3) hx hb hts (fun w h => gd_sub _ (iw_Registers w h)) hown hK hP 3 rfl rfl 1 (by decide) (hts _ (gd_sub _ q_195)) (fun _ h9 => h9) rfl d_Desk_environmentCall_44 ?_
      obtain ⟨r_393, er_393⟩ : ∃ z, z = (k_Outside_serve so sa (sr.1 2) (sr.1 0) (sr.1 1)).1 := ⟨_, rfl⟩
      obtain ⟨so_394, eso_394⟩ : ∃ z, z = (k_Outside_serve so sa (sr.1 2) (sr.1 0) (sr.1 1)).2.1 := ⟨_, rfl⟩
      obtain ⟨sa_395, esa_395⟩ : ∃ z, z = (k_Outside_serve so sa (sr.1 2) (sr.1 0) (sr.1 1)).2.2 := ⟨_, rfl⟩
      have hM := c_Outside_serve l G tys ht qo qa so sa (sr.1 2) (sr.1 0) (sr.1 1) hp9
      rw [← er_393, ← eso_394, ← esa_395] at hM
      refine ct_cVi (wr := [(qx, .inr (5, f_Desk qc qo qr sx)), (qr, .inr (4, f_Registers sr))]) (w1 := [(qo, .inr (3, f_Outside qa so_394)), (qa, .inl (cA, 256, .inl sa_395))]) (w2 := [(qx, .inr (5, f_Desk qc qo qr sx)), (qo, .inr (3, f_Outside qa so_394)), (qa, .inl (cA, 256, .inl sa_395)), (qr, .inr (4, f_Registers sr))]) (r := r_393) (As := [.int (sr.1 2), .int (sr.1 0), .int (sr.1 1)]) (rest := []) (ci := 3) (q0 := 0) ⟨hx, hb, hml, hown, hts⟩ hM (cwV 3 hts (gdV gd_gd q_449 q_450 q_451 q_43 q_452) rfl rfl rfl (by decide +kernel) ⟨Nat.le_of_ble_eq_true rfl, Nat.le_of_ble_eq_true rfl⟩) hE hK hP hD hS hA [1, 2] [0, 3] [0, 2, 3, 1] rfl (by decide) rfl (by decide) (by decide) rfl (by decide) rfl rfl rfl hl.1 rfl (Nat.le_of_ble_eq_true rfl) d_Desk_environmentCall_47 ⟨Nat.zero_le _, Nat.zero_le _⟩ (fun H locs hP hD hS => ?_)
      refine lv_istore_n (lv' := [(1, .int r_393), (0, .ref qx)]) hx hb d_Desk_environmentCall_50 rfl hl (by decide) rfl (fun ls hl => ?_)
      refine lv_aload_n hx hb d_Desk_environmentCall_51 rfl (lv_at hl 1 rfl) ?_
      refine va_get (D := G.1) (ci := 5) (v := .ref qr) (C := R_Desk) (T := T_Desk) (N := 8) hx hb hts (fun w h => gd_sub _ (iw_Desk w h)) hown hK hP 0 rfl rfl 2 (by decide) (hts _ (gd_sub _ q_207)) (fun _ h9 => h9) rfl d_Desk_environmentCall_52 ?_
      refine lv_iload_n hx hb d_Desk_environmentCall_55 rfl (lv_at hl 0 rfl) ?_
      refine va_put (D := G.1) (ci := 4) (v := .int r_393) (ty := .int) (C := R_Registers) (T := T_Registers) (N := 3) hx hb hts (fun w h => gd_sub _ (iw_Registers w h)) ty_Registers tyok_Registers nm_Registers hown hK hP hD hS 3 rfl rfl 0 (by decide) (hts _ (gd_sub _ q_193)) (fun _ h9 => h9) rfl (by decide +kernel) rfl rfl (Nat.le_of_ble_eq_true rfl) d_Desk_environmentCall_56 (fun H locs hP hD hS => ?_)
      have hP : va_P G.1 vwCl [(qx, .inr (5, f_Desk qc qo qr sx)), (qo, .inr (3, f_Outside qa so_394)), (qa, .inl (cA, 256, .inl sa_395)), (qr, .inr (4, f_Registers (oi sr 0 r_393)))] H := hP
      have hD : va_D A [(qx, .inr (5, f_Desk qc qo qr sx)), (qo, .inr (3, f_Outside qa so_394)), (qa, .inl (cA, 256, .inl sa_395)), (qr, .inr (4, f_Registers (oi sr 0 r_393)))] := hD
      refine lv_aload_n hx hb d_Desk_environmentCall_59 rfl (lv_at hl 1 rfl) ?_
      obtain ⟨r_396, er_396⟩ : ∃ z, z = (k_Desk_goOn sx).1 := ⟨_, rfl⟩
      obtain ⟨sx_397, esx_397⟩ : ∃ z, z = (k_Desk_goOn sx).2 := ⟨_, rfl⟩
      have hM := c_Desk_goOn l G tys qx qc qo qr sx
      rw [← er_396, ← esx_397] at hM
      refine ct_cVi (wr := [(qo, .inr (3, f_Outside qa so_394)), (qa, .inl (cA, 256, .inl sa_395)), (qr, .inr (4, f_Registers (oi sr 0 r_393)))]) (w1 := [(qx, .inr (5, f_Desk qc qo qr sx_397))]) (w2 := [(qx, .inr (5, f_Desk qc qo qr sx_397)), (qo, .inr (3, f_Outside qa so_394)), (qa, .inl (cA, 256, .inl sa_395)), (qr, .inr (4, f_Registers (oi sr 0 r_393)))]) (r := r_396) (As := []) (rest := []) (ci := 5) (q0 := 0) ⟨hx, hb, hml, hown, hts⟩ hM (cwV 0 hts (gdV gd_gd q_426 q_428 q_4 q_41 q_429) rfl rfl rfl (by decide +kernel) ⟨Nat.le_of_ble_eq_true rfl, Nat.le_of_ble_eq_true rfl⟩) hE hK hP hD hS hA [0] [1, 2, 3] [3, 0, 1, 2] rfl (by decide) rfl (by decide) (by decide) rfl (by decide) rfl rfl rfl hl.1 rfl (Nat.le_of_ble_eq_true rfl) d_Desk_environmentCall_60 ⟨Nat.zero_le _, Nat.zero_le _⟩ (fun H locs hP hD hS => ?_)
      have hk : k_Desk_environmentCall sx so sa sr = (r_396, sx_397, so_394, sa_395, (oi sr 0 r_393)) := (by rw [k_Desk_environmentCall]; rw [if_neg c_391]; rw [if_pos c_392]; try rw [← er_393]; try rw [← eso_394]; try rw [← esa_395]; try rw [← er_396]; try rw [← esx_397]; try rfl)
      exact ct_ri hx hb hr hlocks hP hD hK hS d_Desk_environmentCall_63 (by rw [hk]; first | done | rfl) (by rw [hk]; first | done | rfl)
    · refine lv_bipush (v := 8) hx hb d_Desk_environmentCall_19 (by decide) ?_
      have hk : k_Desk_environmentCall sx so sa sr = (8, sx, so, sa, sr) := (by rw [k_Desk_environmentCall]; rw [if_neg c_391]; rw [if_neg c_392]; try rfl)
      exact ct_ri hx hb hr hlocks hP hD hK hS d_Desk_environmentCall_21 (by rw [hk]; first | done | rfl) (by rw [hk]; first | done | rfl)
  · refine lv_bipush (v := 10) hx hb d_Desk_environmentCall_8 (by decide) ?_
    have hk : k_Desk_environmentCall sx so sa sr = (10, sx, so, sa, sr) := (by rw [k_Desk_environmentCall]; rw [if_pos c_391]; try rfl)
    exact ct_ri hx hb hr hlocks hP hD hK hS d_Desk_environmentCall_10 (by rw [hk]; first | done | rfl) (by rw [hk]; first | done | rfl)
end
section
def k_Bank_leave_j16 (sb : ob) (t0 : Bool) : Bool × ob :=
  if ((sb.1 0) &&& 32) = 0 then (t0, (oi sb 0 ((((sb.1 0) &&& (-259)) ||| 32) ||| 0))) else (t0, (oi sb 0 ((((sb.1 0) &&& (-259)) ||| 32) ||| 2)))
def k_Bank_leave (sb : ob) : Bool × ob :=
  if ((sb.1 0) &&& 256) = 0 then (k_Bank_leave_j16 sb false) else (k_Bank_leave_j16 sb true)
set_option maxHeartbeats 4000000 in
set_option maxRecDepth 100000 in
theorem c_Bank_leave (l : Launch) (G : gx) (tys : List (ClassId × FieldType)) (qb : Nat) (sb : ob) : ct_I l y_Bank_leave ws_Bank_leave ({ frames := 0, cells := 0, slots := 0, locals := 0 }) G tys [.ref qb] [(qb, .inr (0, f_Bank sb))] (bI ((k_Bank_leave sb).1)) [(qb, .inr (0, f_Bank ((k_Bank_leave sb).2)))] := by
  refine ct_hI (cc := cc_Bank_leave) (maxL := 3) (ret := (some .boolean)) (by decide) rfl (Nat.le_of_ble_eq_true rfl) ?_
  intro p e s m below meth c A ls hx hb hr hml hts hown hlocks hP hK hD hA hE hS hl
  have hl : lv_has ls 3 [(0, .ref qb)] := hl
  have hown : s.vm.findClass R_Bank = some m.cls := hown
  have J16 : ∀ (t0 : Bool) (H : Heap) (locs : List Loc) (ls : Array Slot), k_Bank_leave sb = k_Bank_leave_j16 sb t0 → va_P G.1 vwCl [(qb, .inr (0, f_Bank sb))] H → va_D A [(qb, .inr (0, f_Bank sb))] → va_S A s.heap H locs → lv_has ls 3 [(0, .ref qb)] → W p l e ({ frames := 0, cells := 0, slots := 0, locals := 0 }) s m ([.ref qb] : List Value).toArray below meth c H locs 0 0 (MQ below (ct_qi G tys A (bI ((k_Bank_leave sb).1)) [(qb, .inr (0, f_Bank ((k_Bank_leave sb).2)))]) ([.ref qb] : List Value).toArray s 0 0 A) (F0 m 16 ls [.int (bI t0)]) := by
    intro t0 H locs ls hj hP hD hS hl
    refine lv_istore_n (lv' := [(1, .int (bI t0)), (0, .ref qb)]) hx hb d_Bank_leave_16 rfl hl (by decide) rfl (fun ls hl => ?_)
    refine lv_aload_n hx hb d_Bank_leave_17 rfl (lv_at hl 1 rfl) ?_
    refine va_get (D := G.1) (ci := 0) (v := .int (sb.1 0)) (C := R_Bank) (T := T_Bank) (N := 7) hx hb hts (fun w h => gd_sub _ (iw_Bank w h)) hown hK hP 0 rfl rfl 0 (by decide) (hts _ (gd_sub _ q_103)) (fun _ h9 => h9) rfl d_Bank_leave_18 ?_
    refine lv_sipush (v := (-259)) hx hb d_Bank_leave_21 (by decide) ?_
    refine lv_iand hx hb d_Bank_leave_24 ?_
    refine lv_istore_n (lv' := [(2, .int ((sb.1 0) &&& (-259))), (1, .int (bI t0)), (0, .ref qb)]) hx hb d_Bank_leave_25 rfl hl (by decide) rfl (fun ls hl => ?_)
    refine lv_aload_n hx hb d_Bank_leave_26 rfl (lv_at hl 2 rfl) ?_
    refine lv_iload_n hx hb d_Bank_leave_27 rfl (lv_at hl 0 rfl) ?_
    refine lv_bipush (v := 32) hx hb d_Bank_leave_28 (by decide) ?_
    refine lv_ior hx hb d_Bank_leave_30 ?_
    refine lv_aload_n hx hb d_Bank_leave_31 rfl (lv_at hl 2 rfl) ?_
    refine va_get (D := G.1) (ci := 0) (v := .int (sb.1 0)) (C := R_Bank) (T := T_Bank) (N := 7) hx hb hts (fun w h => gd_sub _ (iw_Bank w h)) hown hK hP 0 rfl rfl 0 (by decide) (hts _ (gd_sub _ q_103)) (fun _ h9 => h9) rfl d_Bank_leave_32 ?_
    refine lv_bipush (v := 32) hx hb d_Bank_leave_35 (by decide) ?_
    refine lv_iand hx hb d_Bank_leave_37 ?_
    refine lv_if_eq (tgt := 45) hx hb d_Bank_leave_38 (by decide) (fun c_409 => ?_) (fun c_409 => ?_)
    · refine lv_iconst (v := 0) hx hb d_Bank_leave_45 (by decide) ?_
      refine lv_ior hx hb d_Bank_leave_46 ?_
      refine va_put (D := G.1) (ci := 0) (v := .int ((((sb.1 0) &&& (-259)) ||| 32) ||| 0)) (ty := .int) (C := R_Bank) (T := T_Bank) (N := 7) hx hb hts (fun w h => gd_sub _ (iw_Bank w h)) ty_Bank tyok_Bank nm_Bank hown hK hP hD hS 0 rfl rfl 0 (by decide) (hts _ (gd_sub _ q_103)) (fun _ h9 => h9) rfl (by decide +kernel) rfl rfl (Nat.le_of_ble_eq_true rfl) d_Bank_leave_47 (fun H locs hP hD hS => ?_)
      have hP : va_P G.1 vwCl [(qb, .inr (0, f_Bank (oi sb 0 ((((sb.1 0) &&& (-259)) ||| 32) ||| 0))))] H := hP
      have hD : va_D A [(qb, .inr (0, f_Bank (oi sb 0 ((((sb.1 0) &&& (-259)) ||| 32) ||| 0))))] := hD
      refine lv_iload_n hx hb d_Bank_leave_50 rfl (lv_at hl 1 rfl) ?_
      have hk : k_Bank_leave sb = (t0, (oi sb 0 ((((sb.1 0) &&& (-259)) ||| 32) ||| 0))) := (hj.trans (by rw [k_Bank_leave_j16]; rw [if_pos c_409]; try rfl))
      exact ct_rz hx hb hr hlocks hP hD hK hS d_Bank_leave_51 (bI_n _) (by rw [hk]; first | done | rfl) (by rw [hk]; first | done | rfl)
    · refine lv_iconst (v := 2) hx hb d_Bank_leave_41 (by decide) ?_
      refine lv_goto (tgt := 46) hx hb d_Bank_leave_42 (by decide) ?_
      refine lv_ior hx hb d_Bank_leave_46 ?_
      refine va_put (D := G.1) (ci := 0) (v := .int ((((sb.1 0) &&& (-259)) ||| 32) ||| 2)) (ty := .int) (C := R_Bank) (T := T_Bank) (N := 7) hx hb hts (fun w h => gd_sub _ (iw_Bank w h)) ty_Bank tyok_Bank nm_Bank hown hK hP hD hS 0 rfl rfl 0 (by decide) (hts _ (gd_sub _ q_103)) (fun _ h9 => h9) rfl (by decide +kernel) rfl rfl (Nat.le_of_ble_eq_true rfl) d_Bank_leave_47 (fun H locs hP hD hS => ?_)
      have hP : va_P G.1 vwCl [(qb, .inr (0, f_Bank (oi sb 0 ((((sb.1 0) &&& (-259)) ||| 32) ||| 2))))] H := hP
      have hD : va_D A [(qb, .inr (0, f_Bank (oi sb 0 ((((sb.1 0) &&& (-259)) ||| 32) ||| 2))))] := hD
      refine lv_iload_n hx hb d_Bank_leave_50 rfl (lv_at hl 1 rfl) ?_
      have hk : k_Bank_leave sb = (t0, (oi sb 0 ((((sb.1 0) &&& (-259)) ||| 32) ||| 2))) := (hj.trans (by rw [k_Bank_leave_j16]; rw [if_neg c_409]; try rfl))
      exact ct_rz hx hb hr hlocks hP hD hK hS d_Bank_leave_51 (bI_n _) (by rw [hk]; first | done | rfl) (by rw [hk]; first | done | rfl)
  obtain ⟨H, eH⟩ : ∃ z, z = s.heap := ⟨_, rfl⟩
  obtain ⟨locs, eL⟩ : ∃ z, z = ([] : List Loc) := ⟨_, rfl⟩
  have hP : va_P G.1 vwCl [(qb, .inr (0, f_Bank sb))] H := by rw [eH]; exact hP
  have hS : va_S A s.heap H locs := by rw [eH, eL]; exact hS
  suffices hW : W p l e ({ frames := 0, cells := 0, slots := 0, locals := 0 }) s m ([.ref qb] : List Value).toArray below meth c H locs 0 0 (MQ below (ct_qi G tys A (bI ((k_Bank_leave sb).1)) [(qb, .inr (0, f_Bank ((k_Bank_leave sb).2)))]) ([.ref qb] : List Value).toArray s 0 0 A) (F0 m 0 ls []) by rw [eH, eL] at hW; exact hW
  refine lv_aload_n hx hb d_Bank_leave_0 rfl (lv_at hl 0 rfl) ?_
  refine va_get (D := G.1) (ci := 0) (v := .int (sb.1 0)) (C := R_Bank) (T := T_Bank) (N := 7) hx hb hts (fun w h => gd_sub _ (iw_Bank w h)) hown hK hP 0 rfl rfl 0 (by decide) (hts _ (gd_sub _ q_103)) (fun _ h9 => h9) rfl d_Bank_leave_1 ?_
  refine lv_sipush (v := 256) hx hb d_Bank_leave_4 (by decide) ?_
  refine lv_iand hx hb d_Bank_leave_7 ?_
  refine lv_if_eq (tgt := 15) hx hb d_Bank_leave_8 (by decide) (fun c_410 => ?_) (fun c_410 => ?_)
  · refine lv_iconst (v := 0) hx hb d_Bank_leave_15 (by decide) ?_
    exact J16 false H locs ls (by rw [k_Bank_leave]; rw [if_pos c_410]; try rfl) hP hD hS (lv_sub hl [0] rfl)
  · refine lv_iconst (v := 1) hx hb d_Bank_leave_11 (by decide) ?_
    refine lv_goto (tgt := 16) hx hb d_Bank_leave_12 (by decide) ?_
    exact J16 true H locs ls (by rw [k_Bank_leave]; rw [if_neg c_410]; try rfl) hP hD hS (lv_sub hl [0] rfl)
def k_Hyper_leave (sy : ob) : Bool × ob :=
  ((k_Hyper_hasStatus sy 128), (oi sy 0 ((sy.1 0) &&& (-129))))
set_option maxHeartbeats 4000000 in
set_option maxRecDepth 100000 in
theorem c_Hyper_leave (l : Launch) (G : gx) (tys : List (ClassId × FieldType)) (qy : Nat) (sy : ob) : ct_I l y_Hyper_leave ws_Hyper_leave ({ frames := 1, cells := 0, slots := 0, locals := 21 }) G tys [.ref qy] [(qy, .inr (2, f_Hyper sy))] (bI ((k_Hyper_leave sy).1)) [(qy, .inr (2, f_Hyper ((k_Hyper_leave sy).2)))] := by
  refine ct_hI (cc := cc_Hyper_leave) (maxL := 2) (ret := (some .boolean)) (by decide) rfl (Nat.le_of_ble_eq_true rfl) ?_
  intro p e s m below meth c A ls hx hb hr hml hts hown hlocks hP hK hD hA hE hS hl
  have hl : lv_has ls 2 [(0, .ref qy)] := hl
  have hown : s.vm.findClass R_Hyper = some m.cls := hown
  refine lv_aload_n hx hb d_Hyper_leave_0 rfl (lv_at hl 0 rfl) ?_
  refine lv_sipush (v := 128) hx hb d_Hyper_leave_1 (by decide) ?_
  refine ct_cVi (wr := []) (w1 := [(qy, .inr (2, f_Hyper sy))]) (w2 := [(qy, .inr (2, f_Hyper sy))]) (r := (bI (k_Hyper_hasStatus sy 128))) (As := [.int 128]) (rest := []) (ci := 2) (q0 := 0) ⟨hx, hb, hml, hown, hts⟩ (c_Hyper_hasStatus l G tys qy sy 128) (cwV 1 hts (gdV gd_gd q_475 q_423 q_424 q_45 q_425) rfl rfl rfl (by decide +kernel) ⟨Nat.le_of_ble_eq_true rfl, Nat.le_of_ble_eq_true rfl⟩) hE hK hP hD hS hA [0] [] [0] rfl (by decide) rfl (by decide) (by decide) rfl (by decide) rfl rfl rfl hl.1 rfl (Nat.le_of_ble_eq_true rfl) d_Hyper_leave_4 ⟨Nat.zero_le _, Nat.zero_le _⟩ (fun H locs hP hD hS => ?_)
  refine lv_istore_n (lv' := [(1, .int (bI (k_Hyper_hasStatus sy 128))), (0, .ref qy)]) hx hb d_Hyper_leave_7 rfl hl (by decide) rfl (fun ls hl => ?_)
  refine lv_aload_n hx hb d_Hyper_leave_8 rfl (lv_at hl 1 rfl) ?_
  refine lv_aload_n hx hb d_Hyper_leave_9 rfl (lv_at hl 1 rfl) ?_
  refine va_get (D := G.1) (ci := 2) (v := .int (sy.1 0)) (C := R_Hyper) (T := T_Hyper) (N := 8) hx hb hts (fun w h => gd_sub _ (iw_Hyper w h)) hown hK hP 0 rfl rfl 0 (by decide) (hts _ (gd_sub _ q_132)) (fun _ h9 => h9) rfl d_Hyper_leave_10 ?_
  refine lv_sipush (v := (-129)) hx hb d_Hyper_leave_13 (by decide) ?_
  refine lv_iand hx hb d_Hyper_leave_16 ?_
  refine va_put (D := G.1) (ci := 2) (v := .int ((sy.1 0) &&& (-129))) (ty := .int) (C := R_Hyper) (T := T_Hyper) (N := 8) hx hb hts (fun w h => gd_sub _ (iw_Hyper w h)) ty_Hyper tyok_Hyper nm_Hyper hown hK hP hD hS 0 rfl rfl 0 (by decide) (hts _ (gd_sub _ q_132)) (fun _ h9 => h9) rfl (by decide +kernel) rfl rfl (Nat.le_of_ble_eq_true rfl) d_Hyper_leave_17 (fun H locs hP hD hS => ?_)
  have hP : va_P G.1 vwCl [(qy, .inr (2, f_Hyper (oi sy 0 ((sy.1 0) &&& (-129)))))] H := hP
  have hD : va_D A [(qy, .inr (2, f_Hyper (oi sy 0 ((sy.1 0) &&& (-129)))))] := hD
  refine lv_iload_n hx hb d_Hyper_leave_20 rfl (lv_at hl 0 rfl) ?_
  have hk : k_Hyper_leave sy = ((k_Hyper_hasStatus sy 128), (oi sy 0 ((sy.1 0) &&& (-129)))) := (by rw [k_Hyper_leave]; try rfl)
  exact ct_rz hx hb hr hlocks hP hD hK hS d_Hyper_leave_21 (bI_n _) (by rw [hk]; first | done | rfl) (by rw [hk]; first | done | rfl)
def k_Desk_supervisorReturn (sx : ob) (sc : ob) (shs : ob) (sgs : ob) (sy : ob) : Int32 × ob × ob × ob × ob :=
  if (k_Desk_refusalOfSupervisorWord sx sc sy 4194304) = (-1) then (if (sx.1 3) = 3 then (if (bI ((k_Bank_leave sgs).1)) = 0 then ((-1), (oi (oi sx 4 (sgs.1 3)) 3 2), shs, ((k_Bank_leave sgs).2), sy) else ((-1), (oi (oi sx 4 (sgs.1 3)) 3 3), shs, ((k_Bank_leave sgs).2), sy)) else (if (bI ((k_Hyper_leave sy).1)) = 0 then (if (bI ((k_Bank_leave shs).1)) = 0 then ((-1), (oi (oi sx 4 (shs.1 3)) 3 0), ((k_Bank_leave shs).2), sgs, ((k_Hyper_leave sy).2)) else ((-1), (oi (oi sx 4 (shs.1 3)) 3 1), ((k_Bank_leave shs).2), sgs, ((k_Hyper_leave sy).2))) else (if (bI ((k_Bank_leave shs).1)) = 0 then ((-1), (oi (oi sx 4 (shs.1 3)) 3 2), ((k_Bank_leave shs).2), sgs, ((k_Hyper_leave sy).2)) else ((-1), (oi (oi sx 4 (shs.1 3)) 3 3), ((k_Bank_leave shs).2), sgs, ((k_Hyper_leave sy).2))))) else ((k_Desk_refusalOfSupervisorWord sx sc sy 4194304), sx, shs, sgs, sy)
set_option maxHeartbeats 4000000 in
set_option maxRecDepth 100000 in
theorem c_Desk_supervisorReturn (l : Launch) (G : gx) (tys : List (ClassId × FieldType)) (qx qc qhs qgs qy qo qr : Nat) (sx : ob) (sc : ob) (shs : ob) (sgs : ob) (sy : ob) : ct_I l y_Desk_supervisorReturn ws_Desk_supervisorReturn ({ frames := 2, cells := 0, slots := 0, locals := 42 }) G tys [.ref qx] [(qx, .inr (5, f_Desk qc qo qr sx)), (qc, .inr (1, f_Controls qo qhs qgs qy sc)), (qhs, .inr (0, f_Bank shs)), (qgs, .inr (0, f_Bank sgs)), (qy, .inr (2, f_Hyper sy))] ((k_Desk_supervisorReturn sx sc shs sgs sy).1) [(qx, .inr (5, f_Desk qc qo qr ((k_Desk_supervisorReturn sx sc shs sgs sy).2.1))), (qc, .inr (1, f_Controls qo qhs qgs qy sc)), (qhs, .inr (0, f_Bank ((k_Desk_supervisorReturn sx sc shs sgs sy).2.2.1))), (qgs, .inr (0, f_Bank ((k_Desk_supervisorReturn sx sc shs sgs sy).2.2.2.1))), (qy, .inr (2, f_Hyper ((k_Desk_supervisorReturn sx sc shs sgs sy).2.2.2.2)))] := by
  refine ct_hI (cc := cc_Desk_supervisorReturn) (maxL := 4) (ret := (some .int)) (by decide) rfl (Nat.le_of_ble_eq_true rfl) ?_
  intro p e s m below meth c A ls hx hb hr hml hts hown hlocks hP hK hD hA hE hS hl
  have hl : lv_has ls 4 [(0, .ref qx)] := hl
  have hown : s.vm.findClass R_Desk = some m.cls := hown
  refine lv_aload_n hx hb d_Desk_supervisorReturn_0 rfl (lv_at hl 0 rfl) ?_
  refine lv_ldc (v := 4194304) hx hb hown (hts _ (gd_sub _ q_466)) d_Desk_supervisorReturn_1 ?_
  refine ct_cVi (wr := [(qhs, .inr (0, f_Bank shs)), (qgs, .inr (0, f_Bank sgs))]) (w1 := [(qx, .inr (5, f_Desk qc qo qr sx)), (qc, .inr (1, f_Controls qo qhs qgs qy sc)), (qy, .inr (2, f_Hyper sy))]) (w2 := [(qx, .inr (5, f_Desk qc qo qr sx)), (qc, .inr (1, f_Controls qo qhs qgs qy sc)), (qhs, .inr (0, f_Bank shs)), (qgs, .inr (0, f_Bank sgs)), (qy, .inr (2, f_Hyper sy))]) (r := (k_Desk_refusalOfSupervisorWord sx sc sy 4194304)) (As := [.int 4194304]) (rest := []) (ci := 5) (q0 := 0) ⟨hx, hb, hml, hown, hts⟩ (c_Desk_refusalOfSupervisorWord l G tys qx qc qy qo qr qhs qgs sx sc sy 4194304) (cwV 1 hts (gdV gd_gd q_418 q_420 q_3 q_41 q_421) rfl rfl rfl (by decide +kernel) ⟨Nat.le_of_ble_eq_true rfl, Nat.le_of_ble_eq_true rfl⟩) hE hK hP hD hS hA [0, 1, 4] [2, 3] [2, 3, 0, 1, 4] rfl (by decide) rfl (by decide) (by decide) rfl (by decide) rfl rfl rfl hl.1 rfl (Nat.le_of_ble_eq_true rfl) d_Desk_supervisorReturn_3 ⟨Nat.zero_le _, Nat.zero_le _⟩ (fun H locs hP hD hS => ?_)
  refine lv_istore_n (lv' := [(1, .int (k_Desk_refusalOfSupervisorWord sx sc sy 4194304)), (0, .ref qx)]) hx hb d_Desk_supervisorReturn_6 rfl hl (by decide) rfl (fun ls hl => ?_)
  refine lv_iload_n hx hb d_Desk_supervisorReturn_7 rfl (lv_at hl 0 rfl) ?_
  refine lv_iconst (v := (-1)) hx hb d_Desk_supervisorReturn_8 (by decide) ?_
  refine lv_icmp_eq (tgt := 14) hx hb d_Desk_supervisorReturn_9 (by decide) (fun c_421 => ?_) (fun c_421 => ?_)
  · refine lv_aload_n hx hb d_Desk_supervisorReturn_14 rfl (lv_at hl 1 rfl) ?_
    refine va_get (D := G.1) (ci := 5) (v := .int (sx.1 3)) (C := R_Desk) (T := T_Desk) (N := 8) hx hb hts (fun w h => gd_sub _ (iw_Desk w h)) hown hK hP 0 rfl rfl 3 (by decide) (hts _ (gd_sub _ q_208)) (fun _ h9 => h9) rfl d_Desk_supervisorReturn_15 ?_
    refine lv_iconst (v := 3) hx hb d_Desk_supervisorReturn_18 (by decide) ?_
    refine lv_icmp_ne (tgt := 60) hx hb d_Desk_supervisorReturn_19 (by decide) (fun c_422 => ?_) (fun c_422 => ?_)
    · refine lv_aload_n hx hb d_Desk_supervisorReturn_60 rfl (lv_at hl 1 rfl) ?_
      refine lv_aload_n hx hb d_Desk_supervisorReturn_61 rfl (lv_at hl 1 rfl) ?_
      refine va_get (D := G.1) (ci := 5) (v := .ref qc) (C := R_Desk) (T := T_Desk) (N := 8) hx hb hts (fun w h => gd_sub _ (iw_Desk w h)) hown hK hP 0 rfl rfl 0 (by decide) (hts _ (gd_sub _ q_205)) (fun _ h9 => h9) rfl d_Desk_supervisorReturn_62 ?_
      refine va_get (D := G.1) (ci := 1) (v := .ref qhs) (C := R_Controls) (T := T_Controls) (N := 6) hx hb hts (fun w h => gd_sub _ (iw_Controls w h)) hown hK hP 1 rfl rfl 1 (by decide) (hts _ (gd_sub _ q_166)) (fun _ h9 => h9) rfl d_Desk_supervisorReturn_65 ?_
      refine va_get (D := G.1) (ci := 0) (v := .int (shs.1 3)) (C := R_Bank) (T := T_Bank) (N := 7) hx hb hts (fun w h => gd_sub _ (iw_Bank w h)) hown hK hP 2 rfl rfl 3 (by decide) (hts _ (gd_sub _ q_107)) (fun _ h9 => h9) rfl d_Desk_supervisorReturn_68 ?_
      refine va_put (D := G.1) (ci := 5) (v := .int (shs.1 3)) (ty := .int) (C := R_Desk) (T := T_Desk) (N := 8) hx hb hts (fun w h => gd_sub _ (iw_Desk w h)) ty_Desk tyok_Desk nm_Desk hown hK hP hD hS 0 rfl rfl 4 (by decide) (hts _ (gd_sub _ q_209)) (fun _ h9 => h9) rfl (by decide +kernel) rfl rfl (Nat.le_of_ble_eq_true rfl) d_Desk_supervisorReturn_71 (fun H locs hP hD hS => ?_)
      have hP : va_P G.1 vwCl [(qx, .inr (5, f_Desk qc qo qr (oi sx 4 (shs.1 3)))), (qc, .inr (1, f_Controls qo qhs qgs qy sc)), (qhs, .inr (0, f_Bank shs)), (qgs, .inr (0, f_Bank sgs)), (qy, .inr (2, f_Hyper sy))] H := hP
      have hD : va_D A [(qx, .inr (5, f_Desk qc qo qr (oi sx 4 (shs.1 3)))), (qc, .inr (1, f_Controls qo qhs qgs qy sc)), (qhs, .inr (0, f_Bank shs)), (qgs, .inr (0, f_Bank sgs)), (qy, .inr (2, f_Hyper sy))] := hD
      refine lv_aload_n hx hb d_Desk_supervisorReturn_74 rfl (lv_at hl 1 rfl) ?_
      refine va_get (D := G.1) (ci := 5) (v := .ref qc) (C := R_Desk) (T := T_Desk) (N := 8) hx hb hts (fun w h => gd_sub _ (iw_Desk w h)) hown hK hP 0 rfl rfl 0 (by decide) (hts _ (gd_sub _ q_205)) (fun _ h9 => h9) rfl d_Desk_supervisorReturn_75 ?_
      refine va_get (D := G.1) (ci := 1) (v := .ref qhs) (C := R_Controls) (T := T_Controls) (N := 6) hx hb hts (fun w h => gd_sub _ (iw_Controls w h)) hown hK hP 1 rfl rfl 1 (by decide) (hts _ (gd_sub _ q_166)) (fun _ h9 => h9) rfl d_Desk_supervisorReturn_78 ?_
      obtain ⟨r_423, er_423⟩ : ∃ z, z = (k_Bank_leave shs).1 := ⟨_, rfl⟩
      obtain ⟨shs_424, eshs_424⟩ : ∃ z, z = (k_Bank_leave shs).2 := ⟨_, rfl⟩
      have hM := c_Bank_leave l G tys qhs shs
      rw [← er_423, ← eshs_424] at hM
      refine ct_cVi (wr := [(qx, .inr (5, f_Desk qc qo qr (oi sx 4 (shs.1 3)))), (qc, .inr (1, f_Controls qo qhs qgs qy sc)), (qgs, .inr (0, f_Bank sgs)), (qy, .inr (2, f_Hyper sy))]) (w1 := [(qhs, .inr (0, f_Bank shs_424))]) (w2 := [(qx, .inr (5, f_Desk qc qo qr (oi sx 4 (shs.1 3)))), (qc, .inr (1, f_Controls qo qhs qgs qy sc)), (qhs, .inr (0, f_Bank shs_424)), (qgs, .inr (0, f_Bank sgs)), (qy, .inr (2, f_Hyper sy))]) (r := (bI r_423)) (As := []) (rest := []) (ci := 0) (q0 := 0) ⟨hx, hb, hml, hown, hts⟩ hM (cwV 0 hts (gdV gd_gd q_467 q_468 q_469 q_44 q_470) rfl rfl rfl (by decide +kernel) ⟨Nat.le_of_ble_eq_true rfl, Nat.le_of_ble_eq_true rfl⟩) hE hK hP hD hS hA [2] [0, 1, 3, 4] [0, 1, 4, 2, 3] rfl (by decide) rfl (by decide) (by decide) rfl (by decide) rfl rfl rfl hl.1 rfl (Nat.le_of_ble_eq_true rfl) d_Desk_supervisorReturn_81 ⟨Nat.zero_le _, Nat.zero_le _⟩ (fun H locs hP hD hS => ?_)
      refine lv_istore_n (lv' := [(2, .int (bI r_423)), (1, .int (k_Desk_refusalOfSupervisorWord sx sc sy 4194304)), (0, .ref qx)]) hx hb d_Desk_supervisorReturn_84 rfl hl (by decide) rfl (fun ls hl => ?_)
      refine lv_aload_n hx hb d_Desk_supervisorReturn_85 rfl (lv_at hl 2 rfl) ?_
      refine va_get (D := G.1) (ci := 5) (v := .ref qc) (C := R_Desk) (T := T_Desk) (N := 8) hx hb hts (fun w h => gd_sub _ (iw_Desk w h)) hown hK hP 0 rfl rfl 0 (by decide) (hts _ (gd_sub _ q_205)) (fun _ h9 => h9) rfl d_Desk_supervisorReturn_86 ?_
      refine va_get (D := G.1) (ci := 1) (v := .ref qy) (C := R_Controls) (T := T_Controls) (N := 6) hx hb hts (fun w h => gd_sub _ (iw_Controls w h)) hown hK hP 1 rfl rfl 3 (by decide) (hts _ (gd_sub _ q_170)) (fun _ h9 => h9) rfl d_Desk_supervisorReturn_89 ?_
      obtain ⟨r_425, er_425⟩ : ∃ z, z = (k_Hyper_leave sy).1 := ⟨_, rfl⟩
      obtain ⟨sy_426, esy_426⟩ : ∃ z, z = (k_Hyper_leave sy).2 := ⟨_, rfl⟩
      have hM := c_Hyper_leave l G tys qy sy
      rw [← er_425, ← esy_426] at hM
      refine ct_cVi (wr := [(qx, .inr (5, f_Desk qc qo qr (oi sx 4 (shs.1 3)))), (qc, .inr (1, f_Controls qo qhs qgs qy sc)), (qhs, .inr (0, f_Bank shs_424)), (qgs, .inr (0, f_Bank sgs))]) (w1 := [(qy, .inr (2, f_Hyper sy_426))]) (w2 := [(qx, .inr (5, f_Desk qc qo qr (oi sx 4 (shs.1 3)))), (qc, .inr (1, f_Controls qo qhs qgs qy sc)), (qhs, .inr (0, f_Bank shs_424)), (qgs, .inr (0, f_Bank sgs)), (qy, .inr (2, f_Hyper sy_426))]) (r := (bI r_425)) (As := []) (rest := []) (ci := 2) (q0 := 0) ⟨hx, hb, hml, hown, hts⟩ hM (cwV 0 hts (gdV gd_gd q_471 q_472 q_473 q_45 q_474) rfl rfl rfl (by decide +kernel) ⟨Nat.le_of_ble_eq_true rfl, Nat.le_of_ble_eq_true rfl⟩) hE hK hP hD hS hA [4] [0, 1, 2, 3] [0, 1, 2, 3, 4] rfl (by decide) rfl (by decide) (by decide) rfl (by decide) rfl rfl rfl hl.1 rfl (Nat.le_of_ble_eq_true rfl) d_Desk_supervisorReturn_92 ⟨Nat.zero_le _, Nat.zero_le _⟩ (fun H locs hP hD hS => ?_)
      refine lv_istore_n (lv' := [(3, .int (bI r_425)), (2, .int (bI r_423)), (1, .int (k_Desk_refusalOfSupervisorWord sx sc sy 4194304)), (0, .ref qx)]) hx hb d_Desk_supervisorReturn_95 rfl hl (by decide) rfl (fun ls hl => ?_)
      refine lv_iload_n hx hb d_Desk_supervisorReturn_96 rfl (lv_at hl 0 rfl) ?_
      refine lv_if_eq (tgt := 116) hx hb d_Desk_supervisorReturn_97 (by decide) (fun c_427 => ?_) (fun c_427 => ?_)
      · refine lv_aload_n hx hb d_Desk_supervisorReturn_116 rfl (lv_at hl 3 rfl) ?_
        refine lv_iload_n hx hb d_Desk_supervisorReturn_117 rfl (lv_at hl 1 rfl) ?_
        refine lv_if_eq (tgt := 125) hx hb d_Desk_supervisorReturn_118 (by decide) (fun c_428 => ?_) (fun c_428 => ?_)
        · refine lv_iconst (v := 0) hx hb d_Desk_supervisorReturn_125 (by decide) ?_
          refine va_put (D := G.1) (ci := 5) (v := .int 0) (ty := .int) (C := R_Desk) (T := T_Desk) (N := 8) hx hb hts (fun w h => gd_sub _ (iw_Desk w h)) ty_Desk tyok_Desk nm_Desk hown hK hP hD hS 0 rfl rfl 3 (by decide) (hts _ (gd_sub _ q_208)) (fun _ h9 => h9) rfl (by decide +kernel) rfl rfl (Nat.le_of_ble_eq_true rfl) d_Desk_supervisorReturn_126 (fun H locs hP hD hS => ?_)
          have hP : va_P G.1 vwCl [(qx, .inr (5, f_Desk qc qo qr (oi (oi sx 4 (shs.1 3)) 3 0))), (qc, .inr (1, f_Controls qo qhs qgs qy sc)), (qhs, .inr (0, f_Bank shs_424)), (qgs, .inr (0, f_Bank sgs)), (qy, .inr (2, f_Hyper sy_426))] H := hP
          have hD : va_D A [(qx, .inr (5, f_Desk qc qo qr (oi (oi sx 4 (shs.1 3)) 3 0))), (qc, .inr (1, f_Controls qo qhs qgs qy sc)), (qhs, .inr (0, f_Bank shs_424)), (qgs, .inr (0, f_Bank sgs)), (qy, .inr (2, f_Hyper sy_426))] := hD
          refine lv_iconst (v := (-1)) hx hb d_Desk_supervisorReturn_129 (by decide) ?_
          have hk : k_Desk_supervisorReturn sx sc shs sgs sy = ((-1), (oi (oi sx 4 (shs.1 3)) 3 0), shs_424, sgs, sy_426) := (by rw [k_Desk_supervisorReturn]; rw [if_pos c_421]; rw [if_neg c_422]; try rw [← er_423]; try rw [← eshs_424]; try rw [← er_425]; try rw [← esy_426]; rw [if_pos c_427]; rw [if_pos c_428]; try rfl)
          exact ct_ri hx hb hr hlocks hP hD hK hS d_Desk_supervisorReturn_130 (by rw [hk]; first | done | rfl) (by rw [hk]; first | done | rfl)
        · refine lv_iconst (v := 1) hx hb d_Desk_supervisorReturn_121 (by decide) ?_
          refine lv_goto (tgt := 126) hx hb d_Desk_supervisorReturn_122 (by decide) ?_
          refine va_put (D := G.1) (ci := 5) (v := .int 1) (ty := .int) (C := R_Desk) (T := T_Desk) (N := 8) hx hb hts (fun w h => gd_sub _ (iw_Desk w h)) ty_Desk tyok_Desk nm_Desk hown hK hP hD hS 0 rfl rfl 3 (by decide) (hts _ (gd_sub _ q_208)) (fun _ h9 => h9) rfl (by decide +kernel) rfl rfl (Nat.le_of_ble_eq_true rfl) d_Desk_supervisorReturn_126 (fun H locs hP hD hS => ?_)
          have hP : va_P G.1 vwCl [(qx, .inr (5, f_Desk qc qo qr (oi (oi sx 4 (shs.1 3)) 3 1))), (qc, .inr (1, f_Controls qo qhs qgs qy sc)), (qhs, .inr (0, f_Bank shs_424)), (qgs, .inr (0, f_Bank sgs)), (qy, .inr (2, f_Hyper sy_426))] H := hP
          have hD : va_D A [(qx, .inr (5, f_Desk qc qo qr (oi (oi sx 4 (shs.1 3)) 3 1))), (qc, .inr (1, f_Controls qo qhs qgs qy sc)), (qhs, .inr (0, f_Bank shs_424)), (qgs, .inr (0, f_Bank sgs)), (qy, .inr (2, f_Hyper sy_426))] := hD
          refine lv_iconst (v := (-1)) hx hb d_Desk_supervisorReturn_129 (by decide) ?_
          have hk : k_Desk_supervisorReturn sx sc shs sgs sy = ((-1), (oi (oi sx 4 (shs.1 3)) 3 1), shs_424, sgs, sy_426) := (by rw [k_Desk_supervisorReturn]; rw [if_pos c_421]; rw [if_neg c_422]; try rw [← er_423]; try rw [← eshs_424]; try rw [← er_425]; try rw [← esy_426]; rw [if_pos c_427]; rw [if_neg c_428]; try rfl)
          exact ct_ri hx hb hr hlocks hP hD hK hS d_Desk_supervisorReturn_130 (by rw [hk]; first | done | rfl) (by rw [hk]; first | done | rfl)
      · refine lv_aload_n hx hb d_Desk_supervisorReturn_100 rfl (lv_at hl 3 rfl) ?_
        refine lv_iload_n hx hb d_Desk_supervisorReturn_101 rfl (lv_at hl 1 rfl) ?_
        refine lv_if_eq (tgt := 109) hx hb d_Desk_supervisorReturn_102 (by decide) (fun c_429 => ?_) (fun c_429 => ?_)
        · refine lv_iconst (v := 2) hx hb d_Desk_supervisorReturn_109 (by decide) ?_
          refine va_put (D := G.1) (ci := 5) (v := .int 2) (ty := .int) (C := R_Desk) (T := T_Desk) (N := 8) hx hb hts (fun w h => gd_sub _ (iw_Desk w h)) ty_Desk tyok_Desk nm_Desk hown hK hP hD hS 0 rfl rfl 3 (by decide) (hts _ (gd_sub _ q_208)) (fun _ h9 => h9) rfl (by decide +kernel) rfl rfl (Nat.le_of_ble_eq_true rfl) d_Desk_supervisorReturn_110 (fun H locs hP hD hS => ?_)
          have hP : va_P G.1 vwCl [(qx, .inr (5, f_Desk qc qo qr (oi (oi sx 4 (shs.1 3)) 3 2))), (qc, .inr (1, f_Controls qo qhs qgs qy sc)), (qhs, .inr (0, f_Bank shs_424)), (qgs, .inr (0, f_Bank sgs)), (qy, .inr (2, f_Hyper sy_426))] H := hP
          have hD : va_D A [(qx, .inr (5, f_Desk qc qo qr (oi (oi sx 4 (shs.1 3)) 3 2))), (qc, .inr (1, f_Controls qo qhs qgs qy sc)), (qhs, .inr (0, f_Bank shs_424)), (qgs, .inr (0, f_Bank sgs)), (qy, .inr (2, f_Hyper sy_426))] := hD
          refine lv_goto (tgt := 129) hx hb d_Desk_supervisorReturn_113 (by decide) ?_
          refine lv_iconst (v := (-1)) hx hb d_Desk_supervisorReturn_129 (by decide) ?_
          have hk : k_Desk_supervisorReturn sx sc shs sgs sy = ((-1), (oi (oi sx 4 (shs.1 3)) 3 2), shs_424, sgs, sy_426) := (by rw [k_Desk_supervisorReturn]; rw [if_pos c_421]; rw [if_neg c_422]; try rw [← er_423]; try rw [← eshs_424]; try rw [← er_425]; try rw [← esy_426]; rw [if_neg c_427]; rw [if_pos c_429]; try rfl)
          exact ct_ri hx hb hr hlocks hP hD hK hS d_Desk_supervisorReturn_130 (by rw [hk]; first | done | rfl) (by rw [hk]; first | done | rfl)
        · refine lv_iconst (v := 3) hx hb d_Desk_supervisorReturn_105 (by decide) ?_
          refine lv_goto (tgt := 110) hx hb d_Desk_supervisorReturn_106 (by decide) ?_
          refine va_put (D := G.1) (ci := 5) (v := .int 3) (ty := .int) (C := R_Desk) (T := T_Desk) (N := 8) hx hb hts (fun w h => gd_sub _ (iw_Desk w h)) ty_Desk tyok_Desk nm_Desk hown hK hP hD hS 0 rfl rfl 3 (by decide) (hts _ (gd_sub _ q_208)) (fun _ h9 => h9) rfl (by decide +kernel) rfl rfl (Nat.le_of_ble_eq_true rfl) d_Desk_supervisorReturn_110 (fun H locs hP hD hS => ?_)
          have hP : va_P G.1 vwCl [(qx, .inr (5, f_Desk qc qo qr (oi (oi sx 4 (shs.1 3)) 3 3))), (qc, .inr (1, f_Controls qo qhs qgs qy sc)), (qhs, .inr (0, f_Bank shs_424)), (qgs, .inr (0, f_Bank sgs)), (qy, .inr (2, f_Hyper sy_426))] H := hP
          have hD : va_D A [(qx, .inr (5, f_Desk qc qo qr (oi (oi sx 4 (shs.1 3)) 3 3))), (qc, .inr (1, f_Controls qo qhs qgs qy sc)), (qhs, .inr (0, f_Bank shs_424)), (qgs, .inr (0, f_Bank sgs)), (qy, .inr (2, f_Hyper sy_426))] := hD
          refine lv_goto (tgt := 129) hx hb d_Desk_supervisorReturn_113 (by decide) ?_
          refine lv_iconst (v := (-1)) hx hb d_Desk_supervisorReturn_129 (by decide) ?_
          have hk : k_Desk_supervisorReturn sx sc shs sgs sy = ((-1), (oi (oi sx 4 (shs.1 3)) 3 3), shs_424, sgs, sy_426) := (by rw [k_Desk_supervisorReturn]; rw [if_pos c_421]; rw [if_neg c_422]; try rw [← er_423]; try rw [← eshs_424]; try rw [← er_425]; try rw [← esy_426]; rw [if_neg c_427]; rw [if_neg c_429]; try rfl)
          exact ct_ri hx hb hr hlocks hP hD hK hS d_Desk_supervisorReturn_130 (by rw [hk]; first | done | rfl) (by rw [hk]; first | done | rfl)
    · refine lv_aload_n hx hb d_Desk_supervisorReturn_22 rfl (lv_at hl 1 rfl) ?_
      refine lv_aload_n hx hb d_Desk_supervisorReturn_23 rfl (lv_at hl 1 rfl) ?_
      refine va_get (D := G.1) (ci := 5) (v := .ref qc) (C := R_Desk) (T := T_Desk) (N := 8) hx hb hts (fun w h => gd_sub _ (iw_Desk w h)) hown hK hP 0 rfl rfl 0 (by decide) (hts _ (gd_sub _ q_205)) (fun _ h9 => h9) rfl d_Desk_supervisorReturn_24 ?_
      refine va_get (D := G.1) (ci := 1) (v := .ref qgs) (C := R_Controls) (T := T_Controls) (N := 6) hx hb hts (fun w h => gd_sub _ (iw_Controls w h)) hown hK hP 1 rfl rfl 2 (by decide) (hts _ (gd_sub _ q_168)) (fun _ h9 => h9) rfl d_Desk_supervisorReturn_27 ?_
      refine va_get (D := G.1) (ci := 0) (v := .int (sgs.1 3)) (C := R_Bank) (T := T_Bank) (N := 7) hx hb hts (fun w h => gd_sub _ (iw_Bank w h)) hown hK hP 3 rfl rfl 3 (by decide) (hts _ (gd_sub _ q_107)) (fun _ h9 => h9) rfl d_Desk_supervisorReturn_30 ?_
      refine va_put (D := G.1) (ci := 5) (v := .int (sgs.1 3)) (ty := .int) (C := R_Desk) (T := T_Desk) (N := 8) hx hb hts (fun w h => gd_sub _ (iw_Desk w h)) ty_Desk tyok_Desk nm_Desk hown hK hP hD hS 0 rfl rfl 4 (by decide) (hts _ (gd_sub _ q_209)) (fun _ h9 => h9) rfl (by decide +kernel) rfl rfl (Nat.le_of_ble_eq_true rfl) d_Desk_supervisorReturn_33 (fun H locs hP hD hS => ?_)
      have hP : va_P G.1 vwCl [(qx, .inr (5, f_Desk qc qo qr (oi sx 4 (sgs.1 3)))), (qc, .inr (1, f_Controls qo qhs qgs qy sc)), (qhs, .inr (0, f_Bank shs)), (qgs, .inr (0, f_Bank sgs)), (qy, .inr (2, f_Hyper sy))] H := hP
      have hD : va_D A [(qx, .inr (5, f_Desk qc qo qr (oi sx 4 (sgs.1 3)))), (qc, .inr (1, f_Controls qo qhs qgs qy sc)), (qhs, .inr (0, f_Bank shs)), (qgs, .inr (0, f_Bank sgs)), (qy, .inr (2, f_Hyper sy))] := hD
      refine lv_aload_n hx hb d_Desk_supervisorReturn_36 rfl (lv_at hl 1 rfl) ?_
      refine lv_aload_n hx hb d_Desk_supervisorReturn_37 rfl (lv_at hl 1 rfl) ?_
      refine va_get (D := G.1) (ci := 5) (v := .ref qc) (C := R_Desk) (T := T_Desk) (N := 8) hx hb hts (fun w h => gd_sub _ (iw_Desk w h)) hown hK hP 0 rfl rfl 0 (by decide) (hts _ (gd_sub _ q_205)) (fun _ h9 => h9) rfl d_Desk_supervisorReturn_38 ?_
      refine va_get (D := G.1) (ci := 1) (v := .ref qgs) (C := R_Controls) (T := T_Controls) (N := 6) hx hb hts (fun w h => gd_sub _ (iw_Controls w h)) hown hK hP 1 rfl rfl 2 (by decide) (hts _ (gd_sub _ q_168)) (fun _ h9 => h9) rfl d_Desk_supervisorReturn_41 ?_
      obtain ⟨r_430, er_430⟩ : ∃ z, z = (k_Bank_leave sgs).1 := ⟨_, rfl⟩
      obtain ⟨sgs_431, esgs_431⟩ : ∃ z, z = (k_Bank_leave sgs).2 := ⟨_, rfl⟩
      have hM := c_Bank_leave l G tys qgs sgs
      rw [← er_430, ← esgs_431] at hM
      refine ct_cVi (wr := [(qx, .inr (5, f_Desk qc qo qr (oi sx 4 (sgs.1 3)))), (qc, .inr (1, f_Controls qo qhs qgs qy sc)), (qhs, .inr (0, f_Bank shs)), (qy, .inr (2, f_Hyper sy))]) (w1 := [(qgs, .inr (0, f_Bank sgs_431))]) (w2 := [(qx, .inr (5, f_Desk qc qo qr (oi sx 4 (sgs.1 3)))), (qc, .inr (1, f_Controls qo qhs qgs qy sc)), (qhs, .inr (0, f_Bank shs)), (qgs, .inr (0, f_Bank sgs_431)), (qy, .inr (2, f_Hyper sy))]) (r := (bI r_430)) (As := []) (rest := [.ref qx]) (ci := 0) (q0 := 0) ⟨hx, hb, hml, hown, hts⟩ hM (cwV 0 hts (gdV gd_gd q_467 q_468 q_469 q_44 q_470) rfl rfl rfl (by decide +kernel) ⟨Nat.le_of_ble_eq_true rfl, Nat.le_of_ble_eq_true rfl⟩) hE hK hP hD hS hA [3] [0, 1, 2, 4] [0, 1, 2, 4, 3] rfl (by decide) rfl (by decide) (by decide) rfl (by decide) rfl rfl rfl hl.1 rfl (Nat.le_of_ble_eq_true rfl) d_Desk_supervisorReturn_44 ⟨Nat.zero_le _, Nat.zero_le _⟩ (fun H locs hP hD hS => ?_)
      refine lv_if_eq (tgt := 54) hx hb d_Desk_supervisorReturn_47 (by decide) (fun c_432 => ?_) (fun c_432 => ?_)
      · refine lv_iconst (v := 2) hx hb d_Desk_supervisorReturn_54 (by decide) ?_
        refine va_put (D := G.1) (ci := 5) (v := .int 2) (ty := .int) (C := R_Desk) (T := T_Desk) (N := 8) hx hb hts (fun w h => gd_sub _ (iw_Desk w h)) ty_Desk tyok_Desk nm_Desk hown hK hP hD hS 0 rfl rfl 3 (by decide) (hts _ (gd_sub _ q_208)) (fun _ h9 => h9) rfl (by decide +kernel) rfl rfl (Nat.le_of_ble_eq_true rfl) d_Desk_supervisorReturn_55 (fun H locs hP hD hS => ?_)
        have hP : va_P G.1 vwCl [(qx, .inr (5, f_Desk qc qo qr (oi (oi sx 4 (sgs.1 3)) 3 2))), (qc, .inr (1, f_Controls qo qhs qgs qy sc)), (qhs, .inr (0, f_Bank shs)), (qgs, .inr (0, f_Bank sgs_431)), (qy, .inr (2, f_Hyper sy))] H := hP
        have hD : va_D A [(qx, .inr (5, f_Desk qc qo qr (oi (oi sx 4 (sgs.1 3)) 3 2))), (qc, .inr (1, f_Controls qo qhs qgs qy sc)), (qhs, .inr (0, f_Bank shs)), (qgs, .inr (0, f_Bank sgs_431)), (qy, .inr (2, f_Hyper sy))] := hD
        refine lv_iconst (v := (-1)) hx hb d_Desk_supervisorReturn_58 (by decide) ?_
        have hk : k_Desk_supervisorReturn sx sc shs sgs sy = ((-1), (oi (oi sx 4 (sgs.1 3)) 3 2), shs, sgs_431, sy) := (by rw [k_Desk_supervisorReturn]; rw [if_pos c_421]; rw [if_pos c_422]; try rw [← er_430]; try rw [← esgs_431]; rw [if_pos c_432]; try rfl)
        exact ct_ri hx hb hr hlocks hP hD hK hS d_Desk_supervisorReturn_59 (by rw [hk]; first | done | rfl) (by rw [hk]; first | done | rfl)
      · refine lv_iconst (v := 3) hx hb d_Desk_supervisorReturn_50 (by decide) ?_
        refine lv_goto (tgt := 55) hx hb d_Desk_supervisorReturn_51 (by decide) ?_
        refine va_put (D := G.1) (ci := 5) (v := .int 3) (ty := .int) (C := R_Desk) (T := T_Desk) (N := 8) hx hb hts (fun w h => gd_sub _ (iw_Desk w h)) ty_Desk tyok_Desk nm_Desk hown hK hP hD hS 0 rfl rfl 3 (by decide) (hts _ (gd_sub _ q_208)) (fun _ h9 => h9) rfl (by decide +kernel) rfl rfl (Nat.le_of_ble_eq_true rfl) d_Desk_supervisorReturn_55 (fun H locs hP hD hS => ?_)
        have hP : va_P G.1 vwCl [(qx, .inr (5, f_Desk qc qo qr (oi (oi sx 4 (sgs.1 3)) 3 3))), (qc, .inr (1, f_Controls qo qhs qgs qy sc)), (qhs, .inr (0, f_Bank shs)), (qgs, .inr (0, f_Bank sgs_431)), (qy, .inr (2, f_Hyper sy))] H := hP
        have hD : va_D A [(qx, .inr (5, f_Desk qc qo qr (oi (oi sx 4 (sgs.1 3)) 3 3))), (qc, .inr (1, f_Controls qo qhs qgs qy sc)), (qhs, .inr (0, f_Bank shs)), (qgs, .inr (0, f_Bank sgs_431)), (qy, .inr (2, f_Hyper sy))] := hD
        refine lv_iconst (v := (-1)) hx hb d_Desk_supervisorReturn_58 (by decide) ?_
        have hk : k_Desk_supervisorReturn sx sc shs sgs sy = ((-1), (oi (oi sx 4 (sgs.1 3)) 3 3), shs, sgs_431, sy) := (by rw [k_Desk_supervisorReturn]; rw [if_pos c_421]; rw [if_pos c_422]; try rw [← er_430]; try rw [← esgs_431]; rw [if_neg c_432]; try rfl)
        exact ct_ri hx hb hr hlocks hP hD hK hS d_Desk_supervisorReturn_59 (by rw [hk]; first | done | rfl) (by rw [hk]; first | done | rfl)
  · refine lv_iload_n hx hb d_Desk_supervisorReturn_12 rfl (lv_at hl 0 rfl) ?_
    have hk : k_Desk_supervisorReturn sx sc shs sgs sy = ((k_Desk_refusalOfSupervisorWord sx sc sy 4194304), sx, shs, sgs, sy) := (by rw [k_Desk_supervisorReturn]; rw [if_neg c_421]; try rfl)
    exact ct_ri hx hb hr hlocks hP hD hK hS d_Desk_supervisorReturn_13 (by rw [hk]; first | done | rfl) (by rw [hk]; first | done | rfl)
def k_Desk_wordWithoutA (sx : ob) (sc : ob) (so : ob) (sa : Nat → Int32) (shs : ob) (sgs : ob) (sy : ob) (sr : ob) (p1 : Int32) : Int32 × ob × ob × (Nat → Int32) × ob × ob × ob × ob :=
  if (k_Desk_fieldA p1) = 0 then (if (ush p1 20) = 0 then (((k_Desk_environmentCall sx so sa sr).1), ((k_Desk_environmentCall sx so sa sr).2.1), ((k_Desk_environmentCall sx so sa sr).2.2.1), ((k_Desk_environmentCall sx so sa sr).2.2.2.1), shs, sgs, sy, ((k_Desk_environmentCall sx so sa sr).2.2.2.2)) else if (ush p1 20) = 1 then (3, sx, so, sa, shs, sgs, sy, sr) else if (ush p1 20) = 258 then (((k_Desk_supervisorReturn sx sc shs sgs sy).1), ((k_Desk_supervisorReturn sx sc shs sgs sy).2.1), so, sa, ((k_Desk_supervisorReturn sx sc shs sgs sy).2.2.1), ((k_Desk_supervisorReturn sx sc shs sgs sy).2.2.2.1), ((k_Desk_supervisorReturn sx sc shs sgs sy).2.2.2.2), sr) else if (ush p1 20) = 261 then (((k_Desk_nothingUnless sx sc sy 2097152).1), ((k_Desk_nothingUnless sx sc sy 2097152).2), so, sa, shs, sgs, sy, sr) else (2, sx, so, sa, shs, sgs, sy, sr)) else (2, sx, so, sa, shs, sgs, sy, sr)
set_option maxHeartbeats 4000000 in
set_option maxRecDepth 100000 in
theorem c_Desk_wordWithoutA (l : Launch) (G : gx) (tys : List (ClassId × FieldType)) {cA : ClassId} (ht : tys[0]? = some (cA, .byte)) (qx qc qo qa qhs qgs qy qr : Nat) (sx : ob) (sc : ob) (so : ob) (sa : Nat → Int32) (shs : ob) (sgs : ob) (sy : ob) (sr : ob) (p1 : Int32) (hp9 : ¬ so.1 1 < 0) : ct_I l y_Desk_wordWithoutA ws_Desk_wordWithoutA ({ frames := 3, cells := 0, slots := 0, locals := 66 }) G tys [.ref qx, .int p1] [(qx, .inr (5, f_Desk qc qo qr sx)), (qc, .inr (1, f_Controls qo qhs qgs qy sc)), (qo, .inr (3, f_Outside qa so)), (qa, .inl (cA, 256, .inl sa)), (qhs, .inr (0, f_Bank shs)), (qgs, .inr (0, f_Bank sgs)), (qy, .inr (2, f_Hyper sy)), (qr, .inr (4, f_Registers sr))] ((k_Desk_wordWithoutA sx sc so sa shs sgs sy sr p1).1) [(qx, .inr (5, f_Desk qc qo qr ((k_Desk_wordWithoutA sx sc so sa shs sgs sy sr p1).2.1))), (qc, .inr (1, f_Controls qo qhs qgs qy sc)), (qo, .inr (3, f_Outside qa ((k_Desk_wordWithoutA sx sc so sa shs sgs sy sr p1).2.2.1))), (qa, .inl (cA, 256, .inl ((k_Desk_wordWithoutA sx sc so sa shs sgs sy sr p1).2.2.2.1))), (qhs, .inr (0, f_Bank ((k_Desk_wordWithoutA sx sc so sa shs sgs sy sr p1).2.2.2.2.1))), (qgs, .inr (0, f_Bank ((k_Desk_wordWithoutA sx sc so sa shs sgs sy sr p1).2.2.2.2.2.1))), (qy, .inr (2, f_Hyper ((k_Desk_wordWithoutA sx sc so sa shs sgs sy sr p1).2.2.2.2.2.2.1))), (qr, .inr (4, f_Registers ((k_Desk_wordWithoutA sx sc so sa shs sgs sy sr p1).2.2.2.2.2.2.2)))] := by
  refine ct_hI (cc := cc_Desk_wordWithoutA) (maxL := 2) (ret := (some .int)) (by decide) rfl (Nat.le_of_ble_eq_true rfl) ?_
  intro p e s m below meth c A ls hx hb hr hml hts hown hlocks hP hK hD hA hE hS hl
  have hl : lv_has ls 2 [(0, .ref qx), (1, .int p1)] := hl
  have hown : s.vm.findClass R_Desk = some m.cls := hown
  refine lv_iload_n hx hb d_Desk_wordWithoutA_0 rfl (lv_at hl 1 rfl) ?_
  refine ct_cSi (wr := [(qx, .inr (5, f_Desk qc qo qr sx)), (qc, .inr (1, f_Controls qo qhs qgs qy sc)), (qo, .inr (3, f_Outside qa so)), (qa, .inl (cA, 256, .inl sa)), (qhs, .inr (0, f_Bank shs)), (qgs, .inr (0, f_Bank sgs)), (qy, .inr (2, f_Hyper sy)), (qr, .inr (4, f_Registers sr))]) (w1 := []) (w2 := [(qx, .inr (5, f_Desk qc qo qr sx)), (qc, .inr (1, f_Controls qo qhs qgs qy sc)), (qo, .inr (3, f_Outside qa so)), (qa, .inl (cA, 256, .inl sa)), (qhs, .inr (0, f_Bank shs)), (qgs, .inr (0, f_Bank sgs)), (qy, .inr (2, f_Hyper sy)), (qr, .inr (4, f_Registers sr))]) (r := (k_Desk_fieldA p1)) (As := [.int p1]) (rest := []) ⟨hx, hb, hml, hown, hts⟩ (c_Desk_fieldA l G tys p1) (va_cwS 1 hts (gdS gd_gd q_442 q_443 q_41 q_444) rfl rfl rfl (by decide +kernel) ⟨Nat.le_of_ble_eq_true rfl, Nat.le_of_ble_eq_true rfl⟩) hE hK hP hD hS hA [] [0, 1, 2, 3, 4, 5, 6, 7] [0, 1, 2, 3, 4, 5, 6, 7] rfl (by decide) rfl (by decide) (by decide) rfl (by decide) rfl hl.1 rfl (Nat.le_of_ble_eq_true rfl) d_Desk_wordWithoutA_1 ⟨Nat.zero_le _, Nat.zero_le _⟩ (fun H locs hP hD hS => ?_)
  refine lv_if_eq (tgt := 9) hx hb d_Desk_wordWithoutA_4 (by decide) (fun c_441 => ?_) (fun c_441 => ?_)
  · refine lv_iload_n hx hb d_Desk_wordWithoutA_9 rfl (lv_at hl 1 rfl) ?_
    refine lv_bipush (v := 20) hx hb d_Desk_wordWithoutA_10 (by decide) ?_
    refine lv_iushr (v := (ush p1 20)) hx hb d_Desk_wordWithoutA_12 rfl ?_
    by_cases c_442 : (ush p1 20) = 0
    · refine lv_lookup (off := 43) (tgt := 56) hx hb d_Desk_wordWithoutA_13 (by decide) (by rw [c_442]; decide) (by decide) ?_
      refine lv_aload_n hx hb d_Desk_wordWithoutA_56 rfl (lv_at hl 0 rfl) ?_
      obtain ⟨r_443, er_443⟩ : ∃ z, z = (k_Desk_environmentCall sx so sa sr).1 := ⟨_, rfl⟩
      obtain ⟨sx_444, esx_444⟩ : ∃ z, z = (k_Desk_environmentCall sx so sa sr).2.1 := ⟨_, rfl⟩
      obtain ⟨so_445, eso_445⟩ : ∃ z, z = (k_Desk_environmentCall sx so sa sr).2.2.1 := ⟨_, rfl⟩
      obtain ⟨sa_446, esa_446⟩ : ∃ z, z = (k_Desk_environmentCall sx so sa sr).2.2.2.1 := ⟨_, rfl⟩
      obtain ⟨sr_447, esr_447⟩ : ∃ z, z = (k_Desk_environmentCall sx so sa sr).2.2.2.2 := ⟨_, rfl⟩
      have hM := c_Desk_environmentCall l G tys ht qx qo qa qr qc sx so sa sr hp9
      rw [← er_443, ← esx_444, ← eso_445, ← esa_446, ← esr_447] at hM
      refine ct_cVi (wr := [(qc, .inr (1, f_Controls qo qhs qgs qy sc)), (qhs, .inr (0, f_Bank shs)), (qgs, .inr (0, f_Bank sgs)), (qy, .inr (2, f_Hyper sy))]) (w1 := [(qx, .inr (5, f_Desk qc qo qr sx_444)), (qo, .inr (3, f_Outside qa so_445)), (qa, .inl (cA, 256, .inl sa_446)), (qr, .inr (4, f_Registers sr_447))]) (w2 := [(qx, .inr (5, f_Desk qc qo qr sx_444)), (qc, .inr (1, f_Controls qo qhs qgs qy sc)), (qo, .inr (3, f_Outside qa so_445)), (qa, .inl (cA, 256, .inl sa_446)), (qhs, .inr (0, f_Bank shs)), (qgs, .inr (0, f_Bank sgs)), (qy, .inr (2, f_Hyper sy)), (qr, .inr (4, f_Registers sr_447))]) (r := r_443) (As := []) (rest := []) (ci := 5) (q0 := 0) ⟨hx, hb, hml, hown, hts⟩ hM (cwV 0 hts (gdV gd_gd q_445 q_447 q_8 q_41 q_448) rfl rfl rfl (by decide +kernel) ⟨Nat.le_of_ble_eq_true rfl, Nat.le_of_ble_eq_true rfl⟩) hE hK hP hD hS hA [0, 2, 3, 7] [1, 4, 5, 6] [4, 0, 5, 6, 1, 2, 3, 7] rfl (by decide) rfl (by decide) (by decide) rfl (by decide) rfl rfl rfl hl.1 rfl (Nat.le_of_ble_eq_true rfl) d_Desk_wordWithoutA_57 ⟨Nat.zero_le _, Nat.zero_le _⟩ (fun H locs hP hD hS => ?_)
      have hk : k_Desk_wordWithoutA sx sc so sa shs sgs sy sr p1 = (r_443, sx_444, so_445, sa_446, shs, sgs, sy, sr_447) := (by rw [k_Desk_wordWithoutA]; rw [if_pos c_441]; rw [if_pos c_442]; try rw [← er_443]; try rw [← esx_444]; try rw [← eso_445]; try rw [← esa_446]; try rw [← esr_447]; try rfl)
      exact ct_ri hx hb hr hlocks hP hD hK hS d_Desk_wordWithoutA_60 (by rw [hk]; first | done | rfl) (by rw [hk]; first | done | rfl)
    · by_cases c_448 : (ush p1 20) = 1
      · refine lv_lookup (off := 48) (tgt := 61) hx hb d_Desk_wordWithoutA_13 (by decide) (by rw [c_448]; decide) (by decide) ?_
        refine lv_iconst (v := 3) hx hb d_Desk_wordWithoutA_61 (by decide) ?_
        have hk : k_Desk_wordWithoutA sx sc so sa shs sgs sy sr p1 = (3, sx, so, sa, shs, sgs, sy, sr) := (by rw [k_Desk_wordWithoutA]; rw [if_pos c_441]; rw [if_neg c_442]; rw [if_pos c_448]; try rfl)
        exact ct_ri hx hb hr hlocks hP hD hK hS d_Desk_wordWithoutA_62 (by rw [hk]; first | done | rfl) (by rw [hk]; first | done | rfl)
      · by_cases c_449 : (ush p1 20) = 258
        · refine lv_lookup (off := 50) (tgt := 63) hx hb d_Desk_wordWithoutA_13 (by decide) (by rw [c_449]; decide) (by decide) ?_
          refine lv_aload_n hx hb d_Desk_wordWithoutA_63 rfl (lv_at hl 0 rfl) ?_
          obtain ⟨r_450, er_450⟩ : ∃ z, z = (k_Desk_supervisorReturn sx sc shs sgs sy).1 := ⟨_, rfl⟩
          obtain ⟨sx_451, esx_451⟩ : ∃ z, z = (k_Desk_supervisorReturn sx sc shs sgs sy).2.1 := ⟨_, rfl⟩
          obtain ⟨shs_452, eshs_452⟩ : ∃ z, z = (k_Desk_supervisorReturn sx sc shs sgs sy).2.2.1 := ⟨_, rfl⟩
          obtain ⟨sgs_453, esgs_453⟩ : ∃ z, z = (k_Desk_supervisorReturn sx sc shs sgs sy).2.2.2.1 := ⟨_, rfl⟩
          obtain ⟨sy_454, esy_454⟩ : ∃ z, z = (k_Desk_supervisorReturn sx sc shs sgs sy).2.2.2.2 := ⟨_, rfl⟩
          have hM := c_Desk_supervisorReturn l G tys qx qc qhs qgs qy qo qr sx sc shs sgs sy
          rw [← er_450, ← esx_451, ← eshs_452, ← esgs_453, ← esy_454] at hM
          refine ct_cVi (wr := [(qo, .inr (3, f_Outside qa so)), (qa, .inl (cA, 256, .inl sa)), (qr, .inr (4, f_Registers sr))]) (w1 := [(qx, .inr (5, f_Desk qc qo qr sx_451)), (qc, .inr (1, f_Controls qo qhs qgs qy sc)), (qhs, .inr (0, f_Bank shs_452)), (qgs, .inr (0, f_Bank sgs_453)), (qy, .inr (2, f_Hyper sy_454))]) (w2 := [(qx, .inr (5, f_Desk qc qo qr sx_451)), (qc, .inr (1, f_Controls qo qhs qgs qy sc)), (qo, .inr (3, f_Outside qa so)), (qa, .inl (cA, 256, .inl sa)), (qhs, .inr (0, f_Bank shs_452)), (qgs, .inr (0, f_Bank sgs_453)), (qy, .inr (2, f_Hyper sy_454)), (qr, .inr (4, f_Registers sr))]) (r := r_450) (As := []) (rest := []) (ci := 5) (q0 := 0) ⟨hx, hb, hml, hown, hts⟩ hM (cwV 0 hts (gdV gd_gd q_462 q_464 q_9 q_41 q_465) rfl rfl rfl (by decide +kernel) ⟨Nat.le_of_ble_eq_true rfl, Nat.le_of_ble_eq_true rfl⟩) hE hK hP hD hS hA [0, 1, 4, 5, 6] [2, 3, 7] [3, 4, 0, 1, 5, 6, 7, 2] rfl (by decide) rfl (by decide) (by decide) rfl (by decide) rfl rfl rfl hl.1 rfl (Nat.le_of_ble_eq_true rfl) d_Desk_wordWithoutA_64 ⟨Nat.zero_le _, Nat.zero_le _⟩ (fun H locs hP hD hS => ?_)
          have hk : k_Desk_wordWithoutA sx sc so sa shs sgs sy sr p1 = (r_450, sx_451, so, sa, shs_452, sgs_453, sy_454, sr) := (by rw [k_Desk_wordWithoutA]; rw [if_pos c_441]; rw [if_neg c_442]; rw [if_neg c_448]; rw [if_pos c_449]; try rw [← er_450]; try rw [← esx_451]; try rw [← eshs_452]; try rw [← esgs_453]; try rw [← esy_454]; try rfl)
          exact ct_ri hx hb hr hlocks hP hD hK hS d_Desk_wordWithoutA_67 (by rw [hk]; first | done | rfl) (by rw [hk]; first | done | rfl)
        · by_cases c_455 : (ush p1 20) = 261
          · refine lv_lookup (off := 55) (tgt := 68) hx hb d_Desk_wordWithoutA_13 (by decide) (by rw [c_455]; decide) (by decide) ?_
            refine lv_aload_n hx hb d_Desk_wordWithoutA_68 rfl (lv_at hl 0 rfl) ?_
            refine lv_ldc (v := 2097152) hx hb hown (hts _ (gd_sub _ q_476)) d_Desk_wordWithoutA_69 ?_
            obtain ⟨r_456, er_456⟩ : ∃ z, z = (k_Desk_nothingUnless sx sc sy 2097152).1 := ⟨_, rfl⟩
            obtain ⟨sx_457, esx_457⟩ : ∃ z, z = (k_Desk_nothingUnless sx sc sy 2097152).2 := ⟨_, rfl⟩
            have hM := c_Desk_nothingUnless l G tys qx qc qy qo qr qhs qgs sx sc sy 2097152
            rw [← er_456, ← esx_457] at hM
            refine ct_cVi (wr := [(qo, .inr (3, f_Outside qa so)), (qa, .inl (cA, 256, .inl sa)), (qhs, .inr (0, f_Bank shs)), (qgs, .inr (0, f_Bank sgs)), (qr, .inr (4, f_Registers sr))]) (w1 := [(qx, .inr (5, f_Desk qc qo qr sx_457)), (qc, .inr (1, f_Controls qo qhs qgs qy sc)), (qy, .inr (2, f_Hyper sy))]) (w2 := [(qx, .inr (5, f_Desk qc qo qr sx_457)), (qc, .inr (1, f_Controls qo qhs qgs qy sc)), (qo, .inr (3, f_Outside qa so)), (qa, .inl (cA, 256, .inl sa)), (qhs, .inr (0, f_Bank shs)), (qgs, .inr (0, f_Bank sgs)), (qy, .inr (2, f_Hyper sy)), (qr, .inr (4, f_Registers sr))]) (r := r_456) (As := [.int 2097152]) (rest := []) (ci := 5) (q0 := 0) ⟨hx, hb, hml, hown, hts⟩ hM (cwV 1 hts (gdV gd_gd q_414 q_416 q_2 q_41 q_417) rfl rfl rfl (by decide +kernel) ⟨Nat.le_of_ble_eq_true rfl, Nat.le_of_ble_eq_true rfl⟩) hE hK hP hD hS hA [0, 1, 6] [2, 3, 4, 5, 7] [5, 6, 0, 1, 2, 3, 7, 4] rfl (by decide) rfl (by decide) (by decide) rfl (by decide) rfl rfl rfl hl.1 rfl (Nat.le_of_ble_eq_true rfl) d_Desk_wordWithoutA_71 ⟨Nat.zero_le _, Nat.zero_le _⟩ (fun H locs hP hD hS => ?_)
            have hk : k_Desk_wordWithoutA sx sc so sa shs sgs sy sr p1 = (r_456, sx_457, so, sa, shs, sgs, sy, sr) := (by rw [k_Desk_wordWithoutA]; rw [if_pos c_441]; rw [if_neg c_442]; rw [if_neg c_448]; rw [if_neg c_449]; rw [if_pos c_455]; try rw [← er_456]; try rw [← esx_457]; try rfl)
            exact ct_ri hx hb hr hlocks hP hD hK hS d_Desk_wordWithoutA_74 (by rw [hk]; first | done | rfl) (by rw [hk]; first | done | rfl)
          · refine lv_lookup (off := 62) (tgt := 75) hx hb d_Desk_wordWithoutA_13 (by decide) ((lv_osw c_442 (by decide)).trans ((lv_osw c_448 (by decide)).trans ((lv_osw c_449 (by decide)).trans ((lv_osw c_455 (by decide)).trans rfl)))) (by decide) ?_
            refine lv_iconst (v := 2) hx hb d_Desk_wordWithoutA_75 (by decide) ?_
            have hk : k_Desk_wordWithoutA sx sc so sa shs sgs sy sr p1 = (2, sx, so, sa, shs, sgs, sy, sr) := (by rw [k_Desk_wordWithoutA]; rw [if_pos c_441]; rw [if_neg c_442]; rw [if_neg c_448]; rw [if_neg c_449]; rw [if_neg c_455]; try rfl)
            exact ct_ri hx hb hr hlocks hP hD hK hS d_Desk_wordWithoutA_76 (by rw [hk]; first | done | rfl) (by rw [hk]; first | done | rfl)
  · refine lv_iconst (v := 2) hx hb d_Desk_wordWithoutA_7 (by decide) ?_
    have hk : k_Desk_wordWithoutA sx sc so sa shs sgs sy sr p1 = (2, sx, so, sa, shs, sgs, sy, sr) := (by rw [k_Desk_wordWithoutA]; rw [if_neg c_441]; try rfl)
    exact ct_ri hx hb hr hlocks hP hD hK hS d_Desk_wordWithoutA_8 (by rw [hk]; first | done | rfl) (by rw [hk]; first | done | rfl)
def k_Desk_systemWord (sx : ob) (sc : ob) (so : ob) (sa : Nat → Int32) (shs : ob) (sgs : ob) (sy : ob) (sr : ob) (p1 : Int32) : Int32 × ob × ob × (Nat → Int32) × ob × ob × ob × ob :=
  if (k_Desk_fieldD p1) = 0 then (if (k_Desk_fieldG p1) = 9 then (((k_Desk_nothingUnless sx sc sy 1048576).1), ((k_Desk_nothingUnless sx sc sy 1048576).2), so, sa, shs, sgs, sy, sr) else if (k_Desk_fieldG p1) = 17 then (((k_Desk_hypervisorFence sx).1), ((k_Desk_hypervisorFence sx).2), so, sa, shs, sgs, sy, sr) else if (k_Desk_fieldG p1) = 49 then (((k_Desk_hypervisorFence sx).1), ((k_Desk_hypervisorFence sx).2), so, sa, shs, sgs, sy, sr) else (((k_Desk_wordWithoutA sx sc so sa shs sgs sy sr p1).1), ((k_Desk_wordWithoutA sx sc so sa shs sgs sy sr p1).2.1), ((k_Desk_wordWithoutA sx sc so sa shs sgs sy sr p1).2.2.1), ((k_Desk_wordWithoutA sx sc so sa shs sgs sy sr p1).2.2.2.1), ((k_Desk_wordWithoutA sx sc so sa shs sgs sy sr p1).2.2.2.2.1), ((k_Desk_wordWithoutA sx sc so sa shs sgs sy sr p1).2.2.2.2.2.1), ((k_Desk_wordWithoutA sx sc so sa shs sgs sy sr p1).2.2.2.2.2.2.1), ((k_Desk_wordWithoutA sx sc so sa shs sgs sy sr p1).2.2.2.2.2.2.2))) else (2, sx, so, sa, shs, sgs, sy, sr)
set_option maxHeartbeats 4000000 in
set_option maxRecDepth 100000 in
theorem c_Desk_systemWord (l : Launch) (G : gx) (tys : List (ClassId × FieldType)) {cA : ClassId} (ht : tys[0]? = some (cA, .byte)) (qx qc qo qa qhs qgs qy qr : Nat) (sx : ob) (sc : ob) (so : ob) (sa : Nat → Int32) (shs : ob) (sgs : ob) (sy : ob) (sr : ob) (p1 : Int32) (hp9 : ¬ so.1 1 < 0) : ct_I l y_Desk_systemWord ws_Desk_systemWord ({ frames := 4, cells := 0, slots := 0, locals := 87 }) G tys [.ref qx, .int p1] [(qx, .inr (5, f_Desk qc qo qr sx)), (qc, .inr (1, f_Controls qo qhs qgs qy sc)), (qo, .inr (3, f_Outside qa so)), (qa, .inl (cA, 256, .inl sa)), (qhs, .inr (0, f_Bank shs)), (qgs, .inr (0, f_Bank sgs)), (qy, .inr (2, f_Hyper sy)), (qr, .inr (4, f_Registers sr))] ((k_Desk_systemWord sx sc so sa shs sgs sy sr p1).1) [(qx, .inr (5, f_Desk qc qo qr ((k_Desk_systemWord sx sc so sa shs sgs sy sr p1).2.1))), (qc, .inr (1, f_Controls qo qhs qgs qy sc)), (qo, .inr (3, f_Outside qa ((k_Desk_systemWord sx sc so sa shs sgs sy sr p1).2.2.1))), (qa, .inl (cA, 256, .inl ((k_Desk_systemWord sx sc so sa shs sgs sy sr p1).2.2.2.1))), (qhs, .inr (0, f_Bank ((k_Desk_systemWord sx sc so sa shs sgs sy sr p1).2.2.2.2.1))), (qgs, .inr (0, f_Bank ((k_Desk_systemWord sx sc so sa shs sgs sy sr p1).2.2.2.2.2.1))), (qy, .inr (2, f_Hyper ((k_Desk_systemWord sx sc so sa shs sgs sy sr p1).2.2.2.2.2.2.1))), (qr, .inr (4, f_Registers ((k_Desk_systemWord sx sc so sa shs sgs sy sr p1).2.2.2.2.2.2.2)))] := by
  refine ct_hI (cc := cc_Desk_systemWord) (maxL := 2) (ret := (some .int)) (by decide) rfl (Nat.le_of_ble_eq_true rfl) ?_
  intro p e s m below meth c A ls hx hb hr hml hts hown hlocks hP hK hD hA hE hS hl
  have hl : lv_has ls 2 [(0, .ref qx), (1, .int p1)] := hl
  have hown : s.vm.findClass R_Desk = some m.cls := hown
  refine lv_iload_n hx hb d_Desk_systemWord_0 rfl (lv_at hl 1 rfl) ?_
  refine ct_cSi (wr := [(qx, .inr (5, f_Desk qc qo qr sx)), (qc, .inr (1, f_Controls qo qhs qgs qy sc)), (qo, .inr (3, f_Outside qa so)), (qa, .inl (cA, 256, .inl sa)), (qhs, .inr (0, f_Bank shs)), (qgs, .inr (0, f_Bank sgs)), (qy, .inr (2, f_Hyper sy)), (qr, .inr (4, f_Registers sr))]) (w1 := []) (w2 := [(qx, .inr (5, f_Desk qc qo qr sx)), (qc, .inr (1, f_Controls qo qhs qgs qy sc)), (qo, .inr (3, f_Outside qa so)), (qa, .inl (cA, 256, .inl sa)), (qhs, .inr (0, f_Bank shs)), (qgs, .inr (0, f_Bank sgs)), (qy, .inr (2, f_Hyper sy)), (qr, .inr (4, f_Registers sr))]) (r := (k_Desk_fieldD p1)) (As := [.int p1]) (rest := []) ⟨hx, hb, hml, hown, hts⟩ (c_Desk_fieldD l G tys p1) (va_cwS 1 hts (gdS gd_gd q_407 q_408 q_41 q_409) rfl rfl rfl (by decide +kernel) ⟨Nat.le_of_ble_eq_true rfl, Nat.le_of_ble_eq_true rfl⟩) hE hK hP hD hS hA [] [0, 1, 2, 3, 4, 5, 6, 7] [0, 1, 2, 3, 4, 5, 6, 7] rfl (by decide) rfl (by decide) (by decide) rfl (by decide) rfl hl.1 rfl (Nat.le_of_ble_eq_true rfl) d_Desk_systemWord_1 ⟨Nat.zero_le _, Nat.zero_le _⟩ (fun H locs hP hD hS => ?_)
  refine lv_if_eq (tgt := 9) hx hb d_Desk_systemWord_4 (by decide) (fun c_466 => ?_) (fun c_466 => ?_)
  · refine lv_iload_n hx hb d_Desk_systemWord_9 rfl (lv_at hl 1 rfl) ?_
    refine ct_cSi (wr := [(qx, .inr (5, f_Desk qc qo qr sx)), (qc, .inr (1, f_Controls qo qhs qgs qy sc)), (qo, .inr (3, f_Outside qa so)), (qa, .inl (cA, 256, .inl sa)), (qhs, .inr (0, f_Bank shs)), (qgs, .inr (0, f_Bank sgs)), (qy, .inr (2, f_Hyper sy)), (qr, .inr (4, f_Registers sr))]) (w1 := []) (w2 := [(qx, .inr (5, f_Desk qc qo qr sx)), (qc, .inr (1, f_Controls qo qhs qgs qy sc)), (qo, .inr (3, f_Outside qa so)), (qa, .inl (cA, 256, .inl sa)), (qhs, .inr (0, f_Bank shs)), (qgs, .inr (0, f_Bank sgs)), (qy, .inr (2, f_Hyper sy)), (qr, .inr (4, f_Registers sr))]) (r := (k_Desk_fieldG p1)) (As := [.int p1]) (rest := []) ⟨hx, hb, hml, hown, hts⟩ (c_Desk_fieldG l G tys p1) (va_cwS 1 hts (gdS gd_gd q_410 q_411 q_41 q_412) rfl rfl rfl (by decide +kernel) ⟨Nat.le_of_ble_eq_true rfl, Nat.le_of_ble_eq_true rfl⟩) hE hK hP hD hS hA [] [0, 1, 2, 3, 4, 5, 6, 7] [0, 1, 2, 3, 4, 5, 6, 7] rfl (by decide) rfl (by decide) (by decide) rfl (by decide) rfl hl.1 rfl (Nat.le_of_ble_eq_true rfl) d_Desk_systemWord_10 ⟨Nat.zero_le _, Nat.zero_le _⟩ (fun H locs hP hD hS => ?_)
    by_cases c_467 : (k_Desk_fieldG p1) = 9
    · refine lv_lookup (off := 35) (tgt := 48) hx hb d_Desk_systemWord_13 (by decide) (by rw [c_467]; decide) (by decide) ?_
      refine lv_aload_n hx hb d_Desk_systemWord_48 rfl (lv_at hl 0 rfl) ?_
      refine lv_ldc (v := 1048576) hx hb hown (hts _ (gd_sub _ q_413)) d_Desk_systemWord_49 ?_
      obtain ⟨r_468, er_468⟩ : ∃ z, z = (k_Desk_nothingUnless sx sc sy 1048576).1 := ⟨_, rfl⟩
      obtain ⟨sx_469, esx_469⟩ : ∃ z, z = (k_Desk_nothingUnless sx sc sy 1048576).2 := ⟨_, rfl⟩
      have hM := c_Desk_nothingUnless l G tys qx qc qy qo qr qhs qgs sx sc sy 1048576
      rw [← er_468, ← esx_469] at hM
      refine ct_cVi (wr := [(qo, .inr (3, f_Outside qa so)), (qa, .inl (cA, 256, .inl sa)), (qhs, .inr (0, f_Bank shs)), (qgs, .inr (0, f_Bank sgs)), (qr, .inr (4, f_Registers sr))]) (w1 := [(qx, .inr (5, f_Desk qc qo qr sx_469)), (qc, .inr (1, f_Controls qo qhs qgs qy sc)), (qy, .inr (2, f_Hyper sy))]) (w2 := [(qx, .inr (5, f_Desk qc qo qr sx_469)), (qc, .inr (1, f_Controls qo qhs qgs qy sc)), (qo, .inr (3, f_Outside qa so)), (qa, .inl (cA, 256, .inl sa)), (qhs, .inr (0, f_Bank shs)), (qgs, .inr (0, f_Bank sgs)), (qy, .inr (2, f_Hyper sy)), (qr, .inr (4, f_Registers sr))]) (r := r_468) (As := [.int 1048576]) (rest := []) (ci := 5) (q0 := 0) ⟨hx, hb, hml, hown, hts⟩ hM (cwV 1 hts (gdV gd_gd q_414 q_416 q_2 q_41 q_417) rfl rfl rfl (by decide +kernel) ⟨Nat.le_of_ble_eq_true rfl, Nat.le_of_ble_eq_true rfl⟩) hE hK hP hD hS hA [0, 1, 6] [2, 3, 4, 5, 7] [5, 6, 0, 1, 2, 3, 7, 4] rfl (by decide) rfl (by decide) (by decide) rfl (by decide) rfl rfl rfl hl.1 rfl (Nat.le_of_ble_eq_true rfl) d_Desk_systemWord_51 ⟨Nat.zero_le _, Nat.zero_le _⟩ (fun H locs hP hD hS => ?_)
      have hk : k_Desk_systemWord sx sc so sa shs sgs sy sr p1 = (r_468, sx_469, so, sa, shs, sgs, sy, sr) := (by rw [k_Desk_systemWord]; rw [if_pos c_466]; rw [if_pos c_467]; try rw [← er_468]; try rw [← esx_469]; try rfl)
      exact ct_ri hx hb hr hlocks hP hD hK hS d_Desk_systemWord_54 (by rw [hk]; first | done | rfl) (by rw [hk]; first | done | rfl)
    · by_cases c_470 : (k_Desk_fieldG p1) = 17
      · refine lv_lookup (off := 42) (tgt := 55) hx hb d_Desk_systemWord_13 (by decide) (by rw [c_470]; decide) (by decide) ?_
        refine lv_aload_n hx hb d_Desk_systemWord_55 rfl (lv_at hl 0 rfl) ?_
        obtain ⟨r_471, er_471⟩ : ∃ z, z = (k_Desk_hypervisorFence sx).1 := ⟨_, rfl⟩
        obtain ⟨sx_472, esx_472⟩ : ∃ z, z = (k_Desk_hypervisorFence sx).2 := ⟨_, rfl⟩
        have hM := c_Desk_hypervisorFence l G tys qx qc qo qr sx
        rw [← er_471, ← esx_472] at hM
        refine ct_cVi (wr := [(qc, .inr (1, f_Controls qo qhs qgs qy sc)), (qo, .inr (3, f_Outside qa so)), (qa, .inl (cA, 256, .inl sa)), (qhs, .inr (0, f_Bank shs)), (qgs, .inr (0, f_Bank sgs)), (qy, .inr (2, f_Hyper sy)), (qr, .inr (4, f_Registers sr))]) (w1 := [(qx, .inr (5, f_Desk qc qo qr sx_472))]) (w2 := [(qx, .inr (5, f_Desk qc qo qr sx_472)), (qc, .inr (1, f_Controls qo qhs qgs qy sc)), (qo, .inr (3, f_Outside qa so)), (qa, .inl (cA, 256, .inl sa)), (qhs, .inr (0, f_Bank shs)), (qgs, .inr (0, f_Bank sgs)), (qy, .inr (2, f_Hyper sy)), (qr, .inr (4, f_Registers sr))]) (r := r_471) (As := []) (rest := []) (ci := 5) (q0 := 0) ⟨hx, hb, hml, hown, hts⟩ hM (cwV 0 hts (gdV gd_gd q_430 q_432 q_5 q_41 q_433) rfl rfl rfl (by decide +kernel) ⟨Nat.le_of_ble_eq_true rfl, Nat.le_of_ble_eq_true rfl⟩) hE hK hP hD hS hA [0] [1, 2, 3, 4, 5, 6, 7] [7, 0, 1, 2, 3, 4, 5, 6] rfl (by decide) rfl (by decide) (by decide) rfl (by decide) rfl rfl rfl hl.1 rfl (Nat.le_of_ble_eq_true rfl) d_Desk_systemWord_56 ⟨Nat.zero_le _, Nat.zero_le _⟩ (fun H locs hP hD hS => ?_)
        have hk : k_Desk_systemWord sx sc so sa shs sgs sy sr p1 = (r_471, sx_472, so, sa, shs, sgs, sy, sr) := (by rw [k_Desk_systemWord]; rw [if_pos c_466]; rw [if_neg c_467]; rw [if_pos c_470]; try rw [← er_471]; try rw [← esx_472]; try rfl)
        exact ct_ri hx hb hr hlocks hP hD hK hS d_Desk_systemWord_59 (by rw [hk]; first | done | rfl) (by rw [hk]; first | done | rfl)
      · by_cases c_473 : (k_Desk_fieldG p1) = 49
        · refine lv_lookup (off := 42) (tgt := 55) hx hb d_Desk_systemWord_13 (by decide) (by rw [c_473]; decide) (by decide) ?_
          refine lv_aload_n hx hb d_Desk_systemWord_55 rfl (lv_at hl 0 rfl) ?_
          obtain ⟨r_474, er_474⟩ : ∃ z, z = (k_Desk_hypervisorFence sx).1 := ⟨_, rfl⟩
          obtain ⟨sx_475, esx_475⟩ : ∃ z, z = (k_Desk_hypervisorFence sx).2 := ⟨_, rfl⟩
          have hM := c_Desk_hypervisorFence l G tys qx qc qo qr sx
          rw [← er_474, ← esx_475] at hM
          refine ct_cVi (wr := [(qc, .inr (1, f_Controls qo qhs qgs qy sc)), (qo, .inr (3, f_Outside qa so)), (qa, .inl (cA, 256, .inl sa)), (qhs, .inr (0, f_Bank shs)), (qgs, .inr (0, f_Bank sgs)), (qy, .inr (2, f_Hyper sy)), (qr, .inr (4, f_Registers sr))]) (w1 := [(qx, .inr (5, f_Desk qc qo qr sx_475))]) (w2 := [(qx, .inr (5, f_Desk qc qo qr sx_475)), (qc, .inr (1, f_Controls qo qhs qgs qy sc)), (qo, .inr (3, f_Outside qa so)), (qa, .inl (cA, 256, .inl sa)), (qhs, .inr (0, f_Bank shs)), (qgs, .inr (0, f_Bank sgs)), (qy, .inr (2, f_Hyper sy)), (qr, .inr (4, f_Registers sr))]) (r := r_474) (As := []) (rest := []) (ci := 5) (q0 := 0) ⟨hx, hb, hml, hown, hts⟩ hM (cwV 0 hts (gdV gd_gd q_430 q_432 q_5 q_41 q_433) rfl rfl rfl (by decide +kernel) ⟨Nat.le_of_ble_eq_true rfl, Nat.le_of_ble_eq_true rfl⟩) hE hK hP hD hS hA [0] [1, 2, 3, 4, 5, 6, 7] [7, 0, 1, 2, 3, 4, 5, 6] rfl (by decide) rfl (by decide) (by decide) rfl (by decide) rfl rfl rfl hl.1 rfl (Nat.le_of_ble_eq_true rfl) d_Desk_systemWord_56 ⟨Nat.zero_le _, Nat.zero_le _⟩ (fun H locs hP hD hS => ?_)
          have hk : k_Desk_systemWord sx sc so sa shs sgs sy sr p1 = (r_474, sx_475, so, sa, shs, sgs, sy, sr) := (by rw [k_Desk_systemWord]; rw [if_pos c_466]; rw [if_neg c_467]; rw [if_neg c_470]; rw [if_pos c_473]; try rw [← er_474]; try rw [← esx_475]; try rfl)
          exact ct_ri hx hb hr hlocks hP hD hK hS d_Desk_systemWord_59 (by rw [hk]; first | done | rfl) (by rw [hk]; first | done | rfl)
        · refine lv_lookup (off := 47) (tgt := 60) hx hb d_Desk_systemWord_13 (by decide) ((lv_osw c_467 (by decide)).trans ((lv_osw c_470 (by decide)).trans ((lv_osw c_473 (by decide)).trans rfl))) (by decide) ?_
          refine lv_aload_n hx hb d_Desk_systemWord_60 rfl (lv_at hl 0 rfl) ?_
          refine lv_iload_n hx hb d_Desk_systemWord_61 rfl (lv_at hl 1 rfl) ?_
          obtain ⟨r_476, er_476⟩ : ∃ z, z = (k_Desk_wordWithoutA sx sc so sa shs sgs sy sr p1).1 := ⟨_, rfl⟩
          obtain ⟨sx_477, esx_477⟩ : ∃ z, z = (k_Desk_wordWithoutA sx sc so sa shs sgs sy sr p1).2.1 := ⟨_, rfl⟩
          obtain ⟨so_478, eso_478⟩ : ∃ z, z = (k_Desk_wordWithoutA sx sc so sa shs sgs sy sr p1).2.2.1 := ⟨_, rfl⟩
          obtain ⟨sa_479, esa_479⟩ : ∃ z, z = (k_Desk_wordWithoutA sx sc so sa shs sgs sy sr p1).2.2.2.1 := ⟨_, rfl⟩
          obtain ⟨shs_480, eshs_480⟩ : ∃ z, z = (k_Desk_wordWithoutA sx sc so sa shs sgs sy sr p1).2.2.2.2.1 := ⟨_, rfl⟩
          obtain ⟨sgs_481, esgs_481⟩ : ∃ z, z = (k_Desk_wordWithoutA sx sc so sa shs sgs sy sr p1).2.2.2.2.2.1 := ⟨_, rfl⟩
          obtain ⟨sy_482, esy_482⟩ : ∃ z, z = (k_Desk_wordWithoutA sx sc so sa shs sgs sy sr p1).2.2.2.2.2.2.1 := ⟨_, rfl⟩
          obtain ⟨sr_483, esr_483⟩ : ∃ z, z = (k_Desk_wordWithoutA sx sc so sa shs sgs sy sr p1).2.2.2.2.2.2.2 := ⟨_, rfl⟩
          have hM := c_Desk_wordWithoutA l G tys ht qx qc qo qa qhs qgs qy qr sx sc so sa shs sgs sy sr p1 hp9
          rw [← er_476, ← esx_477, ← eso_478, ← esa_479, ← eshs_480, ← esgs_481, ← esy_482, ← esr_483] at hM
          refine ct_cVi (wr := []) (w1 := [(qx, .inr (5, f_Desk qc qo qr sx_477)), (qc, .inr (1, f_Controls qo qhs qgs qy sc)), (qo, .inr (3, f_Outside qa so_478)), (qa, .inl (cA, 256, .inl sa_479)), (qhs, .inr (0, f_Bank shs_480)), (qgs, .inr (0, f_Bank sgs_481)), (qy, .inr (2, f_Hyper sy_482)), (qr, .inr (4, f_Registers sr_483))]) (w2 := [(qx, .inr (5, f_Desk qc qo qr sx_477)), (qc, .inr (1, f_Controls qo qhs qgs qy sc)), (qo, .inr (3, f_Outside qa so_478)), (qa, .inl (cA, 256, .inl sa_479)), (qhs, .inr (0, f_Bank shs_480)), (qgs, .inr (0, f_Bank sgs_481)), (qy, .inr (2, f_Hyper sy_482)), (qr, .inr (4, f_Registers sr_483))]) (r := r_476) (As := [.int p1]) (rest := []) (ci := 5) (q0 := 0) ⟨hx, hb, hml, hown, hts⟩ hM (cwV 1 hts (gdV gd_gd q_438 q_440 q_7 q_41 q_441) rfl rfl rfl (by decide +kernel) ⟨Nat.le_of_ble_eq_true rfl, Nat.le_of_ble_eq_true rfl⟩) hE hK hP hD hS hA [0, 1, 2, 3, 4, 5, 6, 7] [] [0, 1, 2, 3, 4, 5, 6, 7] rfl (by decide) rfl (by decide) (by decide) rfl (by decide) rfl rfl rfl hl.1 rfl (Nat.le_of_ble_eq_true rfl) d_Desk_systemWord_62 ⟨Nat.zero_le _, Nat.zero_le _⟩ (fun H locs hP hD hS => ?_)
          have hk : k_Desk_systemWord sx sc so sa shs sgs sy sr p1 = (r_476, sx_477, so_478, sa_479, shs_480, sgs_481, sy_482, sr_483) := (by rw [k_Desk_systemWord]; rw [if_pos c_466]; rw [if_neg c_467]; rw [if_neg c_470]; rw [if_neg c_473]; try rw [← er_476]; try rw [← esx_477]; try rw [← eso_478]; try rw [← esa_479]; try rw [← eshs_480]; try rw [← esgs_481]; try rw [← esy_482]; try rw [← esr_483]; try rfl)
          exact ct_ri hx hb hr hlocks hP hD hK hS d_Desk_systemWord_65 (by rw [hk]; first | done | rfl) (by rw [hk]; first | done | rfl)
  · refine lv_iconst (v := 2) hx hb d_Desk_systemWord_7 (by decide) ?_
    have hk : k_Desk_systemWord sx sc so sa shs sgs sy sr p1 = (2, sx, so, sa, shs, sgs, sy, sr) := (by rw [k_Desk_systemWord]; rw [if_neg c_466]; try rfl)
    exact ct_ri hx hb hr hlocks hP hD hK hS d_Desk_systemWord_8 (by rw [hk]; first | done | rfl) (by rw [hk]; first | done | rfl)
end
section
def k_Desk_perform (sx : ob) (sc : ob) (so : ob) (sa : Nat → Int32) (shs : ob) (sgs : ob) (sy : ob) (sr : ob) (p1 : Int32) : Int32 × ob × ob × ob × (Nat → Int32) × ob × ob × ob × ob :=
  if (p1 &&& 127) = 115 then (if ((ush p1 12) &&& 7) = 0 then (((k_Desk_systemWord sx sc so sa shs sgs sy sr p1).1), ((k_Desk_systemWord sx sc so sa shs sgs sy sr p1).2.1), sc, ((k_Desk_systemWord sx sc so sa shs sgs sy sr p1).2.2.1), ((k_Desk_systemWord sx sc so sa shs sgs sy sr p1).2.2.2.1), ((k_Desk_systemWord sx sc so sa shs sgs sy sr p1).2.2.2.2.1), ((k_Desk_systemWord sx sc so sa shs sgs sy sr p1).2.2.2.2.2.1), ((k_Desk_systemWord sx sc so sa shs sgs sy sr p1).2.2.2.2.2.2.1), ((k_Desk_systemWord sx sc so sa shs sgs sy sr p1).2.2.2.2.2.2.2)) else (if ((ush p1 12) &&& 7) = 4 then ((k_Desk_farAccessWord sx sc sy p1), sx, sc, so, sa, shs, sgs, sy, sr) else (((k_Desk_controlWord sx sc so shs sgs sy sr p1 ((ush p1 12) &&& 7)).1), ((k_Desk_controlWord sx sc so shs sgs sy sr p1 ((ush p1 12) &&& 7)).2.1), ((k_Desk_controlWord sx sc so shs sgs sy sr p1 ((ush p1 12) &&& 7)).2.2.1), so, sa, ((k_Desk_controlWord sx sc so shs sgs sy sr p1 ((ush p1 12) &&& 7)).2.2.2.1), ((k_Desk_controlWord sx sc so shs sgs sy sr p1 ((ush p1 12) &&& 7)).2.2.2.2.1), ((k_Desk_controlWord sx sc so shs sgs sy sr p1 ((ush p1 12) &&& 7)).2.2.2.2.2.1), ((k_Desk_controlWord sx sc so shs sgs sy sr p1 ((ush p1 12) &&& 7)).2.2.2.2.2.2)))) else (2, sx, sc, so, sa, shs, sgs, sy, sr)
set_option maxHeartbeats 4000000 in
set_option maxRecDepth 100000 in
theorem c_Desk_perform (l : Launch) (G : gx) (tys : List (ClassId × FieldType)) {cA : ClassId} (ht : tys[0]? = some (cA, .byte)) (qx qc qo qa qhs qgs qy qr : Nat) (sx : ob) (sc : ob) (so : ob) (sa : Nat → Int32) (shs : ob) (sgs : ob) (sy : ob) (sr : ob) (p1 : Int32) (hp9 : ¬ so.1 1 < 0) : ct_I l y_Desk_perform ws_Desk_perform ({ frames := 6, cells := 0, slots := 0, locals := 134 }) G tys [.ref qx, .int p1] [(qx, .inr (5, f_Desk qc qo qr sx)), (qc, .inr (1, f_Controls qo qhs qgs qy sc)), (qo, .inr (3, f_Outside qa so)), (qa, .inl (cA, 256, .inl sa)), (qhs, .inr (0, f_Bank shs)), (qgs, .inr (0, f_Bank sgs)), (qy, .inr (2, f_Hyper sy)), (qr, .inr (4, f_Registers sr))] ((k_Desk_perform sx sc so sa shs sgs sy sr p1).1) [(qx, .inr (5, f_Desk qc qo qr ((k_Desk_perform sx sc so sa shs sgs sy sr p1).2.1))), (qc, .inr (1, f_Controls qo qhs qgs qy ((k_Desk_perform sx sc so sa shs sgs sy sr p1).2.2.1))), (qo, .inr (3, f_Outside qa ((k_Desk_perform sx sc so sa shs sgs sy sr p1).2.2.2.1))), (qa, .inl (cA, 256, .inl ((k_Desk_perform sx sc so sa shs sgs sy sr p1).2.2.2.2.1))), (qhs, .inr (0, f_Bank ((k_Desk_perform sx sc so sa shs sgs sy sr p1).2.2.2.2.2.1))), (qgs, .inr (0, f_Bank ((k_Desk_perform sx sc so sa shs sgs sy sr p1).2.2.2.2.2.2.1))), (qy, .inr (2, f_Hyper ((k_Desk_perform sx sc so sa shs sgs sy sr p1).2.2.2.2.2.2.2.1))), (qr, .inr (4, f_Registers ((k_Desk_perform sx sc so sa shs sgs sy sr p1).2.2.2.2.2.2.2.2)))] := by
  refine ct_hI (cc := cc_Desk_perform) (maxL := 3) (ret := (some .int)) (by decide) rfl (Nat.le_of_ble_eq_true rfl) ?_
  intro p e s m below meth c A ls hx hb hr hml hts hown hlocks hP hK hD hA hE hS hl
  have hl : lv_has ls 3 [(0, .ref qx), (1, .int p1)] := hl
  have hown : s.vm.findClass R_Desk = some m.cls := hown
  refine lv_iload_n hx hb d_Desk_perform_0 rfl (lv_at hl 1 rfl) ?_
  refine lv_bipush (v := 127) hx hb d_Desk_perform_1 (by decide) ?_
  refine lv_iand hx hb d_Desk_perform_3 ?_
  refine lv_bipush (v := 115) hx hb d_Desk_perform_4 (by decide) ?_
  refine lv_icmp_eq (tgt := 11) hx hb d_Desk_perform_6 (by decide) (fun c_492 => ?_) (fun c_492 => ?_)
  · refine lv_iload_n hx hb d_Desk_perform_11 rfl (lv_at hl 1 rfl) ?_
    refine lv_bipush (v := 12) hx hb d_Desk_perform_12 (by decide) ?_
    refine lv_iushr (v := (ush p1 12)) hx hb d_Desk_perform_14 rfl ?_
    refine lv_bipush (v := 7) hx hb d_Desk_perform_15 (by decide) ?_
    refine lv_iand hx hb d_Desk_perform_17 ?_
    refine lv_istore_n (lv' := [(2, .int ((ush p1 12) &&& 7)), (0, .ref qx), (1, .int p1)]) hx hb d_Desk_perform_18 rfl hl (by decide) rfl (fun ls hl => ?_)
    refine lv_iload_n hx hb d_Desk_perform_19 rfl (lv_at hl 0 rfl) ?_
    refine lv_if_ne (tgt := 29) hx hb d_Desk_perform_20 (by decide) (fun c_493 => ?_) (fun c_493 => ?_)
    · refine lv_iload_n hx hb d_Desk_perform_29 rfl (lv_at hl 0 rfl) ?_
      refine lv_iconst (v := 4) hx hb d_Desk_perform_30 (by decide) ?_
      refine lv_icmp_ne (tgt := 40) hx hb d_Desk_perform_31 (by decide) (fun c_494 => ?_) (fun c_494 => ?_)
      · refine lv_aload_n hx hb d_Desk_perform_40 rfl (lv_at hl 1 rfl) ?_
        refine lv_iload_n hx hb d_Desk_perform_41 rfl (lv_at hl 2 rfl) ?_
        refine lv_iload_n hx hb d_Desk_perform_42 rfl (lv_at hl 0 rfl) ?_
        obtain ⟨r_495, er_495⟩ : ∃ z, z = (k_Desk_controlWord sx sc so shs sgs sy sr p1 ((ush p1 12) &&& 7)).1 := ⟨_, rfl⟩
        obtain ⟨sx_496, esx_496⟩ : ∃ z, z = (k_Desk_controlWord sx sc so shs sgs sy sr p1 ((ush p1 12) &&& 7)).2.1 := ⟨_, rfl⟩
        obtain ⟨sc_497, esc_497⟩ : ∃ z, z = (k_Desk_controlWord sx sc so shs sgs sy sr p1 ((ush p1 12) &&& 7)).2.2.1 := ⟨_, rfl⟩
        obtain ⟨shs_498, eshs_498⟩ : ∃ z, z = (k_Desk_controlWord sx sc so shs sgs sy sr p1 ((ush p1 12) &&& 7)).2.2.2.1 := ⟨_, rfl⟩
        obtain ⟨sgs_499, esgs_499⟩ : ∃ z, z = (k_Desk_controlWord sx sc so shs sgs sy sr p1 ((ush p1 12) &&& 7)).2.2.2.2.1 := ⟨_, rfl⟩
        obtain ⟨sy_500, esy_500⟩ : ∃ z, z = (k_Desk_controlWord sx sc so shs sgs sy sr p1 ((ush p1 12) &&& 7)).2.2.2.2.2.1 := ⟨_, rfl⟩
        obtain ⟨sr_501, esr_501⟩ : ∃ z, z = (k_Desk_controlWord sx sc so shs sgs sy sr p1 ((ush p1 12) &&& 7)).2.2.2.2.2.2 := ⟨_, rfl⟩
        have hM := c_Desk_controlWord l G tys qx qc qo qhs qgs qy qr qa sx sc so shs sgs sy sr p1 ((ush p1 12) &&& 7)
        rw [← er_495, ← esx_496, ← esc_497, ← eshs_498, ← esgs_499, ← esy_500, ← esr_501] at hM
        refine ct_cVi (wr := [(qa, .inl (cA, 256, .inl sa))]) (w1 := [(qx, .inr (5, f_Desk qc qo qr sx_496)), (qc, .inr (1, f_Controls qo qhs qgs qy sc_497)), (qo, .inr (3, f_Outside qa so)), (qhs, .inr (0, f_Bank shs_498)), (qgs, .inr (0, f_Bank sgs_499)), (qy, .inr (2, f_Hyper sy_500)), (qr, .inr (4, f_Registers sr_501))]) (w2 := [(qx, .inr (5, f_Desk qc qo qr sx_496)), (qc, .inr (1, f_Controls qo qhs qgs qy sc_497)), (qo, .inr (3, f_Outside qa so)), (qa, .inl (cA, 256, .inl sa)), (qhs, .inr (0, f_Bank shs_498)), (qgs, .inr (0, f_Bank sgs_499)), (qy, .inr (2, f_Hyper sy_500)), (qr, .inr (4, f_Registers sr_501))]) (r := r_495) (As := [.int p1, .int ((ush p1 12) &&& 7)]) (rest := []) (ci := 5) (q0 := 0) ⟨hx, hb, hml, hown, hts⟩ hM (cwV 2 hts (gdV gd_gd q_487 q_489 q_11 q_41 q_490) rfl rfl rfl (by decide +kernel) ⟨Nat.le_of_ble_eq_true rfl, Nat.le_of_ble_eq_true rfl⟩) hE hK hP hD hS hA [0, 1, 2, 4, 5, 6, 7] [3] [1, 2, 3, 0, 4, 5, 6, 7] rfl (by decide) rfl (by decide) (by decide) rfl (by decide) rfl rfl rfl hl.1 rfl (Nat.le_of_ble_eq_true rfl) d_Desk_perform_43 ⟨Nat.zero_le _, Nat.zero_le _⟩ (fun H locs hP hD hS => ?_)
        have hk : k_Desk_perform sx sc so sa shs sgs sy sr p1 = (r_495, sx_496, sc_497, so, sa, shs_498, sgs_499, sy_500, sr_501) := (by rw [k_Desk_perform]; rw [if_pos c_492]; rw [if_neg c_493]; rw [if_neg c_494]; try rw [← er_495]; try rw [← esx_496]; try rw [← esc_497]; try rw [← eshs_498]; try rw [← esgs_499]; try rw [← esy_500]; try rw [← esr_501]; try rfl)
        exact ct_ri hx hb hr hlocks hP hD hK hS d_Desk_perform_46 (by rw [hk]; first | done | rfl) (by rw [hk]; first | done | rfl)
      · refine lv_aload_n hx hb d_Desk_perform_34 rfl (lv_at hl 1 rfl) ?_
        refine lv_iload_n hx hb d_Desk_perform_35 rfl (lv_at hl 2 rfl) ?_
        refine ct_cVi (wr := [(qo, .inr (3, f_Outside qa so)), (qa, .inl (cA, 256, .inl sa)), (qhs, .inr (0, f_Bank shs)), (qgs, .inr (0, f_Bank sgs)), (qr, .inr (4, f_Registers sr))]) (w1 := [(qx, .inr (5, f_Desk qc qo qr sx)), (qc, .inr (1, f_Controls qo qhs qgs qy sc)), (qy, .inr (2, f_Hyper sy))]) (w2 := [(qx, .inr (5, f_Desk qc qo qr sx)), (qc, .inr (1, f_Controls qo qhs qgs qy sc)), (qo, .inr (3, f_Outside qa so)), (qa, .inl (cA, 256, .inl sa)), (qhs, .inr (0, f_Bank shs)), (qgs, .inr (0, f_Bank sgs)), (qy, .inr (2, f_Hyper sy)), (qr, .inr (4, f_Registers sr))]) (r := (k_Desk_farAccessWord sx sc sy p1)) (As := [.int p1]) (rest := []) (ci := 5) (q0 := 0) ⟨hx, hb, hml, hown, hts⟩ (c_Desk_farAccessWord l G tys qx qc qy qo qr qhs qgs sx sc sy p1) (cwV 1 hts (gdV gd_gd q_477 q_479 q_10 q_41 q_480) rfl rfl rfl (by decide +kernel) ⟨Nat.le_of_ble_eq_true rfl, Nat.le_of_ble_eq_true rfl⟩) hE hK hP hD hS hA [0, 1, 6] [2, 3, 4, 5, 7] [5, 6, 0, 1, 2, 3, 7, 4] rfl (by decide) rfl (by decide) (by decide) rfl (by decide) rfl rfl rfl hl.1 rfl (Nat.le_of_ble_eq_true rfl) d_Desk_perform_36 ⟨Nat.zero_le _, Nat.zero_le _⟩ (fun H locs hP hD hS => ?_)
        have hk : k_Desk_perform sx sc so sa shs sgs sy sr p1 = ((k_Desk_farAccessWord sx sc sy p1), sx, sc, so, sa, shs, sgs, sy, sr) := (by rw [k_Desk_perform]; rw [if_pos c_492]; rw [if_neg c_493]; rw [if_pos c_494]; try rfl)
        exact ct_ri hx hb hr hlocks hP hD hK hS d_Desk_perform_39 (by rw [hk]; first | done | rfl) (by rw [hk]; first | done | rfl)
    · refine lv_aload_n hx hb d_Desk_perform_23 rfl (lv_at hl 1 rfl) ?_
      refine lv_iload_n hx hb d_Desk_perform_24 rfl (lv_at hl 2 rfl) ?_
      obtain ⟨r_502, er_502⟩ : ∃ z, z = (k_Desk_systemWord sx sc so sa shs sgs sy sr p1).1 := ⟨_, rfl⟩
      obtain ⟨sx_503, esx_503⟩ : ∃ z, z = (k_Desk_systemWord sx sc so sa shs sgs sy sr p1).2.1 := ⟨_, rfl⟩
      obtain ⟨so_504, eso_504⟩ : ∃ z, z = (k_Desk_systemWord sx sc so sa shs sgs sy sr p1).2.2.1 := ⟨_, rfl⟩
      obtain ⟨sa_505, esa_505⟩ : ∃ z, z = (k_Desk_systemWord sx sc so sa shs sgs sy sr p1).2.2.2.1 := ⟨_, rfl⟩
      obtain ⟨shs_506, eshs_506⟩ : ∃ z, z = (k_Desk_systemWord sx sc so sa shs sgs sy sr p1).2.2.2.2.1 := ⟨_, rfl⟩
      obtain ⟨sgs_507, esgs_507⟩ : ∃ z, z = (k_Desk_systemWord sx sc so sa shs sgs sy sr p1).2.2.2.2.2.1 := ⟨_, rfl⟩
      obtain ⟨sy_508, esy_508⟩ : ∃ z, z = (k_Desk_systemWord sx sc so sa shs sgs sy sr p1).2.2.2.2.2.2.1 := ⟨_, rfl⟩
      obtain ⟨sr_509, esr_509⟩ : ∃ z, z = (k_Desk_systemWord sx sc so sa shs sgs sy sr p1).2.2.2.2.2.2.2 := ⟨_, rfl⟩
      have hM := c_Desk_systemWord l G tys ht qx qc qo qa qhs qgs qy qr sx sc so sa shs sgs sy sr p1 hp9
      rw [← er_502, ← esx_503, ← eso_504, ← esa_505, ← eshs_506, ← esgs_507, ← esy_508, ← esr_509] at hM
      refine ct_cVi (wr := []) (w1 := [(qx, .inr (5, f_Desk qc qo qr sx_503)), (qc, .inr (1, f_Controls qo qhs qgs qy sc)), (qo, .inr (3, f_Outside qa so_504)), (qa, .inl (cA, 256, .inl sa_505)), (qhs, .inr (0, f_Bank shs_506)), (qgs, .inr (0, f_Bank sgs_507)), (qy, .inr (2, f_Hyper sy_508)), (qr, .inr (4, f_Registers sr_509))]) (w2 := [(qx, .inr (5, f_Desk qc qo qr sx_503)), (qc, .inr (1, f_Controls qo qhs qgs qy sc)), (qo, .inr (3, f_Outside qa so_504)), (qa, .inl (cA, 256, .inl sa_505)), (qhs, .inr (0, f_Bank shs_506)), (qgs, .inr (0, f_Bank sgs_507)), (qy, .inr (2, f_Hyper sy_508)), (qr, .inr (4, f_Registers sr_509))]) (r := r_502) (As := [.int p1]) (rest := []) (ci := 5) (q0 := 0) ⟨hx, hb, hml, hown, hts⟩ hM (cwV 1 hts (gdV gd_gd q_403 q_405 q_1 q_41 q_406) rfl rfl rfl (by decide +kernel) ⟨Nat.le_of_ble_eq_true rfl, Nat.le_of_ble_eq_true rfl⟩) hE hK hP hD hS hA [0, 1, 2, 3, 4, 5, 6, 7] [] [0, 1, 2, 3, 4, 5, 6, 7] rfl (by decide) rfl (by decide) (by decide) rfl (by decide) rfl rfl rfl hl.1 rfl (Nat.le_of_ble_eq_true rfl) d_Desk_perform_25 ⟨Nat.zero_le _, Nat.zero_le _⟩ (fun H locs hP hD hS => ?_)
      have hk : k_Desk_perform sx sc so sa shs sgs sy sr p1 = (r_502, sx_503, sc, so_504, sa_505, shs_506, sgs_507, sy_508, sr_509) := (by rw [k_Desk_perform]; rw [if_pos c_492]; rw [if_pos c_493]; try rw [← er_502]; try rw [← esx_503]; try rw [← eso_504]; try rw [← esa_505]; try rw [← eshs_506]; try rw [← esgs_507]; try rw [← esy_508]; try rw [← esr_509]; try rfl)
      exact ct_ri hx hb hr hlocks hP hD hK hS d_Desk_perform_28 (by rw [hk]; first | done | rfl) (by rw [hk]; first | done | rfl)
  · refine lv_iconst (v := 2) hx hb d_Desk_perform_9 (by decide) ?_
    have hk : k_Desk_perform sx sc so sa shs sgs sy sr p1 = (2, sx, sc, so, sa, shs, sgs, sy, sr) := (by rw [k_Desk_perform]; rw [if_neg c_492]; try rfl)
    exact ct_ri hx hb hr hlocks hP hD hK hS d_Desk_perform_10 (by rw [hk]; first | done | rfl) (by rw [hk]; first | done | rfl)
def k_Desk_trapValue (sx : ob) (p1 : Int32) (p2 : Int32) : Int32 :=
  if p1 = 2 then p2 else if p1 = 3 then (sx.1 4) else if p1 = 22 then p2 else 0
set_option maxHeartbeats 4000000 in
set_option maxRecDepth 100000 in
theorem c_Desk_trapValue (l : Launch) (G : gx) (tys : List (ClassId × FieldType)) (qx qc qo qr : Nat) (sx : ob) (p1 : Int32) (p2 : Int32) : ct_I l y_Desk_trapValue ws_Desk_trapValue ({ frames := 0, cells := 0, slots := 0, locals := 0 }) G tys [.ref qx, .int p1, .int p2] [(qx, .inr (5, f_Desk qc qo qr sx))] (k_Desk_trapValue sx p1 p2) [(qx, .inr (5, f_Desk qc qo qr sx))] := by
  refine ct_hI (cc := cc_Desk_trapValue) (maxL := 3) (ret := (some .int)) (by decide) rfl (Nat.le_of_ble_eq_true rfl) ?_
  intro p e s m below meth c A ls hx hb hr hml hts hown hlocks hP hK hD hA hE hS hl
  have hl : lv_has ls 3 [(0, .ref qx), (1, .int p1), (2, .int p2)] := hl
  have hown : s.vm.findClass R_Desk = some m.cls := hown
  refine lv_iload_n hx hb d_Desk_trapValue_0 rfl (lv_at hl 1 rfl) ?_
  by_cases c_523 : p1 = 2
  · refine lv_lookup (off := 35) (tgt := 36) hx hb d_Desk_trapValue_1 (by decide) (by rw [c_523]; decide) (by decide) ?_
    refine lv_iload_n hx hb d_Desk_trapValue_36 rfl (lv_at hl 2 rfl) ?_
    have hk : k_Desk_trapValue sx p1 p2 = p2 := (by rw [k_Desk_trapValue]; rw [if_pos c_523]; try rfl)
    exact ct_ri hx hb hr hlocks hP hD hK hS d_Desk_trapValue_37 (by rw [hk]; first | done | rfl) rfl
  · by_cases c_524 : p1 = 3
    · refine lv_lookup (off := 37) (tgt := 38) hx hb d_Desk_trapValue_1 (by decide) (by rw [c_524]; decide) (by decide) ?_
      refine lv_aload_n hx hb d_Desk_trapValue_38 rfl (lv_at hl 0 rfl) ?_
      refine va_get (D := G.1) (ci := 5) (v := .int (sx.1 4)) (C := R_Desk) (T := T_Desk) (N := 8) hx hb hts (fun w h => gd_sub _ (iw_Desk w h)) hown hK hP 0 rfl rfl 4 (by decide) (hts _ (gd_sub _ q_209)) (fun _ h9 => h9) rfl d_Desk_trapValue_39 ?_
      have hk : k_Desk_trapValue sx p1 p2 = (sx.1 4) := (by rw [k_Desk_trapValue]; rw [if_neg c_523]; rw [if_pos c_524]; try rfl)
      exact ct_ri hx hb hr hlocks hP hD hK hS d_Desk_trapValue_42 (by rw [hk]; first | done | rfl) rfl
    · by_cases c_525 : p1 = 22
      · refine lv_lookup (off := 35) (tgt := 36) hx hb d_Desk_trapValue_1 (by decide) (by rw [c_525]; decide) (by decide) ?_
        refine lv_iload_n hx hb d_Desk_trapValue_36 rfl (lv_at hl 2 rfl) ?_
        have hk : k_Desk_trapValue sx p1 p2 = p2 := (by rw [k_Desk_trapValue]; rw [if_neg c_523]; rw [if_neg c_524]; rw [if_pos c_525]; try rfl)
        exact ct_ri hx hb hr hlocks hP hD hK hS d_Desk_trapValue_37 (by rw [hk]; first | done | rfl) rfl
      · refine lv_lookup (off := 42) (tgt := 43) hx hb d_Desk_trapValue_1 (by decide) ((lv_osw c_523 (by decide)).trans ((lv_osw c_524 (by decide)).trans ((lv_osw c_525 (by decide)).trans rfl))) (by decide) ?_
        refine lv_iconst (v := 0) hx hb d_Desk_trapValue_43 (by decide) ?_
        have hk : k_Desk_trapValue sx p1 p2 = 0 := (by rw [k_Desk_trapValue]; rw [if_neg c_523]; rw [if_neg c_524]; rw [if_neg c_525]; try rfl)
        exact ct_ri hx hb hr hlocks hP hD hK hS d_Desk_trapValue_44 (by rw [hk]; first | done | rfl) rfl
def k_Desk_isIn (p1 : Int32) (p2 : Int32) : Bool :=
  if p2 < 0 then false else (if 32 ≤ p2 then false else (if ((ush p1 p2) &&& 1) = 0 then false else true))
set_option maxHeartbeats 4000000 in
set_option maxRecDepth 100000 in
theorem c_Desk_isIn (l : Launch) (G : gx) (tys : List (ClassId × FieldType)) (p1 : Int32) (p2 : Int32) : ct_I l y_Desk_isIn ws_Desk_isIn ({ frames := 0, cells := 0, slots := 0, locals := 0 }) G tys [.int p1, .int p2] [] (bI (k_Desk_isIn p1 p2)) [] := by
  refine ct_hI (cc := cc_Desk_isIn) (maxL := 2) (ret := (some .boolean)) (by decide) rfl (Nat.le_of_ble_eq_true rfl) ?_
  intro p e s m below meth c A ls hx hb hr hml hts hown hlocks hP hK hD hA hE hS hl
  have hl : lv_has ls 2 [(0, .int p1), (1, .int p2)] := hl
  have hown : s.vm.findClass R_Desk = some m.cls := hown
  refine lv_iload_n hx hb d_Desk_isIn_0 rfl (lv_at hl 1 rfl) ?_
  refine lv_if_lt (tgt := 22) hx hb d_Desk_isIn_1 (by decide) (fun c_530 => ?_) (fun c_530 => ?_)
  · refine lv_iconst (v := 0) hx hb d_Desk_isIn_22 (by decide) ?_
    have hk : k_Desk_isIn p1 p2 = false := (by rw [k_Desk_isIn]; rw [if_pos c_530]; try rfl)
    exact ct_rz hx hb hr hlocks hP hD hK hS d_Desk_isIn_23 rfl (by rw [hk]; first | done | rfl) rfl
  · refine lv_iload_n hx hb d_Desk_isIn_4 rfl (lv_at hl 1 rfl) ?_
    refine lv_bipush (v := 32) hx hb d_Desk_isIn_5 (by decide) ?_
    refine lv_icmp_ge (tgt := 22) hx hb d_Desk_isIn_7 (by decide) (fun c_531 => ?_) (fun c_531 => ?_)
    · refine lv_iconst (v := 0) hx hb d_Desk_isIn_22 (by decide) ?_
      have hk : k_Desk_isIn p1 p2 = false := (by rw [k_Desk_isIn]; rw [if_neg c_530]; rw [if_pos c_531]; try rfl)
      exact ct_rz hx hb hr hlocks hP hD hK hS d_Desk_isIn_23 rfl (by rw [hk]; first | done | rfl) rfl
    · refine lv_iload_n hx hb d_Desk_isIn_10 rfl (lv_at hl 0 rfl) ?_
      refine lv_iload_n hx hb d_Desk_isIn_11 rfl (lv_at hl 1 rfl) ?_
      refine lv_iushr (v := (ush p1 p2)) hx hb d_Desk_isIn_12 rfl ?_
      refine lv_iconst (v := 1) hx hb d_Desk_isIn_13 (by decide) ?_
      refine lv_iand hx hb d_Desk_isIn_14 ?_
      refine lv_if_eq (tgt := 22) hx hb d_Desk_isIn_15 (by decide) (fun c_532 => ?_) (fun c_532 => ?_)
      · refine lv_iconst (v := 0) hx hb d_Desk_isIn_22 (by decide) ?_
        have hk : k_Desk_isIn p1 p2 = false := (by rw [k_Desk_isIn]; rw [if_neg c_530]; rw [if_neg c_531]; rw [if_pos c_532]; try rfl)
        exact ct_rz hx hb hr hlocks hP hD hK hS d_Desk_isIn_23 rfl (by rw [hk]; first | done | rfl) rfl
      · refine lv_iconst (v := 1) hx hb d_Desk_isIn_18 (by decide) ?_
        refine lv_goto (tgt := 23) hx hb d_Desk_isIn_19 (by decide) ?_
        have hk : k_Desk_isIn p1 p2 = true := (by rw [k_Desk_isIn]; rw [if_neg c_530]; rw [if_neg c_531]; rw [if_neg c_532]; try rfl)
        exact ct_rz hx hb hr hlocks hP hD hK hS d_Desk_isIn_23 rfl (by rw [hk]; first | done | rfl) rfl
def k_Desk_isSupervisor (sx : ob) : Bool :=
  if (sx.1 3) = 1 then true else (if (sx.1 3) = 3 then true else false)
set_option maxHeartbeats 4000000 in
set_option maxRecDepth 100000 in
theorem c_Desk_isSupervisor (l : Launch) (G : gx) (tys : List (ClassId × FieldType)) (qx qc qo qr : Nat) (sx : ob) : ct_I l y_Desk_isSupervisor ws_Desk_isSupervisor ({ frames := 0, cells := 0, slots := 0, locals := 0 }) G tys [.ref qx] [(qx, .inr (5, f_Desk qc qo qr sx))] (bI (k_Desk_isSupervisor sx)) [(qx, .inr (5, f_Desk qc qo qr sx))] := by
  refine ct_hI (cc := cc_Desk_isSupervisor) (maxL := 1) (ret := (some .boolean)) (by decide) rfl (Nat.le_of_ble_eq_true rfl) ?_
  intro p e s m below meth c A ls hx hb hr hml hts hown hlocks hP hK hD hA hE hS hl
  have hl : lv_has ls 1 [(0, .ref qx)] := hl
  have hown : s.vm.findClass R_Desk = some m.cls := hown
  refine lv_aload_n hx hb d_Desk_isSupervisor_0 rfl (lv_at hl 0 rfl) ?_
  refine va_get (D := G.1) (ci := 5) (v := .int (sx.1 3)) (C := R_Desk) (T := T_Desk) (N := 8) hx hb hts (fun w h => gd_sub _ (iw_Desk w h)) hown hK hP 0 rfl rfl 3 (by decide) (hts _ (gd_sub _ q_208)) (fun _ h9 => h9) rfl d_Desk_isSupervisor_1 ?_
  refine lv_iconst (v := 1) hx hb d_Desk_isSupervisor_4 (by decide) ?_
  refine lv_icmp_eq (tgt := 16) hx hb d_Desk_isSupervisor_5 (by decide) (fun c_536 => ?_) (fun c_536 => ?_)
  · refine lv_iconst (v := 1) hx hb d_Desk_isSupervisor_16 (by decide) ?_
    refine lv_goto (tgt := 21) hx hb d_Desk_isSupervisor_17 (by decide) ?_
    have hk : k_Desk_isSupervisor sx = true := (by rw [k_Desk_isSupervisor]; rw [if_pos c_536]; try rfl)
    exact ct_rz hx hb hr hlocks hP hD hK hS d_Desk_isSupervisor_21 rfl (by rw [hk]; first | done | rfl) rfl
  · refine lv_aload_n hx hb d_Desk_isSupervisor_8 rfl (lv_at hl 0 rfl) ?_
    refine va_get (D := G.1) (ci := 5) (v := .int (sx.1 3)) (C := R_Desk) (T := T_Desk) (N := 8) hx hb hts (fun w h => gd_sub _ (iw_Desk w h)) hown hK hP 0 rfl rfl 3 (by decide) (hts _ (gd_sub _ q_208)) (fun _ h9 => h9) rfl d_Desk_isSupervisor_9 ?_
    refine lv_iconst (v := 3) hx hb d_Desk_isSupervisor_12 (by decide) ?_
    refine lv_icmp_ne (tgt := 20) hx hb d_Desk_isSupervisor_13 (by decide) (fun c_537 => ?_) (fun c_537 => ?_)
    · refine lv_iconst (v := 0) hx hb d_Desk_isSupervisor_20 (by decide) ?_
      have hk : k_Desk_isSupervisor sx = false := (by rw [k_Desk_isSupervisor]; rw [if_neg c_536]; rw [if_neg c_537]; try rfl)
      exact ct_rz hx hb hr hlocks hP hD hK hS d_Desk_isSupervisor_21 rfl (by rw [hk]; first | done | rfl) rfl
    · refine lv_iconst (v := 1) hx hb d_Desk_isSupervisor_16 (by decide) ?_
      refine lv_goto (tgt := 21) hx hb d_Desk_isSupervisor_17 (by decide) ?_
      have hk : k_Desk_isSupervisor sx = true := (by rw [k_Desk_isSupervisor]; rw [if_neg c_536]; rw [if_pos c_537]; try rfl)
      exact ct_rz hx hb hr hlocks hP hD hK hS d_Desk_isSupervisor_21 rfl (by rw [hk]; first | done | rfl) rfl
def k_Bank_hasInterruptsOn (sb : ob) : Bool :=
  if ((sb.1 0) &&& 2) = 0 then false else true
set_option maxHeartbeats 4000000 in
set_option maxRecDepth 100000 in
theorem c_Bank_hasInterruptsOn (l : Launch) (G : gx) (tys : List (ClassId × FieldType)) (qb : Nat) (sb : ob) : ct_I l y_Bank_hasInterruptsOn ws_Bank_hasInterruptsOn ({ frames := 0, cells := 0, slots := 0, locals := 0 }) G tys [.ref qb] [(qb, .inr (0, f_Bank sb))] (bI (k_Bank_hasInterruptsOn sb)) [(qb, .inr (0, f_Bank sb))] := by
  refine ct_hI (cc := cc_Bank_hasInterruptsOn) (maxL := 1) (ret := (some .boolean)) (by decide) rfl (Nat.le_of_ble_eq_true rfl) ?_
  intro p e s m below meth c A ls hx hb hr hml hts hown hlocks hP hK hD hA hE hS hl
  have hl : lv_has ls 1 [(0, .ref qb)] := hl
  have hown : s.vm.findClass R_Bank = some m.cls := hown
  refine lv_aload_n hx hb d_Bank_hasInterruptsOn_0 rfl (lv_at hl 0 rfl) ?_
  refine va_get (D := G.1) (ci := 0) (v := .int (sb.1 0)) (C := R_Bank) (T := T_Bank) (N := 7) hx hb hts (fun w h => gd_sub _ (iw_Bank w h)) hown hK hP 0 rfl rfl 0 (by decide) (hts _ (gd_sub _ q_103)) (fun _ h9 => h9) rfl d_Bank_hasInterruptsOn_1 ?_
  refine lv_iconst (v := 2) hx hb d_Bank_hasInterruptsOn_4 (by decide) ?_
  refine lv_iand hx hb d_Bank_hasInterruptsOn_5 ?_
  refine lv_if_eq (tgt := 13) hx hb d_Bank_hasInterruptsOn_6 (by decide) (fun c_539 => ?_) (fun c_539 => ?_)
  · refine lv_iconst (v := 0) hx hb d_Bank_hasInterruptsOn_13 (by decide) ?_
    have hk : k_Bank_hasInterruptsOn sb = false := (by rw [k_Bank_hasInterruptsOn]; rw [if_pos c_539]; try rfl)
    exact ct_rz hx hb hr hlocks hP hD hK hS d_Bank_hasInterruptsOn_14 rfl (by rw [hk]; first | done | rfl) rfl
  · refine lv_iconst (v := 1) hx hb d_Bank_hasInterruptsOn_9 (by decide) ?_
    refine lv_goto (tgt := 14) hx hb d_Bank_hasInterruptsOn_10 (by decide) ?_
    have hk : k_Bank_hasInterruptsOn sb = true := (by rw [k_Bank_hasInterruptsOn]; rw [if_neg c_539]; try rfl)
    exact ct_rz hx hb hr hlocks hP hD hK hS d_Bank_hasInterruptsOn_14 rfl (by rw [hk]; first | done | rfl) rfl
def k_Bank_handlerOf_j29 (sb : ob) (p1 : Int32) (v2 : Int32) (t0 : Bool) : Int32 :=
  if (bI t0) = 0 then v2 else (v2 + (4 * (p1 &&& 2147483647)))
def k_Bank_handlerOf_j28 (sb : ob) (p1 : Int32) (v2 : Int32) : Int32 :=
  k_Bank_handlerOf_j29 sb p1 v2 false
def k_Bank_handlerOf (sb : ob) (p1 : Int32) : Int32 :=
  if (p1 &&& (-2147483648)) = 0 then (k_Bank_handlerOf_j28 sb p1 ((sb.1 1) &&& (-4))) else (if ((sb.1 1) &&& 1) = 0 then (k_Bank_handlerOf_j28 sb p1 ((sb.1 1) &&& (-4))) else (k_Bank_handlerOf_j29 sb p1 ((sb.1 1) &&& (-4)) true))
set_option maxHeartbeats 4000000 in
set_option maxRecDepth 100000 in
theorem c_Bank_handlerOf (l : Launch) (G : gx) (tys : List (ClassId × FieldType)) (qb : Nat) (sb : ob) (p1 : Int32) : ct_I l y_Bank_handlerOf ws_Bank_handlerOf ({ frames := 0, cells := 0, slots := 0, locals := 0 }) G tys [.ref qb, .int p1] [(qb, .inr (0, f_Bank sb))] (k_Bank_handlerOf sb p1) [(qb, .inr (0, f_Bank sb))] := by
  refine ct_hI (cc := cc_Bank_handlerOf) (maxL := 4) (ret := (some .int)) (by decide) rfl (Nat.le_of_ble_eq_true rfl) ?_
  intro p e s m below meth c A ls hx hb hr hml hts hown hlocks hP hK hD hA hE hS hl
  have hl : lv_has ls 4 [(0, .ref qb), (1, .int p1)] := hl
  have hown : s.vm.findClass R_Bank = some m.cls := hown
  have J29 : ∀ (v2 : Int32) (t0 : Bool) (H : Heap) (locs : List Loc) (ls : Array Slot), k_Bank_handlerOf sb p1 = k_Bank_handlerOf_j29 sb p1 v2 t0 → va_P G.1 vwCl [(qb, .inr (0, f_Bank sb))] H → va_D A [(qb, .inr (0, f_Bank sb))] → va_S A s.heap H locs → lv_has ls 4 [(0, .ref qb), (1, .int p1), (2, .int v2)] → W p l e ({ frames := 0, cells := 0, slots := 0, locals := 0 }) s m ([.ref qb, .int p1] : List Value).toArray below meth c H locs 0 0 (MQ below (ct_qi G tys A (k_Bank_handlerOf sb p1) [(qb, .inr (0, f_Bank sb))]) ([.ref qb, .int p1] : List Value).toArray s 0 0 A) (F0 m 29 ls [.int (bI t0)]) := by
    intro v2 t0 H locs ls hj hP hD hS hl
    refine lv_istore_n (lv' := [(3, .int (bI t0)), (0, .ref qb), (1, .int p1), (2, .int v2)]) hx hb d_Bank_handlerOf_29 rfl hl (by decide) rfl (fun ls hl => ?_)
    refine lv_iload_n hx hb d_Bank_handlerOf_30 rfl (lv_at hl 0 rfl) ?_
    refine lv_if_eq (tgt := 45) hx hb d_Bank_handlerOf_31 (by decide) (fun c_545 => ?_) (fun c_545 => ?_)
    · refine lv_iload_n hx hb d_Bank_handlerOf_45 rfl (lv_at hl 3 rfl) ?_
      have hk : k_Bank_handlerOf sb p1 = v2 := (hj.trans (by rw [k_Bank_handlerOf_j29]; rw [if_pos c_545]; try rfl))
      exact ct_ri hx hb hr hlocks hP hD hK hS d_Bank_handlerOf_46 (by rw [hk]; first | done | rfl) rfl
    · refine lv_iload_n hx hb d_Bank_handlerOf_34 rfl (lv_at hl 3 rfl) ?_
      refine lv_iconst (v := 4) hx hb d_Bank_handlerOf_35 (by decide) ?_
      refine lv_iload_n hx hb d_Bank_handlerOf_36 rfl (lv_at hl 2 rfl) ?_
      refine lv_ldc (v := 2147483647) hx hb hown (hts _ (gd_sub _ q_538)) d_Bank_handlerOf_37 ?_
      refine lv_iand hx hb d_Bank_handlerOf_39 ?_
      refine lv_imul hx hb d_Bank_handlerOf_40 ?_
      refine lv_iadd hx hb d_Bank_handlerOf_41 ?_
      refine lv_goto (tgt := 46) hx hb d_Bank_handlerOf_42 (by decide) ?_
      have hk : k_Bank_handlerOf sb p1 = (v2 + (4 * (p1 &&& 2147483647))) := (hj.trans (by rw [k_Bank_handlerOf_j29]; rw [if_neg c_545]; try rfl))
      exact ct_ri hx hb hr hlocks hP hD hK hS d_Bank_handlerOf_46 (by rw [hk]; first | done | rfl) rfl
  have J28 : ∀ (v2 : Int32) (H : Heap) (locs : List Loc) (ls : Array Slot), k_Bank_handlerOf sb p1 = k_Bank_handlerOf_j28 sb p1 v2 → va_P G.1 vwCl [(qb, .inr (0, f_Bank sb))] H → va_D A [(qb, .inr (0, f_Bank sb))] → va_S A s.heap H locs → lv_has ls 4 [(0, .ref qb), (1, .int p1), (2, .int v2)] → W p l e ({ frames := 0, cells := 0, slots := 0, locals := 0 }) s m ([.ref qb, .int p1] : List Value).toArray below meth c H locs 0 0 (MQ below (ct_qi G tys A (k_Bank_handlerOf sb p1) [(qb, .inr (0, f_Bank sb))]) ([.ref qb, .int p1] : List Value).toArray s 0 0 A) (F0 m 28 ls []) := by
    intro v2 H locs ls hj hP hD hS hl
    refine lv_iconst (v := 0) hx hb d_Bank_handlerOf_28 (by decide) ?_
    exact J29 v2 false H locs ls (hj.trans (by rw [k_Bank_handlerOf_j28]; try rfl)) hP hD hS (lv_sub hl [0, 1, 2] rfl)
  obtain ⟨H, eH⟩ : ∃ z, z = s.heap := ⟨_, rfl⟩
  obtain ⟨locs, eL⟩ : ∃ z, z = ([] : List Loc) := ⟨_, rfl⟩
  have hP : va_P G.1 vwCl [(qb, .inr (0, f_Bank sb))] H := by rw [eH]; exact hP
  have hS : va_S A s.heap H locs := by rw [eH, eL]; exact hS
  suffices hW : W p l e ({ frames := 0, cells := 0, slots := 0, locals := 0 }) s m ([.ref qb, .int p1] : List Value).toArray below meth c H locs 0 0 (MQ below (ct_qi G tys A (k_Bank_handlerOf sb p1) [(qb, .inr (0, f_Bank sb))]) ([.ref qb, .int p1] : List Value).toArray s 0 0 A) (F0 m 0 ls []) by rw [eH, eL] at hW; exact hW
  refine lv_aload_n hx hb d_Bank_handlerOf_0 rfl (lv_at hl 0 rfl) ?_
  refine va_get (D := G.1) (ci := 0) (v := .int (sb.1 1)) (C := R_Bank) (T := T_Bank) (N := 7) hx hb hts (fun w h => gd_sub _ (iw_Bank w h)) hown hK hP 0 rfl rfl 1 (by decide) (hts _ (gd_sub _ q_104)) (fun _ h9 => h9) rfl d_Bank_handlerOf_1 ?_
  refine lv_bipush (v := (-4)) hx hb d_Bank_handlerOf_4 (by decide) ?_
  refine lv_iand hx hb d_Bank_handlerOf_6 ?_
  refine lv_istore_n (lv' := [(2, .int ((sb.1 1) &&& (-4))), (0, .ref qb), (1, .int p1)]) hx hb d_Bank_handlerOf_7 rfl hl (by decide) rfl (fun ls hl => ?_)
  refine lv_iload_n hx hb d_Bank_handlerOf_8 rfl (lv_at hl 2 rfl) ?_
  refine lv_ldc (v := (-2147483648)) hx hb hown (hts _ (gd_sub _ q_537)) d_Bank_handlerOf_9 ?_
  refine lv_iand hx hb d_Bank_handlerOf_11 ?_
  refine lv_if_eq (tgt := 28) hx hb d_Bank_handlerOf_12 (by decide) (fun c_546 => ?_) (fun c_546 => ?_)
  · exact J28 ((sb.1 1) &&& (-4)) H locs ls (by rw [k_Bank_handlerOf]; rw [if_pos c_546]; try rfl) hP hD hS (lv_sub hl [1, 2, 0] rfl)
  · refine lv_aload_n hx hb d_Bank_handlerOf_15 rfl (lv_at hl 1 rfl) ?_
    refine va_get (D := G.1) (ci := 0) (v := .int (sb.1 1)) (C := R_Bank) (T := T_Bank) (N := 7) hx hb hts (fun w h => gd_sub _ (iw_Bank w h)) hown hK hP 0 rfl rfl 1 (by decide) (hts _ (gd_sub _ q_104)) (fun _ h9 => h9) rfl d_Bank_handlerOf_16 ?_
    refine lv_iconst (v := 1) hx hb d_Bank_handlerOf_19 (by decide) ?_
    refine lv_iand hx hb d_Bank_handlerOf_20 ?_
    refine lv_if_eq (tgt := 28) hx hb d_Bank_handlerOf_21 (by decide) (fun c_547 => ?_) (fun c_547 => ?_)
    · exact J28 ((sb.1 1) &&& (-4)) H locs ls (by rw [k_Bank_handlerOf]; rw [if_neg c_546]; rw [if_pos c_547]; try rfl) hP hD hS (lv_sub hl [1, 2, 0] rfl)
    · refine lv_iconst (v := 1) hx hb d_Bank_handlerOf_24 (by decide) ?_
      refine lv_goto (tgt := 29) hx hb d_Bank_handlerOf_25 (by decide) ?_
      exact J29 ((sb.1 1) &&& (-4)) true H locs ls (by rw [k_Bank_handlerOf]; rw [if_neg c_546]; rw [if_neg c_547]; try rfl) hP hD hS (lv_sub hl [1, 2, 0] rfl)
def k_Bank_enter_j58 (sb : ob) (p1 : Int32) (p2 : Int32) (p3 : Int32) (p4 : Bool) (v5 : Int32) (v6 : Int32) (t0 : Int32) (t1 : Int32) (ub : ob) : Int32 × ob :=
  ((k_Bank_handlerOf (oi ub 0 (t1 ||| t0)) p2), (oi ub 0 (t1 ||| t0)))
def k_Bank_enter_j38 (sb : ob) (p1 : Int32) (p2 : Int32) (p3 : Int32) (p4 : Bool) (v5 : Int32) (t0 : Int32) (ub : ob) : Int32 × ob :=
  if (bI p4) = 0 then (k_Bank_enter_j58 sb p1 p2 p3 p4 v5 t0 0 (v5 ||| t0) ub) else (k_Bank_enter_j58 sb p1 p2 p3 p4 v5 t0 256 (v5 ||| t0) ub)
def k_Bank_enter (sb : ob) (p1 : Int32) (p2 : Int32) (p3 : Int32) (p4 : Bool) : Int32 × ob :=
  if (bI (k_Bank_hasInterruptsOn (oi (oi (oi sb 3 p1) 4 p2) 5 p3))) = 0 then (k_Bank_enter_j38 sb p1 p2 p3 p4 ((sb.1 0) &&& (-291)) 0 (oi (oi (oi sb 3 p1) 4 p2) 5 p3)) else (k_Bank_enter_j38 sb p1 p2 p3 p4 ((sb.1 0) &&& (-291)) 32 (oi (oi (oi sb 3 p1) 4 p2) 5 p3))
set_option maxHeartbeats 4000000 in
set_option maxRecDepth 100000 in
theorem c_Bank_enter (l : Launch) (G : gx) (tys : List (ClassId × FieldType)) (qb : Nat) (sb : ob) (p1 : Int32) (p2 : Int32) (p3 : Int32) (p4 : Bool) : ct_I l y_Bank_enter ws_Bank_enter ({ frames := 1, cells := 0, slots := 0, locals := 23 }) G tys [.ref qb, .int p1, .int p2, .int p3, .int (bI p4)] [(qb, .inr (0, f_Bank sb))] ((k_Bank_enter sb p1 p2 p3 p4).1) [(qb, .inr (0, f_Bank ((k_Bank_enter sb p1 p2 p3 p4).2)))] := by
  refine ct_hI (cc := cc_Bank_enter) (maxL := 7) (ret := (some .int)) (by decide) rfl (Nat.le_of_ble_eq_true rfl) ?_
  intro p e s m below meth c A ls hx hb hr hml hts hown hlocks hP hK hD hA hE hS hl
  have hl : lv_has ls 7 [(0, .ref qb), (1, .int p1), (2, .int p2), (3, .int p3), (4, .int (bI p4))] := hl
  have hown : s.vm.findClass R_Bank = some m.cls := hown
  have J58 : ∀ (v5 : Int32) (v6 : Int32) (t0 : Int32) (t1 : Int32) (ub : ob) (H : Heap) (locs : List Loc) (ls : Array Slot), k_Bank_enter sb p1 p2 p3 p4 = k_Bank_enter_j58 sb p1 p2 p3 p4 v5 v6 t0 t1 ub → va_P G.1 vwCl [(qb, .inr (0, f_Bank ub))] H → va_D A [(qb, .inr (0, f_Bank ub))] → va_S A s.heap H locs → lv_has ls 7 [(0, .ref qb), (1, .int p1), (2, .int p2), (3, .int p3), (4, .int (bI p4)), (5, .int v5), (6, .int v6)] → W p l e ({ frames := 1, cells := 0, slots := 0, locals := 23 }) s m ([.ref qb, .int p1, .int p2, .int p3, .int (bI p4)] : List Value).toArray below meth c H locs 0 0 (MQ below (ct_qi G tys A ((k_Bank_enter sb p1 p2 p3 p4).1) [(qb, .inr (0, f_Bank ((k_Bank_enter sb p1 p2 p3 p4).2)))]) ([.ref qb, .int p1, .int p2, .int p3, .int (bI p4)] : List Value).toArray s 0 0 A) (F0 m 58 ls [.int t0, .int t1, .ref qb]) := by
    intro v5 v6 t0 t1 ub H locs ls hj hP hD hS hl
    refine lv_ior hx hb d_Bank_enter_58 ?_
    refine va_put (D := G.1) (ci := 0) (v := .int (t1 ||| t0)) (ty := .int) (C := R_Bank) (T := T_Bank) (N := 7) hx hb hts (fun w h => gd_sub _ (iw_Bank w h)) ty_Bank tyok_Bank nm_Bank hown hK hP hD hS 0 rfl rfl 0 (by decide) (hts _ (gd_sub _ q_103)) (fun _ h9 => h9) rfl (by decide +kernel) rfl rfl (Nat.le_of_ble_eq_true rfl) d_Bank_enter_59 (fun H locs hP hD hS => ?_)
    have hP : va_P G.1 vwCl [(qb, .inr (0, f_Bank (oi ub 0 (t1 ||| t0))))] H := hP
    have hD : va_D A [(qb, .inr (0, f_Bank (oi ub 0 (t1 ||| t0))))] := hD
    refine lv_aload_n hx hb d_Bank_enter_62 rfl (lv_at hl 0 rfl) ?_
    refine lv_iload_n hx hb d_Bank_enter_63 rfl (lv_at hl 2 rfl) ?_
    refine ct_cVi (wr := []) (w1 := [(qb, .inr (0, f_Bank (oi ub 0 (t1 ||| t0))))]) (w2 := [(qb, .inr (0, f_Bank (oi ub 0 (t1 ||| t0))))]) (r := (k_Bank_handlerOf (oi ub 0 (t1 ||| t0)) p2)) (As := [.int p2]) (rest := []) (ci := 0) (q0 := 0) ⟨hx, hb, hml, hown, hts⟩ (c_Bank_handlerOf l G tys qb (oi ub 0 (t1 ||| t0)) p2) (cwV 1 hts (gdV gd_gd q_533 q_534 q_535 q_44 q_536) rfl rfl rfl (by decide +kernel) ⟨Nat.le_of_ble_eq_true rfl, Nat.le_of_ble_eq_true rfl⟩) hE hK hP hD hS hA [0] [] [0] rfl (by decide) rfl (by decide) (by decide) rfl (by decide) rfl rfl rfl hl.1 rfl (Nat.le_of_ble_eq_true rfl) d_Bank_enter_64 ⟨Nat.zero_le _, Nat.zero_le _⟩ (fun H locs hP hD hS => ?_)
    have hk : k_Bank_enter sb p1 p2 p3 p4 = ((k_Bank_handlerOf (oi ub 0 (t1 ||| t0)) p2), (oi ub 0 (t1 ||| t0))) := (hj.trans (by rw [k_Bank_enter_j58]; try rfl))
    exact ct_ri hx hb hr hlocks hP hD hK hS d_Bank_enter_67 (by rw [hk]; first | done | rfl) (by rw [hk]; first | done | rfl)
  have J38 : ∀ (v5 : Int32) (t0 : Int32) (ub : ob) (H : Heap) (locs : List Loc) (ls : Array Slot), k_Bank_enter sb p1 p2 p3 p4 = k_Bank_enter_j38 sb p1 p2 p3 p4 v5 t0 ub → va_P G.1 vwCl [(qb, .inr (0, f_Bank ub))] H → va_D A [(qb, .inr (0, f_Bank ub))] → va_S A s.heap H locs → lv_has ls 7 [(0, .ref qb), (1, .int p1), (2, .int p2), (3, .int p3), (4, .int (bI p4)), (5, .int v5)] → W p l e ({ frames := 1, cells := 0, slots := 0, locals := 23 }) s m ([.ref qb, .int p1, .int p2, .int p3, .int (bI p4)] : List Value).toArray below meth c H locs 0 0 (MQ below (ct_qi G tys A ((k_Bank_enter sb p1 p2 p3 p4).1) [(qb, .inr (0, f_Bank ((k_Bank_enter sb p1 p2 p3 p4).2)))]) ([.ref qb, .int p1, .int p2, .int p3, .int (bI p4)] : List Value).toArray s 0 0 A) (F0 m 38 ls [.int t0]) := by
    intro v5 t0 ub H locs ls hj hP hD hS hl
    refine lv_istore (lv' := [(6, .int t0), (0, .ref qb), (1, .int p1), (2, .int p2), (3, .int p3), (4, .int (bI p4)), (5, .int v5)]) hx hb d_Bank_enter_38 hl (by decide) rfl (fun ls hl => ?_)
    refine lv_aload_n hx hb d_Bank_enter_40 rfl (lv_at hl 1 rfl) ?_
    refine lv_iload hx hb d_Bank_enter_41 (lv_at hl 6 rfl) ?_
    refine lv_iload hx hb d_Bank_enter_43 (lv_at hl 0 rfl) ?_
    refine lv_ior hx hb d_Bank_enter_45 ?_
    refine lv_iload hx hb d_Bank_enter_46 (lv_at hl 5 rfl) ?_
    refine lv_if_eq (tgt := 57) hx hb d_Bank_enter_48 (by decide) (fun c_548 => ?_) (fun c_548 => ?_)
    · refine lv_iconst (v := 0) hx hb d_Bank_enter_57 (by decide) ?_
      exact J58 v5 t0 0 (v5 ||| t0) ub H locs ls (hj.trans (by rw [k_Bank_enter_j38]; rw [if_pos c_548]; try rfl)) hP hD hS (lv_sub hl [1, 2, 3, 4, 5, 6, 0] rfl)
    · refine lv_sipush (v := 256) hx hb d_Bank_enter_51 (by decide) ?_
      refine lv_goto (tgt := 58) hx hb d_Bank_enter_54 (by decide) ?_
      exact J58 v5 t0 256 (v5 ||| t0) ub H locs ls (hj.trans (by rw [k_Bank_enter_j38]; rw [if_neg c_548]; try rfl)) hP hD hS (lv_sub hl [1, 2, 3, 4, 5, 6, 0] rfl)
  obtain ⟨H, eH⟩ : ∃ z, z = s.heap := ⟨_, rfl⟩
  obtain ⟨locs, eL⟩ : ∃ z, z = ([] : List Loc) := ⟨_, rfl⟩
  have hP : va_P G.1 vwCl [(qb, .inr (0, f_Bank sb))] H := by rw [eH]; exact hP
  have hS : va_S A s.heap H locs := by rw [eH, eL]; exact hS
  suffices hW : W p l e ({ frames := 1, cells := 0, slots := 0, locals := 23 }) s m ([.ref qb, .int p1, .int p2, .int p3, .int (bI p4)] : List Value).toArray below meth c H locs 0 0 (MQ below (ct_qi G tys A ((k_Bank_enter sb p1 p2 p3 p4).1) [(qb, .inr (0, f_Bank ((k_Bank_enter sb p1 p2 p3 p4).2)))]) ([.ref qb, .int p1, .int p2, .int p3, .int (bI p4)] : List Value).toArray s 0 0 A) (F0 m 0 ls []) by rw [eH, eL] at hW; exact hW
  refine lv_aload_n hx hb d_Bank_enter_0 rfl (lv_at hl 0 rfl) ?_
  refine lv_iload_n hx hb d_Bank_enter_1 rfl (lv_at hl 1 rfl) ?_
  refine va_put (D := G.1) (ci := 0) (v := .int p1) (ty := .int) (C := R_Bank) (T := T_Bank) (N := 7) hx hb hts (fun w h => gd_sub _ (iw_Bank w h)) ty_Bank tyok_Bank nm_Bank hown hK hP hD hS 0 rfl rfl 3 (by decide) (hts _ (gd_sub _ q_106)) (fun _ h9 => h9) rfl (by decide +kernel) rfl rfl (Nat.le_of_ble_eq_true rfl) d_Bank_enter_2 (fun H locs hP hD hS => ?_)
  have hP : va_P G.1 vwCl [(qb, .inr (0, f_Bank (oi sb 3 p1)))] H := hP
  have hD : va_D A [(qb, .inr (0, f_Bank (oi sb 3 p1)))] := hD
  refine lv_aload_n hx hb d_Bank_enter_5 rfl (lv_at hl 0 rfl) ?_
  refine lv_iload_n hx hb d_Bank_enter_6 rfl (lv_at hl 2 rfl) ?_
  refine va_put (D := G.1) (ci := 0) (v := .int p2) (ty := .int) (C := R_Bank) (T := T_Bank) (N := 7) hx hb hts (fun w h => gd_sub _ (iw_Bank w h)) ty_Bank tyok_Bank nm_Bank hown hK hP hD hS 0 rfl rfl 4 (by decide) (hts _ (gd_sub _ q_108)) (fun _ h9 => h9) rfl (by decide +kernel) rfl rfl (Nat.le_of_ble_eq_true rfl) d_Bank_enter_7 (fun H locs hP hD hS => ?_)
  have hP : va_P G.1 vwCl [(qb, .inr (0, f_Bank (oi (oi sb 3 p1) 4 p2)))] H := hP
  have hD : va_D A [(qb, .inr (0, f_Bank (oi (oi sb 3 p1) 4 p2)))] := hD
  refine lv_aload_n hx hb d_Bank_enter_10 rfl (lv_at hl 0 rfl) ?_
  refine lv_iload_n hx hb d_Bank_enter_11 rfl (lv_at hl 3 rfl) ?_
  refine va_put (D := G.1) (ci := 0) (v := .int p3) (ty := .int) (C := R_Bank) (T := T_Bank) (N := 7) hx hb hts (fun w h => gd_sub _ (iw_Bank w h)) ty_Bank tyok_Bank nm_Bank hown hK hP hD hS 0 rfl rfl 5 (by decide) (hts _ (gd_sub _ q_109)) (fun _ h9 => h9) rfl (by decide +kernel) rfl rfl (Nat.le_of_ble_eq_true rfl) d_Bank_enter_12 (fun H locs hP hD hS => ?_)
  have hP : va_P G.1 vwCl [(qb, .inr (0, f_Bank (oi (oi (oi sb 3 p1) 4 p2) 5 p3)))] H := hP
  have hD : va_D A [(qb, .inr (0, f_Bank (oi (oi (oi sb 3 p1) 4 p2) 5 p3)))] := hD
  refine lv_aload_n hx hb d_Bank_enter_15 rfl (lv_at hl 0 rfl) ?_
  refine va_get (D := G.1) (ci := 0) (v := .int (sb.1 0)) (C := R_Bank) (T := T_Bank) (N := 7) hx hb hts (fun w h => gd_sub _ (iw_Bank w h)) hown hK hP 0 rfl rfl 0 (by decide) (hts _ (gd_sub _ q_103)) (fun _ h9 => h9) rfl d_Bank_enter_16 ?_
  refine lv_sipush (v := (-291)) hx hb d_Bank_enter_19 (by decide) ?_
  refine lv_iand hx hb d_Bank_enter_22 ?_
  refine lv_istore (lv' := [(5, .int ((sb.1 0) &&& (-291))), (0, .ref qb), (1, .int p1), (2, .int p2), (3, .int p3), (4, .int (bI p4))]) hx hb d_Bank_enter_23 hl (by decide) rfl (fun ls hl => ?_)
  refine lv_aload_n hx hb d_Bank_enter_25 rfl (lv_at hl 1 rfl) ?_
  refine ct_cVi (wr := []) (w1 := [(qb, .inr (0, f_Bank (oi (oi (oi sb 3 p1) 4 p2) 5 p3)))]) (w2 := [(qb, .inr (0, f_Bank (oi (oi (oi sb 3 p1) 4 p2) 5 p3)))]) (r := (bI (k_Bank_hasInterruptsOn (oi (oi (oi sb 3 p1) 4 p2) 5 p3)))) (As := []) (rest := []) (ci := 0) (q0 := 0) ⟨hx, hb, hml, hown, hts⟩ (c_Bank_hasInterruptsOn l G tys qb (oi (oi (oi sb 3 p1) 4 p2) 5 p3)) (cwV 0 hts (gdV gd_gd q_529 q_530 q_531 q_44 q_532) rfl rfl rfl (by decide +kernel) ⟨Nat.le_of_ble_eq_true rfl, Nat.le_of_ble_eq_true rfl⟩) hE hK hP hD hS hA [0] [] [0] rfl (by decide) rfl (by decide) (by decide) rfl (by decide) rfl rfl rfl hl.1 rfl (Nat.le_of_ble_eq_true rfl) d_Bank_enter_26 ⟨Nat.zero_le _, Nat.zero_le _⟩ (fun H locs hP hD hS => ?_)
  refine lv_if_eq (tgt := 37) hx hb d_Bank_enter_29 (by decide) (fun c_549 => ?_) (fun c_549 => ?_)
  · refine lv_iconst (v := 0) hx hb d_Bank_enter_37 (by decide) ?_
    exact J38 ((sb.1 0) &&& (-291)) 0 (oi (oi (oi sb 3 p1) 4 p2) 5 p3) H locs ls (by rw [k_Bank_enter]; rw [if_pos c_549]; try rfl) hP hD hS (lv_sub hl [1, 2, 3, 4, 5, 0] rfl)
  · refine lv_bipush (v := 32) hx hb d_Bank_enter_32 (by decide) ?_
    refine lv_goto (tgt := 38) hx hb d_Bank_enter_34 (by decide) ?_
    exact J38 ((sb.1 0) &&& (-291)) 32 (oi (oi (oi sb 3 p1) 4 p2) 5 p3) H locs ls (by rw [k_Bank_enter]; rw [if_neg c_549]; try rfl) hP hD hS (lv_sub hl [1, 2, 3, 4, 5, 0] rfl)
def k_Desk_enterVs (sx : ob) (sc : ob) (sgs : ob) (p1 : Int32) (p2 : Int32) : ob × ob :=
  ((oi (oi (oi sx 4 ((k_Bank_enter sgs (sx.1 4) p1 p2 (k_Desk_isSupervisor sx)).1)) 3 3) 6 ((sx.1 6) + 1)), ((k_Bank_enter sgs (sx.1 4) p1 p2 (k_Desk_isSupervisor sx)).2))
set_option maxHeartbeats 4000000 in
set_option maxRecDepth 100000 in
theorem c_Desk_enterVs (l : Launch) (G : gx) (tys : List (ClassId × FieldType)) (qx qc qgs qo qr qhs qy : Nat) (sx : ob) (sc : ob) (sgs : ob) (p1 : Int32) (p2 : Int32) : ct_V l y_Desk_enterVs ws_Desk_enterVs ({ frames := 2, cells := 0, slots := 0, locals := 49 }) G tys [.ref qx, .int p1, .int p2] [(qx, .inr (5, f_Desk qc qo qr sx)), (qc, .inr (1, f_Controls qo qhs qgs qy sc)), (qgs, .inr (0, f_Bank sgs))] [(qx, .inr (5, f_Desk qc qo qr ((k_Desk_enterVs sx sc sgs p1 p2).1))), (qc, .inr (1, f_Controls qo qhs qgs qy sc)), (qgs, .inr (0, f_Bank ((k_Desk_enterVs sx sc sgs p1 p2).2)))] := by
  refine ct_hV (cc := cc_Desk_enterVs) (maxL := 3) (ret := none) (by decide) rfl (Nat.le_of_ble_eq_true rfl) ?_
  intro p e s m below meth c A ls hx hb hr hml hts hown hlocks hP hK hD hA hE hS hl
  have hl : lv_has ls 3 [(0, .ref qx), (1, .int p1), (2, .int p2)] := hl
  have hown : s.vm.findClass R_Desk = some m.cls := hown
  refine lv_aload_n hx hb d_Desk_enterVs_0 rfl (lv_at hl 0 rfl) ?_
  refine lv_aload_n hx hb d_Desk_enterVs_1 rfl (lv_at hl 0 rfl) ?_
  refine va_get (D := G.1) (ci := 5) (v := .ref qc) (C := R_Desk) (T := T_Desk) (N := 8) hx hb hts (fun w h => gd_sub _ (iw_Desk w h)) hown hK hP 0 rfl rfl 0 (by decide) (hts _ (gd_sub _ q_205)) (fun _ h9 => h9) rfl d_Desk_enterVs_2 ?_
  refine va_get (D := G.1) (ci := 1) (v := .ref qgs) (C := R_Controls) (T := T_Controls) (N := 6) hx hb hts (fun w h => gd_sub _ (iw_Controls w h)) hown hK hP 1 rfl rfl 2 (by decide) (hts _ (gd_sub _ q_168)) (fun _ h9 => h9) rfl d_Desk_enterVs_5 ?_
  refine lv_aload_n hx hb d_Desk_enterVs_8 rfl (lv_at hl 0 rfl) ?_
  refine va_get (D := G.1) (ci := 5) (v := .int (sx.1 4)) (C := R_Desk) (T := T_Desk) (N := 8) hx hb hts (fun w h => gd_sub _ (iw_Desk w h)) hown hK hP 0 rfl rfl 4 (by decide) (hts _ (gd_sub _ q_209)) (fun _ h9 => h9) rfl d_Desk_enterVs_9 ?_
  refine lv_iload_n hx hb d_Desk_enterVs_12 rfl (lv_at hl 1 rfl) ?_
  refine lv_iload_n hx hb d_Desk_enterVs_13 rfl (lv_at hl 2 rfl) ?_
  refine lv_aload_n hx hb d_Desk_enterVs_14 rfl (lv_at hl 0 rfl) ?_
  refine ct_cVi (wr := [(qc, .inr (1, f_Controls qo qhs qgs qy sc)), (qgs, .inr (0, f_Bank sgs))]) (w1 := [(qx, .inr (5, f_Desk qc qo qr sx))]) (w2 := [(qx, .inr (5, f_Desk qc qo qr sx)), (qc, .inr (1, f_Controls qo qhs qgs qy sc)), (qgs, .inr (0, f_Bank sgs))]) (r := (bI (k_Desk_isSupervisor sx))) (As := []) (rest := [.int p2, .int p1, .int (sx.1 4), .ref qgs, .ref qx]) (ci := 5) (q0 := 0) ⟨hx, hb, hml, hown, hts⟩ (c_Desk_isSupervisor l G tys qx qc qo qr sx) (cwV 0 hts (gdV gd_gd q_521 q_523 q_17 q_41 q_524) rfl rfl rfl (by decide +kernel) ⟨Nat.le_of_ble_eq_true rfl, Nat.le_of_ble_eq_true rfl⟩) hE hK hP hD hS hA [0] [1, 2] [2, 0, 1] rfl (by decide) rfl (by decide) (by decide) rfl (by decide) rfl rfl rfl hl.1 rfl (Nat.le_of_ble_eq_true rfl) d_Desk_enterVs_15 ⟨Nat.zero_le _, Nat.zero_le _⟩ (fun H locs hP hD hS => ?_)
  obtain ⟨r_552, er_552⟩ : ∃ z, z = (k_Bank_enter sgs (sx.1 4) p1 p2 (k_Desk_isSupervisor sx)).1 := ⟨_, rfl⟩
  obtain ⟨sgs_553, esgs_553⟩ : ∃ z, z = (k_Bank_enter sgs (sx.1 4) p1 p2 (k_Desk_isSupervisor sx)).2 := ⟨_, rfl⟩
  have hM := c_Bank_enter l G tys qgs sgs (sx.1 4) p1 p2 (k_Desk_isSupervisor sx)
  rw [← er_552, ← esgs_553] at hM
  refine ct_cVi (wr := [(qx, .inr (5, f_Desk qc qo qr sx)), (qc, .inr (1, f_Controls qo qhs qgs qy sc))]) (w1 := [(qgs, .inr (0, f_Bank sgs_553))]) (w2 := [(qx, .inr (5, f_Desk qc qo qr sx)), (qc, .inr (1, f_Controls qo qhs qgs qy sc)), (qgs, .inr (0, f_Bank sgs_553))]) (r := r_552) (As := [.int (sx.1 4), .int p1, .int p2, .int (bI (k_Desk_isSupervisor sx))]) (rest := [.ref qx]) (ci := 0) (q0 := 0) ⟨hx, hb, hml, hown, hts⟩ hM (cwV 4 hts (gdV gd_gd q_525 q_526 q_527 q_44 q_528) rfl rfl rfl (by decide +kernel) ⟨Nat.le_of_ble_eq_true rfl, Nat.le_of_ble_eq_true rfl⟩) hE hK hP hD hS hA [2] [0, 1] [0, 1, 2] rfl (by decide) rfl (by decide) (by decide) rfl (by decide) rfl rfl rfl hl.1 rfl (Nat.le_of_ble_eq_true rfl) d_Desk_enterVs_18 ⟨Nat.zero_le _, Nat.zero_le _⟩ (fun H locs hP hD hS => ?_)
  refine va_put (D := G.1) (ci := 5) (v := .int r_552) (ty := .int) (C := R_Desk) (T := T_Desk) (N := 8) hx hb hts (fun w h => gd_sub _ (iw_Desk w h)) ty_Desk tyok_Desk nm_Desk hown hK hP hD hS 0 rfl rfl 4 (by decide) (hts _ (gd_sub _ q_209)) (fun _ h9 => h9) rfl (by decide +kernel) rfl rfl (Nat.le_of_ble_eq_true rfl) d_Desk_enterVs_21 (fun H locs hP hD hS => ?_)
  have hP : va_P G.1 vwCl [(qx, .inr (5, f_Desk qc qo qr (oi sx 4 r_552))), (qc, .inr (1, f_Controls qo qhs qgs qy sc)), (qgs, .inr (0, f_Bank sgs_553))] H := hP
  have hD : va_D A [(qx, .inr (5, f_Desk qc qo qr (oi sx 4 r_552))), (qc, .inr (1, f_Controls qo qhs qgs qy sc)), (qgs, .inr (0, f_Bank sgs_553))] := hD
  refine lv_aload_n hx hb d_Desk_enterVs_24 rfl (lv_at hl 0 rfl) ?_
  refine lv_iconst (v := 3) hx hb d_Desk_enterVs_25 (by decide) ?_
  refine va_put (D := G.1) (ci := 5) (v := .int 3) (ty := .int) (C := R_Desk) (T := T_Desk) (N := 8) hx hb hts (fun w h => gd_sub _ (iw_Desk w h)) ty_Desk tyok_Desk nm_Desk hown hK hP hD hS 0 rfl rfl 3 (by decide) (hts _ (gd_sub _ q_208)) (fun _ h9 => h9) rfl (by decide +kernel) rfl rfl (Nat.le_of_ble_eq_true rfl) d_Desk_enterVs_26 (fun H locs hP hD hS => ?_)
  have hP : va_P G.1 vwCl [(qx, .inr (5, f_Desk qc qo qr (oi (oi sx 4 r_552) 3 3))), (qc, .inr (1, f_Controls qo qhs qgs qy sc)), (qgs, .inr (0, f_Bank sgs_553))] H := hP
  have hD : va_D A [(qx, .inr (5, f_Desk qc qo qr (oi (oi sx 4 r_552) 3 3))), (qc, .inr (1, f_Controls qo qhs qgs qy sc)), (qgs, .inr (0, f_Bank sgs_553))] := hD
  refine lv_aload_n hx hb d_Desk_enterVs_29 rfl (lv_at hl 0 rfl) ?_
  refine lv_dup hx hb d_Desk_enterVs_30 rfl ?_
  refine va_get (D := G.1) (ci := 5) (v := .int (sx.1 6)) (C := R_Desk) (T := T_Desk) (N := 8) hx hb hts (fun w h => gd_sub _ (iw_Desk w h)) hown hK hP 0 rfl rfl 6 (by decide) (hts _ (gd_sub _ q_211)) (fun _ h9 => h9) rfl d_Desk_enterVs_31 ?_
  refine lv_iconst (v := 1) hx hb d_Desk_enterVs_34 (by decide) ?_
  refine lv_iadd hx hb d_Desk_enterVs_35 ?_
  refine va_put (D := G.1) (ci := 5) (v := .int ((sx.1 6) + 1)) (ty := .int) (C := R_Desk) (T := T_Desk) (N := 8) hx hb hts (fun w h => gd_sub _ (iw_Desk w h)) ty_Desk tyok_Desk nm_Desk hown hK hP hD hS 0 rfl rfl 6 (by decide) (hts _ (gd_sub _ q_211)) (fun _ h9 => h9) rfl (by decide +kernel) rfl rfl (Nat.le_of_ble_eq_true rfl) d_Desk_enterVs_36 (fun H locs hP hD hS => ?_)
  have hP : va_P G.1 vwCl [(qx, .inr (5, f_Desk qc qo qr (oi (oi (oi sx 4 r_552) 3 3) 6 ((sx.1 6) + 1)))), (qc, .inr (1, f_Controls qo qhs qgs qy sc)), (qgs, .inr (0, f_Bank sgs_553))] H := hP
  have hD : va_D A [(qx, .inr (5, f_Desk qc qo qr (oi (oi (oi sx 4 r_552) 3 3) 6 ((sx.1 6) + 1)))), (qc, .inr (1, f_Controls qo qhs qgs qy sc)), (qgs, .inr (0, f_Bank sgs_553))] := hD
  have hk : k_Desk_enterVs sx sc sgs p1 p2 = ((oi (oi (oi sx 4 r_552) 3 3) 6 ((sx.1 6) + 1)), sgs_553) := (by rw [k_Desk_enterVs]; try rw [← er_552]; try rw [← esgs_553]; try rfl)
  exact ct_rv hx hb hr hlocks hP hD hK hS d_Desk_enterVs_39 (by rw [hk]; first | done | rfl)
def k_Hyper_enter_j42 (sy : ob) (p1 : Bool) (p2 : Bool) (p3 : Bool) (t0 : Int32) (t1 : Int32) (t2 : Int32) (uy : ob) : ob :=
  if (bI p1) = 0 then (oi uy 0 (k_Hyper_replaced t2 t1 t0)) else (if (bI p2) = 0 then (oi (oi uy 0 (k_Hyper_replaced t2 t1 t0)) 0 (k_Hyper_replaced (k_Hyper_replaced t2 t1 t0) 256 0)) else (oi (oi uy 0 (k_Hyper_replaced t2 t1 t0)) 0 (k_Hyper_replaced (k_Hyper_replaced t2 t1 t0) 256 256)))
def k_Hyper_enter_j17 (sy : ob) (p1 : Bool) (p2 : Bool) (p3 : Bool) (t0 : Int32) (t1 : Int32) (t2 : Int32) : ob :=
  if (bI p1) = 0 then (k_Hyper_enter_j42 sy p1 p2 p3 0 128 (k_Hyper_replaced t2 t1 t0) (oi sy 0 (k_Hyper_replaced t2 t1 t0))) else (k_Hyper_enter_j42 sy p1 p2 p3 128 128 (k_Hyper_replaced t2 t1 t0) (oi sy 0 (k_Hyper_replaced t2 t1 t0)))
def k_Hyper_enter (sy : ob) (p1 : Bool) (p2 : Bool) (p3 : Bool) : ob :=
  if (bI p3) = 0 then (k_Hyper_enter_j17 sy p1 p2 p3 0 64 (sy.1 0)) else (k_Hyper_enter_j17 sy p1 p2 p3 64 64 (sy.1 0))
set_option maxHeartbeats 4000000 in
set_option maxRecDepth 100000 in
theorem c_Hyper_enter (l : Launch) (G : gx) (tys : List (ClassId × FieldType)) (qy : Nat) (sy : ob) (p1 : Bool) (p2 : Bool) (p3 : Bool) : ct_V l y_Hyper_enter ws_Hyper_enter ({ frames := 1, cells := 0, slots := 0, locals := 22 }) G tys [.ref qy, .int (bI p1), .int (bI p2), .int (bI p3)] [(qy, .inr (2, f_Hyper sy))] [(qy, .inr (2, f_Hyper (k_Hyper_enter sy p1 p2 p3)))] := by
  refine ct_hV (cc := cc_Hyper_enter) (maxL := 4) (ret := none) (by decide) rfl (Nat.le_of_ble_eq_true rfl) ?_
  intro p e s m below meth c A ls hx hb hr hml hts hown hlocks hP hK hD hA hE hS hl
  have hl : lv_has ls 4 [(0, .ref qy), (1, .int (bI p1)), (2, .int (bI p2)), (3, .int (bI p3))] := hl
  have hown : s.vm.findClass R_Hyper = some m.cls := hown
  have J42 : ∀ (t0 : Int32) (t1 : Int32) (t2 : Int32) (uy : ob) (H : Heap) (locs : List Loc) (ls : Array Slot), k_Hyper_enter sy p1 p2 p3 = k_Hyper_enter_j42 sy p1 p2 p3 t0 t1 t2 uy → va_P G.1 vwCl [(qy, .inr (2, f_Hyper uy))] H → va_D A [(qy, .inr (2, f_Hyper uy))] → va_S A s.heap H locs → lv_has ls 4 [(0, .ref qy), (1, .int (bI p1)), (2, .int (bI p2)), (3, .int (bI p3))] → W p l e ({ frames := 1, cells := 0, slots := 0, locals := 22 }) s m ([.ref qy, .int (bI p1), .int (bI p2), .int (bI p3)] : List Value).toArray below meth c H locs 0 0 (MQ below (ct_qv G tys A [(qy, .inr (2, f_Hyper (k_Hyper_enter sy p1 p2 p3)))]) ([.ref qy, .int (bI p1), .int (bI p2), .int (bI p3)] : List Value).toArray s 0 0 A) (F0 m 42 ls [.int t0, .int t1, .int t2, .ref qy]) := by
    intro t0 t1 t2 uy H locs ls hj hP hD hS hl
    refine ct_cSi (wr := [(qy, .inr (2, f_Hyper uy))]) (w1 := []) (w2 := [(qy, .inr (2, f_Hyper uy))]) (r := (k_Hyper_replaced t2 t1 t0)) (As := [.int t2, .int t1, .int t0]) (rest := [.ref qy]) ⟨hx, hb, hml, hown, hts⟩ (c_Hyper_replaced l G tys t2 t1 t0) (va_cwS 3 hts (gdS gd_gd q_316 q_317 q_45 q_318) rfl rfl rfl (by decide +kernel) ⟨Nat.le_of_ble_eq_true rfl, Nat.le_of_ble_eq_true rfl⟩) hE hK hP hD hS hA [] [0] [0] rfl (by decide) rfl (by decide) (by decide) rfl (by decide) rfl hl.1 rfl (Nat.le_of_ble_eq_true rfl) d_Hyper_enter_42 ⟨Nat.zero_le _, Nat.zero_le _⟩ (fun H locs hP hD hS => ?_)
    refine va_put (D := G.1) (ci := 2) (v := .int (k_Hyper_replaced t2 t1 t0)) (ty := .int) (C := R_Hyper) (T := T_Hyper) (N := 8) hx hb hts (fun w h => gd_sub _ (iw_Hyper w h)) ty_Hyper tyok_Hyper nm_Hyper hown hK hP hD hS 0 rfl rfl 0 (by decide) (hts _ (gd_sub _ q_132)) (fun _ h9 => h9) rfl (by decide +kernel) rfl rfl (Nat.le_of_ble_eq_true rfl) d_Hyper_enter_45 (fun H locs hP hD hS => ?_)
    have hP : va_P G.1 vwCl [(qy, .inr (2, f_Hyper (oi uy 0 (k_Hyper_replaced t2 t1 t0))))] H := hP
    have hD : va_D A [(qy, .inr (2, f_Hyper (oi uy 0 (k_Hyper_replaced t2 t1 t0))))] := hD
    refine lv_iload_n hx hb d_Hyper_enter_48 rfl (lv_at hl 1 rfl) ?_
    refine lv_if_eq (tgt := 77) hx hb d_Hyper_enter_49 (by decide) (fun c_563 => ?_) (fun c_563 => ?_)
    · have hk : k_Hyper_enter sy p1 p2 p3 = (oi uy 0 (k_Hyper_replaced t2 t1 t0)) := (hj.trans (by rw [k_Hyper_enter_j42]; rw [if_pos c_563]; try rfl))
      exact ct_rv hx hb hr hlocks hP hD hK hS d_Hyper_enter_77 (by rw [hk]; first | done | rfl)
    · refine lv_aload_n hx hb d_Hyper_enter_52 rfl (lv_at hl 0 rfl) ?_
      refine lv_aload_n hx hb d_Hyper_enter_53 rfl (lv_at hl 0 rfl) ?_
      refine va_get (D := G.1) (ci := 2) (v := .int (k_Hyper_replaced t2 t1 t0)) (C := R_Hyper) (T := T_Hyper) (N := 8) hx hb hts (fun w h => gd_sub _ (iw_Hyper w h)) hown hK hP 0 rfl rfl 0 (by decide) (hts _ (gd_sub _ q_132)) (fun _ h9 => h9) rfl d_Hyper_enter_54 ?_
      refine lv_sipush (v := 256) hx hb d_Hyper_enter_57 (by decide) ?_
      refine lv_iload_n hx hb d_Hyper_enter_60 rfl (lv_at hl 2 rfl) ?_
      refine lv_if_eq (tgt := 70) hx hb d_Hyper_enter_61 (by decide) (fun c_564 => ?_) (fun c_564 => ?_)
      · refine lv_iconst (v := 0) hx hb d_Hyper_enter_70 (by decide) ?_
        refine ct_cSi (wr := [(qy, .inr (2, f_Hyper (oi uy 0 (k_Hyper_replaced t2 t1 t0))))]) (w1 := []) (w2 := [(qy, .inr (2, f_Hyper (oi uy 0 (k_Hyper_replaced t2 t1 t0))))]) (r := (k_Hyper_replaced (k_Hyper_replaced t2 t1 t0) 256 0)) (As := [.int (k_Hyper_replaced t2 t1 t0), .int 256, .int 0]) (rest := [.ref qy]) ⟨hx, hb, hml, hown, hts⟩ (c_Hyper_replaced l G tys (k_Hyper_replaced t2 t1 t0) 256 0) (va_cwS 3 hts (gdS gd_gd q_316 q_317 q_45 q_318) rfl rfl rfl (by decide +kernel) ⟨Nat.le_of_ble_eq_true rfl, Nat.le_of_ble_eq_true rfl⟩) hE hK hP hD hS hA [] [0] [0] rfl (by decide) rfl (by decide) (by decide) rfl (by decide) rfl hl.1 rfl (Nat.le_of_ble_eq_true rfl) d_Hyper_enter_71 ⟨Nat.zero_le _, Nat.zero_le _⟩ (fun H locs hP hD hS => ?_)
        refine va_put (D := G.1) (ci := 2) (v := .int (k_Hyper_replaced (k_Hyper_replaced t2 t1 t0) 256 0)) (ty := .int) (C := R_Hyper) (T := T_Hyper) (N := 8) hx hb hts (fun w h => gd_sub _ (iw_Hyper w h)) ty_Hyper tyok_Hyper nm_Hyper hown hK hP hD hS 0 rfl rfl 0 (by decide) (hts _ (gd_sub _ q_132)) (fun _ h9 => h9) rfl (by decide +kernel) rfl rfl (Nat.le_of_ble_eq_true rfl) d_Hyper_enter_74 (fun H locs hP hD hS => ?_)
        have hP : va_P G.1 vwCl [(qy, .inr (2, f_Hyper (oi (oi uy 0 (k_Hyper_replaced t2 t1 t0)) 0 (k_Hyper_replaced (k_Hyper_replaced t2 t1 t0) 256 0))))] H := hP
        have hD : va_D A [(qy, .inr (2, f_Hyper (oi (oi uy 0 (k_Hyper_replaced t2 t1 t0)) 0 (k_Hyper_replaced (k_Hyper_replaced t2 t1 t0) 256 0))))] := hD
        have hk : k_Hyper_enter sy p1 p2 p3 = (oi (oi uy 0 (k_Hyper_replaced t2 t1 t0)) 0 (k_Hyper_replaced (k_Hyper_replaced t2 t1 t0) 256 0)) := (hj.trans (by rw [k_Hyper_enter_j42]; rw [if_neg c_563]; rw [if_pos c_564]; try rfl))
        exact ct_rv hx hb hr hlocks hP hD hK hS d_Hyper_enter_77 (by rw [hk]; first | done | rfl)
      · refine lv_sipush (v := 256) hx hb d_Hyper_enter_64 (by decide) ?_
        refine lv_goto (tgt := 71) hx hb d_Hyper_enter_67 (by decide) ?_
        refine ct_cSi (wr := [(qy, .inr (2, f_Hyper (oi uy 0 (k_Hyper_replaced t2 t1 t0))))]) (w1 := []) (w2 := [(qy, .inr (2, f_Hyper (oi uy 0 (k_Hyper_replaced t2 t1 t0))))]) (r := (k_Hyper_replaced (k_Hyper_replaced t2 t1 t0) 256 256)) (As := [.int (k_Hyper_replaced t2 t1 t0), .int 256, .int 256]) (rest := [.ref qy]) ⟨hx, hb, hml, hown, hts⟩ (c_Hyper_replaced l G tys (k_Hyper_replaced t2 t1 t0) 256 256) (va_cwS 3 hts (gdS gd_gd q_316 q_317 q_45 q_318) rfl rfl rfl (by decide +kernel) ⟨Nat.le_of_ble_eq_true rfl, Nat.le_of_ble_eq_true rfl⟩) hE hK hP hD hS hA [] [0] [0] rfl (by decide) rfl (by decide) (by decide) rfl (by decide) rfl hl.1 rfl (Nat.le_of_ble_eq_true rfl) d_Hyper_enter_71 ⟨Nat.zero_le _, Nat.zero_le _⟩ (fun H locs hP hD hS => ?_)
        refine va_put (D := G.1) (ci := 2) (v := .int (k_Hyper_replaced (k_Hyper_replaced t2 t1 t0) 256 256)) (ty := .int) (C := R_Hyper) (T := T_Hyper) (N := 8) hx hb hts (fun w h => gd_sub _ (iw_Hyper w h)) ty_Hyper tyok_Hyper nm_Hyper hown hK hP hD hS 0 rfl rfl 0 (by decide) (hts _ (gd_sub _ q_132)) (fun _ h9 => h9) rfl (by decide +kernel) rfl rfl (Nat.le_of_ble_eq_true rfl) d_Hyper_enter_74 (fun H locs hP hD hS => ?_)
        have hP : va_P G.1 vwCl [(qy, .inr (2, f_Hyper (oi (oi uy 0 (k_Hyper_replaced t2 t1 t0)) 0 (k_Hyper_replaced (k_Hyper_replaced t2 t1 t0) 256 256))))] H := hP
        have hD : va_D A [(qy, .inr (2, f_Hyper (oi (oi uy 0 (k_Hyper_replaced t2 t1 t0)) 0 (k_Hyper_replaced (k_Hyper_replaced t2 t1 t0) 256 256))))] := hD
        have hk : k_Hyper_enter sy p1 p2 p3 = (oi (oi uy 0 (k_Hyper_replaced t2 t1 t0)) 0 (k_Hyper_replaced (k_Hyper_replaced t2 t1 t0) 256 256)) := (hj.trans (by rw [k_Hyper_enter_j42]; rw [if_neg c_563]; rw [if_neg c_564]; try rfl))
        exact ct_rv hx hb hr hlocks hP hD hK hS d_Hyper_enter_77 (by rw [hk]; first | done | rfl)
  have J17 : ∀ (t0 : Int32) (t1 : Int32) (t2 : Int32) (H : Heap) (locs : List Loc) (ls : Array Slot), k_Hyper_enter sy p1 p2 p3 = k_Hyper_enter_j17 sy p1 p2 p3 t0 t1 t2 → va_P G.1 vwCl [(qy, .inr (2, f_Hyper sy))] H → va_D A [(qy, .inr (2, f_Hyper sy))] → va_S A s.heap H locs → lv_has ls 4 [(0, .ref qy), (1, .int (bI p1)), (2, .int (bI p2)), (3, .int (bI p3))] → W p l e ({ frames := 1, cells := 0, slots := 0, locals := 22 }) s m ([.ref qy, .int (bI p1), .int (bI p2), .int (bI p3)] : List Value).toArray below meth c H locs 0 0 (MQ below (ct_qv G tys A [(qy, .inr (2, f_Hyper (k_Hyper_enter sy p1 p2 p3)))]) ([.ref qy, .int (bI p1), .int (bI p2), .int (bI p3)] : List Value).toArray s 0 0 A) (F0 m 17 ls [.int t0, .int t1, .int t2, .ref qy]) := by
    intro t0 t1 t2 H locs ls hj hP hD hS hl
    refine ct_cSi (wr := [(qy, .inr (2, f_Hyper sy))]) (w1 := []) (w2 := [(qy, .inr (2, f_Hyper sy))]) (r := (k_Hyper_replaced t2 t1 t0)) (As := [.int t2, .int t1, .int t0]) (rest := [.ref qy]) ⟨hx, hb, hml, hown, hts⟩ (c_Hyper_replaced l G tys t2 t1 t0) (va_cwS 3 hts (gdS gd_gd q_316 q_317 q_45 q_318) rfl rfl rfl (by decide +kernel) ⟨Nat.le_of_ble_eq_true rfl, Nat.le_of_ble_eq_true rfl⟩) hE hK hP hD hS hA [] [0] [0] rfl (by decide) rfl (by decide) (by decide) rfl (by decide) rfl hl.1 rfl (Nat.le_of_ble_eq_true rfl) d_Hyper_enter_17 ⟨Nat.zero_le _, Nat.zero_le _⟩ (fun H locs hP hD hS => ?_)
    refine va_put (D := G.1) (ci := 2) (v := .int (k_Hyper_replaced t2 t1 t0)) (ty := .int) (C := R_Hyper) (T := T_Hyper) (N := 8) hx hb hts (fun w h => gd_sub _ (iw_Hyper w h)) ty_Hyper tyok_Hyper nm_Hyper hown hK hP hD hS 0 rfl rfl 0 (by decide) (hts _ (gd_sub _ q_132)) (fun _ h9 => h9) rfl (by decide +kernel) rfl rfl (Nat.le_of_ble_eq_true rfl) d_Hyper_enter_20 (fun H locs hP hD hS => ?_)
    have hP : va_P G.1 vwCl [(qy, .inr (2, f_Hyper (oi sy 0 (k_Hyper_replaced t2 t1 t0))))] H := hP
    have hD : va_D A [(qy, .inr (2, f_Hyper (oi sy 0 (k_Hyper_replaced t2 t1 t0))))] := hD
    refine lv_aload_n hx hb d_Hyper_enter_23 rfl (lv_at hl 0 rfl) ?_
    refine lv_aload_n hx hb d_Hyper_enter_24 rfl (lv_at hl 0 rfl) ?_
    refine va_get (D := G.1) (ci := 2) (v := .int (k_Hyper_replaced t2 t1 t0)) (C := R_Hyper) (T := T_Hyper) (N := 8) hx hb hts (fun w h => gd_sub _ (iw_Hyper w h)) hown hK hP 0 rfl rfl 0 (by decide) (hts _ (gd_sub _ q_132)) (fun _ h9 => h9) rfl d_Hyper_enter_25 ?_
    refine lv_sipush (v := 128) hx hb d_Hyper_enter_28 (by decide) ?_
    refine lv_iload_n hx hb d_Hyper_enter_31 rfl (lv_at hl 1 rfl) ?_
    refine lv_if_eq (tgt := 41) hx hb d_Hyper_enter_32 (by decide) (fun c_565 => ?_) (fun c_565 => ?_)
    · refine lv_iconst (v := 0) hx hb d_Hyper_enter_41 (by decide) ?_
      exact J42 0 128 (k_Hyper_replaced t2 t1 t0) (oi sy 0 (k_Hyper_replaced t2 t1 t0)) H locs ls (hj.trans (by rw [k_Hyper_enter_j17]; rw [if_pos c_565]; try rfl)) hP hD hS (lv_sub hl [0, 1, 2, 3] rfl)
    · refine lv_sipush (v := 128) hx hb d_Hyper_enter_35 (by decide) ?_
      refine lv_goto (tgt := 42) hx hb d_Hyper_enter_38 (by decide) ?_
      exact J42 128 128 (k_Hyper_replaced t2 t1 t0) (oi sy 0 (k_Hyper_replaced t2 t1 t0)) H locs ls (hj.trans (by rw [k_Hyper_enter_j17]; rw [if_neg c_565]; try rfl)) hP hD hS (lv_sub hl [0, 1, 2, 3] rfl)
  obtain ⟨H, eH⟩ : ∃ z, z = s.heap := ⟨_, rfl⟩
  obtain ⟨locs, eL⟩ : ∃ z, z = ([] : List Loc) := ⟨_, rfl⟩
  have hP : va_P G.1 vwCl [(qy, .inr (2, f_Hyper sy))] H := by rw [eH]; exact hP
  have hS : va_S A s.heap H locs := by rw [eH, eL]; exact hS
  suffices hW : W p l e ({ frames := 1, cells := 0, slots := 0, locals := 22 }) s m ([.ref qy, .int (bI p1), .int (bI p2), .int (bI p3)] : List Value).toArray below meth c H locs 0 0 (MQ below (ct_qv G tys A [(qy, .inr (2, f_Hyper (k_Hyper_enter sy p1 p2 p3)))]) ([.ref qy, .int (bI p1), .int (bI p2), .int (bI p3)] : List Value).toArray s 0 0 A) (F0 m 0 ls []) by rw [eH, eL] at hW; exact hW
  refine lv_aload_n hx hb d_Hyper_enter_0 rfl (lv_at hl 0 rfl) ?_
  refine lv_aload_n hx hb d_Hyper_enter_1 rfl (lv_at hl 0 rfl) ?_
  refine va_get (D := G.1) (ci := 2) (v := .int (sy.1 0)) (C := R_Hyper) (T := T_Hyper) (N := 8) hx hb hts (fun w h => gd_sub _ (iw_Hyper w h)) hown hK hP 0 rfl rfl 0 (by decide) (hts _ (gd_sub _ q_132)) (fun _ h9 => h9) rfl d_Hyper_enter_2 ?_
  refine lv_bipush (v := 64) hx hb d_Hyper_enter_5 (by decide) ?_
  refine lv_iload_n hx hb d_Hyper_enter_7 rfl (lv_at hl 3 rfl) ?_
  refine lv_if_eq (tgt := 16) hx hb d_Hyper_enter_8 (by decide) (fun c_566 => ?_) (fun c_566 => ?_)
  · refine lv_iconst (v := 0) hx hb d_Hyper_enter_16 (by decide) ?_
    exact J17 0 64 (sy.1 0) H locs ls (by rw [k_Hyper_enter]; rw [if_pos c_566]; try rfl) hP hD hS (lv_sub hl [0, 1, 2, 3] rfl)
  · refine lv_bipush (v := 64) hx hb d_Hyper_enter_11 (by decide) ?_
    refine lv_goto (tgt := 17) hx hb d_Hyper_enter_13 (by decide) ?_
    exact J17 64 64 (sy.1 0) H locs ls (by rw [k_Hyper_enter]; rw [if_neg c_566]; try rfl) hP hD hS (lv_sub hl [0, 1, 2, 3] rfl)
end
section
def k_Desk_enterS (sx : ob) (sc : ob) (shs : ob) (sy : ob) (p1 : Int32) (p2 : Int32) (p3 : Bool) (p4 : Int32) (p5 : Int32) : ob × ob × ob :=
  ((oi (oi (oi sx 4 ((k_Bank_enter shs (sx.1 4) p1 p2 (k_Desk_isSupervisor sx)).1)) 3 1) 5 ((sx.1 5) + 1)), ((k_Bank_enter shs (sx.1 4) p1 p2 (k_Desk_isSupervisor sx)).2), (oi (oi ((k_Hyper_enter sy (k_Desk_isVirtual sx) (k_Desk_isSupervisor sx) p3)) 4 p4) 6 p5))
set_option maxHeartbeats 4000000 in
set_option maxRecDepth 100000 in
theorem c_Desk_enterS (l : Launch) (G : gx) (tys : List (ClassId × FieldType)) (qx qc qhs qy qo qr qgs : Nat) (sx : ob) (sc : ob) (shs : ob) (sy : ob) (p1 : Int32) (p2 : Int32) (p3 : Bool) (p4 : Int32) (p5 : Int32) : ct_V l y_Desk_enterS ws_Desk_enterS ({ frames := 2, cells := 0, slots := 0, locals := 49 }) G tys [.ref qx, .int p1, .int p2, .int (bI p3), .int p4, .int p5] [(qx, .inr (5, f_Desk qc qo qr sx)), (qc, .inr (1, f_Controls qo qhs qgs qy sc)), (qhs, .inr (0, f_Bank shs)), (qy, .inr (2, f_Hyper sy))] [(qx, .inr (5, f_Desk qc qo qr ((k_Desk_enterS sx sc shs sy p1 p2 p3 p4 p5).1))), (qc, .inr (1, f_Controls qo qhs qgs qy sc)), (qhs, .inr (0, f_Bank ((k_Desk_enterS sx sc shs sy p1 p2 p3 p4 p5).2.1))), (qy, .inr (2, f_Hyper ((k_Desk_enterS sx sc shs sy p1 p2 p3 p4 p5).2.2)))] := by
  refine ct_hV (cc := cc_Desk_enterS) (maxL := 6) (ret := none) (by decide) rfl (Nat.le_of_ble_eq_true rfl) ?_
  intro p e s m below meth c A ls hx hb hr hml hts hown hlocks hP hK hD hA hE hS hl
  have hl : lv_has ls 6 [(0, .ref qx), (1, .int p1), (2, .int p2), (3, .int (bI p3)), (4, .int p4), (5, .int p5)] := hl
  have hown : s.vm.findClass R_Desk = some m.cls := hown
  refine lv_aload_n hx hb d_Desk_enterS_0 rfl (lv_at hl 0 rfl) ?_
  refine va_get (D := G.1) (ci := 5) (v := .ref qc) (C := R_Desk) (T := T_Desk) (N := 8) hx hb hts (fun w h => gd_sub _ (iw_Desk w h)) hown hK hP 0 rfl rfl 0 (by decide) (hts _ (gd_sub _ q_205)) (fun _ h9 => h9) rfl d_Desk_enterS_1 ?_
  refine va_get (D := G.1) (ci := 1) (v := .ref qy) (C := R_Controls) (T := T_Controls) (N := 6) hx hb hts (fun w h => gd_sub _ (iw_Controls w h)) hown hK hP 1 rfl rfl 3 (by decide) (hts _ (gd_sub _ q_170)) (fun _ h9 => h9) rfl d_Desk_enterS_4 ?_
  refine lv_aload_n hx hb d_Desk_enterS_7 rfl (lv_at hl 0 rfl) ?_
  refine ct_cVi (wr := [(qc, .inr (1, f_Controls qo qhs qgs qy sc)), (qhs, .inr (0, f_Bank shs)), (qy, .inr (2, f_Hyper sy))]) (w1 := [(qx, .inr (5, f_Desk qc qo qr sx))]) (w2 := [(qx, .inr (5, f_Desk qc qo qr sx)), (qc, .inr (1, f_Controls qo qhs qgs qy sc)), (qhs, .inr (0, f_Bank shs)), (qy, .inr (2, f_Hyper sy))]) (r := (bI (k_Desk_isVirtual sx))) (As := []) (rest := [.ref qy]) (ci := 5) (q0 := 0) ⟨hx, hb, hml, hown, hts⟩ (c_Desk_isVirtual l G tys qx qc qo qr sx) (cwV 0 hts (gdV gd_gd q_434 q_436 q_6 q_41 q_437) rfl rfl rfl (by decide +kernel) ⟨Nat.le_of_ble_eq_true rfl, Nat.le_of_ble_eq_true rfl⟩) hE hK hP hD hS hA [0] [1, 2, 3] [3, 0, 1, 2] rfl (by decide) rfl (by decide) (by decide) rfl (by decide) rfl rfl rfl hl.1 rfl (Nat.le_of_ble_eq_true rfl) d_Desk_enterS_8 ⟨Nat.zero_le _, Nat.zero_le _⟩ (fun H locs hP hD hS => ?_)
  refine lv_aload_n hx hb d_Desk_enterS_11 rfl (lv_at hl 0 rfl) ?_
  refine ct_cVi (wr := [(qc, .inr (1, f_Controls qo qhs qgs qy sc)), (qhs, .inr (0, f_Bank shs)), (qy, .inr (2, f_Hyper sy))]) (w1 := [(qx, .inr (5, f_Desk qc qo qr sx))]) (w2 := [(qx, .inr (5, f_Desk qc qo qr sx)), (qc, .inr (1, f_Controls qo qhs qgs qy sc)), (qhs, .inr (0, f_Bank shs)), (qy, .inr (2, f_Hyper sy))]) (r := (bI (k_Desk_isSupervisor sx))) (As := []) (rest := [.int (bI (k_Desk_isVirtual sx)), .ref qy]) (ci := 5) (q0 := 0) ⟨hx, hb, hml, hown, hts⟩ (c_Desk_isSupervisor l G tys qx qc qo qr sx) (cwV 0 hts (gdV gd_gd q_521 q_523 q_17 q_41 q_524) rfl rfl rfl (by decide +kernel) ⟨Nat.le_of_ble_eq_true rfl, Nat.le_of_ble_eq_true rfl⟩) hE hK hP hD hS hA [0] [1, 2, 3] [3, 0, 1, 2] rfl (by decide) rfl (by decide) (by decide) rfl (by decide) rfl rfl rfl hl.1 rfl (Nat.le_of_ble_eq_true rfl) d_Desk_enterS_12 ⟨Nat.zero_le _, Nat.zero_le _⟩ (fun H locs hP hD hS => ?_)
  refine lv_iload_n hx hb d_Desk_enterS_15 rfl (lv_at hl 3 rfl) ?_
  obtain ⟨sy_570, esy_570⟩ : ∃ z, z = (k_Hyper_enter sy (k_Desk_isVirtual sx) (k_Desk_isSupervisor sx) p3) := ⟨_, rfl⟩
  have hM := c_Hyper_enter l G tys qy sy (k_Desk_isVirtual sx) (k_Desk_isSupervisor sx) p3
  rw [← esy_570] at hM
  refine ct_cVv (wr := [(qx, .inr (5, f_Desk qc qo qr sx)), (qc, .inr (1, f_Controls qo qhs qgs qy sc)), (qhs, .inr (0, f_Bank shs))]) (w1 := [(qy, .inr (2, f_Hyper sy_570))]) (w2 := [(qx, .inr (5, f_Desk qc qo qr sx)), (qc, .inr (1, f_Controls qo qhs qgs qy sc)), (qhs, .inr (0, f_Bank shs)), (qy, .inr (2, f_Hyper sy_570))]) (As := [.int (bI (k_Desk_isVirtual sx)), .int (bI (k_Desk_isSupervisor sx)), .int (bI p3)]) (rest := []) (ci := 2) (q0 := 0) ⟨hx, hb, hml, hown, hts⟩ hM (cwV 3 hts (gdV gd_gd q_544 q_545 q_546 q_45 q_547) rfl rfl rfl (by decide +kernel) ⟨Nat.le_of_ble_eq_true rfl, Nat.le_of_ble_eq_true rfl⟩) hE hK hP hD hS hA [3] [0, 1, 2] [0, 1, 2, 3] rfl (by decide) rfl (by decide) (by decide) rfl (by decide) rfl rfl rfl hl.1 rfl (Nat.le_of_ble_eq_true rfl) d_Desk_enterS_16 ⟨Nat.zero_le _, Nat.zero_le _⟩ (fun H locs hP hD hS => ?_)
  refine lv_aload_n hx hb d_Desk_enterS_19 rfl (lv_at hl 0 rfl) ?_
  refine va_get (D := G.1) (ci := 5) (v := .ref qc) (C := R_Desk) (T := T_Desk) (N := 8) hx hb hts (fun w h => gd_sub _ (iw_Desk w h)) hown hK hP 0 rfl rfl 0 (by decide) (hts _ (gd_sub _ q_205)) (fun _ h9 => h9) rfl d_Desk_enterS_20 ?_
  refine va_get (D := G.1) (ci := 1) (v := .ref qy) (C := R_Controls) (T := T_Controls) (N := 6) hx hb hts (fun w h => gd_sub _ (iw_Controls w h)) hown hK hP 1 rfl rfl 3 (by decide) (hts _ (gd_sub _ q_170)) (fun _ h9 => h9) rfl d_Desk_enterS_23 ?_
  refine lv_iload hx hb d_Desk_enterS_26 (lv_at hl 4 rfl) ?_
  refine va_put (D := G.1) (ci := 2) (v := .int p4) (ty := .int) (C := R_Hyper) (T := T_Hyper) (N := 8) hx hb hts (fun w h => gd_sub _ (iw_Hyper w h)) ty_Hyper tyok_Hyper nm_Hyper hown hK hP hD hS 3 rfl rfl 4 (by decide) (hts _ (gd_sub _ q_140)) (fun _ h9 => h9) rfl (by decide +kernel) rfl rfl (Nat.le_of_ble_eq_true rfl) d_Desk_enterS_28 (fun H locs hP hD hS => ?_)
  have hP : va_P G.1 vwCl [(qx, .inr (5, f_Desk qc qo qr sx)), (qc, .inr (1, f_Controls qo qhs qgs qy sc)), (qhs, .inr (0, f_Bank shs)), (qy, .inr (2, f_Hyper (oi sy_570 4 p4)))] H := hP
  have hD : va_D A [(qx, .inr (5, f_Desk qc qo qr sx)), (qc, .inr (1, f_Controls qo qhs qgs qy sc)), (qhs, .inr (0, f_Bank shs)), (qy, .inr (2, f_Hyper (oi sy_570 4 p4)))] := hD
  refine lv_aload_n hx hb d_Desk_enterS_31 rfl (lv_at hl 0 rfl) ?_
  refine va_get (D := G.1) (ci := 5) (v := .ref qc) (C := R_Desk) (T := T_Desk) (N := 8) hx hb hts (fun w h => gd_sub _ (iw_Desk w h)) hown hK hP 0 rfl rfl 0 (by decide) (hts _ (gd_sub _ q_205)) (fun _ h9 => h9) rfl d_Desk_enterS_32 ?_
  refine va_get (D := G.1) (ci := 1) (v := .ref qy) (C := R_Controls) (T := T_Controls) (N := 6) hx hb hts (fun w h => gd_sub _ (iw_Controls w h)) hown hK hP 1 rfl rfl 3 (by decide) (hts _ (gd_sub _ q_170)) (fun _ h9 => h9) rfl d_Desk_enterS_35 ?_
  refine lv_iload hx hb d_Desk_enterS_38 (lv_at hl 5 rfl) ?_
  refine va_put (D := G.1) (ci := 2) (v := .int p5) (ty := .int) (C := R_Hyper) (T := T_Hyper) (N := 8) hx hb hts (fun w h => gd_sub _ (iw_Hyper w h)) ty_Hyper tyok_Hyper nm_Hyper hown hK hP hD hS 3 rfl rfl 6 (by decide) (hts _ (gd_sub _ q_144)) (fun _ h9 => h9) rfl (by decide +kernel) rfl rfl (Nat.le_of_ble_eq_true rfl) d_Desk_enterS_40 (fun H locs hP hD hS => ?_)
  have hP : va_P G.1 vwCl [(qx, .inr (5, f_Desk qc qo qr sx)), (qc, .inr (1, f_Controls qo qhs qgs qy sc)), (qhs, .inr (0, f_Bank shs)), (qy, .inr (2, f_Hyper (oi (oi sy_570 4 p4) 6 p5)))] H := hP
  have hD : va_D A [(qx, .inr (5, f_Desk qc qo qr sx)), (qc, .inr (1, f_Controls qo qhs qgs qy sc)), (qhs, .inr (0, f_Bank shs)), (qy, .inr (2, f_Hyper (oi (oi sy_570 4 p4) 6 p5)))] := hD
  refine lv_aload_n hx hb d_Desk_enterS_43 rfl (lv_at hl 0 rfl) ?_
  refine lv_aload_n hx hb d_Desk_enterS_44 rfl (lv_at hl 0 rfl) ?_
  refine va_get (D := G.1) (ci := 5) (v := .ref qc) (C := R_Desk) (T := T_Desk) (N := 8) hx hb hts (fun w h => gd_sub _ (iw_Desk w h)) hown hK hP 0 rfl rfl 0 (by decide) (hts _ (gd_sub _ q_205)) (fun _ h9 => h9) rfl d_Desk_enterS_45 ?_
  refine va_get (D := G.1) (ci := 1) (v := .ref qhs) (C := R_Controls) (T := T_Controls) (N := 6) hx hb hts (fun w h => gd_sub _ (iw_Controls w h)) hown hK hP 1 rfl rfl 1 (by decide) (hts _ (gd_sub _ q_166)) (fun _ h9 => h9) rfl d_Desk_enterS_48 ?_
  refine lv_aload_n hx hb d_Desk_enterS_51 rfl (lv_at hl 0 rfl) ?_
  refine va_get (D := G.1) (ci := 5) (v := .int (sx.1 4)) (C := R_Desk) (T := T_Desk) (N := 8) hx hb hts (fun w h => gd_sub _ (iw_Desk w h)) hown hK hP 0 rfl rfl 4 (by decide) (hts _ (gd_sub _ q_209)) (fun _ h9 => h9) rfl d_Desk_enterS_52 ?_
  refine lv_iload_n hx hb d_Desk_enterS_55 rfl (lv_at hl 1 rfl) ?_
  refine lv_iload_n hx hb d_Desk_enterS_56 rfl (lv_at hl 2 rfl) ?_
  refine lv_aload_n hx hb d_Desk_enterS_57 rfl (lv_at hl 0 rfl) ?_
  refine ct_cVi (wr := [(qc, .inr (1, f_Controls qo qhs qgs qy sc)), (qhs, .inr (0, f_Bank shs)), (qy, .inr (2, f_Hyper (oi (oi sy_570 4 p4) 6 p5)))]) (w1 := [(qx, .inr (5, f_Desk qc qo qr sx))]) (w2 := [(qx, .inr (5, f_Desk qc qo qr sx)), (qc, .inr (1, f_Controls qo qhs qgs qy sc)), (qhs, .inr (0, f_Bank shs)), (qy, .inr (2, f_Hyper (oi (oi sy_570 4 p4) 6 p5)))]) (r := (bI (k_Desk_isSupervisor sx))) (As := []) (rest := [.int p2, .int p1, .int (sx.1 4), .ref qhs, .ref qx]) (ci := 5) (q0 := 0) ⟨hx, hb, hml, hown, hts⟩ (c_Desk_isSupervisor l G tys qx qc qo qr sx) (cwV 0 hts (gdV gd_gd q_521 q_523 q_17 q_41 q_524) rfl rfl rfl (by decide +kernel) ⟨Nat.le_of_ble_eq_true rfl, Nat.le_of_ble_eq_true rfl⟩) hE hK hP hD hS hA [0] [1, 2, 3] [3, 0, 1, 2] rfl (by decide) rfl (by decide) (by decide) rfl (by decide) rfl rfl rfl hl.1 rfl (Nat.le_of_ble_eq_true rfl) d_Desk_enterS_58 ⟨Nat.zero_le _, Nat.zero_le _⟩ (fun H locs hP hD hS => ?_)
  obtain ⟨r_571, er_571⟩ : ∃ z, z = (k_Bank_enter shs (sx.1 4) p1 p2 (k_Desk_isSupervisor sx)).1 := ⟨_, rfl⟩
  obtain ⟨shs_572, eshs_572⟩ : ∃ z, z = (k_Bank_enter shs (sx.1 4) p1 p2 (k_Desk_isSupervisor sx)).2 := ⟨_, rfl⟩
  have hM := c_Bank_enter l G tys qhs shs (sx.1 4) p1 p2 (k_Desk_isSupervisor sx)
  rw [← er_571, ← eshs_572] at hM
  refine ct_cVi (wr := [(qx, .inr (5, f_Desk qc qo qr sx)), (qc, .inr (1, f_Controls qo qhs qgs qy sc)), (qy, .inr (2, f_Hyper (oi (oi sy_570 4 p4) 6 p5)))]) (w1 := [(qhs, .inr (0, f_Bank shs_572))]) (w2 := [(qx, .inr (5, f_Desk qc qo qr sx)), (qc, .inr (1, f_Controls qo qhs qgs qy sc)), (qhs, .inr (0, f_Bank shs_572)), (qy, .inr (2, f_Hyper (oi (oi sy_570 4 p4) 6 p5)))]) (r := r_571) (As := [.int (sx.1 4), .int p1, .int p2, .int (bI (k_Desk_isSupervisor sx))]) (rest := [.ref qx]) (ci := 0) (q0 := 0) ⟨hx, hb, hml, hown, hts⟩ hM (cwV 4 hts (gdV gd_gd q_525 q_526 q_527 q_44 q_528) rfl rfl rfl (by decide +kernel) ⟨Nat.le_of_ble_eq_true rfl, Nat.le_of_ble_eq_true rfl⟩) hE hK hP hD hS hA [2] [0, 1, 3] [0, 1, 3, 2] rfl (by decide) rfl (by decide) (by decide) rfl (by decide) rfl rfl rfl hl.1 rfl (Nat.le_of_ble_eq_true rfl) d_Desk_enterS_61 ⟨Nat.zero_le _, Nat.zero_le _⟩ (fun H locs hP hD hS => ?_)
  refine va_put (D := G.1) (ci := 5) (v := .int r_571) (ty := .int) (C := R_Desk) (T := T_Desk) (N := 8) hx hb hts (fun w h => gd_sub _ (iw_Desk w h)) ty_Desk tyok_Desk nm_Desk hown hK hP hD hS 0 rfl rfl 4 (by decide) (hts _ (gd_sub _ q_209)) (fun _ h9 => h9) rfl (by decide +kernel) rfl rfl (Nat.le_of_ble_eq_true rfl) d_Desk_enterS_64 (fun H locs hP hD hS => ?_)
  have hP : va_P G.1 vwCl [(qx, .inr (5, f_Desk qc qo qr (oi sx 4 r_571))), (qc, .inr (1, f_Controls qo qhs qgs qy sc)), (qhs, .inr (0, f_Bank shs_572)), (qy, .inr (2, f_Hyper (oi (oi sy_570 4 p4) 6 p5)))] H := hP
  have hD : va_D A [(qx, .inr (5, f_Desk qc qo qr (oi sx 4 r_571))), (qc, .inr (1, f_Controls qo qhs qgs qy sc)), (qhs, .inr (0, f_Bank shs_572)), (qy, .inr (2, f_Hyper (oi (oi sy_570 4 p4) 6 p5)))] := hD
  refine lv_aload_n hx hb d_Desk_enterS_67 rfl (lv_at hl 0 rfl) ?_
  refine lv_iconst (v := 1) hx hb d_Desk_enterS_68 (by decide) ?_
  refine va_put (D := G.1) (ci := 5) (v := .int 1) (ty := .int) (C := R_Desk) (T := T_Desk) (N := 8) hx hb hts (fun w h => gd_sub _ (iw_Desk w h)) ty_Desk tyok_Desk nm_Desk hown hK hP hD hS 0 rfl rfl 3 (by decide) (hts _ (gd_sub _ q_208)) (fun _ h9 => h9) rfl (by decide +kernel) rfl rfl (Nat.le_of_ble_eq_true rfl) d_Desk_enterS_69 (fun H locs hP hD hS => ?_)
  have hP : va_P G.1 vwCl [(qx, .inr (5, f_Desk qc qo qr (oi (oi sx 4 r_571) 3 1))), (qc, .inr (1, f_Controls qo qhs qgs qy sc)), (qhs, .inr (0, f_Bank shs_572)), (qy, .inr (2, f_Hyper (oi (oi sy_570 4 p4) 6 p5)))] H := hP
  have hD : va_D A [(qx, .inr (5, f_Desk qc qo qr (oi (oi sx 4 r_571) 3 1))), (qc, .inr (1, f_Controls qo qhs qgs qy sc)), (qhs, .inr (0, f_Bank shs_572)), (qy, .inr (2, f_Hyper (oi (oi sy_570 4 p4) 6 p5)))] := hD
  refine lv_aload_n hx hb d_Desk_enterS_72 rfl (lv_at hl 0 rfl) ?_
  refine lv_dup hx hb d_Desk_enterS_73 rfl ?_
  refine va_get (D := G.1) (ci := 5) (v := .int (sx.1 5)) (C := R_Desk) (T := T_Desk) (N := 8) hx hb hts (fun w h => gd_sub _ (iw_Desk w h)) hown hK hP 0 rfl rfl 5 (by decide) (hts _ (gd_sub _ q_210)) (fun _ h9 => h9) rfl d_Desk_enterS_74 ?_
  refine lv_iconst (v := 1) hx hb d_Desk_enterS_77 (by decide) ?_
  refine lv_iadd hx hb d_Desk_enterS_78 ?_
  refine va_put (D := G.1) (ci := 5) (v := .int ((sx.1 5) + 1)) (ty := .int) (C := R_Desk) (T := T_Desk) (N := 8) hx hb hts (fun w h => gd_sub _ (iw_Desk w h)) ty_Desk tyok_Desk nm_Desk hown hK hP hD hS 0 rfl rfl 5 (by decide) (hts _ (gd_sub _ q_210)) (fun _ h9 => h9) rfl (by decide +kernel) rfl rfl (Nat.le_of_ble_eq_true rfl) d_Desk_enterS_79 (fun H locs hP hD hS => ?_)
  have hP : va_P G.1 vwCl [(qx, .inr (5, f_Desk qc qo qr (oi (oi (oi sx 4 r_571) 3 1) 5 ((sx.1 5) + 1)))), (qc, .inr (1, f_Controls qo qhs qgs qy sc)), (qhs, .inr (0, f_Bank shs_572)), (qy, .inr (2, f_Hyper (oi (oi sy_570 4 p4) 6 p5)))] H := hP
  have hD : va_D A [(qx, .inr (5, f_Desk qc qo qr (oi (oi (oi sx 4 r_571) 3 1) 5 ((sx.1 5) + 1)))), (qc, .inr (1, f_Controls qo qhs qgs qy sc)), (qhs, .inr (0, f_Bank shs_572)), (qy, .inr (2, f_Hyper (oi (oi sy_570 4 p4) 6 p5)))] := hD
  have hk : k_Desk_enterS sx sc shs sy p1 p2 p3 p4 p5 = ((oi (oi (oi sx 4 r_571) 3 1) 5 ((sx.1 5) + 1)), shs_572, (oi (oi sy_570 4 p4) 6 p5)) := (by rw [k_Desk_enterS]; try rw [← esy_570]; try rw [← er_571]; try rw [← eshs_572]; try rfl)
  exact ct_rv hx hb hr hlocks hP hD hK hS d_Desk_enterS_82 (by rw [hk]; first | done | rfl)
def k_Desk_raise_j56 (sx : ob) (sc : ob) (shs : ob) (sgs : ob) (sy : ob) (p1 : Int32) (p2 : Int32) (p3 : Bool) (p4 : Int32) (p5 : Int32) (t0 : Bool) : ob × ob × ob × ob :=
  (((k_Desk_enterS sx sc shs sy p1 p2 t0 p4 p5).1), ((k_Desk_enterS sx sc shs sy p1 p2 t0 p4 p5).2.1), sgs, ((k_Desk_enterS sx sc shs sy p1 p2 t0 p4 p5).2.2))
def k_Desk_raise_j55 (sx : ob) (sc : ob) (shs : ob) (sgs : ob) (sy : ob) (p1 : Int32) (p2 : Int32) (p3 : Bool) (p4 : Int32) (p5 : Int32) : ob × ob × ob × ob :=
  k_Desk_raise_j56 sx sc shs sgs sy p1 p2 p3 p4 p5 false
def k_Desk_raise_j51 (sx : ob) (sc : ob) (shs : ob) (sgs : ob) (sy : ob) (p1 : Int32) (p2 : Int32) (p3 : Bool) (p4 : Int32) (p5 : Int32) : ob × ob × ob × ob :=
  k_Desk_raise_j56 sx sc shs sgs sy p1 p2 p3 p4 p5 true
def k_Desk_raise_j31 (sx : ob) (sc : ob) (shs : ob) (sgs : ob) (sy : ob) (p1 : Int32) (p2 : Int32) (p3 : Bool) (p4 : Int32) (p5 : Int32) : ob × ob × ob × ob :=
  if (bI (k_Desk_isIn 11579643 p1)) = 0 then (k_Desk_raise_j55 sx sc shs sgs sy p1 p2 p3 p4 p5) else (if (bI p3) = 0 then (if (bI (k_Desk_isVirtual sx)) = 0 then (k_Desk_raise_j55 sx sc shs sgs sy p1 p2 p3 p4 p5) else (k_Desk_raise_j51 sx sc shs sgs sy p1 p2 p3 p4 p5)) else (k_Desk_raise_j51 sx sc shs sgs sy p1 p2 p3 p4 p5))
def k_Desk_raise (sx : ob) (sc : ob) (shs : ob) (sgs : ob) (sy : ob) (p1 : Int32) (p2 : Int32) (p3 : Bool) (p4 : Int32) (p5 : Int32) : ob × ob × ob × ob :=
  if (bI (k_Desk_isVirtual sx)) = 0 then (k_Desk_raise_j31 sx sc shs sgs sy p1 p2 p3 p4 p5) else (if (bI (k_Desk_isIn (sy.1 1) p1)) = 0 then (k_Desk_raise_j31 sx sc shs sgs sy p1 p2 p3 p4 p5) else (((k_Desk_enterVs sx sc sgs p1 p2).1), shs, ((k_Desk_enterVs sx sc sgs p1 p2).2), sy))
set_option maxHeartbeats 4000000 in
set_option maxRecDepth 100000 in
theorem c_Desk_raise (l : Launch) (G : gx) (tys : List (ClassId × FieldType)) (qx qc qhs qgs qy qo qr : Nat) (sx : ob) (sc : ob) (shs : ob) (sgs : ob) (sy : ob) (p1 : Int32) (p2 : Int32) (p3 : Bool) (p4 : Int32) (p5 : Int32) : ct_V l y_Desk_raise ws_Desk_raise ({ frames := 3, cells := 0, slots := 0, locals := 74 }) G tys [.ref qx, .int p1, .int p2, .int (bI p3), .int p4, .int p5] [(qx, .inr (5, f_Desk qc qo qr sx)), (qc, .inr (1, f_Controls qo qhs qgs qy sc)), (qhs, .inr (0, f_Bank shs)), (qgs, .inr (0, f_Bank sgs)), (qy, .inr (2, f_Hyper sy))] [(qx, .inr (5, f_Desk qc qo qr ((k_Desk_raise sx sc shs sgs sy p1 p2 p3 p4 p5).1))), (qc, .inr (1, f_Controls qo qhs qgs qy sc)), (qhs, .inr (0, f_Bank ((k_Desk_raise sx sc shs sgs sy p1 p2 p3 p4 p5).2.1))), (qgs, .inr (0, f_Bank ((k_Desk_raise sx sc shs sgs sy p1 p2 p3 p4 p5).2.2.1))), (qy, .inr (2, f_Hyper ((k_Desk_raise sx sc shs sgs sy p1 p2 p3 p4 p5).2.2.2)))] := by
  refine ct_hV (cc := cc_Desk_raise) (maxL := 7) (ret := none) (by decide) rfl (Nat.le_of_ble_eq_true rfl) ?_
  intro p e s m below meth c A ls hx hb hr hml hts hown hlocks hP hK hD hA hE hS hl
  have hl : lv_has ls 7 [(0, .ref qx), (1, .int p1), (2, .int p2), (3, .int (bI p3)), (4, .int p4), (5, .int p5)] := hl
  have hown : s.vm.findClass R_Desk = some m.cls := hown
  have J56 : ∀ (t0 : Bool) (H : Heap) (locs : List Loc) (ls : Array Slot), k_Desk_raise sx sc shs sgs sy p1 p2 p3 p4 p5 = k_Desk_raise_j56 sx sc shs sgs sy p1 p2 p3 p4 p5 t0 → va_P G.1 vwCl [(qx, .inr (5, f_Desk qc qo qr sx)), (qc, .inr (1, f_Controls qo qhs qgs qy sc)), (qhs, .inr (0, f_Bank shs)), (qgs, .inr (0, f_Bank sgs)), (qy, .inr (2, f_Hyper sy))] H → va_D A [(qx, .inr (5, f_Desk qc qo qr sx)), (qc, .inr (1, f_Controls qo qhs qgs qy sc)), (qhs, .inr (0, f_Bank shs)), (qgs, .inr (0, f_Bank sgs)), (qy, .inr (2, f_Hyper sy))] → va_S A s.heap H locs → lv_has ls 7 [(0, .ref qx), (1, .int p1), (2, .int p2), (3, .int (bI p3)), (4, .int p4), (5, .int p5)] → W p l e ({ frames := 3, cells := 0, slots := 0, locals := 74 }) s m ([.ref qx, .int p1, .int p2, .int (bI p3), .int p4, .int p5] : List Value).toArray below meth c H locs 0 0 (MQ below (ct_qv G tys A [(qx, .inr (5, f_Desk qc qo qr ((k_Desk_raise sx sc shs sgs sy p1 p2 p3 p4 p5).1))), (qc, .inr (1, f_Controls qo qhs qgs qy sc)), (qhs, .inr (0, f_Bank ((k_Desk_raise sx sc shs sgs sy p1 p2 p3 p4 p5).2.1))), (qgs, .inr (0, f_Bank ((k_Desk_raise sx sc shs sgs sy p1 p2 p3 p4 p5).2.2.1))), (qy, .inr (2, f_Hyper ((k_Desk_raise sx sc shs sgs sy p1 p2 p3 p4 p5).2.2.2)))]) ([.ref qx, .int p1, .int p2, .int (bI p3), .int p4, .int p5] : List Value).toArray s 0 0 A) (F0 m 56 ls [.int (bI t0)]) := by
    intro t0 H locs ls hj hP hD hS hl
    refine lv_istore (lv' := [(6, .int (bI t0)), (0, .ref qx), (1, .int p1), (2, .int p2), (3, .int (bI p3)), (4, .int p4), (5, .int p5)]) hx hb d_Desk_raise_56 hl (by decide) rfl (fun ls hl => ?_)
    refine lv_aload_n hx hb d_Desk_raise_58 rfl (lv_at hl 1 rfl) ?_
    refine lv_iload_n hx hb d_Desk_raise_59 rfl (lv_at hl 2 rfl) ?_
    refine lv_iload_n hx hb d_Desk_raise_60 rfl (lv_at hl 3 rfl) ?_
    refine lv_iload hx hb d_Desk_raise_61 (lv_at hl 0 rfl) ?_
    refine lv_iload hx hb d_Desk_raise_63 (lv_at hl 5 rfl) ?_
    refine lv_iload hx hb d_Desk_raise_65 (lv_at hl 6 rfl) ?_
    obtain ⟨sx_576, esx_576⟩ : ∃ z, z = (k_Desk_enterS sx sc shs sy p1 p2 t0 p4 p5).1 := ⟨_, rfl⟩
    obtain ⟨shs_577, eshs_577⟩ : ∃ z, z = (k_Desk_enterS sx sc shs sy p1 p2 t0 p4 p5).2.1 := ⟨_, rfl⟩
    obtain ⟨sy_578, esy_578⟩ : ∃ z, z = (k_Desk_enterS sx sc shs sy p1 p2 t0 p4 p5).2.2 := ⟨_, rfl⟩
    have hM := c_Desk_enterS l G tys qx qc qhs qy qo qr qgs sx sc shs sy p1 p2 t0 p4 p5
    rw [← esx_576, ← eshs_577, ← esy_578] at hM
    refine ct_cVv (wr := [(qgs, .inr (0, f_Bank sgs))]) (w1 := [(qx, .inr (5, f_Desk qc qo qr sx_576)), (qc, .inr (1, f_Controls qo qhs qgs qy sc)), (qhs, .inr (0, f_Bank shs_577)), (qy, .inr (2, f_Hyper sy_578))]) (w2 := [(qx, .inr (5, f_Desk qc qo qr sx_576)), (qc, .inr (1, f_Controls qo qhs qgs qy sc)), (qhs, .inr (0, f_Bank shs_577)), (qgs, .inr (0, f_Bank sgs)), (qy, .inr (2, f_Hyper sy_578))]) (As := [.int p1, .int p2, .int (bI t0), .int p4, .int p5]) (rest := []) (ci := 5) (q0 := 0) ⟨hx, hb, hml, hown, hts⟩ hM (cwV 5 hts (gdV gd_gd q_540 q_542 q_18 q_41 q_543) rfl rfl rfl (by decide +kernel) ⟨Nat.le_of_ble_eq_true rfl, Nat.le_of_ble_eq_true rfl⟩) hE hK hP hD hS hA [0, 1, 2, 4] [3] [1, 2, 3, 0, 4] rfl (by decide) rfl (by decide) (by decide) rfl (by decide) rfl rfl rfl hl.1 rfl (Nat.le_of_ble_eq_true rfl) d_Desk_raise_67 ⟨Nat.zero_le _, Nat.zero_le _⟩ (fun H locs hP hD hS => ?_)
    have hk : k_Desk_raise sx sc shs sgs sy p1 p2 p3 p4 p5 = (sx_576, shs_577, sgs, sy_578) := (hj.trans (by rw [k_Desk_raise_j56]; try rw [← esx_576]; try rw [← eshs_577]; try rw [← esy_578]; try rfl))
    exact ct_rv hx hb hr hlocks hP hD hK hS d_Desk_raise_70 (by rw [hk]; first | done | rfl)
  have J55 : ∀ (H : Heap) (locs : List Loc) (ls : Array Slot), k_Desk_raise sx sc shs sgs sy p1 p2 p3 p4 p5 = k_Desk_raise_j55 sx sc shs sgs sy p1 p2 p3 p4 p5 → va_P G.1 vwCl [(qx, .inr (5, f_Desk qc qo qr sx)), (qc, .inr (1, f_Controls qo qhs qgs qy sc)), (qhs, .inr (0, f_Bank shs)), (qgs, .inr (0, f_Bank sgs)), (qy, .inr (2, f_Hyper sy))] H → va_D A [(qx, .inr (5, f_Desk qc qo qr sx)), (qc, .inr (1, f_Controls qo qhs qgs qy sc)), (qhs, .inr (0, f_Bank shs)), (qgs, .inr (0, f_Bank sgs)), (qy, .inr (2, f_Hyper sy))] → va_S A s.heap H locs → lv_has ls 7 [(0, .ref qx), (1, .int p1), (2, .int p2), (3, .int (bI p3)), (4, .int p4), (5, .int p5)] → W p l e ({ frames := 3, cells := 0, slots := 0, locals := 74 }) s m ([.ref qx, .int p1, .int p2, .int (bI p3), .int p4, .int p5] : List Value).toArray below meth c H locs 0 0 (MQ below (ct_qv G tys A [(qx, .inr (5, f_Desk qc qo qr ((k_Desk_raise sx sc shs sgs sy p1 p2 p3 p4 p5).1))), (qc, .inr (1, f_Controls qo qhs qgs qy sc)), (qhs, .inr (0, f_Bank ((k_Desk_raise sx sc shs sgs sy p1 p2 p3 p4 p5).2.1))), (qgs, .inr (0, f_Bank ((k_Desk_raise sx sc shs sgs sy p1 p2 p3 p4 p5).2.2.1))), (qy, .inr (2, f_Hyper ((k_Desk_raise sx sc shs sgs sy p1 p2 p3 p4 p5).2.2.2)))]) ([.ref qx, .int p1, .int p2, .int (bI p3), .int p4, .int p5] : List Value).toArray s 0 0 A) (F0 m 55 ls []) := by
    intro H locs ls hj hP hD hS hl
    refine lv_iconst (v := 0) hx hb d_Desk_raise_55 (by decide) ?_
    exact J56 false H locs ls (hj.trans (by rw [k_Desk_raise_j55]; try rfl)) hP hD hS (lv_sub hl [0, 1, 2, 3, 4, 5] rfl)
  have J51 : ∀ (H : Heap) (locs : List Loc) (ls : Array Slot), k_Desk_raise sx sc shs sgs sy p1 p2 p3 p4 p5 = k_Desk_raise_j51 sx sc shs sgs sy p1 p2 p3 p4 p5 → va_P G.1 vwCl [(qx, .inr (5, f_Desk qc qo qr sx)), (qc, .inr (1, f_Controls qo qhs qgs qy sc)), (qhs, .inr (0, f_Bank shs)), (qgs, .inr (0, f_Bank sgs)), (qy, .inr (2, f_Hyper sy))] H → va_D A [(qx, .inr (5, f_Desk qc qo qr sx)), (qc, .inr (1, f_Controls qo qhs qgs qy sc)), (qhs, .inr (0, f_Bank shs)), (qgs, .inr (0, f_Bank sgs)), (qy, .inr (2, f_Hyper sy))] → va_S A s.heap H locs → lv_has ls 7 [(0, .ref qx), (1, .int p1), (2, .int p2), (3, .int (bI p3)), (4, .int p4), (5, .int p5)] → W p l e ({ frames := 3, cells := 0, slots := 0, locals := 74 }) s m ([.ref qx, .int p1, .int p2, .int (bI p3), .int p4, .int p5] : List Value).toArray below meth c H locs 0 0 (MQ below (ct_qv G tys A [(qx, .inr (5, f_Desk qc qo qr ((k_Desk_raise sx sc shs sgs sy p1 p2 p3 p4 p5).1))), (qc, .inr (1, f_Controls qo qhs qgs qy sc)), (qhs, .inr (0, f_Bank ((k_Desk_raise sx sc shs sgs sy p1 p2 p3 p4 p5).2.1))), (qgs, .inr (0, f_Bank ((k_Desk_raise sx sc shs sgs sy p1 p2 p3 p4 p5).2.2.1))), (qy, .inr (2, f_Hyper ((k_Desk_raise sx sc shs sgs sy p1 p2 p3 p4 p5).2.2.2)))]) ([.ref qx, .int p1, .int p2, .int (bI p3), .int p4, .int p5] : List Value).toArray s 0 0 A) (F0 m 51 ls []) := by
    intro H locs ls hj hP hD hS hl
    refine lv_iconst (v := 1) hx hb d_Desk_raise_51 (by decide) ?_
    refine lv_goto (tgt := 56) hx hb d_Desk_raise_52 (by decide) ?_
    exact J56 true H locs ls (hj.trans (by rw [k_Desk_raise_j51]; try rfl)) hP hD hS (lv_sub hl [0, 1, 2, 3, 4, 5] rfl)
  have J31 : ∀ (H : Heap) (locs : List Loc) (ls : Array Slot), k_Desk_raise sx sc shs sgs sy p1 p2 p3 p4 p5 = k_Desk_raise_j31 sx sc shs sgs sy p1 p2 p3 p4 p5 → va_P G.1 vwCl [(qx, .inr (5, f_Desk qc qo qr sx)), (qc, .inr (1, f_Controls qo qhs qgs qy sc)), (qhs, .inr (0, f_Bank shs)), (qgs, .inr (0, f_Bank sgs)), (qy, .inr (2, f_Hyper sy))] H → va_D A [(qx, .inr (5, f_Desk qc qo qr sx)), (qc, .inr (1, f_Controls qo qhs qgs qy sc)), (qhs, .inr (0, f_Bank shs)), (qgs, .inr (0, f_Bank sgs)), (qy, .inr (2, f_Hyper sy))] → va_S A s.heap H locs → lv_has ls 7 [(0, .ref qx), (1, .int p1), (2, .int p2), (3, .int (bI p3)), (4, .int p4), (5, .int p5)] → W p l e ({ frames := 3, cells := 0, slots := 0, locals := 74 }) s m ([.ref qx, .int p1, .int p2, .int (bI p3), .int p4, .int p5] : List Value).toArray below meth c H locs 0 0 (MQ below (ct_qv G tys A [(qx, .inr (5, f_Desk qc qo qr ((k_Desk_raise sx sc shs sgs sy p1 p2 p3 p4 p5).1))), (qc, .inr (1, f_Controls qo qhs qgs qy sc)), (qhs, .inr (0, f_Bank ((k_Desk_raise sx sc shs sgs sy p1 p2 p3 p4 p5).2.1))), (qgs, .inr (0, f_Bank ((k_Desk_raise sx sc shs sgs sy p1 p2 p3 p4 p5).2.2.1))), (qy, .inr (2, f_Hyper ((k_Desk_raise sx sc shs sgs sy p1 p2 p3 p4 p5).2.2.2)))]) ([.ref qx, .int p1, .int p2, .int (bI p3), .int p4, .int p5] : List Value).toArray s 0 0 A) (F0 m 31 ls []) := by
    intro H locs ls hj hP hD hS hl
    refine lv_ldc (v := 11579643) hx hb hown (hts _ (gd_sub _ q_539)) d_Desk_raise_31 ?_
    refine lv_iload_n hx hb d_Desk_raise_33 rfl (lv_at hl 1 rfl) ?_
    refine ct_cSi (wr := [(qx, .inr (5, f_Desk qc qo qr sx)), (qc, .inr (1, f_Controls qo qhs qgs qy sc)), (qhs, .inr (0, f_Bank shs)), (qgs, .inr (0, f_Bank sgs)), (qy, .inr (2, f_Hyper sy))]) (w1 := []) (w2 := [(qx, .inr (5, f_Desk qc qo qr sx)), (qc, .inr (1, f_Controls qo qhs qgs qy sc)), (qhs, .inr (0, f_Bank shs)), (qgs, .inr (0, f_Bank sgs)), (qy, .inr (2, f_Hyper sy))]) (r := (bI (k_Desk_isIn 11579643 p1))) (As := [.int 11579643, .int p1]) (rest := []) ⟨hx, hb, hml, hown, hts⟩ (c_Desk_isIn l G tys 11579643 p1) (va_cwS 2 hts (gdS gd_gd q_514 q_515 q_41 q_516) rfl rfl rfl (by decide +kernel) ⟨Nat.le_of_ble_eq_true rfl, Nat.le_of_ble_eq_true rfl⟩) hE hK hP hD hS hA [] [0, 1, 2, 3, 4] [0, 1, 2, 3, 4] rfl (by decide) rfl (by decide) (by decide) rfl (by decide) rfl hl.1 rfl (Nat.le_of_ble_eq_true rfl) d_Desk_raise_34 ⟨Nat.zero_le _, Nat.zero_le _⟩ (fun H locs hP hD hS => ?_)
    refine lv_if_eq (tgt := 55) hx hb d_Desk_raise_37 (by decide) (fun c_579 => ?_) (fun c_579 => ?_)
    · exact J55 H locs ls (hj.trans (by rw [k_Desk_raise_j31]; rw [if_pos c_579]; try rfl)) hP hD hS (lv_sub hl [0, 1, 2, 3, 4, 5] rfl)
    · refine lv_iload_n hx hb d_Desk_raise_40 rfl (lv_at hl 3 rfl) ?_
      refine lv_if_ne (tgt := 51) hx hb d_Desk_raise_41 (by decide) (fun c_580 => ?_) (fun c_580 => ?_)
      · exact J51 H locs ls (hj.trans (by rw [k_Desk_raise_j31]; rw [if_neg c_579]; rw [if_neg c_580]; try rfl)) hP hD hS (lv_sub hl [0, 1, 2, 3, 4, 5] rfl)
      · refine lv_aload_n hx hb d_Desk_raise_44 rfl (lv_at hl 0 rfl) ?_
        refine ct_cVi (wr := [(qc, .inr (1, f_Controls qo qhs qgs qy sc)), (qhs, .inr (0, f_Bank shs)), (qgs, .inr (0, f_Bank sgs)), (qy, .inr (2, f_Hyper sy))]) (w1 := [(qx, .inr (5, f_Desk qc qo qr sx))]) (w2 := [(qx, .inr (5, f_Desk qc qo qr sx)), (qc, .inr (1, f_Controls qo qhs qgs qy sc)), (qhs, .inr (0, f_Bank shs)), (qgs, .inr (0, f_Bank sgs)), (qy, .inr (2, f_Hyper sy))]) (r := (bI (k_Desk_isVirtual sx))) (As := []) (rest := []) (ci := 5) (q0 := 0) ⟨hx, hb, hml, hown, hts⟩ (c_Desk_isVirtual l G tys qx qc qo qr sx) (cwV 0 hts (gdV gd_gd q_434 q_436 q_6 q_41 q_437) rfl rfl rfl (by decide +kernel) ⟨Nat.le_of_ble_eq_true rfl, Nat.le_of_ble_eq_true rfl⟩) hE hK hP hD hS hA [0] [1, 2, 3, 4] [4, 0, 1, 2, 3] rfl (by decide) rfl (by decide) (by decide) rfl (by decide) rfl rfl rfl hl.1 rfl (Nat.le_of_ble_eq_true rfl) d_Desk_raise_45 ⟨Nat.zero_le _, Nat.zero_le _⟩ (fun H locs hP hD hS => ?_)
        refine lv_if_eq (tgt := 55) hx hb d_Desk_raise_48 (by decide) (fun c_581 => ?_) (fun c_581 => ?_)
        · exact J55 H locs ls (hj.trans (by rw [k_Desk_raise_j31]; rw [if_neg c_579]; rw [if_pos c_580]; rw [if_pos c_581]; try rfl)) hP hD hS (lv_sub hl [0, 1, 2, 3, 4, 5] rfl)
        · exact J51 H locs ls (hj.trans (by rw [k_Desk_raise_j31]; rw [if_neg c_579]; rw [if_pos c_580]; rw [if_neg c_581]; try rfl)) hP hD hS (lv_sub hl [0, 1, 2, 3, 4, 5] rfl)
  obtain ⟨H, eH⟩ : ∃ z, z = s.heap := ⟨_, rfl⟩
  obtain ⟨locs, eL⟩ : ∃ z, z = ([] : List Loc) := ⟨_, rfl⟩
  have hP : va_P G.1 vwCl [(qx, .inr (5, f_Desk qc qo qr sx)), (qc, .inr (1, f_Controls qo qhs qgs qy sc)), (qhs, .inr (0, f_Bank shs)), (qgs, .inr (0, f_Bank sgs)), (qy, .inr (2, f_Hyper sy))] H := by rw [eH]; exact hP
  have hS : va_S A s.heap H locs := by rw [eH, eL]; exact hS
  suffices hW : W p l e ({ frames := 3, cells := 0, slots := 0, locals := 74 }) s m ([.ref qx, .int p1, .int p2, .int (bI p3), .int p4, .int p5] : List Value).toArray below meth c H locs 0 0 (MQ below (ct_qv G tys A [(qx, .inr (5, f_Desk qc qo qr ((k_Desk_raise sx sc shs sgs sy p1 p2 p3 p4 p5).1))), (qc, .inr (1, f_Controls qo qhs qgs qy sc)), (qhs, .inr (0, f_Bank ((k_Desk_raise sx sc shs sgs sy p1 p2 p3 p4 p5).2.1))), (qgs, .inr (0, f_Bank ((k_Desk_raise sx sc shs sgs sy p1 p2 p3 p4 p5).2.2.1))), (qy, .inr (2, f_Hyper ((k_Desk_raise sx sc shs sgs sy p1 p2 p3 p4 p5).2.2.2)))]) ([.ref qx, .int p1, .int p2, .int (bI p3), .int p4, .int p5] : List Value).toArray s 0 0 A) (F0 m 0 ls []) by rw [eH, eL] at hW; exact hW
  refine lv_aload_n hx hb d_Desk_raise_0 rfl (lv_at hl 0 rfl) ?_
  refine ct_cVi (wr := [(qc, .inr (1, f_Controls qo qhs qgs qy sc)), (qhs, .inr (0, f_Bank shs)), (qgs, .inr (0, f_Bank sgs)), (qy, .inr (2, f_Hyper sy))]) (w1 := [(qx, .inr (5, f_Desk qc qo qr sx))]) (w2 := [(qx, .inr (5, f_Desk qc qo qr sx)), (qc, .inr (1, f_Controls qo qhs qgs qy sc)), (qhs, .inr (0, f_Bank shs)), (qgs, .inr (0, f_Bank sgs)), (qy, .inr (2, f_Hyper sy))]) (r := (bI (k_Desk_isVirtual sx))) (As := []) (rest := []) (ci := 5) (q0 := 0) ⟨hx, hb, hml, hown, hts⟩ (c_Desk_isVirtual l G tys qx qc qo qr sx) (cwV 0 hts (gdV gd_gd q_434 q_436 q_6 q_41 q_437) rfl rfl rfl (by decide +kernel) ⟨Nat.le_of_ble_eq_true rfl, Nat.le_of_ble_eq_true rfl⟩) hE hK hP hD hS hA [0] [1, 2, 3, 4] [4, 0, 1, 2, 3] rfl (by decide) rfl (by decide) (by decide) rfl (by decide) rfl rfl rfl hl.1 rfl (Nat.le_of_ble_eq_true rfl) d_Desk_raise_1 ⟨Nat.zero_le _, Nat.zero_le _⟩ (fun H locs hP hD hS => ?_)
  refine lv_if_eq (tgt := 31) hx hb d_Desk_raise_4 (by decide) (fun c_582 => ?_) (fun c_582 => ?_)
  · exact J31 H locs ls (by rw [k_Desk_raise]; rw [if_pos c_582]; try rfl) hP hD hS (lv_sub hl [0, 1, 2, 3, 4, 5] rfl)
  · refine lv_aload_n hx hb d_Desk_raise_7 rfl (lv_at hl 0 rfl) ?_
    refine va_get (D := G.1) (ci := 5) (v := .ref qc) (C := R_Desk) (T := T_Desk) (N := 8) hx hb hts (fun w h => gd_sub _ (iw_Desk w h)) hown hK hP 0 rfl rfl 0 (by decide) (hts _ (gd_sub _ q_205)) (fun _ h9 => h9) rfl d_Desk_raise_8 ?_
    refine va_get (D := G.1) (ci := 1) (v := .ref qy) (C := R_Controls) (T := T_Controls) (N := 6) hx hb hts (fun w h => gd_sub _ (iw_Controls w h)) hown hK hP 1 rfl rfl 3 (by decide) (hts _ (gd_sub _ q_170)) (fun _ h9 => h9) rfl d_Desk_raise_11 ?_
    refine va_get (D := G.1) (ci := 2) (v := .int (sy.1 1)) (C := R_Hyper) (T := T_Hyper) (N := 8) hx hb hts (fun w h => gd_sub _ (iw_Hyper w h)) hown hK hP 4 rfl rfl 1 (by decide) (hts _ (gd_sub _ q_134)) (fun _ h9 => h9) rfl d_Desk_raise_14 ?_
    refine lv_iload_n hx hb d_Desk_raise_17 rfl (lv_at hl 1 rfl) ?_
    refine ct_cSi (wr := [(qx, .inr (5, f_Desk qc qo qr sx)), (qc, .inr (1, f_Controls qo qhs qgs qy sc)), (qhs, .inr (0, f_Bank shs)), (qgs, .inr (0, f_Bank sgs)), (qy, .inr (2, f_Hyper sy))]) (w1 := []) (w2 := [(qx, .inr (5, f_Desk qc qo qr sx)), (qc, .inr (1, f_Controls qo qhs qgs qy sc)), (qhs, .inr (0, f_Bank shs)), (qgs, .inr (0, f_Bank sgs)), (qy, .inr (2, f_Hyper sy))]) (r := (bI (k_Desk_isIn (sy.1 1) p1))) (As := [.int (sy.1 1), .int p1]) (rest := []) ⟨hx, hb, hml, hown, hts⟩ (c_Desk_isIn l G tys (sy.1 1) p1) (va_cwS 2 hts (gdS gd_gd q_514 q_515 q_41 q_516) rfl rfl rfl (by decide +kernel) ⟨Nat.le_of_ble_eq_true rfl, Nat.le_of_ble_eq_true rfl⟩) hE hK hP hD hS hA [] [0, 1, 2, 3, 4] [0, 1, 2, 3, 4] rfl (by decide) rfl (by decide) (by decide) rfl (by decide) rfl hl.1 rfl (Nat.le_of_ble_eq_true rfl) d_Desk_raise_18 ⟨Nat.zero_le _, Nat.zero_le _⟩ (fun H locs hP hD hS => ?_)
    refine lv_if_eq (tgt := 31) hx hb d_Desk_raise_21 (by decide) (fun c_583 => ?_) (fun c_583 => ?_)
    · exact J31 H locs ls (by rw [k_Desk_raise]; rw [if_neg c_582]; rw [if_pos c_583]; try rfl) hP hD hS (lv_sub hl [0, 1, 2, 3, 4, 5] rfl)
    · refine lv_aload_n hx hb d_Desk_raise_24 rfl (lv_at hl 0 rfl) ?_
      refine lv_iload_n hx hb d_Desk_raise_25 rfl (lv_at hl 1 rfl) ?_
      refine lv_iload_n hx hb d_Desk_raise_26 rfl (lv_at hl 2 rfl) ?_
      obtain ⟨sx_584, esx_584⟩ : ∃ z, z = (k_Desk_enterVs sx sc sgs p1 p2).1 := ⟨_, rfl⟩
      obtain ⟨sgs_585, esgs_585⟩ : ∃ z, z = (k_Desk_enterVs sx sc sgs p1 p2).2 := ⟨_, rfl⟩
      have hM := c_Desk_enterVs l G tys qx qc qgs qo qr qhs qy sx sc sgs p1 p2
      rw [← esx_584, ← esgs_585] at hM
      refine ct_cVv (wr := [(qhs, .inr (0, f_Bank shs)), (qy, .inr (2, f_Hyper sy))]) (w1 := [(qx, .inr (5, f_Desk qc qo qr sx_584)), (qc, .inr (1, f_Controls qo qhs qgs qy sc)), (qgs, .inr (0, f_Bank sgs_585))]) (w2 := [(qx, .inr (5, f_Desk qc qo qr sx_584)), (qc, .inr (1, f_Controls qo qhs qgs qy sc)), (qhs, .inr (0, f_Bank shs)), (qgs, .inr (0, f_Bank sgs_585)), (qy, .inr (2, f_Hyper sy))]) (As := [.int p1, .int p2]) (rest := []) (ci := 5) (q0 := 0) ⟨hx, hb, hml, hown, hts⟩ hM (cwV 2 hts (gdV gd_gd q_517 q_519 q_16 q_41 q_520) rfl rfl rfl (by decide +kernel) ⟨Nat.le_of_ble_eq_true rfl, Nat.le_of_ble_eq_true rfl⟩) hE hK hP hD hS hA [0, 1, 3] [2, 4] [2, 3, 0, 4, 1] rfl (by decide) rfl (by decide) (by decide) rfl (by decide) rfl rfl rfl hl.1 rfl (Nat.le_of_ble_eq_true rfl) d_Desk_raise_27 ⟨Nat.zero_le _, Nat.zero_le _⟩ (fun H locs hP hD hS => ?_)
      have hk : k_Desk_raise sx sc shs sgs sy p1 p2 p3 p4 p5 = (sx_584, shs, sgs_585, sy) := (by rw [k_Desk_raise]; rw [if_neg c_582]; rw [if_neg c_583]; try rw [← esx_584]; try rw [← esgs_585]; try rfl)
      exact ct_rv hx hb hr hlocks hP hD hK hS d_Desk_raise_30 (by rw [hk]; first | done | rfl)
def k_Desk_doWord (sx : ob) (sc : ob) (so : ob) (sa : Nat → Int32) (shs : ob) (sgs : ob) (sy : ob) (sr : ob) (p1 : Int32) : Int32 × ob × ob × ob × (Nat → Int32) × ob × ob × ob × ob :=
  if (bI (so.2.2 5)) = 0 then (if ((k_Desk_perform sx sc so sa shs sgs sy sr p1).1) < 0 then (((k_Desk_perform sx sc so sa shs sgs sy sr p1).1), ((k_Desk_perform sx sc so sa shs sgs sy sr p1).2.1), ((k_Desk_perform sx sc so sa shs sgs sy sr p1).2.2.1), ((k_Desk_perform sx sc so sa shs sgs sy sr p1).2.2.2.1), ((k_Desk_perform sx sc so sa shs sgs sy sr p1).2.2.2.2.1), ((k_Desk_perform sx sc so sa shs sgs sy sr p1).2.2.2.2.2.1), ((k_Desk_perform sx sc so sa shs sgs sy sr p1).2.2.2.2.2.2.1), ((k_Desk_perform sx sc so sa shs sgs sy sr p1).2.2.2.2.2.2.2.1), ((k_Desk_perform sx sc so sa shs sgs sy sr p1).2.2.2.2.2.2.2.2)) else (((k_Desk_perform sx sc so sa shs sgs sy sr p1).1), ((k_Desk_raise ((k_Desk_perform sx sc so sa shs sgs sy sr p1).2.1) ((k_Desk_perform sx sc so sa shs sgs sy sr p1).2.2.1) ((k_Desk_perform sx sc so sa shs sgs sy sr p1).2.2.2.2.2.1) ((k_Desk_perform sx sc so sa shs sgs sy sr p1).2.2.2.2.2.2.1) ((k_Desk_perform sx sc so sa shs sgs sy sr p1).2.2.2.2.2.2.2.1) ((k_Desk_perform sx sc so sa shs sgs sy sr p1).1) (k_Desk_trapValue ((k_Desk_perform sx sc so sa shs sgs sy sr p1).2.1) ((k_Desk_perform sx sc so sa shs sgs sy sr p1).1) p1) false 0 0).1), ((k_Desk_perform sx sc so sa shs sgs sy sr p1).2.2.1), ((k_Desk_perform sx sc so sa shs sgs sy sr p1).2.2.2.1), ((k_Desk_perform sx sc so sa shs sgs sy sr p1).2.2.2.2.1), ((k_Desk_raise ((k_Desk_perform sx sc so sa shs sgs sy sr p1).2.1) ((k_Desk_perform sx sc so sa shs sgs sy sr p1).2.2.1) ((k_Desk_perform sx sc so sa shs sgs sy sr p1).2.2.2.2.2.1) ((k_Desk_perform sx sc so sa shs sgs sy sr p1).2.2.2.2.2.2.1) ((k_Desk_perform sx sc so sa shs sgs sy sr p1).2.2.2.2.2.2.2.1) ((k_Desk_perform sx sc so sa shs sgs sy sr p1).1) (k_Desk_trapValue ((k_Desk_perform sx sc so sa shs sgs sy sr p1).2.1) ((k_Desk_perform sx sc so sa shs sgs sy sr p1).1) p1) false 0 0).2.1), ((k_Desk_raise ((k_Desk_perform sx sc so sa shs sgs sy sr p1).2.1) ((k_Desk_perform sx sc so sa shs sgs sy sr p1).2.2.1) ((k_Desk_perform sx sc so sa shs sgs sy sr p1).2.2.2.2.2.1) ((k_Desk_perform sx sc so sa shs sgs sy sr p1).2.2.2.2.2.2.1) ((k_Desk_perform sx sc so sa shs sgs sy sr p1).2.2.2.2.2.2.2.1) ((k_Desk_perform sx sc so sa shs sgs sy sr p1).1) (k_Desk_trapValue ((k_Desk_perform sx sc so sa shs sgs sy sr p1).2.1) ((k_Desk_perform sx sc so sa shs sgs sy sr p1).1) p1) false 0 0).2.2.1), ((k_Desk_raise ((k_Desk_perform sx sc so sa shs sgs sy sr p1).2.1) ((k_Desk_perform sx sc so sa shs sgs sy sr p1).2.2.1) ((k_Desk_perform sx sc so sa shs sgs sy sr p1).2.2.2.2.2.1) ((k_Desk_perform sx sc so sa shs sgs sy sr p1).2.2.2.2.2.2.1) ((k_Desk_perform sx sc so sa shs sgs sy sr p1).2.2.2.2.2.2.2.1) ((k_Desk_perform sx sc so sa shs sgs sy sr p1).1) (k_Desk_trapValue ((k_Desk_perform sx sc so sa shs sgs sy sr p1).2.1) ((k_Desk_perform sx sc so sa shs sgs sy sr p1).1) p1) false 0 0).2.2.2), ((k_Desk_perform sx sc so sa shs sgs sy sr p1).2.2.2.2.2.2.2.2))) else ((-3), sx, sc, so, sa, shs, sgs, sy, sr)
set_option maxHeartbeats 4000000 in
set_option maxRecDepth 100000 in
theorem c_Desk_doWord (l : Launch) (G : gx) (tys : List (ClassId × FieldType)) {cA : ClassId} (ht : tys[0]? = some (cA, .byte)) (qx qc qo qa qhs qgs qy qr : Nat) (sx : ob) (sc : ob) (so : ob) (sa : Nat → Int32) (shs : ob) (sgs : ob) (sy : ob) (sr : ob) (p1 : Int32) (hp9 : ¬ so.1 1 < 0) : ct_I l y_Desk_doWord ws_Desk_doWord ({ frames := 7, cells := 0, slots := 0, locals := 156 }) G tys [.ref qx, .int p1] [(qx, .inr (5, f_Desk qc qo qr sx)), (qc, .inr (1, f_Controls qo qhs qgs qy sc)), (qo, .inr (3, f_Outside qa so)), (qa, .inl (cA, 256, .inl sa)), (qhs, .inr (0, f_Bank shs)), (qgs, .inr (0, f_Bank sgs)), (qy, .inr (2, f_Hyper sy)), (qr, .inr (4, f_Registers sr))] ((k_Desk_doWord sx sc so sa shs sgs sy sr p1).1) [(qx, .inr (5, f_Desk qc qo qr ((k_Desk_doWord sx sc so sa shs sgs sy sr p1).2.1))), (qc, .inr (1, f_Controls qo qhs qgs qy ((k_Desk_doWord sx sc so sa shs sgs sy sr p1).2.2.1))), (qo, .inr (3, f_Outside qa ((k_Desk_doWord sx sc so sa shs sgs sy sr p1).2.2.2.1))), (qa, .inl (cA, 256, .inl ((k_Desk_doWord sx sc so sa shs sgs sy sr p1).2.2.2.2.1))), (qhs, .inr (0, f_Bank ((k_Desk_doWord sx sc so sa shs sgs sy sr p1).2.2.2.2.2.1))), (qgs, .inr (0, f_Bank ((k_Desk_doWord sx sc so sa shs sgs sy sr p1).2.2.2.2.2.2.1))), (qy, .inr (2, f_Hyper ((k_Desk_doWord sx sc so sa shs sgs sy sr p1).2.2.2.2.2.2.2.1))), (qr, .inr (4, f_Registers ((k_Desk_doWord sx sc so sa shs sgs sy sr p1).2.2.2.2.2.2.2.2)))] := by
  refine ct_hI (cc := cc_Desk_doWord) (maxL := 3) (ret := (some .int)) (by decide) rfl (Nat.le_of_ble_eq_true rfl) ?_
  intro p e s m below meth c A ls hx hb hr hml hts hown hlocks hP hK hD hA hE hS hl
  have hl : lv_has ls 3 [(0, .ref qx), (1, .int p1)] := hl
  have hown : s.vm.findClass R_Desk = some m.cls := hown
  refine lv_aload_n hx hb d_Desk_doWord_0 rfl (lv_at hl 0 rfl) ?_
  refine va_get (D := G.1) (ci := 5) (v := .ref qo) (C := R_Desk) (T := T_Desk) (N := 8) hx hb hts (fun w h => gd_sub _ (iw_Desk w h)) hown hK hP 0 rfl rfl 1 (by decide) (hts _ (gd_sub _ q_206)) (fun _ h9 => h9) rfl d_Desk_doWord_1 ?_
  refine va_get (D := G.1) (ci := 3) (v := .int (bI (so.2.2 5))) (C := R_Outside) (T := T_Outside) (N := 6) hx hb hts (fun w h => gd_sub _ (iw_Outside w h)) hown hK hP 2 rfl rfl 5 (by decide) (hts _ (gd_sub _ q_82)) (fun _ h9 => h9) rfl d_Desk_doWord_4 ?_
  refine lv_if_eq (tgt := 13) hx hb d_Desk_doWord_7 (by decide) (fun c_590 => ?_) (fun c_590 => ?_)
  · refine lv_aload_n hx hb d_Desk_doWord_13 rfl (lv_at hl 0 rfl) ?_
    refine lv_iload_n hx hb d_Desk_doWord_14 rfl (lv_at hl 1 rfl) ?_
    obtain ⟨r_591, er_591⟩ : ∃ z, z = (k_Desk_perform sx sc so sa shs sgs sy sr p1).1 := ⟨_, rfl⟩
    obtain ⟨sx_592, esx_592⟩ : ∃ z, z = (k_Desk_perform sx sc so sa shs sgs sy sr p1).2.1 := ⟨_, rfl⟩
    obtain ⟨sc_593, esc_593⟩ : ∃ z, z = (k_Desk_perform sx sc so sa shs sgs sy sr p1).2.2.1 := ⟨_, rfl⟩
    obtain ⟨so_594, eso_594⟩ : ∃ z, z = (k_Desk_perform sx sc so sa shs sgs sy sr p1).2.2.2.1 := ⟨_, rfl⟩
    obtain ⟨sa_595, esa_595⟩ : ∃ z, z = (k_Desk_perform sx sc so sa shs sgs sy sr p1).2.2.2.2.1 := ⟨_, rfl⟩
    obtain ⟨shs_596, eshs_596⟩ : ∃ z, z = (k_Desk_perform sx sc so sa shs sgs sy sr p1).2.2.2.2.2.1 := ⟨_, rfl⟩
    obtain ⟨sgs_597, esgs_597⟩ : ∃ z, z = (k_Desk_perform sx sc so sa shs sgs sy sr p1).2.2.2.2.2.2.1 := ⟨_, rfl⟩
    obtain ⟨sy_598, esy_598⟩ : ∃ z, z = (k_Desk_perform sx sc so sa shs sgs sy sr p1).2.2.2.2.2.2.2.1 := ⟨_, rfl⟩
    obtain ⟨sr_599, esr_599⟩ : ∃ z, z = (k_Desk_perform sx sc so sa shs sgs sy sr p1).2.2.2.2.2.2.2.2 := ⟨_, rfl⟩
    have hM := c_Desk_perform l G tys ht qx qc qo qa qhs qgs qy qr sx sc so sa shs sgs sy sr p1 hp9
    rw [← er_591, ← esx_592, ← esc_593, ← eso_594, ← esa_595, ← eshs_596, ← esgs_597, ← esy_598, ← esr_599] at hM
    refine ct_cVi (wr := []) (w1 := [(qx, .inr (5, f_Desk qc qo qr sx_592)), (qc, .inr (1, f_Controls qo qhs qgs qy sc_593)), (qo, .inr (3, f_Outside qa so_594)), (qa, .inl (cA, 256, .inl sa_595)), (qhs, .inr (0, f_Bank shs_596)), (qgs, .inr (0, f_Bank sgs_597)), (qy, .inr (2, f_Hyper sy_598)), (qr, .inr (4, f_Registers sr_599))]) (w2 := [(qx, .inr (5, f_Desk qc qo qr sx_592)), (qc, .inr (1, f_Controls qo qhs qgs qy sc_593)), (qo, .inr (3, f_Outside qa so_594)), (qa, .inl (cA, 256, .inl sa_595)), (qhs, .inr (0, f_Bank shs_596)), (qgs, .inr (0, f_Bank sgs_597)), (qy, .inr (2, f_Hyper sy_598)), (qr, .inr (4, f_Registers sr_599))]) (r := r_591) (As := [.int p1]) (rest := []) (ci := 5) (q0 := 0) ⟨hx, hb, hml, hown, hts⟩ hM (cwV 1 hts (gdV gd_gd q_399 q_401 q_0 q_41 q_402) rfl rfl rfl (by decide +kernel) ⟨Nat.le_of_ble_eq_true rfl, Nat.le_of_ble_eq_true rfl⟩) hE hK hP hD hS hA [0, 1, 2, 3, 4, 5, 6, 7] [] [0, 1, 2, 3, 4, 5, 6, 7] rfl (by decide) rfl (by decide) (by decide) rfl (by decide) rfl rfl rfl hl.1 rfl (Nat.le_of_ble_eq_true rfl) d_Desk_doWord_15 ⟨Nat.zero_le _, Nat.zero_le _⟩ (fun H locs hP hD hS => ?_)
    refine lv_istore_n (lv' := [(2, .int r_591), (0, .ref qx), (1, .int p1)]) hx hb d_Desk_doWord_18 rfl hl (by decide) rfl (fun ls hl => ?_)
    refine lv_iload_n hx hb d_Desk_doWord_19 rfl (lv_at hl 0 rfl) ?_
    refine lv_if_lt (tgt := 37) hx hb d_Desk_doWord_20 (by decide) (fun c_600 => ?_) (fun c_600 => ?_)
    · refine lv_iload_n hx hb d_Desk_doWord_37 rfl (lv_at hl 0 rfl) ?_
      have hk : k_Desk_doWord sx sc so sa shs sgs sy sr p1 = (r_591, sx_592, sc_593, so_594, sa_595, shs_596, sgs_597, sy_598, sr_599) := (by rw [k_Desk_doWord]; rw [if_pos c_590]; try rw [← er_591]; try rw [← esx_592]; try rw [← esc_593]; try rw [← eso_594]; try rw [← esa_595]; try rw [← eshs_596]; try rw [← esgs_597]; try rw [← esy_598]; try rw [← esr_599]; rw [if_pos c_600]; try rfl)
      exact ct_ri hx hb hr hlocks hP hD hK hS d_Desk_doWord_38 (by rw [hk]; first | done | rfl) (by rw [hk]; first | done | rfl)
    · refine lv_aload_n hx hb d_Desk_doWord_23 rfl (lv_at hl 1 rfl) ?_
      refine lv_iload_n hx hb d_Desk_doWord_24 rfl (lv_at hl 0 rfl) ?_
      refine lv_aload_n hx hb d_Desk_doWord_25 rfl (lv_at hl 1 rfl) ?_
      refine lv_iload_n hx hb d_Desk_doWord_26 rfl (lv_at hl 0 rfl) ?_
      refine lv_iload_n hx hb d_Desk_doWord_27 rfl (lv_at hl 2 rfl) ?_
      refine ct_cVi (wr := [(qc, .inr (1, f_Controls qo qhs qgs qy sc_593)), (qo, .inr (3, f_Outside qa so_594)), (qa, .inl (cA, 256, .inl sa_595)), (qhs, .inr (0, f_Bank shs_596)), (qgs, .inr (0, f_Bank sgs_597)), (qy, .inr (2, f_Hyper sy_598)), (qr, .inr (4, f_Registers sr_599))]) (w1 := [(qx, .inr (5, f_Desk qc qo qr sx_592))]) (w2 := [(qx, .inr (5, f_Desk qc qo qr sx_592)), (qc, .inr (1, f_Controls qo qhs qgs qy sc_593)), (qo, .inr (3, f_Outside qa so_594)), (qa, .inl (cA, 256, .inl sa_595)), (qhs, .inr (0, f_Bank shs_596)), (qgs, .inr (0, f_Bank sgs_597)), (qy, .inr (2, f_Hyper sy_598)), (qr, .inr (4, f_Registers sr_599))]) (r := (k_Desk_trapValue sx_592 r_591 p1)) (As := [.int r_591, .int p1]) (rest := [.int r_591, .ref qx]) (ci := 5) (q0 := 0) ⟨hx, hb, hml, hown, hts⟩ (c_Desk_trapValue l G tys qx qc qo qr sx_592 r_591 p1) (cwV 2 hts (gdV gd_gd q_506 q_508 q_14 q_41 q_509) rfl rfl rfl (by decide +kernel) ⟨Nat.le_of_ble_eq_true rfl, Nat.le_of_ble_eq_true rfl⟩) hE hK hP hD hS hA [0] [1, 2, 3, 4, 5, 6, 7] [7, 0, 1, 2, 3, 4, 5, 6] rfl (by decide) rfl (by decide) (by decide) rfl (by decide) rfl rfl rfl hl.1 rfl (Nat.le_of_ble_eq_true rfl) d_Desk_doWord_28 ⟨Nat.zero_le _, Nat.zero_le _⟩ (fun H locs hP hD hS => ?_)
      refine lv_iconst (v := 0) hx hb d_Desk_doWord_31 (by decide) ?_
      refine lv_iconst (v := 0) hx hb d_Desk_doWord_32 (by decide) ?_
      refine lv_iconst (v := 0) hx hb d_Desk_doWord_33 (by decide) ?_
      obtain ⟨sx_601, esx_601⟩ : ∃ z, z = (k_Desk_raise sx_592 sc_593 shs_596 sgs_597 sy_598 r_591 (k_Desk_trapValue sx_592 r_591 p1) false 0 0).1 := ⟨_, rfl⟩
      obtain ⟨shs_602, eshs_602⟩ : ∃ z, z = (k_Desk_raise sx_592 sc_593 shs_596 sgs_597 sy_598 r_591 (k_Desk_trapValue sx_592 r_591 p1) false 0 0).2.1 := ⟨_, rfl⟩
      obtain ⟨sgs_603, esgs_603⟩ : ∃ z, z = (k_Desk_raise sx_592 sc_593 shs_596 sgs_597 sy_598 r_591 (k_Desk_trapValue sx_592 r_591 p1) false 0 0).2.2.1 := ⟨_, rfl⟩
      obtain ⟨sy_604, esy_604⟩ : ∃ z, z = (k_Desk_raise sx_592 sc_593 shs_596 sgs_597 sy_598 r_591 (k_Desk_trapValue sx_592 r_591 p1) false 0 0).2.2.2 := ⟨_, rfl⟩
      have hM := c_Desk_raise l G tys qx qc qhs qgs qy qo qr sx_592 sc_593 shs_596 sgs_597 sy_598 r_591 (k_Desk_trapValue sx_592 r_591 p1) false 0 0
      rw [← esx_601, ← eshs_602, ← esgs_603, ← esy_604] at hM
      refine ct_cVv (wr := [(qo, .inr (3, f_Outside qa so_594)), (qa, .inl (cA, 256, .inl sa_595)), (qr, .inr (4, f_Registers sr_599))]) (w1 := [(qx, .inr (5, f_Desk qc qo qr sx_601)), (qc, .inr (1, f_Controls qo qhs qgs qy sc_593)), (qhs, .inr (0, f_Bank shs_602)), (qgs, .inr (0, f_Bank sgs_603)), (qy, .inr (2, f_Hyper sy_604))]) (w2 := [(qx, .inr (5, f_Desk qc qo qr sx_601)), (qc, .inr (1, f_Controls qo qhs qgs qy sc_593)), (qo, .inr (3, f_Outside qa so_594)), (qa, .inl (cA, 256, .inl sa_595)), (qhs, .inr (0, f_Bank shs_602)), (qgs, .inr (0, f_Bank sgs_603)), (qy, .inr (2, f_Hyper sy_604)), (qr, .inr (4, f_Registers sr_599))]) (As := [.int r_591, .int (k_Desk_trapValue sx_592 r_591 p1), .int (bI false), .int 0, .int 0]) (rest := []) (ci := 5) (q0 := 0) ⟨hx, hb, hml, hown, hts⟩ hM (cwV 5 hts (gdV gd_gd q_510 q_512 q_15 q_41 q_513) rfl rfl rfl (by decide +kernel) ⟨Nat.le_of_ble_eq_true rfl, Nat.le_of_ble_eq_true rfl⟩) hE hK hP hD hS hA [0, 1, 4, 5, 6] [2, 3, 7] [3, 4, 0, 1, 5, 6, 7, 2] rfl (by decide) rfl (by decide) (by decide) rfl (by decide) rfl rfl rfl hl.1 rfl (Nat.le_of_ble_eq_true rfl) d_Desk_doWord_34 ⟨Nat.zero_le _, Nat.zero_le _⟩ (fun H locs hP hD hS => ?_)
      refine lv_iload_n hx hb d_Desk_doWord_37 rfl (lv_at hl 0 rfl) ?_
      have hk : k_Desk_doWord sx sc so sa shs sgs sy sr p1 = (r_591, sx_601, sc_593, so_594, sa_595, shs_602, sgs_603, sy_604, sr_599) := (by rw [k_Desk_doWord]; rw [if_pos c_590]; try rw [← er_591]; try rw [← esx_592]; try rw [← esc_593]; try rw [← eso_594]; try rw [← esa_595]; try rw [← eshs_596]; try rw [← esgs_597]; try rw [← esy_598]; try rw [← esr_599]; rw [if_neg c_600]; try rw [← esx_601]; try rw [← eshs_602]; try rw [← esgs_603]; try rw [← esy_604]; try rfl)
      exact ct_ri hx hb hr hlocks hP hD hK hS d_Desk_doWord_38 (by rw [hk]; first | done | rfl) (by rw [hk]; first | done | rfl)
  · refine lv_bipush (v := (-3)) hx hb d_Desk_doWord_10 (by decide) ?_
    have hk : k_Desk_doWord sx sc so sa shs sgs sy sr p1 = ((-3), sx, sc, so, sa, shs, sgs, sy, sr) := (by rw [k_Desk_doWord]; rw [if_neg c_590]; try rfl)
    exact ct_ri hx hb hr hlocks hP hD hK hS d_Desk_doWord_12 (by rw [hk]; first | done | rfl) (by rw [hk]; first | done | rfl)
def k_Desk_fail_j70 (sx : ob) (sc : ob) (so : ob) (shs : ob) (sgs : ob) (sy : ob) (p1 : Int32) (p2 : Int32) (p3 : Bool) (p4 : Int64) (p5 : Bool) (t0 : Int32) (t1 : Int32) : Int32 × ob × ob × ob × ob :=
  ((((k_Desk_raise sx sc shs sgs sy p1 p2 p3 t1 t0).1).1 3), ((k_Desk_raise sx sc shs sgs sy p1 p2 p3 t1 t0).1), ((k_Desk_raise sx sc shs sgs sy p1 p2 p3 t1 t0).2.1), ((k_Desk_raise sx sc shs sgs sy p1 p2 p3 t1 t0).2.2.1), ((k_Desk_raise sx sc shs sgs sy p1 p2 p3 t1 t0).2.2.2))
def k_Desk_fail (sx : ob) (sc : ob) (so : ob) (shs : ob) (sgs : ob) (sy : ob) (p1 : Int32) (p2 : Int32) (p3 : Bool) (p4 : Int64) (p5 : Bool) : Int32 × ob × ob × ob × ob :=
  if (bI (k_Desk_isIn 11579635 p1)) = 0 then ((-1), sx, shs, sgs, sy) else (if (lg_cmp p4 0) < 0 then ((-1), sx, shs, sgs, sy) else (if (lg_cmp p4 17179869184) < 0 then (if (bI (so.2.2 5)) = 0 then (if (bI (k_Desk_isIn 11534336 p1)) = 0 then ((((k_Desk_raise sx sc shs sgs sy p1 p2 p3 0 0).1).1 3), ((k_Desk_raise sx sc shs sgs sy p1 p2 p3 0 0).1), ((k_Desk_raise sx sc shs sgs sy p1 p2 p3 0 0).2.1), ((k_Desk_raise sx sc shs sgs sy p1 p2 p3 0 0).2.2.1), ((k_Desk_raise sx sc shs sgs sy p1 p2 p3 0 0).2.2.2)) else (if (bI p5) = 0 then (k_Desk_fail_j70 sx sc so shs sgs sy p1 p2 p3 p4 p5 0 ((lush p4 2).toInt32)) else (k_Desk_fail_j70 sx sc so shs sgs sy p1 p2 p3 p4 p5 8192 ((lush p4 2).toInt32)))) else ((-3), sx, shs, sgs, sy)) else ((-1), sx, shs, sgs, sy)))
set_option maxHeartbeats 4000000 in
set_option maxRecDepth 100000 in
theorem c_Desk_fail (l : Launch) (G : gx) (tys : List (ClassId × FieldType)) (qx qc qo qhs qgs qy qr qa : Nat) (sx : ob) (sc : ob) (so : ob) (shs : ob) (sgs : ob) (sy : ob) (p1 : Int32) (p2 : Int32) (p3 : Bool) (p4 : Int64) (p5 : Bool) : ct_I l y_Desk_fail ws_Desk_fail ({ frames := 4, cells := 0, slots := 0, locals := 100 }) G tys [.ref qx, .int p1, .int p2, .int (bI p3), .long p4, .int (bI p5)] [(qx, .inr (5, f_Desk qc qo qr sx)), (qc, .inr (1, f_Controls qo qhs qgs qy sc)), (qo, .inr (3, f_Outside qa so)), (qhs, .inr (0, f_Bank shs)), (qgs, .inr (0, f_Bank sgs)), (qy, .inr (2, f_Hyper sy))] ((k_Desk_fail sx sc so shs sgs sy p1 p2 p3 p4 p5).1) [(qx, .inr (5, f_Desk qc qo qr ((k_Desk_fail sx sc so shs sgs sy p1 p2 p3 p4 p5).2.1))), (qc, .inr (1, f_Controls qo qhs qgs qy sc)), (qo, .inr (3, f_Outside qa so)), (qhs, .inr (0, f_Bank ((k_Desk_fail sx sc so shs sgs sy p1 p2 p3 p4 p5).2.2.1))), (qgs, .inr (0, f_Bank ((k_Desk_fail sx sc so shs sgs sy p1 p2 p3 p4 p5).2.2.2.1))), (qy, .inr (2, f_Hyper ((k_Desk_fail sx sc so shs sgs sy p1 p2 p3 p4 p5).2.2.2.2)))] := by
  refine ct_hI (cc := cc_Desk_fail) (maxL := 7) (ret := (some .int)) (by decide) rfl (Nat.le_of_ble_eq_true rfl) ?_
  intro p e s m below meth c A ls hx hb hr hml hts hown hlocks hP hK hD hA hE hS hl
  have hl : lv_has ls 7 [(0, .ref qx), (1, .int p1), (2, .int p2), (3, .int (bI p3)), (4, .long p4), (6, .int (bI p5))] := hl
  have hown : s.vm.findClass R_Desk = some m.cls := hown
  have J70 : ∀ (t0 : Int32) (t1 : Int32) (H : Heap) (locs : List Loc) (ls : Array Slot), k_Desk_fail sx sc so shs sgs sy p1 p2 p3 p4 p5 = k_Desk_fail_j70 sx sc so shs sgs sy p1 p2 p3 p4 p5 t0 t1 → va_P G.1 vwCl [(qx, .inr (5, f_Desk qc qo qr sx)), (qc, .inr (1, f_Controls qo qhs qgs qy sc)), (qo, .inr (3, f_Outside qa so)), (qhs, .inr (0, f_Bank shs)), (qgs, .inr (0, f_Bank sgs)), (qy, .inr (2, f_Hyper sy))] H → va_D A [(qx, .inr (5, f_Desk qc qo qr sx)), (qc, .inr (1, f_Controls qo qhs qgs qy sc)), (qo, .inr (3, f_Outside qa so)), (qhs, .inr (0, f_Bank shs)), (qgs, .inr (0, f_Bank sgs)), (qy, .inr (2, f_Hyper sy))] → va_S A s.heap H locs → lv_has ls 7 [(0, .ref qx), (1, .int p1), (2, .int p2), (3, .int (bI p3)), (4, .long p4), (6, .int (bI p5))] → W p l e ({ frames := 4, cells := 0, slots := 0, locals := 100 }) s m ([.ref qx, .int p1, .int p2, .int (bI p3), .long p4, .int (bI p5)] : List Value).toArray below meth c H locs 0 0 (MQ below (ct_qi G tys A ((k_Desk_fail sx sc so shs sgs sy p1 p2 p3 p4 p5).1) [(qx, .inr (5, f_Desk qc qo qr ((k_Desk_fail sx sc so shs sgs sy p1 p2 p3 p4 p5).2.1))), (qc, .inr (1, f_Controls qo qhs qgs qy sc)), (qo, .inr (3, f_Outside qa so)), (qhs, .inr (0, f_Bank ((k_Desk_fail sx sc so shs sgs sy p1 p2 p3 p4 p5).2.2.1))), (qgs, .inr (0, f_Bank ((k_Desk_fail sx sc so shs sgs sy p1 p2 p3 p4 p5).2.2.2.1))), (qy, .inr (2, f_Hyper ((k_Desk_fail sx sc so shs sgs sy p1 p2 p3 p4 p5).2.2.2.2)))]) ([.ref qx, .int p1, .int p2, .int (bI p3), .long p4, .int (bI p5)] : List Value).toArray s 0 0 A) (F0 m 70 ls [.int t0, .int t1, .int (bI p3), .int p2, .int p1, .ref qx]) := by
    intro t0 t1 H locs ls hj hP hD hS hl
    obtain ⟨sx_619, esx_619⟩ : ∃ z, z = (k_Desk_raise sx sc shs sgs sy p1 p2 p3 t1 t0).1 := ⟨_, rfl⟩
    obtain ⟨shs_620, eshs_620⟩ : ∃ z, z = (k_Desk_raise sx sc shs sgs sy p1 p2 p3 t1 t0).2.1 := ⟨_, rfl⟩
    obtain ⟨sgs_621, esgs_621⟩ : ∃ z, z = (k_Desk_raise sx sc shs sgs sy p1 p2 p3 t1 t0).2.2.1 := ⟨_, rfl⟩
    obtain ⟨sy_622, esy_622⟩ : ∃ z, z = (k_Desk_raise sx sc shs sgs sy p1 p2 p3 t1 t0).2.2.2 := ⟨_, rfl⟩
    have hM := c_Desk_raise l G tys qx qc qhs qgs qy qo qr sx sc shs sgs sy p1 p2 p3 t1 t0
    rw [← esx_619, ← eshs_620, ← esgs_621, ← esy_622] at hM
    refine ct_cVv (wr := [(qo, .inr (3, f_Outside qa so))]) (w1 := [(qx, .inr (5, f_Desk qc qo qr sx_619)), (qc, .inr (1, f_Controls qo qhs qgs qy sc)), (qhs, .inr (0, f_Bank shs_620)), (qgs, .inr (0, f_Bank sgs_621)), (qy, .inr (2, f_Hyper sy_622))]) (w2 := [(qx, .inr (5, f_Desk qc qo qr sx_619)), (qc, .inr (1, f_Controls qo qhs qgs qy sc)), (qo, .inr (3, f_Outside qa so)), (qhs, .inr (0, f_Bank shs_620)), (qgs, .inr (0, f_Bank sgs_621)), (qy, .inr (2, f_Hyper sy_622))]) (As := [.int p1, .int p2, .int (bI p3), .int t1, .int t0]) (rest := []) (ci := 5) (q0 := 0) ⟨hx, hb, hml, hown, hts⟩ hM (cwV 5 hts (gdV gd_gd q_510 q_512 q_15 q_41 q_513) rfl rfl rfl (by decide +kernel) ⟨Nat.le_of_ble_eq_true rfl, Nat.le_of_ble_eq_true rfl⟩) hE hK hP hD hS hA [0, 1, 3, 4, 5] [2] [1, 2, 0, 3, 4, 5] rfl (by decide) rfl (by decide) (by decide) rfl (by decide) rfl rfl rfl hl.1 rfl (Nat.le_of_ble_eq_true rfl) d_Desk_fail_70 ⟨Nat.zero_le _, Nat.zero_le _⟩ (fun H locs hP hD hS => ?_)
    refine lv_goto (tgt := 85) hx hb d_Desk_fail_73 (by decide) ?_
    refine lv_aload_n hx hb d_Desk_fail_85 rfl (lv_at hl 0 rfl) ?_
    refine va_get (D := G.1) (ci := 5) (v := .int (sx_619.1 3)) (C := R_Desk) (T := T_Desk) (N := 8) hx hb hts (fun w h => gd_sub _ (iw_Desk w h)) hown hK hP 0 rfl rfl 3 (by decide) (hts _ (gd_sub _ q_208)) (fun _ h9 => h9) rfl d_Desk_fail_86 ?_
    have hk : k_Desk_fail sx sc so shs sgs sy p1 p2 p3 p4 p5 = ((sx_619.1 3), sx_619, shs_620, sgs_621, sy_622) := (hj.trans (by rw [k_Desk_fail_j70]; try rw [← esx_619]; try rw [← eshs_620]; try rw [← esgs_621]; try rw [← esy_622]; try rfl))
    exact ct_ri hx hb hr hlocks hP hD hK hS d_Desk_fail_89 (by rw [hk]; first | done | rfl) (by rw [hk]; first | done | rfl)
  obtain ⟨H, eH⟩ : ∃ z, z = s.heap := ⟨_, rfl⟩
  obtain ⟨locs, eL⟩ : ∃ z, z = ([] : List Loc) := ⟨_, rfl⟩
  have hP : va_P G.1 vwCl [(qx, .inr (5, f_Desk qc qo qr sx)), (qc, .inr (1, f_Controls qo qhs qgs qy sc)), (qo, .inr (3, f_Outside qa so)), (qhs, .inr (0, f_Bank shs)), (qgs, .inr (0, f_Bank sgs)), (qy, .inr (2, f_Hyper sy))] H := by rw [eH]; exact hP
  have hS : va_S A s.heap H locs := by rw [eH, eL]; exact hS
  suffices hW : W p l e ({ frames := 4, cells := 0, slots := 0, locals := 100 }) s m ([.ref qx, .int p1, .int p2, .int (bI p3), .long p4, .int (bI p5)] : List Value).toArray below meth c H locs 0 0 (MQ below (ct_qi G tys A ((k_Desk_fail sx sc so shs sgs sy p1 p2 p3 p4 p5).1) [(qx, .inr (5, f_Desk qc qo qr ((k_Desk_fail sx sc so shs sgs sy p1 p2 p3 p4 p5).2.1))), (qc, .inr (1, f_Controls qo qhs qgs qy sc)), (qo, .inr (3, f_Outside qa so)), (qhs, .inr (0, f_Bank ((k_Desk_fail sx sc so shs sgs sy p1 p2 p3 p4 p5).2.2.1))), (qgs, .inr (0, f_Bank ((k_Desk_fail sx sc so shs sgs sy p1 p2 p3 p4 p5).2.2.2.1))), (qy, .inr (2, f_Hyper ((k_Desk_fail sx sc so shs sgs sy p1 p2 p3 p4 p5).2.2.2.2)))]) ([.ref qx, .int p1, .int p2, .int (bI p3), .long p4, .int (bI p5)] : List Value).toArray s 0 0 A) (F0 m 0 ls []) by rw [eH, eL] at hW; exact hW
  refine lv_ldc (v := 11579635) hx hb hown (hts _ (gd_sub _ q_552)) d_Desk_fail_0 ?_
  refine lv_iload_n hx hb d_Desk_fail_2 rfl (lv_at hl 1 rfl) ?_
  refine ct_cSi (wr := [(qx, .inr (5, f_Desk qc qo qr sx)), (qc, .inr (1, f_Controls qo qhs qgs qy sc)), (qo, .inr (3, f_Outside qa so)), (qhs, .inr (0, f_Bank shs)), (qgs, .inr (0, f_Bank sgs)), (qy, .inr (2, f_Hyper sy))]) (w1 := []) (w2 := [(qx, .inr (5, f_Desk qc qo qr sx)), (qc, .inr (1, f_Controls qo qhs qgs qy sc)), (qo, .inr (3, f_Outside qa so)), (qhs, .inr (0, f_Bank shs)), (qgs, .inr (0, f_Bank sgs)), (qy, .inr (2, f_Hyper sy))]) (r := (bI (k_Desk_isIn 11579635 p1))) (As := [.int 11579635, .int p1]) (rest := []) ⟨hx, hb, hml, hown, hts⟩ (c_Desk_isIn l G tys 11579635 p1) (va_cwS 2 hts (gdS gd_gd q_514 q_515 q_41 q_516) rfl rfl rfl (by decide +kernel) ⟨Nat.le_of_ble_eq_true rfl, Nat.le_of_ble_eq_true rfl⟩) hE hK hP hD hS hA [] [0, 1, 2, 3, 4, 5] [0, 1, 2, 3, 4, 5] rfl (by decide) rfl (by decide) (by decide) rfl (by decide) rfl hl.1 rfl (Nat.le_of_ble_eq_true rfl) d_Desk_fail_3 ⟨Nat.zero_le _, Nat.zero_le _⟩ (fun H locs hP hD hS => ?_)
  refine lv_if_eq (tgt := 25) hx hb d_Desk_fail_6 (by decide) (fun c_623 => ?_) (fun c_623 => ?_)
  · refine lv_iconst (v := (-1)) hx hb d_Desk_fail_25 (by decide) ?_
    have hk : k_Desk_fail sx sc so shs sgs sy p1 p2 p3 p4 p5 = ((-1), sx, shs, sgs, sy) := (by rw [k_Desk_fail]; rw [if_pos c_623]; try rfl)
    exact ct_ri hx hb hr hlocks hP hD hK hS d_Desk_fail_26 (by rw [hk]; first | done | rfl) (by rw [hk]; first | done | rfl)
  · refine lv_lload hx hb d_Desk_fail_9 (lv_at hl 4 rfl) ?_
    refine lv_lconst (v := 0) hx hb d_Desk_fail_11 (by decide) ?_
    refine W.lcmp hx hb d_Desk_fail_12 ?_
    refine lv_if_lt (tgt := 25) hx hb d_Desk_fail_13 (by decide) (fun c_624 => ?_) (fun c_624 => ?_)
    · refine lv_iconst (v := (-1)) hx hb d_Desk_fail_25 (by decide) ?_
      have hk : k_Desk_fail sx sc so shs sgs sy p1 p2 p3 p4 p5 = ((-1), sx, shs, sgs, sy) := (by rw [k_Desk_fail]; rw [if_neg c_623]; rw [if_pos c_624]; try rfl)
      exact ct_ri hx hb hr hlocks hP hD hK hS d_Desk_fail_26 (by rw [hk]; first | done | rfl) (by rw [hk]; first | done | rfl)
    · refine lv_lload hx hb d_Desk_fail_16 (lv_at hl 4 rfl) ?_
      refine lv_ldc2 (v := 17179869184) hx hb hown (hts _ (gd_sub _ q_553)) d_Desk_fail_18 ?_
      refine W.lcmp hx hb d_Desk_fail_21 ?_
      refine lv_if_lt (tgt := 27) hx hb d_Desk_fail_22 (by decide) (fun c_625 => ?_) (fun c_625 => ?_)
      · refine lv_aload_n hx hb d_Desk_fail_27 rfl (lv_at hl 0 rfl) ?_
        refine va_get (D := G.1) (ci := 5) (v := .ref qo) (C := R_Desk) (T := T_Desk) (N := 8) hx hb hts (fun w h => gd_sub _ (iw_Desk w h)) hown hK hP 0 rfl rfl 1 (by decide) (hts _ (gd_sub _ q_206)) (fun _ h9 => h9) rfl d_Desk_fail_28 ?_
        refine va_get (D := G.1) (ci := 3) (v := .int (bI (so.2.2 5))) (C := R_Outside) (T := T_Outside) (N := 6) hx hb hts (fun w h => gd_sub _ (iw_Outside w h)) hown hK hP 2 rfl rfl 5 (by decide) (hts _ (gd_sub _ q_82)) (fun _ h9 => h9) rfl d_Desk_fail_31 ?_
        refine lv_if_eq (tgt := 40) hx hb d_Desk_fail_34 (by decide) (fun c_626 => ?_) (fun c_626 => ?_)
        · refine lv_ldc (v := 11534336) hx hb hown (hts _ (gd_sub _ q_554)) d_Desk_fail_40 ?_
          refine lv_iload_n hx hb d_Desk_fail_42 rfl (lv_at hl 1 rfl) ?_
          refine ct_cSi (wr := [(qx, .inr (5, f_Desk qc qo qr sx)), (qc, .inr (1, f_Controls qo qhs qgs qy sc)), (qo, .inr (3, f_Outside qa so)), (qhs, .inr (0, f_Bank shs)), (qgs, .inr (0, f_Bank sgs)), (qy, .inr (2, f_Hyper sy))]) (w1 := []) (w2 := [(qx, .inr (5, f_Desk qc qo qr sx)), (qc, .inr (1, f_Controls qo qhs qgs qy sc)), (qo, .inr (3, f_Outside qa so)), (qhs, .inr (0, f_Bank shs)), (qgs, .inr (0, f_Bank sgs)), (qy, .inr (2, f_Hyper sy))]) (r := (bI (k_Desk_isIn 11534336 p1))) (As := [.int 11534336, .int p1]) (rest := []) ⟨hx, hb, hml, hown, hts⟩ (c_Desk_isIn l G tys 11534336 p1) (va_cwS 2 hts (gdS gd_gd q_514 q_515 q_41 q_516) rfl rfl rfl (by decide +kernel) ⟨Nat.le_of_ble_eq_true rfl, Nat.le_of_ble_eq_true rfl⟩) hE hK hP hD hS hA [] [0, 1, 2, 3, 4, 5] [0, 1, 2, 3, 4, 5] rfl (by decide) rfl (by decide) (by decide) rfl (by decide) rfl hl.1 rfl (Nat.le_of_ble_eq_true rfl) d_Desk_fail_43 ⟨Nat.zero_le _, Nat.zero_le _⟩ (fun H locs hP hD hS => ?_)
          refine lv_if_eq (tgt := 76) hx hb d_Desk_fail_46 (by decide) (fun c_627 => ?_) (fun c_627 => ?_)
          · refine lv_aload_n hx hb d_Desk_fail_76 rfl (lv_at hl 0 rfl) ?_
            refine lv_iload_n hx hb d_Desk_fail_77 rfl (lv_at hl 1 rfl) ?_
            refine lv_iload_n hx hb d_Desk_fail_78 rfl (lv_at hl 2 rfl) ?_
            refine lv_iload_n hx hb d_Desk_fail_79 rfl (lv_at hl 3 rfl) ?_
            refine lv_iconst (v := 0) hx hb d_Desk_fail_80 (by decide) ?_
            refine lv_iconst (v := 0) hx hb d_Desk_fail_81 (by decide) ?_
            obtain ⟨sx_628, esx_628⟩ : ∃ z, z = (k_Desk_raise sx sc shs sgs sy p1 p2 p3 0 0).1 := ⟨_, rfl⟩
            obtain ⟨shs_629, eshs_629⟩ : ∃ z, z = (k_Desk_raise sx sc shs sgs sy p1 p2 p3 0 0).2.1 := ⟨_, rfl⟩
            obtain ⟨sgs_630, esgs_630⟩ : ∃ z, z = (k_Desk_raise sx sc shs sgs sy p1 p2 p3 0 0).2.2.1 := ⟨_, rfl⟩
            obtain ⟨sy_631, esy_631⟩ : ∃ z, z = (k_Desk_raise sx sc shs sgs sy p1 p2 p3 0 0).2.2.2 := ⟨_, rfl⟩
            have hM := c_Desk_raise l G tys qx qc qhs qgs qy qo qr sx sc shs sgs sy p1 p2 p3 0 0
            rw [← esx_628, ← eshs_629, ← esgs_630, ← esy_631] at hM
            refine ct_cVv (wr := [(qo, .inr (3, f_Outside qa so))]) (w1 := [(qx, .inr (5, f_Desk qc qo qr sx_628)), (qc, .inr (1, f_Controls qo qhs qgs qy sc)), (qhs, .inr (0, f_Bank shs_629)), (qgs, .inr (0, f_Bank sgs_630)), (qy, .inr (2, f_Hyper sy_631))]) (w2 := [(qx, .inr (5, f_Desk qc qo qr sx_628)), (qc, .inr (1, f_Controls qo qhs qgs qy sc)), (qo, .inr (3, f_Outside qa so)), (qhs, .inr (0, f_Bank shs_629)), (qgs, .inr (0, f_Bank sgs_630)), (qy, .inr (2, f_Hyper sy_631))]) (As := [.int p1, .int p2, .int (bI p3), .int 0, .int 0]) (rest := []) (ci := 5) (q0 := 0) ⟨hx, hb, hml, hown, hts⟩ hM (cwV 5 hts (gdV gd_gd q_510 q_512 q_15 q_41 q_513) rfl rfl rfl (by decide +kernel) ⟨Nat.le_of_ble_eq_true rfl, Nat.le_of_ble_eq_true rfl⟩) hE hK hP hD hS hA [0, 1, 3, 4, 5] [2] [1, 2, 0, 3, 4, 5] rfl (by decide) rfl (by decide) (by decide) rfl (by decide) rfl rfl rfl hl.1 rfl (Nat.le_of_ble_eq_true rfl) d_Desk_fail_82 ⟨Nat.zero_le _, Nat.zero_le _⟩ (fun H locs hP hD hS => ?_)
            refine lv_aload_n hx hb d_Desk_fail_85 rfl (lv_at hl 0 rfl) ?_
            refine va_get (D := G.1) (ci := 5) (v := .int (sx_628.1 3)) (C := R_Desk) (T := T_Desk) (N := 8) hx hb hts (fun w h => gd_sub _ (iw_Desk w h)) hown hK hP 0 rfl rfl 3 (by decide) (hts _ (gd_sub _ q_208)) (fun _ h9 => h9) rfl d_Desk_fail_86 ?_
            have hk : k_Desk_fail sx sc so shs sgs sy p1 p2 p3 p4 p5 = ((sx_628.1 3), sx_628, shs_629, sgs_630, sy_631) := (by rw [k_Desk_fail]; rw [if_neg c_623]; rw [if_neg c_624]; rw [if_pos c_625]; rw [if_pos c_626]; rw [if_pos c_627]; try rw [← esx_628]; try rw [← eshs_629]; try rw [← esgs_630]; try rw [← esy_631]; try rfl)
            exact ct_ri hx hb hr hlocks hP hD hK hS d_Desk_fail_89 (by rw [hk]; first | done | rfl) (by rw [hk]; first | done | rfl)
          · refine lv_aload_n hx hb d_Desk_fail_49 rfl (lv_at hl 0 rfl) ?_
            refine lv_iload_n hx hb d_Desk_fail_50 rfl (lv_at hl 1 rfl) ?_
            refine lv_iload_n hx hb d_Desk_fail_51 rfl (lv_at hl 2 rfl) ?_
            refine lv_iload_n hx hb d_Desk_fail_52 rfl (lv_at hl 3 rfl) ?_
            refine lv_lload hx hb d_Desk_fail_53 (lv_at hl 4 rfl) ?_
            refine lv_iconst (v := 2) hx hb d_Desk_fail_55 (by decide) ?_
            refine lv_lushr (v := (lush p4 2)) hx hb d_Desk_fail_56 rfl ?_
            refine lv_l2i (v := (lush p4 2).toInt32) hx hb d_Desk_fail_57 rfl ?_
            refine lv_iload hx hb d_Desk_fail_58 (lv_at hl 5 rfl) ?_
            refine lv_if_eq (tgt := 69) hx hb d_Desk_fail_60 (by decide) (fun c_632 => ?_) (fun c_632 => ?_)
            · refine lv_iconst (v := 0) hx hb d_Desk_fail_69 (by decide) ?_
              exact J70 0 ((lush p4 2).toInt32) H locs ls (by rw [k_Desk_fail]; rw [if_neg c_623]; rw [if_neg c_624]; rw [if_pos c_625]; rw [if_pos c_626]; rw [if_neg c_627]; rw [if_pos c_632]; try rfl) hP hD hS (lv_sub hl [0, 1, 2, 3, 4, 5] rfl)
            · refine lv_sipush (v := 8192) hx hb d_Desk_fail_63 (by decide) ?_
              refine lv_goto (tgt := 70) hx hb d_Desk_fail_66 (by decide) ?_
              exact J70 8192 ((lush p4 2).toInt32) H locs ls (by rw [k_Desk_fail]; rw [if_neg c_623]; rw [if_neg c_624]; rw [if_pos c_625]; rw [if_pos c_626]; rw [if_neg c_627]; rw [if_neg c_632]; try rfl) hP hD hS (lv_sub hl [0, 1, 2, 3, 4, 5] rfl)
        · refine lv_bipush (v := (-3)) hx hb d_Desk_fail_37 (by decide) ?_
          have hk : k_Desk_fail sx sc so shs sgs sy p1 p2 p3 p4 p5 = ((-3), sx, shs, sgs, sy) := (by rw [k_Desk_fail]; rw [if_neg c_623]; rw [if_neg c_624]; rw [if_pos c_625]; rw [if_neg c_626]; try rfl)
          exact ct_ri hx hb hr hlocks hP hD hK hS d_Desk_fail_39 (by rw [hk]; first | done | rfl) (by rw [hk]; first | done | rfl)
      · refine lv_iconst (v := (-1)) hx hb d_Desk_fail_25 (by decide) ?_
        have hk : k_Desk_fail sx sc so shs sgs sy p1 p2 p3 p4 p5 = ((-1), sx, shs, sgs, sy) := (by rw [k_Desk_fail]; rw [if_neg c_623]; rw [if_neg c_624]; rw [if_neg c_625]; try rfl)
        exact ct_ri hx hb hr hlocks hP hD hK hS d_Desk_fail_26 (by rw [hk]; first | done | rfl) (by rw [hk]; first | done | rfl)
end
section
def k_Controls_waitingForS (sc : ob) (so : ob) (sy : ob) : Int32 :=
  (((k_Controls_hostIp sc so) &&& (sc.1 4)) ||| (((sy.1 5) &&& (sy.1 3)) &&& ((sy.1 2) ^^^ (-1))))
set_option maxHeartbeats 4000000 in
set_option maxRecDepth 100000 in
theorem c_Controls_waitingForS (l : Launch) (G : gx) (tys : List (ClassId × FieldType)) (qc qo qy qhs qgs qa : Nat) (sc : ob) (so : ob) (sy : ob) : ct_I l y_Controls_waitingForS ws_Controls_waitingForS ({ frames := 2, cells := 0, slots := 0, locals := 42 }) G tys [.ref qc] [(qc, .inr (1, f_Controls qo qhs qgs qy sc)), (qo, .inr (3, f_Outside qa so)), (qy, .inr (2, f_Hyper sy))] (k_Controls_waitingForS sc so sy) [(qc, .inr (1, f_Controls qo qhs qgs qy sc)), (qo, .inr (3, f_Outside qa so)), (qy, .inr (2, f_Hyper sy))] := by
  refine ct_hI (cc := cc_Controls_waitingForS) (maxL := 1) (ret := (some .int)) (by decide) rfl (Nat.le_of_ble_eq_true rfl) ?_
  intro p e s m below meth c A ls hx hb hr hml hts hown hlocks hP hK hD hA hE hS hl
  have hl : lv_has ls 1 [(0, .ref qc)] := hl
  have hown : s.vm.findClass R_Controls = some m.cls := hown
  refine lv_aload_n hx hb d_Controls_waitingForS_0 rfl (lv_at hl 0 rfl) ?_
  refine ct_cVi (wr := [(qy, .inr (2, f_Hyper sy))]) (w1 := [(qc, .inr (1, f_Controls qo qhs qgs qy sc)), (qo, .inr (3, f_Outside qa so))]) (w2 := [(qc, .inr (1, f_Controls qo qhs qgs qy sc)), (qo, .inr (3, f_Outside qa so)), (qy, .inr (2, f_Hyper sy))]) (r := (k_Controls_hostIp sc so)) (As := []) (rest := []) (ci := 1) (q0 := 0) ⟨hx, hb, hml, hown, hts⟩ (c_Controls_hostIp l G tys qc qo qhs qgs qy qa sc so) (cwV 0 hts (gdV gd_gd q_342 q_343 q_344 q_42 q_345) rfl rfl rfl (by decide +kernel) ⟨Nat.le_of_ble_eq_true rfl, Nat.le_of_ble_eq_true rfl⟩) hE hK hP hD hS hA [0, 1] [2] [1, 2, 0] rfl (by decide) rfl (by decide) (by decide) rfl (by decide) rfl rfl rfl hl.1 rfl (Nat.le_of_ble_eq_true rfl) d_Controls_waitingForS_1 ⟨Nat.zero_le _, Nat.zero_le _⟩ (fun H locs hP hD hS => ?_)
  refine lv_aload_n hx hb d_Controls_waitingForS_4 rfl (lv_at hl 0 rfl) ?_
  refine va_get (D := G.1) (ci := 1) (v := .int (sc.1 4)) (C := R_Controls) (T := T_Controls) (N := 6) hx hb hts (fun w h => gd_sub _ (iw_Controls w h)) hown hK hP 0 rfl rfl 4 (by decide) (hts _ (gd_sub _ q_171)) (fun _ h9 => h9) rfl d_Controls_waitingForS_5 ?_
  refine lv_iand hx hb d_Controls_waitingForS_8 ?_
  refine lv_aload_n hx hb d_Controls_waitingForS_9 rfl (lv_at hl 0 rfl) ?_
  refine va_get (D := G.1) (ci := 1) (v := .ref qy) (C := R_Controls) (T := T_Controls) (N := 6) hx hb hts (fun w h => gd_sub _ (iw_Controls w h)) hown hK hP 0 rfl rfl 3 (by decide) (hts _ (gd_sub _ q_169)) (fun _ h9 => h9) rfl d_Controls_waitingForS_10 ?_
  refine va_get (D := G.1) (ci := 2) (v := .int (sy.1 5)) (C := R_Hyper) (T := T_Hyper) (N := 8) hx hb hts (fun w h => gd_sub _ (iw_Hyper w h)) hown hK hP 2 rfl rfl 5 (by decide) (hts _ (gd_sub _ q_142)) (fun _ h9 => h9) rfl d_Controls_waitingForS_13 ?_
  refine lv_aload_n hx hb d_Controls_waitingForS_16 rfl (lv_at hl 0 rfl) ?_
  refine va_get (D := G.1) (ci := 1) (v := .ref qy) (C := R_Controls) (T := T_Controls) (N := 6) hx hb hts (fun w h => gd_sub _ (iw_Controls w h)) hown hK hP 0 rfl rfl 3 (by decide) (hts _ (gd_sub _ q_169)) (fun _ h9 => h9) rfl d_Controls_waitingForS_17 ?_
  refine va_get (D := G.1) (ci := 2) (v := .int (sy.1 3)) (C := R_Hyper) (T := T_Hyper) (N := 8) hx hb hts (fun w h => gd_sub _ (iw_Hyper w h)) hown hK hP 2 rfl rfl 3 (by decide) (hts _ (gd_sub _ q_138)) (fun _ h9 => h9) rfl d_Controls_waitingForS_20 ?_
  refine lv_iand hx hb d_Controls_waitingForS_23 ?_
  refine lv_aload_n hx hb d_Controls_waitingForS_24 rfl (lv_at hl 0 rfl) ?_
  refine va_get (D := G.1) (ci := 1) (v := .ref qy) (C := R_Controls) (T := T_Controls) (N := 6) hx hb hts (fun w h => gd_sub _ (iw_Controls w h)) hown hK hP 0 rfl rfl 3 (by decide) (hts _ (gd_sub _ q_169)) (fun _ h9 => h9) rfl d_Controls_waitingForS_25 ?_
  refine va_get (D := G.1) (ci := 2) (v := .int (sy.1 2)) (C := R_Hyper) (T := T_Hyper) (N := 8) hx hb hts (fun w h => gd_sub _ (iw_Hyper w h)) hown hK hP 2 rfl rfl 2 (by decide) (hts _ (gd_sub _ q_136)) (fun _ h9 => h9) rfl d_Controls_waitingForS_28 ?_
  refine lv_iconst (v := (-1)) hx hb d_Controls_waitingForS_31 (by decide) ?_
  refine lv_ixor hx hb d_Controls_waitingForS_32 ?_
  refine lv_iand hx hb d_Controls_waitingForS_33 ?_
  refine lv_ior hx hb d_Controls_waitingForS_34 ?_
  have hk : k_Controls_waitingForS sc so sy = (((k_Controls_hostIp sc so) &&& (sc.1 4)) ||| (((sy.1 5) &&& (sy.1 3)) &&& ((sy.1 2) ^^^ (-1)))) := (by rw [k_Controls_waitingForS]; try rfl)
  exact ct_ri hx hb hr hlocks hP hD hK hS d_Controls_waitingForS_35 (by rw [hk]; first | done | rfl) rfl
def k_Desk_firstOf_S (p2 : Int32) : Int32 :=
  if (bI (k_Desk_isIn p2 9)) = 0 then (if (bI (k_Desk_isIn p2 1)) = 0 then (if (bI (k_Desk_isIn p2 5)) = 0 then (if (bI (k_Desk_isIn p2 10)) = 0 then (if (bI (k_Desk_isIn p2 2)) = 0 then (if (bI (k_Desk_isIn p2 6)) = 0 then (-1) else 6) else 2) else 10) else 5) else 1) else 9
set_option maxHeartbeats 4000000 in
set_option maxRecDepth 100000 in
theorem c_Desk_firstOf_S (l : Launch) (G : gx) (tys : List (ClassId × FieldType)) (p2 : Int32) : ct_I l y_Desk_firstOf ws_Desk_firstOf ({ frames := 1, cells := 0, slots := 0, locals := 21 }) G tys [.ref G.2.1, .int p2] [] (k_Desk_firstOf_S p2) [] := by
  refine ct_hI (cc := cc_Desk_firstOf) (maxL := 3) (ret := (some .int)) (by decide) rfl (Nat.le_of_ble_eq_true rfl) ?_
  intro p e s m below meth c A ls hx hb hr hml hts hown hlocks hP hK hD hA hE hS hl
  have hl : lv_has ls 3 [(0, .ref G.2.1), (1, .int p2)] := hl
  have hown : s.vm.findClass R_Desk = some m.cls := hown
  refine lv_iconst (v := 0) hx hb d_Desk_firstOf_0 (by decide) ?_
  refine lv_istore_n (lv' := [(2, .int 0), (0, .ref G.2.1), (1, .int p2)]) hx hb d_Desk_firstOf_1 rfl hl (by decide) rfl (fun ls hl => ?_)
  refine lv_iload_n hx hb d_Desk_firstOf_2 rfl (lv_at hl 0 rfl) ?_
  refine lv_aload_n hx hb d_Desk_firstOf_3 rfl (lv_at hl 1 rfl) ?_
  refine va_tlen (v := 6) hx hb hE.2.1 hS (by decide) d_Desk_firstOf_4 ?_
  refine lv_icmp_ge (tgt := 28) hx hb d_Desk_firstOf_5 (by decide) (fun c9 => absurd c9 (by decide)) (fun _ => ?_)
  refine lv_iload_n hx hb d_Desk_firstOf_8 rfl (lv_at hl 2 rfl) ?_
  refine lv_aload_n hx hb d_Desk_firstOf_9 rfl (lv_at hl 1 rfl) ?_
  refine lv_iload_n hx hb d_Desk_firstOf_10 rfl (lv_at hl 0 rfl) ?_
  refine va_ti (v := .int 9) hx hb hE.2.1 hS (by unfold vp_in; decide) rfl d_Desk_firstOf_11 ?_
  refine ct_cSi (wr := []) (w1 := []) (w2 := []) (r := (bI (k_Desk_isIn p2 9))) (As := [.int p2, .int 9]) (rest := []) ⟨hx, hb, hml, hown, hts⟩ (c_Desk_isIn l G tys p2 9) (va_cwS 2 hts (gdS gd_gd q_514 q_515 q_41 q_516) rfl rfl rfl (by decide +kernel) ⟨Nat.le_of_ble_eq_true rfl, Nat.le_of_ble_eq_true rfl⟩) hE hK hP hD hS hA [] [] [] rfl (by decide) rfl (by decide) (by decide) rfl (by decide) rfl hl.1 rfl (Nat.le_of_ble_eq_true rfl) d_Desk_firstOf_12 ⟨Nat.zero_le _, Nat.zero_le _⟩ (fun H locs hP hD hS => ?_)
  refine lv_if_eq (tgt := 22) hx hb d_Desk_firstOf_15 (by decide) (fun c_650 => ?_) (fun c_650 => ?_)
  · refine lv_iinc (v := 1) (lv' := [(2, .int 1), (0, .ref G.2.1), (1, .int p2)]) hx hb d_Desk_firstOf_22 hl (k := 0) rfl (by decide) (by decide) rfl (fun ls hl => ?_)
    refine lv_goto (tgt := 2) hx hb d_Desk_firstOf_25 (by decide) ?_
    refine lv_iload_n hx hb d_Desk_firstOf_2 rfl (lv_at hl 0 rfl) ?_
    refine lv_aload_n hx hb d_Desk_firstOf_3 rfl (lv_at hl 1 rfl) ?_
    refine va_tlen (v := 6) hx hb hE.2.1 hS (by decide) d_Desk_firstOf_4 ?_
    refine lv_icmp_ge (tgt := 28) hx hb d_Desk_firstOf_5 (by decide) (fun c9 => absurd c9 (by decide)) (fun _ => ?_)
    refine lv_iload_n hx hb d_Desk_firstOf_8 rfl (lv_at hl 2 rfl) ?_
    refine lv_aload_n hx hb d_Desk_firstOf_9 rfl (lv_at hl 1 rfl) ?_
    refine lv_iload_n hx hb d_Desk_firstOf_10 rfl (lv_at hl 0 rfl) ?_
    refine va_ti (v := .int 1) hx hb hE.2.1 hS (by unfold vp_in; decide) rfl d_Desk_firstOf_11 ?_
    refine ct_cSi (wr := []) (w1 := []) (w2 := []) (r := (bI (k_Desk_isIn p2 1))) (As := [.int p2, .int 1]) (rest := []) ⟨hx, hb, hml, hown, hts⟩ (c_Desk_isIn l G tys p2 1) (va_cwS 2 hts (gdS gd_gd q_514 q_515 q_41 q_516) rfl rfl rfl (by decide +kernel) ⟨Nat.le_of_ble_eq_true rfl, Nat.le_of_ble_eq_true rfl⟩) hE hK hP hD hS hA [] [] [] rfl (by decide) rfl (by decide) (by decide) rfl (by decide) rfl hl.1 rfl (Nat.le_of_ble_eq_true rfl) d_Desk_firstOf_12 ⟨Nat.zero_le _, Nat.zero_le _⟩ (fun H locs hP hD hS => ?_)
    refine lv_if_eq (tgt := 22) hx hb d_Desk_firstOf_15 (by decide) (fun c_652 => ?_) (fun c_652 => ?_)
    · refine lv_iinc (v := 2) (lv' := [(2, .int 2), (0, .ref G.2.1), (1, .int p2)]) hx hb d_Desk_firstOf_22 hl (k := 0) rfl (by decide) (by decide) rfl (fun ls hl => ?_)
      refine lv_goto (tgt := 2) hx hb d_Desk_firstOf_25 (by decide) ?_
      refine lv_iload_n hx hb d_Desk_firstOf_2 rfl (lv_at hl 0 rfl) ?_
      refine lv_aload_n hx hb d_Desk_firstOf_3 rfl (lv_at hl 1 rfl) ?_
      refine va_tlen (v := 6) hx hb hE.2.1 hS (by decide) d_Desk_firstOf_4 ?_
      refine lv_icmp_ge (tgt := 28) hx hb d_Desk_firstOf_5 (by decide) (fun c9 => absurd c9 (by decide)) (fun _ => ?_)
      refine lv_iload_n hx hb d_Desk_firstOf_8 rfl (lv_at hl 2 rfl) ?_
      refine lv_aload_n hx hb d_Desk_firstOf_9 rfl (lv_at hl 1 rfl) ?_
      refine lv_iload_n hx hb d_Desk_firstOf_10 rfl (lv_at hl 0 rfl) ?_
      refine va_ti (v := .int 5) hx hb hE.2.1 hS (by unfold vp_in; decide) rfl d_Desk_firstOf_11 ?_
      refine ct_cSi (wr := []) (w1 := []) (w2 := []) (r := (bI (k_Desk_isIn p2 5))) (As := [.int p2, .int 5]) (rest := []) ⟨hx, hb, hml, hown, hts⟩ (c_Desk_isIn l G tys p2 5) (va_cwS 2 hts (gdS gd_gd q_514 q_515 q_41 q_516) rfl rfl rfl (by decide +kernel) ⟨Nat.le_of_ble_eq_true rfl, Nat.le_of_ble_eq_true rfl⟩) hE hK hP hD hS hA [] [] [] rfl (by decide) rfl (by decide) (by decide) rfl (by decide) rfl hl.1 rfl (Nat.le_of_ble_eq_true rfl) d_Desk_firstOf_12 ⟨Nat.zero_le _, Nat.zero_le _⟩ (fun H locs hP hD hS => ?_)
      refine lv_if_eq (tgt := 22) hx hb d_Desk_firstOf_15 (by decide) (fun c_654 => ?_) (fun c_654 => ?_)
      · refine lv_iinc (v := 3) (lv' := [(2, .int 3), (0, .ref G.2.1), (1, .int p2)]) hx hb d_Desk_firstOf_22 hl (k := 0) rfl (by decide) (by decide) rfl (fun ls hl => ?_)
        refine lv_goto (tgt := 2) hx hb d_Desk_firstOf_25 (by decide) ?_
        refine lv_iload_n hx hb d_Desk_firstOf_2 rfl (lv_at hl 0 rfl) ?_
        refine lv_aload_n hx hb d_Desk_firstOf_3 rfl (lv_at hl 1 rfl) ?_
        refine va_tlen (v := 6) hx hb hE.2.1 hS (by decide) d_Desk_firstOf_4 ?_
        refine lv_icmp_ge (tgt := 28) hx hb d_Desk_firstOf_5 (by decide) (fun c9 => absurd c9 (by decide)) (fun _ => ?_)
        refine lv_iload_n hx hb d_Desk_firstOf_8 rfl (lv_at hl 2 rfl) ?_
        refine lv_aload_n hx hb d_Desk_firstOf_9 rfl (lv_at hl 1 rfl) ?_
        refine lv_iload_n hx hb d_Desk_firstOf_10 rfl (lv_at hl 0 rfl) ?_
        refine va_ti (v := .int 10) hx hb hE.2.1 hS (by unfold vp_in; decide) rfl d_Desk_firstOf_11 ?_
        refine ct_cSi (wr := []) (w1 := []) (w2 := []) (r := (bI (k_Desk_isIn p2 10))) (As := [.int p2, .int 10]) (rest := []) ⟨hx, hb, hml, hown, hts⟩ (c_Desk_isIn l G tys p2 10) (va_cwS 2 hts (gdS gd_gd q_514 q_515 q_41 q_516) rfl rfl rfl (by decide +kernel) ⟨Nat.le_of_ble_eq_true rfl, Nat.le_of_ble_eq_true rfl⟩) hE hK hP hD hS hA [] [] [] rfl (by decide) rfl (by decide) (by decide) rfl (by decide) rfl hl.1 rfl (Nat.le_of_ble_eq_true rfl) d_Desk_firstOf_12 ⟨Nat.zero_le _, Nat.zero_le _⟩ (fun H locs hP hD hS => ?_)
        refine lv_if_eq (tgt := 22) hx hb d_Desk_firstOf_15 (by decide) (fun c_656 => ?_) (fun c_656 => ?_)
        · refine lv_iinc (v := 4) (lv' := [(2, .int 4), (0, .ref G.2.1), (1, .int p2)]) hx hb d_Desk_firstOf_22 hl (k := 0) rfl (by decide) (by decide) rfl (fun ls hl => ?_)
          refine lv_goto (tgt := 2) hx hb d_Desk_firstOf_25 (by decide) ?_
          refine lv_iload_n hx hb d_Desk_firstOf_2 rfl (lv_at hl 0 rfl) ?_
          refine lv_aload_n hx hb d_Desk_firstOf_3 rfl (lv_at hl 1 rfl) ?_
          refine va_tlen (v := 6) hx hb hE.2.1 hS (by decide) d_Desk_firstOf_4 ?_
          refine lv_icmp_ge (tgt := 28) hx hb d_Desk_firstOf_5 (by decide) (fun c9 => absurd c9 (by decide)) (fun _ => ?_)
          refine lv_iload_n hx hb d_Desk_firstOf_8 rfl (lv_at hl 2 rfl) ?_
          refine lv_aload_n hx hb d_Desk_firstOf_9 rfl (lv_at hl 1 rfl) ?_
          refine lv_iload_n hx hb d_Desk_firstOf_10 rfl (lv_at hl 0 rfl) ?_
          refine va_ti (v := .int 2) hx hb hE.2.1 hS (by unfold vp_in; decide) rfl d_Desk_firstOf_11 ?_
          refine ct_cSi (wr := []) (w1 := []) (w2 := []) (r := (bI (k_Desk_isIn p2 2))) (As := [.int p2, .int 2]) (rest := []) ⟨hx, hb, hml, hown, hts⟩ (c_Desk_isIn l G tys p2 2) (va_cwS 2 hts (gdS gd_gd q_514 q_515 q_41 q_516) rfl rfl rfl (by decide +kernel) ⟨Nat.le_of_ble_eq_true rfl, Nat.le_of_ble_eq_true rfl⟩) hE hK hP hD hS hA [] [] [] rfl (by decide) rfl (by decide) (by decide) rfl (by decide) rfl hl.1 rfl (Nat.le_of_ble_eq_true rfl) d_Desk_firstOf_12 ⟨Nat.zero_le _, Nat.zero_le _⟩ (fun H locs hP hD hS => ?_)
          refine lv_if_eq (tgt := 22) hx hb d_Desk_firstOf_15 (by decide) (fun c_658 => ?_) (fun c_658 => ?_)
          · refine lv_iinc (v := 5) (lv' := [(2, .int 5), (0, .ref G.2.1), (1, .int p2)]) hx hb d_Desk_firstOf_22 hl (k := 0) rfl (by decide) (by decide) rfl (fun ls hl => ?_)
            refine lv_goto (tgt := 2) hx hb d_Desk_firstOf_25 (by decide) ?_
            refine lv_iload_n hx hb d_Desk_firstOf_2 rfl (lv_at hl 0 rfl) ?_
            refine lv_aload_n hx hb d_Desk_firstOf_3 rfl (lv_at hl 1 rfl) ?_
            refine va_tlen (v := 6) hx hb hE.2.1 hS (by decide) d_Desk_firstOf_4 ?_
            refine lv_icmp_ge (tgt := 28) hx hb d_Desk_firstOf_5 (by decide) (fun c9 => absurd c9 (by decide)) (fun _ => ?_)
            refine lv_iload_n hx hb d_Desk_firstOf_8 rfl (lv_at hl 2 rfl) ?_
            refine lv_aload_n hx hb d_Desk_firstOf_9 rfl (lv_at hl 1 rfl) ?_
            refine lv_iload_n hx hb d_Desk_firstOf_10 rfl (lv_at hl 0 rfl) ?_
            refine va_ti (v := .int 6) hx hb hE.2.1 hS (by unfold vp_in; decide) rfl d_Desk_firstOf_11 ?_
            refine ct_cSi (wr := []) (w1 := []) (w2 := []) (r := (bI (k_Desk_isIn p2 6))) (As := [.int p2, .int 6]) (rest := []) ⟨hx, hb, hml, hown, hts⟩ (c_Desk_isIn l G tys p2 6) (va_cwS 2 hts (gdS gd_gd q_514 q_515 q_41 q_516) rfl rfl rfl (by decide +kernel) ⟨Nat.le_of_ble_eq_true rfl, Nat.le_of_ble_eq_true rfl⟩) hE hK hP hD hS hA [] [] [] rfl (by decide) rfl (by decide) (by decide) rfl (by decide) rfl hl.1 rfl (Nat.le_of_ble_eq_true rfl) d_Desk_firstOf_12 ⟨Nat.zero_le _, Nat.zero_le _⟩ (fun H locs hP hD hS => ?_)
            refine lv_if_eq (tgt := 22) hx hb d_Desk_firstOf_15 (by decide) (fun c_660 => ?_) (fun c_660 => ?_)
            · refine lv_iinc (v := 6) (lv' := [(2, .int 6), (0, .ref G.2.1), (1, .int p2)]) hx hb d_Desk_firstOf_22 hl (k := 0) rfl (by decide) (by decide) rfl (fun ls hl => ?_)
              refine lv_goto (tgt := 2) hx hb d_Desk_firstOf_25 (by decide) ?_
              refine lv_iload_n hx hb d_Desk_firstOf_2 rfl (lv_at hl 0 rfl) ?_
              refine lv_aload_n hx hb d_Desk_firstOf_3 rfl (lv_at hl 1 rfl) ?_
              refine va_tlen (v := 6) hx hb hE.2.1 hS (by decide) d_Desk_firstOf_4 ?_
              refine lv_icmp_ge (tgt := 28) hx hb d_Desk_firstOf_5 (by decide) (fun _ => ?_) (fun c9 => absurd c9 (by decide))
              refine lv_iconst (v := (-1)) hx hb d_Desk_firstOf_28 (by decide) ?_
              have hk : k_Desk_firstOf_S p2 = (-1) := (by rw [k_Desk_firstOf_S]; rw [if_pos c_650]; rw [if_pos c_652]; rw [if_pos c_654]; rw [if_pos c_656]; rw [if_pos c_658]; rw [if_pos c_660]; try rfl)
              exact ct_ri hx hb hr hlocks hP hD hK hS d_Desk_firstOf_29 (by rw [hk]; first | done | rfl) rfl
            · refine lv_aload_n hx hb d_Desk_firstOf_18 rfl (lv_at hl 1 rfl) ?_
              refine lv_iload_n hx hb d_Desk_firstOf_19 rfl (lv_at hl 0 rfl) ?_
              refine va_ti (v := .int 6) hx hb hE.2.1 hS (by unfold vp_in; decide) rfl d_Desk_firstOf_20 ?_
              have hk : k_Desk_firstOf_S p2 = 6 := (by rw [k_Desk_firstOf_S]; rw [if_pos c_650]; rw [if_pos c_652]; rw [if_pos c_654]; rw [if_pos c_656]; rw [if_pos c_658]; rw [if_neg c_660]; try rfl)
              exact ct_ri hx hb hr hlocks hP hD hK hS d_Desk_firstOf_21 (by rw [hk]; first | done | rfl) rfl
          · refine lv_aload_n hx hb d_Desk_firstOf_18 rfl (lv_at hl 1 rfl) ?_
            refine lv_iload_n hx hb d_Desk_firstOf_19 rfl (lv_at hl 0 rfl) ?_
            refine va_ti (v := .int 2) hx hb hE.2.1 hS (by unfold vp_in; decide) rfl d_Desk_firstOf_20 ?_
            have hk : k_Desk_firstOf_S p2 = 2 := (by rw [k_Desk_firstOf_S]; rw [if_pos c_650]; rw [if_pos c_652]; rw [if_pos c_654]; rw [if_pos c_656]; rw [if_neg c_658]; try rfl)
            exact ct_ri hx hb hr hlocks hP hD hK hS d_Desk_firstOf_21 (by rw [hk]; first | done | rfl) rfl
        · refine lv_aload_n hx hb d_Desk_firstOf_18 rfl (lv_at hl 1 rfl) ?_
          refine lv_iload_n hx hb d_Desk_firstOf_19 rfl (lv_at hl 0 rfl) ?_
          refine va_ti (v := .int 10) hx hb hE.2.1 hS (by unfold vp_in; decide) rfl d_Desk_firstOf_20 ?_
          have hk : k_Desk_firstOf_S p2 = 10 := (by rw [k_Desk_firstOf_S]; rw [if_pos c_650]; rw [if_pos c_652]; rw [if_pos c_654]; rw [if_neg c_656]; try rfl)
          exact ct_ri hx hb hr hlocks hP hD hK hS d_Desk_firstOf_21 (by rw [hk]; first | done | rfl) rfl
      · refine lv_aload_n hx hb d_Desk_firstOf_18 rfl (lv_at hl 1 rfl) ?_
        refine lv_iload_n hx hb d_Desk_firstOf_19 rfl (lv_at hl 0 rfl) ?_
        refine va_ti (v := .int 5) hx hb hE.2.1 hS (by unfold vp_in; decide) rfl d_Desk_firstOf_20 ?_
        have hk : k_Desk_firstOf_S p2 = 5 := (by rw [k_Desk_firstOf_S]; rw [if_pos c_650]; rw [if_pos c_652]; rw [if_neg c_654]; try rfl)
        exact ct_ri hx hb hr hlocks hP hD hK hS d_Desk_firstOf_21 (by rw [hk]; first | done | rfl) rfl
    · refine lv_aload_n hx hb d_Desk_firstOf_18 rfl (lv_at hl 1 rfl) ?_
      refine lv_iload_n hx hb d_Desk_firstOf_19 rfl (lv_at hl 0 rfl) ?_
      refine va_ti (v := .int 1) hx hb hE.2.1 hS (by unfold vp_in; decide) rfl d_Desk_firstOf_20 ?_
      have hk : k_Desk_firstOf_S p2 = 1 := (by rw [k_Desk_firstOf_S]; rw [if_pos c_650]; rw [if_neg c_652]; try rfl)
      exact ct_ri hx hb hr hlocks hP hD hK hS d_Desk_firstOf_21 (by rw [hk]; first | done | rfl) rfl
  · refine lv_aload_n hx hb d_Desk_firstOf_18 rfl (lv_at hl 1 rfl) ?_
    refine lv_iload_n hx hb d_Desk_firstOf_19 rfl (lv_at hl 0 rfl) ?_
    refine va_ti (v := .int 9) hx hb hE.2.1 hS (by unfold vp_in; decide) rfl d_Desk_firstOf_20 ?_
    have hk : k_Desk_firstOf_S p2 = 9 := (by rw [k_Desk_firstOf_S]; rw [if_neg c_650]; try rfl)
    exact ct_ri hx hb hr hlocks hP hD hK hS d_Desk_firstOf_21 (by rw [hk]; first | done | rfl) rfl
def k_Desk_dueForS_j23 (sx : ob) (sc : ob) (so : ob) (shs : ob) (sy : ob) : Int32 :=
  (k_Desk_firstOf_S (k_Controls_waitingForS sc so sy))
def k_Desk_dueForS (sx : ob) (sc : ob) (so : ob) (shs : ob) (sy : ob) : Int32 :=
  if (sx.1 3) = 1 then (if (bI (k_Bank_hasInterruptsOn shs)) = 0 then (-1) else (k_Desk_dueForS_j23 sx sc so shs sy)) else (k_Desk_dueForS_j23 sx sc so shs sy)
set_option maxHeartbeats 4000000 in
set_option maxRecDepth 100000 in
theorem c_Desk_dueForS (l : Launch) (G : gx) (tys : List (ClassId × FieldType)) (qx qc qo qhs qy qr qgs qa : Nat) (sx : ob) (sc : ob) (so : ob) (shs : ob) (sy : ob) : ct_I l y_Desk_dueForS ws_Desk_dueForS ({ frames := 3, cells := 0, slots := 0, locals := 62 }) G tys [.ref qx] [(qx, .inr (5, f_Desk qc qo qr sx)), (qc, .inr (1, f_Controls qo qhs qgs qy sc)), (qo, .inr (3, f_Outside qa so)), (qhs, .inr (0, f_Bank shs)), (qy, .inr (2, f_Hyper sy))] (k_Desk_dueForS sx sc so shs sy) [(qx, .inr (5, f_Desk qc qo qr sx)), (qc, .inr (1, f_Controls qo qhs qgs qy sc)), (qo, .inr (3, f_Outside qa so)), (qhs, .inr (0, f_Bank shs)), (qy, .inr (2, f_Hyper sy))] := by
  refine ct_hI (cc := cc_Desk_dueForS) (maxL := 1) (ret := (some .int)) (by decide) rfl (Nat.le_of_ble_eq_true rfl) ?_
  intro p e s m below meth c A ls hx hb hr hml hts hown hlocks hP hK hD hA hE hS hl
  have hl : lv_has ls 1 [(0, .ref qx)] := hl
  have hown : s.vm.findClass R_Desk = some m.cls := hown
  have J23 : ∀ (H : Heap) (locs : List Loc) (ls : Array Slot), k_Desk_dueForS sx sc so shs sy = k_Desk_dueForS_j23 sx sc so shs sy → va_P G.1 vwCl [(qx, .inr (5, f_Desk qc qo qr sx)), (qc, .inr (1, f_Controls qo qhs qgs qy sc)), (qo, .inr (3, f_Outside qa so)), (qhs, .inr (0, f_Bank shs)), (qy, .inr (2, f_Hyper sy))] H → va_D A [(qx, .inr (5, f_Desk qc qo qr sx)), (qc, .inr (1, f_Controls qo qhs qgs qy sc)), (qo, .inr (3, f_Outside qa so)), (qhs, .inr (0, f_Bank shs)), (qy, .inr (2, f_Hyper sy))] → va_S A s.heap H locs → lv_has ls 1 [(0, .ref qx)] → W p l e ({ frames := 3, cells := 0, slots := 0, locals := 62 }) s m ([.ref qx] : List Value).toArray below meth c H locs 0 0 (MQ below (ct_qi G tys A (k_Desk_dueForS sx sc so shs sy) [(qx, .inr (5, f_Desk qc qo qr sx)), (qc, .inr (1, f_Controls qo qhs qgs qy sc)), (qo, .inr (3, f_Outside qa so)), (qhs, .inr (0, f_Bank shs)), (qy, .inr (2, f_Hyper sy))]) ([.ref qx] : List Value).toArray s 0 0 A) (F0 m 23 ls []) := by
    intro H locs ls hj hP hD hS hl
    refine va_gets hx hb hE.1 hS hown (hts _ (gd_sub _ q_564)) (fun _ h9 => h9) d_Desk_dueForS_23 ?_
    refine lv_aload_n hx hb d_Desk_dueForS_26 rfl (lv_at hl 0 rfl) ?_
    refine va_get (D := G.1) (ci := 5) (v := .ref qc) (C := R_Desk) (T := T_Desk) (N := 8) hx hb hts (fun w h => gd_sub _ (iw_Desk w h)) hown hK hP 0 rfl rfl 0 (by decide) (hts _ (gd_sub _ q_205)) (fun _ h9 => h9) rfl d_Desk_dueForS_27 ?_
    refine ct_cVi (wr := [(qx, .inr (5, f_Desk qc qo qr sx)), (qhs, .inr (0, f_Bank shs))]) (w1 := [(qc, .inr (1, f_Controls qo qhs qgs qy sc)), (qo, .inr (3, f_Outside qa so)), (qy, .inr (2, f_Hyper sy))]) (w2 := [(qx, .inr (5, f_Desk qc qo qr sx)), (qc, .inr (1, f_Controls qo qhs qgs qy sc)), (qo, .inr (3, f_Outside qa so)), (qhs, .inr (0, f_Bank shs)), (qy, .inr (2, f_Hyper sy))]) (r := (k_Controls_waitingForS sc so sy)) (As := []) (rest := [.ref G.2.1]) (ci := 1) (q0 := 0) ⟨hx, hb, hml, hown, hts⟩ (c_Controls_waitingForS l G tys qc qo qy qhs qgs qa sc so sy) (cwV 0 hts (gdV gd_gd q_566 q_567 q_568 q_42 q_569) rfl rfl rfl (by decide +kernel) ⟨Nat.le_of_ble_eq_true rfl, Nat.le_of_ble_eq_true rfl⟩) hE hK hP hD hS hA [1, 2, 4] [0, 3] [0, 2, 3, 1, 4] rfl (by decide) rfl (by decide) (by decide) rfl (by decide) rfl rfl rfl hl.1 rfl (Nat.le_of_ble_eq_true rfl) d_Desk_dueForS_30 ⟨Nat.zero_le _, Nat.zero_le _⟩ (fun H locs hP hD hS => ?_)
    refine ct_cSi (wr := [(qx, .inr (5, f_Desk qc qo qr sx)), (qc, .inr (1, f_Controls qo qhs qgs qy sc)), (qo, .inr (3, f_Outside qa so)), (qhs, .inr (0, f_Bank shs)), (qy, .inr (2, f_Hyper sy))]) (w1 := []) (w2 := [(qx, .inr (5, f_Desk qc qo qr sx)), (qc, .inr (1, f_Controls qo qhs qgs qy sc)), (qo, .inr (3, f_Outside qa so)), (qhs, .inr (0, f_Bank shs)), (qy, .inr (2, f_Hyper sy))]) (r := (k_Desk_firstOf_S (k_Controls_waitingForS sc so sy))) (As := [.ref G.2.1, .int (k_Controls_waitingForS sc so sy)]) (rest := []) ⟨hx, hb, hml, hown, hts⟩ (c_Desk_firstOf_S l G tys (k_Controls_waitingForS sc so sy)) (va_cwS 2 hts (gdS gd_gd q_570 q_571 q_41 q_572) rfl rfl rfl (by decide +kernel) ⟨Nat.le_of_ble_eq_true rfl, Nat.le_of_ble_eq_true rfl⟩) hE hK hP hD hS hA [] [0, 1, 2, 3, 4] [0, 1, 2, 3, 4] rfl (by decide) rfl (by decide) (by decide) rfl (by decide) rfl hl.1 rfl (Nat.le_of_ble_eq_true rfl) d_Desk_dueForS_33 ⟨Nat.zero_le _, Nat.zero_le _⟩ (fun H locs hP hD hS => ?_)
    have hk : k_Desk_dueForS sx sc so shs sy = (k_Desk_firstOf_S (k_Controls_waitingForS sc so sy)) := (hj.trans (by rw [k_Desk_dueForS_j23]; try rfl))
    exact ct_ri hx hb hr hlocks hP hD hK hS d_Desk_dueForS_36 (by rw [hk]; first | done | rfl) rfl
  obtain ⟨H, eH⟩ : ∃ z, z = s.heap := ⟨_, rfl⟩
  obtain ⟨locs, eL⟩ : ∃ z, z = ([] : List Loc) := ⟨_, rfl⟩
  have hP : va_P G.1 vwCl [(qx, .inr (5, f_Desk qc qo qr sx)), (qc, .inr (1, f_Controls qo qhs qgs qy sc)), (qo, .inr (3, f_Outside qa so)), (qhs, .inr (0, f_Bank shs)), (qy, .inr (2, f_Hyper sy))] H := by rw [eH]; exact hP
  have hS : va_S A s.heap H locs := by rw [eH, eL]; exact hS
  suffices hW : W p l e ({ frames := 3, cells := 0, slots := 0, locals := 62 }) s m ([.ref qx] : List Value).toArray below meth c H locs 0 0 (MQ below (ct_qi G tys A (k_Desk_dueForS sx sc so shs sy) [(qx, .inr (5, f_Desk qc qo qr sx)), (qc, .inr (1, f_Controls qo qhs qgs qy sc)), (qo, .inr (3, f_Outside qa so)), (qhs, .inr (0, f_Bank shs)), (qy, .inr (2, f_Hyper sy))]) ([.ref qx] : List Value).toArray s 0 0 A) (F0 m 0 ls []) by rw [eH, eL] at hW; exact hW
  refine lv_aload_n hx hb d_Desk_dueForS_0 rfl (lv_at hl 0 rfl) ?_
  refine va_get (D := G.1) (ci := 5) (v := .int (sx.1 3)) (C := R_Desk) (T := T_Desk) (N := 8) hx hb hts (fun w h => gd_sub _ (iw_Desk w h)) hown hK hP 0 rfl rfl 3 (by decide) (hts _ (gd_sub _ q_208)) (fun _ h9 => h9) rfl d_Desk_dueForS_1 ?_
  refine lv_iconst (v := 1) hx hb d_Desk_dueForS_4 (by decide) ?_
  refine lv_icmp_ne (tgt := 23) hx hb d_Desk_dueForS_5 (by decide) (fun c_662 => ?_) (fun c_662 => ?_)
  · exact J23 H locs ls (by rw [k_Desk_dueForS]; rw [if_neg c_662]; try rfl) hP hD hS (lv_sub hl [0] rfl)
  · refine lv_aload_n hx hb d_Desk_dueForS_8 rfl (lv_at hl 0 rfl) ?_
    refine va_get (D := G.1) (ci := 5) (v := .ref qc) (C := R_Desk) (T := T_Desk) (N := 8) hx hb hts (fun w h => gd_sub _ (iw_Desk w h)) hown hK hP 0 rfl rfl 0 (by decide) (hts _ (gd_sub _ q_205)) (fun _ h9 => h9) rfl d_Desk_dueForS_9 ?_
    refine va_get (D := G.1) (ci := 1) (v := .ref qhs) (C := R_Controls) (T := T_Controls) (N := 6) hx hb hts (fun w h => gd_sub _ (iw_Controls w h)) hown hK hP 1 rfl rfl 1 (by decide) (hts _ (gd_sub _ q_166)) (fun _ h9 => h9) rfl d_Desk_dueForS_12 ?_
    refine ct_cVi (wr := [(qx, .inr (5, f_Desk qc qo qr sx)), (qc, .inr (1, f_Controls qo qhs qgs qy sc)), (qo, .inr (3, f_Outside qa so)), (qy, .inr (2, f_Hyper sy))]) (w1 := [(qhs, .inr (0, f_Bank shs))]) (w2 := [(qx, .inr (5, f_Desk qc qo qr sx)), (qc, .inr (1, f_Controls qo qhs qgs qy sc)), (qo, .inr (3, f_Outside qa so)), (qhs, .inr (0, f_Bank shs)), (qy, .inr (2, f_Hyper sy))]) (r := (bI (k_Bank_hasInterruptsOn shs))) (As := []) (rest := []) (ci := 0) (q0 := 0) ⟨hx, hb, hml, hown, hts⟩ (c_Bank_hasInterruptsOn l G tys qhs shs) (cwV 0 hts (gdV gd_gd q_563 q_530 q_531 q_44 q_532) rfl rfl rfl (by decide +kernel) ⟨Nat.le_of_ble_eq_true rfl, Nat.le_of_ble_eq_true rfl⟩) hE hK hP hD hS hA [3] [0, 1, 2, 4] [0, 1, 2, 4, 3] rfl (by decide) rfl (by decide) (by decide) rfl (by decide) rfl rfl rfl hl.1 rfl (Nat.le_of_ble_eq_true rfl) d_Desk_dueForS_15 ⟨Nat.zero_le _, Nat.zero_le _⟩ (fun H locs hP hD hS => ?_)
    refine lv_if_ne (tgt := 23) hx hb d_Desk_dueForS_18 (by decide) (fun c_663 => ?_) (fun c_663 => ?_)
    · exact J23 H locs ls (by rw [k_Desk_dueForS]; rw [if_pos c_662]; rw [if_neg c_663]; try rfl) hP hD hS (lv_sub hl [0] rfl)
    · refine lv_iconst (v := (-1)) hx hb d_Desk_dueForS_21 (by decide) ?_
      have hk : k_Desk_dueForS sx sc so shs sy = (-1) := (by rw [k_Desk_dueForS]; rw [if_pos c_662]; rw [if_pos c_663]; try rfl)
      exact ct_ri hx hb hr hlocks hP hD hK hS d_Desk_dueForS_22 (by rw [hk]; first | done | rfl) rfl
def k_Controls_waitingForVs (sc : ob) (sy : ob) : Int32 :=
  (((sy.1 5) &&& (sy.1 3)) &&& (sy.1 2))
set_option maxHeartbeats 4000000 in
set_option maxRecDepth 100000 in
theorem c_Controls_waitingForVs (l : Launch) (G : gx) (tys : List (ClassId × FieldType)) (qc qy qo qhs qgs : Nat) (sc : ob) (sy : ob) : ct_I l y_Controls_waitingForVs ws_Controls_waitingForVs ({ frames := 0, cells := 0, slots := 0, locals := 0 }) G tys [.ref qc] [(qc, .inr (1, f_Controls qo qhs qgs qy sc)), (qy, .inr (2, f_Hyper sy))] (k_Controls_waitingForVs sc sy) [(qc, .inr (1, f_Controls qo qhs qgs qy sc)), (qy, .inr (2, f_Hyper sy))] := by
  refine ct_hI (cc := cc_Controls_waitingForVs) (maxL := 1) (ret := (some .int)) (by decide) rfl (Nat.le_of_ble_eq_true rfl) ?_
  intro p e s m below meth c A ls hx hb hr hml hts hown hlocks hP hK hD hA hE hS hl
  have hl : lv_has ls 1 [(0, .ref qc)] := hl
  have hown : s.vm.findClass R_Controls = some m.cls := hown
  refine lv_aload_n hx hb d_Controls_waitingForVs_0 rfl (lv_at hl 0 rfl) ?_
  refine va_get (D := G.1) (ci := 1) (v := .ref qy) (C := R_Controls) (T := T_Controls) (N := 6) hx hb hts (fun w h => gd_sub _ (iw_Controls w h)) hown hK hP 0 rfl rfl 3 (by decide) (hts _ (gd_sub _ q_169)) (fun _ h9 => h9) rfl d_Controls_waitingForVs_1 ?_
  refine va_get (D := G.1) (ci := 2) (v := .int (sy.1 5)) (C := R_Hyper) (T := T_Hyper) (N := 8) hx hb hts (fun w h => gd_sub _ (iw_Hyper w h)) hown hK hP 1 rfl rfl 5 (by decide) (hts _ (gd_sub _ q_142)) (fun _ h9 => h9) rfl d_Controls_waitingForVs_4 ?_
  refine lv_aload_n hx hb d_Controls_waitingForVs_7 rfl (lv_at hl 0 rfl) ?_
  refine va_get (D := G.1) (ci := 1) (v := .ref qy) (C := R_Controls) (T := T_Controls) (N := 6) hx hb hts (fun w h => gd_sub _ (iw_Controls w h)) hown hK hP 0 rfl rfl 3 (by decide) (hts _ (gd_sub _ q_169)) (fun _ h9 => h9) rfl d_Controls_waitingForVs_8 ?_
  refine va_get (D := G.1) (ci := 2) (v := .int (sy.1 3)) (C := R_Hyper) (T := T_Hyper) (N := 8) hx hb hts (fun w h => gd_sub _ (iw_Hyper w h)) hown hK hP 1 rfl rfl 3 (by decide) (hts _ (gd_sub _ q_138)) (fun _ h9 => h9) rfl d_Controls_waitingForVs_11 ?_
  refine lv_iand hx hb d_Controls_waitingForVs_14 ?_
  refine lv_aload_n hx hb d_Controls_waitingForVs_15 rfl (lv_at hl 0 rfl) ?_
  refine va_get (D := G.1) (ci := 1) (v := .ref qy) (C := R_Controls) (T := T_Controls) (N := 6) hx hb hts (fun w h => gd_sub _ (iw_Controls w h)) hown hK hP 0 rfl rfl 3 (by decide) (hts _ (gd_sub _ q_169)) (fun _ h9 => h9) rfl d_Controls_waitingForVs_16 ?_
  refine va_get (D := G.1) (ci := 2) (v := .int (sy.1 2)) (C := R_Hyper) (T := T_Hyper) (N := 8) hx hb hts (fun w h => gd_sub _ (iw_Hyper w h)) hown hK hP 1 rfl rfl 2 (by decide) (hts _ (gd_sub _ q_136)) (fun _ h9 => h9) rfl d_Controls_waitingForVs_19 ?_
  refine lv_iand hx hb d_Controls_waitingForVs_22 ?_
  have hk : k_Controls_waitingForVs sc sy = (((sy.1 5) &&& (sy.1 3)) &&& (sy.1 2)) := (by rw [k_Controls_waitingForVs]; try rfl)
  exact ct_ri hx hb hr hlocks hP hD hK hS d_Controls_waitingForVs_23 (by rw [hk]; first | done | rfl) rfl
def k_Desk_firstOf_V (p2 : Int32) : Int32 :=
  if (bI (k_Desk_isIn p2 10)) = 0 then (if (bI (k_Desk_isIn p2 2)) = 0 then (if (bI (k_Desk_isIn p2 6)) = 0 then (-1) else 6) else 2) else 10
set_option maxHeartbeats 4000000 in
set_option maxRecDepth 100000 in
theorem c_Desk_firstOf_V (l : Launch) (G : gx) (tys : List (ClassId × FieldType)) (p2 : Int32) : ct_I l y_Desk_firstOf ws_Desk_firstOf ({ frames := 1, cells := 0, slots := 0, locals := 21 }) G tys [.ref G.2.2, .int p2] [] (k_Desk_firstOf_V p2) [] := by
  refine ct_hI (cc := cc_Desk_firstOf) (maxL := 3) (ret := (some .int)) (by decide) rfl (Nat.le_of_ble_eq_true rfl) ?_
  intro p e s m below meth c A ls hx hb hr hml hts hown hlocks hP hK hD hA hE hS hl
  have hl : lv_has ls 3 [(0, .ref G.2.2), (1, .int p2)] := hl
  have hown : s.vm.findClass R_Desk = some m.cls := hown
  refine lv_iconst (v := 0) hx hb d_Desk_firstOf_0 (by decide) ?_
  refine lv_istore_n (lv' := [(2, .int 0), (0, .ref G.2.2), (1, .int p2)]) hx hb d_Desk_firstOf_1 rfl hl (by decide) rfl (fun ls hl => ?_)
  refine lv_iload_n hx hb d_Desk_firstOf_2 rfl (lv_at hl 0 rfl) ?_
  refine lv_aload_n hx hb d_Desk_firstOf_3 rfl (lv_at hl 1 rfl) ?_
  refine va_tlen (v := 3) hx hb hE.2.2.2 hS (by decide) d_Desk_firstOf_4 ?_
  refine lv_icmp_ge (tgt := 28) hx hb d_Desk_firstOf_5 (by decide) (fun c9 => absurd c9 (by decide)) (fun _ => ?_)
  refine lv_iload_n hx hb d_Desk_firstOf_8 rfl (lv_at hl 2 rfl) ?_
  refine lv_aload_n hx hb d_Desk_firstOf_9 rfl (lv_at hl 1 rfl) ?_
  refine lv_iload_n hx hb d_Desk_firstOf_10 rfl (lv_at hl 0 rfl) ?_
  refine va_ti (v := .int 10) hx hb hE.2.2.2 hS (by unfold vp_in; decide) rfl d_Desk_firstOf_11 ?_
  refine ct_cSi (wr := []) (w1 := []) (w2 := []) (r := (bI (k_Desk_isIn p2 10))) (As := [.int p2, .int 10]) (rest := []) ⟨hx, hb, hml, hown, hts⟩ (c_Desk_isIn l G tys p2 10) (va_cwS 2 hts (gdS gd_gd q_514 q_515 q_41 q_516) rfl rfl rfl (by decide +kernel) ⟨Nat.le_of_ble_eq_true rfl, Nat.le_of_ble_eq_true rfl⟩) hE hK hP hD hS hA [] [] [] rfl (by decide) rfl (by decide) (by decide) rfl (by decide) rfl hl.1 rfl (Nat.le_of_ble_eq_true rfl) d_Desk_firstOf_12 ⟨Nat.zero_le _, Nat.zero_le _⟩ (fun H locs hP hD hS => ?_)
  refine lv_if_eq (tgt := 22) hx hb d_Desk_firstOf_15 (by decide) (fun c_676 => ?_) (fun c_676 => ?_)
  · refine lv_iinc (v := 1) (lv' := [(2, .int 1), (0, .ref G.2.2), (1, .int p2)]) hx hb d_Desk_firstOf_22 hl (k := 0) rfl (by decide) (by decide) rfl (fun ls hl => ?_)
    refine lv_goto (tgt := 2) hx hb d_Desk_firstOf_25 (by decide) ?_
    refine lv_iload_n hx hb d_Desk_firstOf_2 rfl (lv_at hl 0 rfl) ?_
    refine lv_aload_n hx hb d_Desk_firstOf_3 rfl (lv_at hl 1 rfl) ?_
    refine va_tlen (v := 3) hx hb hE.2.2.2 hS (by decide) d_Desk_firstOf_4 ?_
    refine lv_icmp_ge (tgt := 28) hx hb d_Desk_firstOf_5 (by decide) (fun c9 => absurd c9 (by decide)) (fun _ => ?_)
    refine lv_iload_n hx hb d_Desk_firstOf_8 rfl (lv_at hl 2 rfl) ?_
    refine lv_aload_n hx hb d_Desk_firstOf_9 rfl (lv_at hl 1 rfl) ?_
    refine lv_iload_n hx hb d_Desk_firstOf_10 rfl (lv_at hl 0 rfl) ?_
    refine va_ti (v := .int 2) hx hb hE.2.2.2 hS (by unfold vp_in; decide) rfl d_Desk_firstOf_11 ?_
    refine ct_cSi (wr := []) (w1 := []) (w2 := []) (r := (bI (k_Desk_isIn p2 2))) (As := [.int p2, .int 2]) (rest := []) ⟨hx, hb, hml, hown, hts⟩ (c_Desk_isIn l G tys p2 2) (va_cwS 2 hts (gdS gd_gd q_514 q_515 q_41 q_516) rfl rfl rfl (by decide +kernel) ⟨Nat.le_of_ble_eq_true rfl, Nat.le_of_ble_eq_true rfl⟩) hE hK hP hD hS hA [] [] [] rfl (by decide) rfl (by decide) (by decide) rfl (by decide) rfl hl.1 rfl (Nat.le_of_ble_eq_true rfl) d_Desk_firstOf_12 ⟨Nat.zero_le _, Nat.zero_le _⟩ (fun H locs hP hD hS => ?_)
    refine lv_if_eq (tgt := 22) hx hb d_Desk_firstOf_15 (by decide) (fun c_678 => ?_) (fun c_678 => ?_)
    · refine lv_iinc (v := 2) (lv' := [(2, .int 2), (0, .ref G.2.2), (1, .int p2)]) hx hb d_Desk_firstOf_22 hl (k := 0) rfl (by decide) (by decide) rfl (fun ls hl => ?_)
      refine lv_goto (tgt := 2) hx hb d_Desk_firstOf_25 (by decide) ?_
      refine lv_iload_n hx hb d_Desk_firstOf_2 rfl (lv_at hl 0 rfl) ?_
      refine lv_aload_n hx hb d_Desk_firstOf_3 rfl (lv_at hl 1 rfl) ?_
      refine va_tlen (v := 3) hx hb hE.2.2.2 hS (by decide) d_Desk_firstOf_4 ?_
      refine lv_icmp_ge (tgt := 28) hx hb d_Desk_firstOf_5 (by decide) (fun c9 => absurd c9 (by decide)) (fun _ => ?_)
      refine lv_iload_n hx hb d_Desk_firstOf_8 rfl (lv_at hl 2 rfl) ?_
      refine lv_aload_n hx hb d_Desk_firstOf_9 rfl (lv_at hl 1 rfl) ?_
      refine lv_iload_n hx hb d_Desk_firstOf_10 rfl (lv_at hl 0 rfl) ?_
      refine va_ti (v := .int 6) hx hb hE.2.2.2 hS (by unfold vp_in; decide) rfl d_Desk_firstOf_11 ?_
      refine ct_cSi (wr := []) (w1 := []) (w2 := []) (r := (bI (k_Desk_isIn p2 6))) (As := [.int p2, .int 6]) (rest := []) ⟨hx, hb, hml, hown, hts⟩ (c_Desk_isIn l G tys p2 6) (va_cwS 2 hts (gdS gd_gd q_514 q_515 q_41 q_516) rfl rfl rfl (by decide +kernel) ⟨Nat.le_of_ble_eq_true rfl, Nat.le_of_ble_eq_true rfl⟩) hE hK hP hD hS hA [] [] [] rfl (by decide) rfl (by decide) (by decide) rfl (by decide) rfl hl.1 rfl (Nat.le_of_ble_eq_true rfl) d_Desk_firstOf_12 ⟨Nat.zero_le _, Nat.zero_le _⟩ (fun H locs hP hD hS => ?_)
      refine lv_if_eq (tgt := 22) hx hb d_Desk_firstOf_15 (by decide) (fun c_680 => ?_) (fun c_680 => ?_)
      · refine lv_iinc (v := 3) (lv' := [(2, .int 3), (0, .ref G.2.2), (1, .int p2)]) hx hb d_Desk_firstOf_22 hl (k := 0) rfl (by decide) (by decide) rfl (fun ls hl => ?_)
        refine lv_goto (tgt := 2) hx hb d_Desk_firstOf_25 (by decide) ?_
        refine lv_iload_n hx hb d_Desk_firstOf_2 rfl (lv_at hl 0 rfl) ?_
        refine lv_aload_n hx hb d_Desk_firstOf_3 rfl (lv_at hl 1 rfl) ?_
        refine va_tlen (v := 3) hx hb hE.2.2.2 hS (by decide) d_Desk_firstOf_4 ?_
        refine lv_icmp_ge (tgt := 28) hx hb d_Desk_firstOf_5 (by decide) (fun _ => ?_) (fun c9 => absurd c9 (by decide))
        refine lv_iconst (v := (-1)) hx hb d_Desk_firstOf_28 (by decide) ?_
        have hk : k_Desk_firstOf_V p2 = (-1) := (by rw [k_Desk_firstOf_V]; rw [if_pos c_676]; rw [if_pos c_678]; rw [if_pos c_680]; try rfl)
        exact ct_ri hx hb hr hlocks hP hD hK hS d_Desk_firstOf_29 (by rw [hk]; first | done | rfl) rfl
      · refine lv_aload_n hx hb d_Desk_firstOf_18 rfl (lv_at hl 1 rfl) ?_
        refine lv_iload_n hx hb d_Desk_firstOf_19 rfl (lv_at hl 0 rfl) ?_
        refine va_ti (v := .int 6) hx hb hE.2.2.2 hS (by unfold vp_in; decide) rfl d_Desk_firstOf_20 ?_
        have hk : k_Desk_firstOf_V p2 = 6 := (by rw [k_Desk_firstOf_V]; rw [if_pos c_676]; rw [if_pos c_678]; rw [if_neg c_680]; try rfl)
        exact ct_ri hx hb hr hlocks hP hD hK hS d_Desk_firstOf_21 (by rw [hk]; first | done | rfl) rfl
    · refine lv_aload_n hx hb d_Desk_firstOf_18 rfl (lv_at hl 1 rfl) ?_
      refine lv_iload_n hx hb d_Desk_firstOf_19 rfl (lv_at hl 0 rfl) ?_
      refine va_ti (v := .int 2) hx hb hE.2.2.2 hS (by unfold vp_in; decide) rfl d_Desk_firstOf_20 ?_
      have hk : k_Desk_firstOf_V p2 = 2 := (by rw [k_Desk_firstOf_V]; rw [if_pos c_676]; rw [if_neg c_678]; try rfl)
      exact ct_ri hx hb hr hlocks hP hD hK hS d_Desk_firstOf_21 (by rw [hk]; first | done | rfl) rfl
  · refine lv_aload_n hx hb d_Desk_firstOf_18 rfl (lv_at hl 1 rfl) ?_
    refine lv_iload_n hx hb d_Desk_firstOf_19 rfl (lv_at hl 0 rfl) ?_
    refine va_ti (v := .int 10) hx hb hE.2.2.2 hS (by unfold vp_in; decide) rfl d_Desk_firstOf_20 ?_
    have hk : k_Desk_firstOf_V p2 = 10 := (by rw [k_Desk_firstOf_V]; rw [if_neg c_676]; try rfl)
    exact ct_ri hx hb hr hlocks hP hD hK hS d_Desk_firstOf_21 (by rw [hk]; first | done | rfl) rfl
def k_Desk_dueForVs_j30 (sx : ob) (sc : ob) (sgs : ob) (sy : ob) : Int32 :=
  if (k_Desk_firstOf_V (k_Controls_waitingForVs sc sy)) = (-1) then (-1) else ((k_Desk_firstOf_V (k_Controls_waitingForVs sc sy)) - 1)
def k_Desk_dueForVs (sx : ob) (sc : ob) (sgs : ob) (sy : ob) : Int32 :=
  if (bI (k_Desk_isVirtual sx)) = 0 then (-1) else (if (sx.1 3) = 3 then (if (bI (k_Bank_hasInterruptsOn sgs)) = 0 then (-1) else (k_Desk_dueForVs_j30 sx sc sgs sy)) else (k_Desk_dueForVs_j30 sx sc sgs sy))
set_option maxHeartbeats 4000000 in
set_option maxRecDepth 100000 in
theorem c_Desk_dueForVs (l : Launch) (G : gx) (tys : List (ClassId × FieldType)) (qx qc qgs qy qo qr qhs : Nat) (sx : ob) (sc : ob) (sgs : ob) (sy : ob) : ct_I l y_Desk_dueForVs ws_Desk_dueForVs ({ frames := 2, cells := 0, slots := 0, locals := 43 }) G tys [.ref qx] [(qx, .inr (5, f_Desk qc qo qr sx)), (qc, .inr (1, f_Controls qo qhs qgs qy sc)), (qgs, .inr (0, f_Bank sgs)), (qy, .inr (2, f_Hyper sy))] (k_Desk_dueForVs sx sc sgs sy) [(qx, .inr (5, f_Desk qc qo qr sx)), (qc, .inr (1, f_Controls qo qhs qgs qy sc)), (qgs, .inr (0, f_Bank sgs)), (qy, .inr (2, f_Hyper sy))] := by
  refine ct_hI (cc := cc_Desk_dueForVs) (maxL := 2) (ret := (some .int)) (by decide) rfl (Nat.le_of_ble_eq_true rfl) ?_
  intro p e s m below meth c A ls hx hb hr hml hts hown hlocks hP hK hD hA hE hS hl
  have hl : lv_has ls 2 [(0, .ref qx)] := hl
  have hown : s.vm.findClass R_Desk = some m.cls := hown
  have J30 : ∀ (H : Heap) (locs : List Loc) (ls : Array Slot), k_Desk_dueForVs sx sc sgs sy = k_Desk_dueForVs_j30 sx sc sgs sy → va_P G.1 vwCl [(qx, .inr (5, f_Desk qc qo qr sx)), (qc, .inr (1, f_Controls qo qhs qgs qy sc)), (qgs, .inr (0, f_Bank sgs)), (qy, .inr (2, f_Hyper sy))] H → va_D A [(qx, .inr (5, f_Desk qc qo qr sx)), (qc, .inr (1, f_Controls qo qhs qgs qy sc)), (qgs, .inr (0, f_Bank sgs)), (qy, .inr (2, f_Hyper sy))] → va_S A s.heap H locs → lv_has ls 2 [(0, .ref qx)] → W p l e ({ frames := 2, cells := 0, slots := 0, locals := 43 }) s m ([.ref qx] : List Value).toArray below meth c H locs 0 0 (MQ below (ct_qi G tys A (k_Desk_dueForVs sx sc sgs sy) [(qx, .inr (5, f_Desk qc qo qr sx)), (qc, .inr (1, f_Controls qo qhs qgs qy sc)), (qgs, .inr (0, f_Bank sgs)), (qy, .inr (2, f_Hyper sy))]) ([.ref qx] : List Value).toArray s 0 0 A) (F0 m 30 ls []) := by
    intro H locs ls hj hP hD hS hl
    refine va_gets hx hb hE.2.2.1 hS hown (hts _ (gd_sub _ q_578)) (fun _ h9 => h9) d_Desk_dueForVs_30 ?_
    refine lv_aload_n hx hb d_Desk_dueForVs_33 rfl (lv_at hl 0 rfl) ?_
    refine va_get (D := G.1) (ci := 5) (v := .ref qc) (C := R_Desk) (T := T_Desk) (N := 8) hx hb hts (fun w h => gd_sub _ (iw_Desk w h)) hown hK hP 0 rfl rfl 0 (by decide) (hts _ (gd_sub _ q_205)) (fun _ h9 => h9) rfl d_Desk_dueForVs_34 ?_
    refine ct_cVi (wr := [(qx, .inr (5, f_Desk qc qo qr sx)), (qgs, .inr (0, f_Bank sgs))]) (w1 := [(qc, .inr (1, f_Controls qo qhs qgs qy sc)), (qy, .inr (2, f_Hyper sy))]) (w2 := [(qx, .inr (5, f_Desk qc qo qr sx)), (qc, .inr (1, f_Controls qo qhs qgs qy sc)), (qgs, .inr (0, f_Bank sgs)), (qy, .inr (2, f_Hyper sy))]) (r := (k_Controls_waitingForVs sc sy)) (As := []) (rest := [.ref G.2.2]) (ci := 1) (q0 := 0) ⟨hx, hb, hml, hown, hts⟩ (c_Controls_waitingForVs l G tys qc qy qo qhs qgs sc sy) (cwV 0 hts (gdV gd_gd q_580 q_581 q_582 q_42 q_583) rfl rfl rfl (by decide +kernel) ⟨Nat.le_of_ble_eq_true rfl, Nat.le_of_ble_eq_true rfl⟩) hE hK hP hD hS hA [1, 3] [0, 2] [0, 2, 1, 3] rfl (by decide) rfl (by decide) (by decide) rfl (by decide) rfl rfl rfl hl.1 rfl (Nat.le_of_ble_eq_true rfl) d_Desk_dueForVs_37 ⟨Nat.zero_le _, Nat.zero_le _⟩ (fun H locs hP hD hS => ?_)
    refine ct_cSi (wr := [(qx, .inr (5, f_Desk qc qo qr sx)), (qc, .inr (1, f_Controls qo qhs qgs qy sc)), (qgs, .inr (0, f_Bank sgs)), (qy, .inr (2, f_Hyper sy))]) (w1 := []) (w2 := [(qx, .inr (5, f_Desk qc qo qr sx)), (qc, .inr (1, f_Controls qo qhs qgs qy sc)), (qgs, .inr (0, f_Bank sgs)), (qy, .inr (2, f_Hyper sy))]) (r := (k_Desk_firstOf_V (k_Controls_waitingForVs sc sy))) (As := [.ref G.2.2, .int (k_Controls_waitingForVs sc sy)]) (rest := []) ⟨hx, hb, hml, hown, hts⟩ (c_Desk_firstOf_V l G tys (k_Controls_waitingForVs sc sy)) (va_cwS 2 hts (gdS gd_gd q_570 q_571 q_41 q_572) rfl rfl rfl (by decide +kernel) ⟨Nat.le_of_ble_eq_true rfl, Nat.le_of_ble_eq_true rfl⟩) hE hK hP hD hS hA [] [0, 1, 2, 3] [0, 1, 2, 3] rfl (by decide) rfl (by decide) (by decide) rfl (by decide) rfl hl.1 rfl (Nat.le_of_ble_eq_true rfl) d_Desk_dueForVs_40 ⟨Nat.zero_le _, Nat.zero_le _⟩ (fun H locs hP hD hS => ?_)
    refine lv_istore_n (lv' := [(1, .int (k_Desk_firstOf_V (k_Controls_waitingForVs sc sy))), (0, .ref qx)]) hx hb d_Desk_dueForVs_43 rfl hl (by decide) rfl (fun ls hl => ?_)
    refine lv_iload_n hx hb d_Desk_dueForVs_44 rfl (lv_at hl 0 rfl) ?_
    refine lv_iconst (v := (-1)) hx hb d_Desk_dueForVs_45 (by decide) ?_
    refine lv_icmp_ne (tgt := 53) hx hb d_Desk_dueForVs_46 (by decide) (fun c_683 => ?_) (fun c_683 => ?_)
    · refine lv_iload_n hx hb d_Desk_dueForVs_53 rfl (lv_at hl 0 rfl) ?_
      refine lv_iconst (v := 1) hx hb d_Desk_dueForVs_54 (by decide) ?_
      refine lv_isub hx hb d_Desk_dueForVs_55 ?_
      have hk : k_Desk_dueForVs sx sc sgs sy = ((k_Desk_firstOf_V (k_Controls_waitingForVs sc sy)) - 1) := (hj.trans (by rw [k_Desk_dueForVs_j30]; rw [if_neg c_683]; try rfl))
      exact ct_ri hx hb hr hlocks hP hD hK hS d_Desk_dueForVs_56 (by rw [hk]; first | done | rfl) rfl
    · refine lv_iconst (v := (-1)) hx hb d_Desk_dueForVs_49 (by decide) ?_
      refine lv_goto (tgt := 56) hx hb d_Desk_dueForVs_50 (by decide) ?_
      have hk : k_Desk_dueForVs sx sc sgs sy = (-1) := (hj.trans (by rw [k_Desk_dueForVs_j30]; rw [if_pos c_683]; try rfl))
      exact ct_ri hx hb hr hlocks hP hD hK hS d_Desk_dueForVs_56 (by rw [hk]; first | done | rfl) rfl
  obtain ⟨H, eH⟩ : ∃ z, z = s.heap := ⟨_, rfl⟩
  obtain ⟨locs, eL⟩ : ∃ z, z = ([] : List Loc) := ⟨_, rfl⟩
  have hP : va_P G.1 vwCl [(qx, .inr (5, f_Desk qc qo qr sx)), (qc, .inr (1, f_Controls qo qhs qgs qy sc)), (qgs, .inr (0, f_Bank sgs)), (qy, .inr (2, f_Hyper sy))] H := by rw [eH]; exact hP
  have hS : va_S A s.heap H locs := by rw [eH, eL]; exact hS
  suffices hW : W p l e ({ frames := 2, cells := 0, slots := 0, locals := 43 }) s m ([.ref qx] : List Value).toArray below meth c H locs 0 0 (MQ below (ct_qi G tys A (k_Desk_dueForVs sx sc sgs sy) [(qx, .inr (5, f_Desk qc qo qr sx)), (qc, .inr (1, f_Controls qo qhs qgs qy sc)), (qgs, .inr (0, f_Bank sgs)), (qy, .inr (2, f_Hyper sy))]) ([.ref qx] : List Value).toArray s 0 0 A) (F0 m 0 ls []) by rw [eH, eL] at hW; exact hW
  refine lv_aload_n hx hb d_Desk_dueForVs_0 rfl (lv_at hl 0 rfl) ?_
  refine ct_cVi (wr := [(qc, .inr (1, f_Controls qo qhs qgs qy sc)), (qgs, .inr (0, f_Bank sgs)), (qy, .inr (2, f_Hyper sy))]) (w1 := [(qx, .inr (5, f_Desk qc qo qr sx))]) (w2 := [(qx, .inr (5, f_Desk qc qo qr sx)), (qc, .inr (1, f_Controls qo qhs qgs qy sc)), (qgs, .inr (0, f_Bank sgs)), (qy, .inr (2, f_Hyper sy))]) (r := (bI (k_Desk_isVirtual sx))) (As := []) (rest := []) (ci := 5) (q0 := 0) ⟨hx, hb, hml, hown, hts⟩ (c_Desk_isVirtual l G tys qx qc qo qr sx) (cwV 0 hts (gdV gd_gd q_434 q_436 q_6 q_41 q_437) rfl rfl rfl (by decide +kernel) ⟨Nat.le_of_ble_eq_true rfl, Nat.le_of_ble_eq_true rfl⟩) hE hK hP hD hS hA [0] [1, 2, 3] [3, 0, 1, 2] rfl (by decide) rfl (by decide) (by decide) rfl (by decide) rfl rfl rfl hl.1 rfl (Nat.le_of_ble_eq_true rfl) d_Desk_dueForVs_1 ⟨Nat.zero_le _, Nat.zero_le _⟩ (fun H locs hP hD hS => ?_)
  refine lv_if_eq (tgt := 28) hx hb d_Desk_dueForVs_4 (by decide) (fun c_684 => ?_) (fun c_684 => ?_)
  · refine lv_iconst (v := (-1)) hx hb d_Desk_dueForVs_28 (by decide) ?_
    have hk : k_Desk_dueForVs sx sc sgs sy = (-1) := (by rw [k_Desk_dueForVs]; rw [if_pos c_684]; try rfl)
    exact ct_ri hx hb hr hlocks hP hD hK hS d_Desk_dueForVs_29 (by rw [hk]; first | done | rfl) rfl
  · refine lv_aload_n hx hb d_Desk_dueForVs_7 rfl (lv_at hl 0 rfl) ?_
    refine va_get (D := G.1) (ci := 5) (v := .int (sx.1 3)) (C := R_Desk) (T := T_Desk) (N := 8) hx hb hts (fun w h => gd_sub _ (iw_Desk w h)) hown hK hP 0 rfl rfl 3 (by decide) (hts _ (gd_sub _ q_208)) (fun _ h9 => h9) rfl d_Desk_dueForVs_8 ?_
    refine lv_iconst (v := 3) hx hb d_Desk_dueForVs_11 (by decide) ?_
    refine lv_icmp_ne (tgt := 30) hx hb d_Desk_dueForVs_12 (by decide) (fun c_685 => ?_) (fun c_685 => ?_)
    · exact J30 H locs ls (by rw [k_Desk_dueForVs]; rw [if_neg c_684]; rw [if_neg c_685]; try rfl) hP hD hS (lv_sub hl [0] rfl)
    · refine lv_aload_n hx hb d_Desk_dueForVs_15 rfl (lv_at hl 0 rfl) ?_
      refine va_get (D := G.1) (ci := 5) (v := .ref qc) (C := R_Desk) (T := T_Desk) (N := 8) hx hb hts (fun w h => gd_sub _ (iw_Desk w h)) hown hK hP 0 rfl rfl 0 (by decide) (hts _ (gd_sub _ q_205)) (fun _ h9 => h9) rfl d_Desk_dueForVs_16 ?_
      refine va_get (D := G.1) (ci := 1) (v := .ref qgs) (C := R_Controls) (T := T_Controls) (N := 6) hx hb hts (fun w h => gd_sub _ (iw_Controls w h)) hown hK hP 1 rfl rfl 2 (by decide) (hts _ (gd_sub _ q_168)) (fun _ h9 => h9) rfl d_Desk_dueForVs_19 ?_
      refine ct_cVi (wr := [(qx, .inr (5, f_Desk qc qo qr sx)), (qc, .inr (1, f_Controls qo qhs qgs qy sc)), (qy, .inr (2, f_Hyper sy))]) (w1 := [(qgs, .inr (0, f_Bank sgs))]) (w2 := [(qx, .inr (5, f_Desk qc qo qr sx)), (qc, .inr (1, f_Controls qo qhs qgs qy sc)), (qgs, .inr (0, f_Bank sgs)), (qy, .inr (2, f_Hyper sy))]) (r := (bI (k_Bank_hasInterruptsOn sgs))) (As := []) (rest := []) (ci := 0) (q0 := 0) ⟨hx, hb, hml, hown, hts⟩ (c_Bank_hasInterruptsOn l G tys qgs sgs) (cwV 0 hts (gdV gd_gd q_563 q_530 q_531 q_44 q_532) rfl rfl rfl (by decide +kernel) ⟨Nat.le_of_ble_eq_true rfl, Nat.le_of_ble_eq_true rfl⟩) hE hK hP hD hS hA [2] [0, 1, 3] [0, 1, 3, 2] rfl (by decide) rfl (by decide) (by decide) rfl (by decide) rfl rfl rfl hl.1 rfl (Nat.le_of_ble_eq_true rfl) d_Desk_dueForVs_22 ⟨Nat.zero_le _, Nat.zero_le _⟩ (fun H locs hP hD hS => ?_)
      refine lv_if_ne (tgt := 30) hx hb d_Desk_dueForVs_25 (by decide) (fun c_686 => ?_) (fun c_686 => ?_)
      · exact J30 H locs ls (by rw [k_Desk_dueForVs]; rw [if_neg c_684]; rw [if_pos c_685]; rw [if_neg c_686]; try rfl) hP hD hS (lv_sub hl [0] rfl)
      · refine lv_iconst (v := (-1)) hx hb d_Desk_dueForVs_28 (by decide) ?_
        have hk : k_Desk_dueForVs sx sc sgs sy = (-1) := (by rw [k_Desk_dueForVs]; rw [if_neg c_684]; rw [if_pos c_685]; rw [if_pos c_686]; try rfl)
        exact ct_ri hx hb hr hlocks hP hD hK hS d_Desk_dueForVs_29 (by rw [hk]; first | done | rfl) rfl
def k_Desk_interrupt (sx : ob) (sc : ob) (so : ob) (shs : ob) (sgs : ob) (sy : ob) : Int32 × ob × ob × ob × ob :=
  if (bI (so.2.2 5)) = 0 then (if (k_Desk_dueForS sx sc so shs sy) = (-1) then (if (k_Desk_dueForVs sx sc sgs sy) = (-1) then ((-1), sx, shs, sgs, sy) else ((100 + (k_Desk_dueForVs sx sc sgs sy)), ((k_Desk_enterVs (oi sx 7 ((sx.1 7) + 1)) sc sgs ((-2147483648) ||| (k_Desk_dueForVs sx sc sgs sy)) 0).1), shs, ((k_Desk_enterVs (oi sx 7 ((sx.1 7) + 1)) sc sgs ((-2147483648) ||| (k_Desk_dueForVs sx sc sgs sy)) 0).2), sy)) else ((k_Desk_dueForS sx sc so shs sy), ((k_Desk_enterS (oi sx 7 ((sx.1 7) + 1)) sc shs sy ((-2147483648) ||| (k_Desk_dueForS sx sc so shs sy)) 0 false 0 0).1), ((k_Desk_enterS (oi sx 7 ((sx.1 7) + 1)) sc shs sy ((-2147483648) ||| (k_Desk_dueForS sx sc so shs sy)) 0 false 0 0).2.1), sgs, ((k_Desk_enterS (oi sx 7 ((sx.1 7) + 1)) sc shs sy ((-2147483648) ||| (k_Desk_dueForS sx sc so shs sy)) 0 false 0 0).2.2))) else ((-3), sx, shs, sgs, sy)
set_option maxHeartbeats 4000000 in
set_option maxRecDepth 100000 in
theorem c_Desk_interrupt (l : Launch) (G : gx) (tys : List (ClassId × FieldType)) (qx qc qo qhs qgs qy qr qa : Nat) (sx : ob) (sc : ob) (so : ob) (shs : ob) (sgs : ob) (sy : ob) : ct_I l y_Desk_interrupt ws_Desk_interrupt ({ frames := 4, cells := 0, slots := 0, locals := 82 }) G tys [.ref qx] [(qx, .inr (5, f_Desk qc qo qr sx)), (qc, .inr (1, f_Controls qo qhs qgs qy sc)), (qo, .inr (3, f_Outside qa so)), (qhs, .inr (0, f_Bank shs)), (qgs, .inr (0, f_Bank sgs)), (qy, .inr (2, f_Hyper sy))] ((k_Desk_interrupt sx sc so shs sgs sy).1) [(qx, .inr (5, f_Desk qc qo qr ((k_Desk_interrupt sx sc so shs sgs sy).2.1))), (qc, .inr (1, f_Controls qo qhs qgs qy sc)), (qo, .inr (3, f_Outside qa so)), (qhs, .inr (0, f_Bank ((k_Desk_interrupt sx sc so shs sgs sy).2.2.1))), (qgs, .inr (0, f_Bank ((k_Desk_interrupt sx sc so shs sgs sy).2.2.2.1))), (qy, .inr (2, f_Hyper ((k_Desk_interrupt sx sc so shs sgs sy).2.2.2.2)))] := by
  refine ct_hI (cc := cc_Desk_interrupt) (maxL := 3) (ret := (some .int)) (by decide) rfl (Nat.le_of_ble_eq_true rfl) ?_
  intro p e s m below meth c A ls hx hb hr hml hts hown hlocks hP hK hD hA hE hS hl
  have hl : lv_has ls 3 [(0, .ref qx)] := hl
  have hown : s.vm.findClass R_Desk = some m.cls := hown
  refine lv_aload_n hx hb d_Desk_interrupt_0 rfl (lv_at hl 0 rfl) ?_
  refine va_get (D := G.1) (ci := 5) (v := .ref qo) (C := R_Desk) (T := T_Desk) (N := 8) hx hb hts (fun w h => gd_sub _ (iw_Desk w h)) hown hK hP 0 rfl rfl 1 (by decide) (hts _ (gd_sub _ q_206)) (fun _ h9 => h9) rfl d_Desk_interrupt_1 ?_
  refine va_get (D := G.1) (ci := 3) (v := .int (bI (so.2.2 5))) (C := R_Outside) (T := T_Outside) (N := 6) hx hb hts (fun w h => gd_sub _ (iw_Outside w h)) hown hK hP 2 rfl rfl 5 (by decide) (hts _ (gd_sub _ q_82)) (fun _ h9 => h9) rfl d_Desk_interrupt_4 ?_
  refine lv_if_eq (tgt := 13) hx hb d_Desk_interrupt_7 (by decide) (fun c_693 => ?_) (fun c_693 => ?_)
  · refine lv_aload_n hx hb d_Desk_interrupt_13 rfl (lv_at hl 0 rfl) ?_
    refine ct_cVi (wr := [(qgs, .inr (0, f_Bank sgs))]) (w1 := [(qx, .inr (5, f_Desk qc qo qr sx)), (qc, .inr (1, f_Controls qo qhs qgs qy sc)), (qo, .inr (3, f_Outside qa so)), (qhs, .inr (0, f_Bank shs)), (qy, .inr (2, f_Hyper sy))]) (w2 := [(qx, .inr (5, f_Desk qc qo qr sx)), (qc, .inr (1, f_Controls qo qhs qgs qy sc)), (qo, .inr (3, f_Outside qa so)), (qhs, .inr (0, f_Bank shs)), (qgs, .inr (0, f_Bank sgs)), (qy, .inr (2, f_Hyper sy))]) (r := (k_Desk_dueForS sx sc so shs sy)) (As := []) (rest := []) (ci := 5) (q0 := 0) ⟨hx, hb, hml, hown, hts⟩ (c_Desk_dueForS l G tys qx qc qo qhs qy qr qgs qa sx sc so shs sy) (cwV 0 hts (gdV gd_gd q_559 q_561 q_19 q_41 q_562) rfl rfl rfl (by decide +kernel) ⟨Nat.le_of_ble_eq_true rfl, Nat.le_of_ble_eq_true rfl⟩) hE hK hP hD hS hA [0, 1, 2, 3, 5] [4] [1, 2, 3, 4, 0, 5] rfl (by decide) rfl (by decide) (by decide) rfl (by decide) rfl rfl rfl hl.1 rfl (Nat.le_of_ble_eq_true rfl) d_Desk_interrupt_14 ⟨Nat.zero_le _, Nat.zero_le _⟩ (fun H locs hP hD hS => ?_)
    refine lv_istore_n (lv' := [(1, .int (k_Desk_dueForS sx sc so shs sy)), (0, .ref qx)]) hx hb d_Desk_interrupt_17 rfl hl (by decide) rfl (fun ls hl => ?_)
    refine lv_iload_n hx hb d_Desk_interrupt_18 rfl (lv_at hl 0 rfl) ?_
    refine lv_iconst (v := (-1)) hx hb d_Desk_interrupt_19 (by decide) ?_
    refine lv_icmp_eq (tgt := 47) hx hb d_Desk_interrupt_20 (by decide) (fun c_694 => ?_) (fun c_694 => ?_)
    · refine lv_aload_n hx hb d_Desk_interrupt_47 rfl (lv_at hl 1 rfl) ?_
      refine ct_cVi (wr := [(qo, .inr (3, f_Outside qa so)), (qhs, .inr (0, f_Bank shs))]) (w1 := [(qx, .inr (5, f_Desk qc qo qr sx)), (qc, .inr (1, f_Controls qo qhs qgs qy sc)), (qgs, .inr (0, f_Bank sgs)), (qy, .inr (2, f_Hyper sy))]) (w2 := [(qx, .inr (5, f_Desk qc qo qr sx)), (qc, .inr (1, f_Controls qo qhs qgs qy sc)), (qo, .inr (3, f_Outside qa so)), (qhs, .inr (0, f_Bank shs)), (qgs, .inr (0, f_Bank sgs)), (qy, .inr (2, f_Hyper sy))]) (r := (k_Desk_dueForVs sx sc sgs sy)) (As := []) (rest := []) (ci := 5) (q0 := 0) ⟨hx, hb, hml, hown, hts⟩ (c_Desk_dueForVs l G tys qx qc qgs qy qo qr qhs sx sc sgs sy) (cwV 0 hts (gdV gd_gd q_574 q_576 q_20 q_41 q_577) rfl rfl rfl (by decide +kernel) ⟨Nat.le_of_ble_eq_true rfl, Nat.le_of_ble_eq_true rfl⟩) hE hK hP hD hS hA [0, 1, 4, 5] [2, 3] [2, 3, 0, 1, 4, 5] rfl (by decide) rfl (by decide) (by decide) rfl (by decide) rfl rfl rfl hl.1 rfl (Nat.le_of_ble_eq_true rfl) d_Desk_interrupt_48 ⟨Nat.zero_le _, Nat.zero_le _⟩ (fun H locs hP hD hS => ?_)
      refine lv_istore_n (lv' := [(2, .int (k_Desk_dueForVs sx sc sgs sy)), (1, .int (k_Desk_dueForS sx sc so shs sy)), (0, .ref qx)]) hx hb d_Desk_interrupt_51 rfl hl (by decide) rfl (fun ls hl => ?_)
      refine lv_iload_n hx hb d_Desk_interrupt_52 rfl (lv_at hl 0 rfl) ?_
      refine lv_iconst (v := (-1)) hx hb d_Desk_interrupt_53 (by decide) ?_
      refine lv_icmp_eq (tgt := 81) hx hb d_Desk_interrupt_54 (by decide) (fun c_695 => ?_) (fun c_695 => ?_)
      · refine lv_iconst (v := (-1)) hx hb d_Desk_interrupt_81 (by decide) ?_
        have hk : k_Desk_interrupt sx sc so shs sgs sy = ((-1), sx, shs, sgs, sy) := (by rw [k_Desk_interrupt]; rw [if_pos c_693]; rw [if_pos c_694]; rw [if_pos c_695]; try rfl)
        exact ct_ri hx hb hr hlocks hP hD hK hS d_Desk_interrupt_82 (by rw [hk]; first | done | rfl) (by rw [hk]; first | done | rfl)
      · refine lv_aload_n hx hb d_Desk_interrupt_57 rfl (lv_at hl 2 rfl) ?_
        refine lv_dup hx hb d_Desk_interrupt_58 rfl ?_
        refine va_get (D := G.1) (ci := 5) (v := .int (sx.1 7)) (C := R_Desk) (T := T_Desk) (N := 8) hx hb hts (fun w h => gd_sub _ (iw_Desk w h)) hown hK hP 0 rfl rfl 7 (by decide) (hts _ (gd_sub _ q_212)) (fun _ h9 => h9) rfl d_Desk_interrupt_59 ?_
        refine lv_iconst (v := 1) hx hb d_Desk_interrupt_62 (by decide) ?_
        refine lv_iadd hx hb d_Desk_interrupt_63 ?_
        refine va_put (D := G.1) (ci := 5) (v := .int ((sx.1 7) + 1)) (ty := .int) (C := R_Desk) (T := T_Desk) (N := 8) hx hb hts (fun w h => gd_sub _ (iw_Desk w h)) ty_Desk tyok_Desk nm_Desk hown hK hP hD hS 0 rfl rfl 7 (by decide) (hts _ (gd_sub _ q_212)) (fun _ h9 => h9) rfl (by decide +kernel) rfl rfl (Nat.le_of_ble_eq_true rfl) d_Desk_interrupt_64 (fun H locs hP hD hS => ?_)
        have hP : va_P G.1 vwCl [(qx, .inr (5, f_Desk qc qo qr (oi sx 7 ((sx.1 7) + 1)))), (qc, .inr (1, f_Controls qo qhs qgs qy sc)), (qo, .inr (3, f_Outside qa so)), (qhs, .inr (0, f_Bank shs)), (qgs, .inr (0, f_Bank sgs)), (qy, .inr (2, f_Hyper sy))] H := hP
        have hD : va_D A [(qx, .inr (5, f_Desk qc qo qr (oi sx 7 ((sx.1 7) + 1)))), (qc, .inr (1, f_Controls qo qhs qgs qy sc)), (qo, .inr (3, f_Outside qa so)), (qhs, .inr (0, f_Bank shs)), (qgs, .inr (0, f_Bank sgs)), (qy, .inr (2, f_Hyper sy))] := hD
        refine lv_aload_n hx hb d_Desk_interrupt_67 rfl (lv_at hl 2 rfl) ?_
        refine lv_ldc (v := (-2147483648)) hx hb hown (hts _ (gd_sub _ q_573)) d_Desk_interrupt_68 ?_
        refine lv_iload_n hx hb d_Desk_interrupt_70 rfl (lv_at hl 0 rfl) ?_
        refine lv_ior hx hb d_Desk_interrupt_71 ?_
        refine lv_iconst (v := 0) hx hb d_Desk_interrupt_72 (by decide) ?_
        obtain ⟨sx_696, esx_696⟩ : ∃ z, z = (k_Desk_enterVs (oi sx 7 ((sx.1 7) + 1)) sc sgs ((-2147483648) ||| (k_Desk_dueForVs sx sc sgs sy)) 0).1 := ⟨_, rfl⟩
        obtain ⟨sgs_697, esgs_697⟩ : ∃ z, z = (k_Desk_enterVs (oi sx 7 ((sx.1 7) + 1)) sc sgs ((-2147483648) ||| (k_Desk_dueForVs sx sc sgs sy)) 0).2 := ⟨_, rfl⟩
        have hM := c_Desk_enterVs l G tys qx qc qgs qo qr qhs qy (oi sx 7 ((sx.1 7) + 1)) sc sgs ((-2147483648) ||| (k_Desk_dueForVs sx sc sgs sy)) 0
        rw [← esx_696, ← esgs_697] at hM
        refine ct_cVv (wr := [(qo, .inr (3, f_Outside qa so)), (qhs, .inr (0, f_Bank shs)), (qy, .inr (2, f_Hyper sy))]) (w1 := [(qx, .inr (5, f_Desk qc qo qr sx_696)), (qc, .inr (1, f_Controls qo qhs qgs qy sc)), (qgs, .inr (0, f_Bank sgs_697))]) (w2 := [(qx, .inr (5, f_Desk qc qo qr sx_696)), (qc, .inr (1, f_Controls qo qhs qgs qy sc)), (qo, .inr (3, f_Outside qa so)), (qhs, .inr (0, f_Bank shs)), (qgs, .inr (0, f_Bank sgs_697)), (qy, .inr (2, f_Hyper sy))]) (As := [.int ((-2147483648) ||| (k_Desk_dueForVs sx sc sgs sy)), .int 0]) (rest := []) (ci := 5) (q0 := 0) ⟨hx, hb, hml, hown, hts⟩ hM (cwV 2 hts (gdV gd_gd q_517 q_519 q_16 q_41 q_520) rfl rfl rfl (by decide +kernel) ⟨Nat.le_of_ble_eq_true rfl, Nat.le_of_ble_eq_true rfl⟩) hE hK hP hD hS hA [0, 1, 4] [2, 3, 5] [3, 4, 0, 1, 5, 2] rfl (by decide) rfl (by decide) (by decide) rfl (by decide) rfl rfl rfl hl.1 rfl (Nat.le_of_ble_eq_true rfl) d_Desk_interrupt_73 ⟨Nat.zero_le _, Nat.zero_le _⟩ (fun H locs hP hD hS => ?_)
        refine lv_bipush (v := 100) hx hb d_Desk_interrupt_76 (by decide) ?_
        refine lv_iload_n hx hb d_Desk_interrupt_78 rfl (lv_at hl 0 rfl) ?_
        refine lv_iadd hx hb d_Desk_interrupt_79 ?_
        have hk : k_Desk_interrupt sx sc so shs sgs sy = ((100 + (k_Desk_dueForVs sx sc sgs sy)), sx_696, shs, sgs_697, sy) := (by rw [k_Desk_interrupt]; rw [if_pos c_693]; rw [if_pos c_694]; rw [if_neg c_695]; try rw [← esx_696]; try rw [← esgs_697]; try rfl)
        exact ct_ri hx hb hr hlocks hP hD hK hS d_Desk_interrupt_80 (by rw [hk]; first | done | rfl) (by rw [hk]; first | done | rfl)
    · refine lv_aload_n hx hb d_Desk_interrupt_23 rfl (lv_at hl 1 rfl) ?_
      refine lv_dup hx hb d_Desk_interrupt_24 rfl ?_
      refine va_get (D := G.1) (ci := 5) (v := .int (sx.1 7)) (C := R_Desk) (T := T_Desk) (N := 8) hx hb hts (fun w h => gd_sub _ (iw_Desk w h)) hown hK hP 0 rfl rfl 7 (by decide) (hts _ (gd_sub _ q_212)) (fun _ h9 => h9) rfl d_Desk_interrupt_25 ?_
      refine lv_iconst (v := 1) hx hb d_Desk_interrupt_28 (by decide) ?_
      refine lv_iadd hx hb d_Desk_interrupt_29 ?_
      refine va_put (D := G.1) (ci := 5) (v := .int ((sx.1 7) + 1)) (ty := .int) (C := R_Desk) (T := T_Desk) (N := 8) hx hb hts (fun w h => gd_sub _ (iw_Desk w h)) ty_Desk tyok_Desk nm_Desk hown hK hP hD hS 0 rfl rfl 7 (by decide) (hts _ (gd_sub _ q_212)) (fun _ h9 => h9) rfl (by decide +kernel) rfl rfl (Nat.le_of_ble_eq_true rfl) d_Desk_interrupt_30 (fun H locs hP hD hS => ?_)
      have hP : va_P G.1 vwCl [(qx, .inr (5, f_Desk qc qo qr (oi sx 7 ((sx.1 7) + 1)))), (qc, .inr (1, f_Controls qo qhs qgs qy sc)), (qo, .inr (3, f_Outside qa so)), (qhs, .inr (0, f_Bank shs)), (qgs, .inr (0, f_Bank sgs)), (qy, .inr (2, f_Hyper sy))] H := hP
      have hD : va_D A [(qx, .inr (5, f_Desk qc qo qr (oi sx 7 ((sx.1 7) + 1)))), (qc, .inr (1, f_Controls qo qhs qgs qy sc)), (qo, .inr (3, f_Outside qa so)), (qhs, .inr (0, f_Bank shs)), (qgs, .inr (0, f_Bank sgs)), (qy, .inr (2, f_Hyper sy))] := hD
      refine lv_aload_n hx hb d_Desk_interrupt_33 rfl (lv_at hl 1 rfl) ?_
      refine lv_ldc (v := (-2147483648)) hx hb hown (hts _ (gd_sub _ q_573)) d_Desk_interrupt_34 ?_
      refine lv_iload_n hx hb d_Desk_interrupt_36 rfl (lv_at hl 0 rfl) ?_
      refine lv_ior hx hb d_Desk_interrupt_37 ?_
      refine lv_iconst (v := 0) hx hb d_Desk_interrupt_38 (by decide) ?_
      refine lv_iconst (v := 0) hx hb d_Desk_interrupt_39 (by decide) ?_
      refine lv_iconst (v := 0) hx hb d_Desk_interrupt_40 (by decide) ?_
      refine lv_iconst (v := 0) hx hb d_Desk_interrupt_41 (by decide) ?_
      obtain ⟨sx_698, esx_698⟩ : ∃ z, z = (k_Desk_enterS (oi sx 7 ((sx.1 7) + 1)) sc shs sy ((-2147483648) ||| (k_Desk_dueForS sx sc so shs sy)) 0 false 0 0).1 := ⟨_, rfl⟩
      obtain ⟨shs_699, eshs_699⟩ : ∃ z, z = (k_Desk_enterS (oi sx 7 ((sx.1 7) + 1)) sc shs sy ((-2147483648) ||| (k_Desk_dueForS sx sc so shs sy)) 0 false 0 0).2.1 := ⟨_, rfl⟩
      obtain ⟨sy_700, esy_700⟩ : ∃ z, z = (k_Desk_enterS (oi sx 7 ((sx.1 7) + 1)) sc shs sy ((-2147483648) ||| (k_Desk_dueForS sx sc so shs sy)) 0 false 0 0).2.2 := ⟨_, rfl⟩
      have hM := c_Desk_enterS l G tys qx qc qhs qy qo qr qgs (oi sx 7 ((sx.1 7) + 1)) sc shs sy ((-2147483648) ||| (k_Desk_dueForS sx sc so shs sy)) 0 false 0 0
      rw [← esx_698, ← eshs_699, ← esy_700] at hM
      refine ct_cVv (wr := [(qo, .inr (3, f_Outside qa so)), (qgs, .inr (0, f_Bank sgs))]) (w1 := [(qx, .inr (5, f_Desk qc qo qr sx_698)), (qc, .inr (1, f_Controls qo qhs qgs qy sc)), (qhs, .inr (0, f_Bank shs_699)), (qy, .inr (2, f_Hyper sy_700))]) (w2 := [(qx, .inr (5, f_Desk qc qo qr sx_698)), (qc, .inr (1, f_Controls qo qhs qgs qy sc)), (qo, .inr (3, f_Outside qa so)), (qhs, .inr (0, f_Bank shs_699)), (qgs, .inr (0, f_Bank sgs)), (qy, .inr (2, f_Hyper sy_700))]) (As := [.int ((-2147483648) ||| (k_Desk_dueForS sx sc so shs sy)), .int 0, .int (bI false), .int 0, .int 0]) (rest := []) (ci := 5) (q0 := 0) ⟨hx, hb, hml, hown, hts⟩ hM (cwV 5 hts (gdV gd_gd q_540 q_542 q_18 q_41 q_543) rfl rfl rfl (by decide +kernel) ⟨Nat.le_of_ble_eq_true rfl, Nat.le_of_ble_eq_true rfl⟩) hE hK hP hD hS hA [0, 1, 3, 5] [2, 4] [2, 3, 0, 4, 1, 5] rfl (by decide) rfl (by decide) (by decide) rfl (by decide) rfl rfl rfl hl.1 rfl (Nat.le_of_ble_eq_true rfl) d_Desk_interrupt_42 ⟨Nat.zero_le _, Nat.zero_le _⟩ (fun H locs hP hD hS => ?_)
      refine lv_iload_n hx hb d_Desk_interrupt_45 rfl (lv_at hl 0 rfl) ?_
      have hk : k_Desk_interrupt sx sc so shs sgs sy = ((k_Desk_dueForS sx sc so shs sy), sx_698, shs_699, sgs, sy_700) := (by rw [k_Desk_interrupt]; rw [if_pos c_693]; rw [if_neg c_694]; try rw [← esx_698]; try rw [← eshs_699]; try rw [← esy_700]; try rfl)
      exact ct_ri hx hb hr hlocks hP hD hK hS d_Desk_interrupt_46 (by rw [hk]; first | done | rfl) (by rw [hk]; first | done | rfl)
  · refine lv_bipush (v := (-3)) hx hb d_Desk_interrupt_10 (by decide) ?_
    have hk : k_Desk_interrupt sx sc so shs sgs sy = ((-3), sx, shs, sgs, sy) := (by rw [k_Desk_interrupt]; rw [if_neg c_693]; try rfl)
    exact ct_ri hx hb hr hlocks hP hD hK hS d_Desk_interrupt_12 (by rw [hk]; first | done | rfl) (by rw [hk]; first | done | rfl)
end
section
def k_Desk_count (sx : ob) (so : ob) (p1 : Int32) : Int32 :=
  if p1 = 0 then (sx.1 3) else if p1 = 1 then (sx.1 4) else if p1 = 2 then (sx.1 5) else if p1 = 3 then (sx.1 6) else if p1 = 4 then (sx.1 7) else if p1 = 5 then (so.1 1) else if p1 = 6 then (if (bI (so.2.2 5)) = 0 then 0 else 1) else if p1 = 7 then ((so.2.1 3).toInt32) else if p1 = 8 then ((lush (so.2.1 3) 32).toInt32) else (-1)
set_option maxHeartbeats 4000000 in
set_option maxRecDepth 100000 in
theorem c_Desk_count (l : Launch) (G : gx) (tys : List (ClassId × FieldType)) (qx qo qc qr qa : Nat) (sx : ob) (so : ob) (p1 : Int32) : ct_I l y_Desk_count ws_Desk_count ({ frames := 0, cells := 0, slots := 0, locals := 0 }) G tys [.ref qx, .int p1] [(qx, .inr (5, f_Desk qc qo qr sx)), (qo, .inr (3, f_Outside qa so))] (k_Desk_count sx so p1) [(qx, .inr (5, f_Desk qc qo qr sx)), (qo, .inr (3, f_Outside qa so))] := by
  refine ct_hI (cc := cc_Desk_count) (maxL := 2) (ret := (some .int)) (by decide) rfl (Nat.le_of_ble_eq_true rfl) ?_
  intro p e s m below meth c A ls hx hb hr hml hts hown hlocks hP hK hD hA hE hS hl
  have hl : lv_has ls 2 [(0, .ref qx), (1, .int p1)] := hl
  have hown : s.vm.findClass R_Desk = some m.cls := hown
  refine lv_iload_n hx hb d_Desk_count_0 rfl (lv_at hl 1 rfl) ?_
  by_cases c_711 : p1 = 0
  · refine lv_tableIn (off := 51) (tgt := 52) hx hb d_Desk_count_1 (by rw [c_711]; decide) (by rw [c_711]; decide) (by rw [c_711]; decide) (by decide) ?_
    refine lv_aload_n hx hb d_Desk_count_52 rfl (lv_at hl 0 rfl) ?_
    refine va_get (D := G.1) (ci := 5) (v := .int (sx.1 3)) (C := R_Desk) (T := T_Desk) (N := 8) hx hb hts (fun w h => gd_sub _ (iw_Desk w h)) hown hK hP 0 rfl rfl 3 (by decide) (hts _ (gd_sub _ q_208)) (fun _ h9 => h9) rfl d_Desk_count_53 ?_
    have hk : k_Desk_count sx so p1 = (sx.1 3) := (by rw [k_Desk_count]; rw [if_pos c_711]; try rfl)
    exact ct_ri hx hb hr hlocks hP hD hK hS d_Desk_count_56 (by rw [hk]; first | done | rfl) rfl
  · by_cases c_712 : p1 = 1
    · refine lv_tableIn (off := 56) (tgt := 57) hx hb d_Desk_count_1 (by rw [c_712]; decide) (by rw [c_712]; decide) (by rw [c_712]; decide) (by decide) ?_
      refine lv_aload_n hx hb d_Desk_count_57 rfl (lv_at hl 0 rfl) ?_
      refine va_get (D := G.1) (ci := 5) (v := .int (sx.1 4)) (C := R_Desk) (T := T_Desk) (N := 8) hx hb hts (fun w h => gd_sub _ (iw_Desk w h)) hown hK hP 0 rfl rfl 4 (by decide) (hts _ (gd_sub _ q_209)) (fun _ h9 => h9) rfl d_Desk_count_58 ?_
      have hk : k_Desk_count sx so p1 = (sx.1 4) := (by rw [k_Desk_count]; rw [if_neg c_711]; rw [if_pos c_712]; try rfl)
      exact ct_ri hx hb hr hlocks hP hD hK hS d_Desk_count_61 (by rw [hk]; first | done | rfl) rfl
    · by_cases c_713 : p1 = 2
      · refine lv_tableIn (off := 61) (tgt := 62) hx hb d_Desk_count_1 (by rw [c_713]; decide) (by rw [c_713]; decide) (by rw [c_713]; decide) (by decide) ?_
        refine lv_aload_n hx hb d_Desk_count_62 rfl (lv_at hl 0 rfl) ?_
        refine va_get (D := G.1) (ci := 5) (v := .int (sx.1 5)) (C := R_Desk) (T := T_Desk) (N := 8) hx hb hts (fun w h => gd_sub _ (iw_Desk w h)) hown hK hP 0 rfl rfl 5 (by decide) (hts _ (gd_sub _ q_210)) (fun _ h9 => h9) rfl d_Desk_count_63 ?_
        have hk : k_Desk_count sx so p1 = (sx.1 5) := (by rw [k_Desk_count]; rw [if_neg c_711]; rw [if_neg c_712]; rw [if_pos c_713]; try rfl)
        exact ct_ri hx hb hr hlocks hP hD hK hS d_Desk_count_66 (by rw [hk]; first | done | rfl) rfl
      · by_cases c_714 : p1 = 3
        · refine lv_tableIn (off := 66) (tgt := 67) hx hb d_Desk_count_1 (by rw [c_714]; decide) (by rw [c_714]; decide) (by rw [c_714]; decide) (by decide) ?_
          refine lv_aload_n hx hb d_Desk_count_67 rfl (lv_at hl 0 rfl) ?_
          refine va_get (D := G.1) (ci := 5) (v := .int (sx.1 6)) (C := R_Desk) (T := T_Desk) (N := 8) hx hb hts (fun w h => gd_sub _ (iw_Desk w h)) hown hK hP 0 rfl rfl 6 (by decide) (hts _ (gd_sub _ q_211)) (fun _ h9 => h9) rfl d_Desk_count_68 ?_
          have hk : k_Desk_count sx so p1 = (sx.1 6) := (by rw [k_Desk_count]; rw [if_neg c_711]; rw [if_neg c_712]; rw [if_neg c_713]; rw [if_pos c_714]; try rfl)
          exact ct_ri hx hb hr hlocks hP hD hK hS d_Desk_count_71 (by rw [hk]; first | done | rfl) rfl
        · by_cases c_715 : p1 = 4
          · refine lv_tableIn (off := 71) (tgt := 72) hx hb d_Desk_count_1 (by rw [c_715]; decide) (by rw [c_715]; decide) (by rw [c_715]; decide) (by decide) ?_
            refine lv_aload_n hx hb d_Desk_count_72 rfl (lv_at hl 0 rfl) ?_
            refine va_get (D := G.1) (ci := 5) (v := .int (sx.1 7)) (C := R_Desk) (T := T_Desk) (N := 8) hx hb hts (fun w h => gd_sub _ (iw_Desk w h)) hown hK hP 0 rfl rfl 7 (by decide) (hts _ (gd_sub _ q_212)) (fun _ h9 => h9) rfl d_Desk_count_73 ?_
            have hk : k_Desk_count sx so p1 = (sx.1 7) := (by rw [k_Desk_count]; rw [if_neg c_711]; rw [if_neg c_712]; rw [if_neg c_713]; rw [if_neg c_714]; rw [if_pos c_715]; try rfl)
            exact ct_ri hx hb hr hlocks hP hD hK hS d_Desk_count_76 (by rw [hk]; first | done | rfl) rfl
          · by_cases c_716 : p1 = 5
            · refine lv_tableIn (off := 76) (tgt := 77) hx hb d_Desk_count_1 (by rw [c_716]; decide) (by rw [c_716]; decide) (by rw [c_716]; decide) (by decide) ?_
              refine lv_aload_n hx hb d_Desk_count_77 rfl (lv_at hl 0 rfl) ?_
              refine va_get (D := G.1) (ci := 5) (v := .ref qo) (C := R_Desk) (T := T_Desk) (N := 8) hx hb hts (fun w h => gd_sub _ (iw_Desk w h)) hown hK hP 0 rfl rfl 1 (by decide) (hts _ (gd_sub _ q_206)) (fun _ h9 => h9) rfl d_Desk_count_78 ?_
              refine va_get (D := G.1) (ci := 3) (v := .int (so.1 1)) (C := R_Outside) (T := T_Outside) (N := 6) hx hb hts (fun w h => gd_sub _ (iw_Outside w h)) hown hK hP 1 rfl rfl 1 (by decide) (hts _ (gd_sub _ q_72)) (fun _ h9 => h9) rfl d_Desk_count_81 ?_
              have hk : k_Desk_count sx so p1 = (so.1 1) := (by rw [k_Desk_count]; rw [if_neg c_711]; rw [if_neg c_712]; rw [if_neg c_713]; rw [if_neg c_714]; rw [if_neg c_715]; rw [if_pos c_716]; try rfl)
              exact ct_ri hx hb hr hlocks hP hD hK hS d_Desk_count_84 (by rw [hk]; first | done | rfl) rfl
            · by_cases c_717 : p1 = 6
              · refine lv_tableIn (off := 84) (tgt := 85) hx hb d_Desk_count_1 (by rw [c_717]; decide) (by rw [c_717]; decide) (by rw [c_717]; decide) (by decide) ?_
                refine lv_aload_n hx hb d_Desk_count_85 rfl (lv_at hl 0 rfl) ?_
                refine va_get (D := G.1) (ci := 5) (v := .ref qo) (C := R_Desk) (T := T_Desk) (N := 8) hx hb hts (fun w h => gd_sub _ (iw_Desk w h)) hown hK hP 0 rfl rfl 1 (by decide) (hts _ (gd_sub _ q_206)) (fun _ h9 => h9) rfl d_Desk_count_86 ?_
                refine va_get (D := G.1) (ci := 3) (v := .int (bI (so.2.2 5))) (C := R_Outside) (T := T_Outside) (N := 6) hx hb hts (fun w h => gd_sub _ (iw_Outside w h)) hown hK hP 1 rfl rfl 5 (by decide) (hts _ (gd_sub _ q_82)) (fun _ h9 => h9) rfl d_Desk_count_89 ?_
                refine lv_if_eq (tgt := 99) hx hb d_Desk_count_92 (by decide) (fun c_718 => ?_) (fun c_718 => ?_)
                · refine lv_iconst (v := 0) hx hb d_Desk_count_99 (by decide) ?_
                  have hk : k_Desk_count sx so p1 = 0 := (by rw [k_Desk_count]; rw [if_neg c_711]; rw [if_neg c_712]; rw [if_neg c_713]; rw [if_neg c_714]; rw [if_neg c_715]; rw [if_neg c_716]; rw [if_pos c_717]; rw [if_pos c_718]; try rfl)
                  exact ct_ri hx hb hr hlocks hP hD hK hS d_Desk_count_100 (by rw [hk]; first | done | rfl) rfl
                · refine lv_iconst (v := 1) hx hb d_Desk_count_95 (by decide) ?_
                  refine lv_goto (tgt := 100) hx hb d_Desk_count_96 (by decide) ?_
                  have hk : k_Desk_count sx so p1 = 1 := (by rw [k_Desk_count]; rw [if_neg c_711]; rw [if_neg c_712]; rw [if_neg c_713]; rw [if_neg c_714]; rw [if_neg c_715]; rw [if_neg c_716]; rw [if_pos c_717]; rw [if_neg c_718]; try rfl)
                  exact ct_ri hx hb hr hlocks hP hD hK hS d_Desk_count_100 (by rw [hk]; first | done | rfl) rfl
              · by_cases c_719 : p1 = 7
                · refine lv_tableIn (off := 100) (tgt := 101) hx hb d_Desk_count_1 (by rw [c_719]; decide) (by rw [c_719]; decide) (by rw [c_719]; decide) (by decide) ?_
                  refine lv_aload_n hx hb d_Desk_count_101 rfl (lv_at hl 0 rfl) ?_
                  refine va_get (D := G.1) (ci := 5) (v := .ref qo) (C := R_Desk) (T := T_Desk) (N := 8) hx hb hts (fun w h => gd_sub _ (iw_Desk w h)) hown hK hP 0 rfl rfl 1 (by decide) (hts _ (gd_sub _ q_206)) (fun _ h9 => h9) rfl d_Desk_count_102 ?_
                  refine va_get (D := G.1) (ci := 3) (v := .long (so.2.1 3)) (C := R_Outside) (T := T_Outside) (N := 6) hx hb hts (fun w h => gd_sub _ (iw_Outside w h)) hown hK hP 1 rfl rfl 3 (by decide) (hts _ (gd_sub _ q_77)) (fun _ h9 => h9) rfl d_Desk_count_105 ?_
                  refine lv_l2i (v := (so.2.1 3).toInt32) hx hb d_Desk_count_108 rfl ?_
                  have hk : k_Desk_count sx so p1 = (so.2.1 3).toInt32 := (by rw [k_Desk_count]; rw [if_neg c_711]; rw [if_neg c_712]; rw [if_neg c_713]; rw [if_neg c_714]; rw [if_neg c_715]; rw [if_neg c_716]; rw [if_neg c_717]; rw [if_pos c_719]; try rfl)
                  exact ct_ri hx hb hr hlocks hP hD hK hS d_Desk_count_109 (by rw [hk]; first | done | rfl) rfl
                · by_cases c_720 : p1 = 8
                  · refine lv_tableIn (off := 109) (tgt := 110) hx hb d_Desk_count_1 (by rw [c_720]; decide) (by rw [c_720]; decide) (by rw [c_720]; decide) (by decide) ?_
                    refine lv_aload_n hx hb d_Desk_count_110 rfl (lv_at hl 0 rfl) ?_
                    refine va_get (D := G.1) (ci := 5) (v := .ref qo) (C := R_Desk) (T := T_Desk) (N := 8) hx hb hts (fun w h => gd_sub _ (iw_Desk w h)) hown hK hP 0 rfl rfl 1 (by decide) (hts _ (gd_sub _ q_206)) (fun _ h9 => h9) rfl d_Desk_count_111 ?_
                    refine va_get (D := G.1) (ci := 3) (v := .long (so.2.1 3)) (C := R_Outside) (T := T_Outside) (N := 6) hx hb hts (fun w h => gd_sub _ (iw_Outside w h)) hown hK hP 1 rfl rfl 3 (by decide) (hts _ (gd_sub _ q_77)) (fun _ h9 => h9) rfl d_Desk_count_114 ?_
                    refine lv_bipush (v := 32) hx hb d_Desk_count_117 (by decide) ?_
                    refine lv_lushr (v := (lush (so.2.1 3) 32)) hx hb d_Desk_count_119 rfl ?_
                    refine lv_l2i (v := (lush (so.2.1 3) 32).toInt32) hx hb d_Desk_count_120 rfl ?_
                    have hk : k_Desk_count sx so p1 = (lush (so.2.1 3) 32).toInt32 := (by rw [k_Desk_count]; rw [if_neg c_711]; rw [if_neg c_712]; rw [if_neg c_713]; rw [if_neg c_714]; rw [if_neg c_715]; rw [if_neg c_716]; rw [if_neg c_717]; rw [if_neg c_719]; rw [if_pos c_720]; try rfl)
                    exact ct_ri hx hb hr hlocks hP hD hK hS d_Desk_count_121 (by rw [hk]; first | done | rfl) rfl
                  · refine lv_tableOut (tgt := 122) hx hb d_Desk_count_1 (by have := lv_neT (a := 0) c_711 (by decide); have := lv_neT (a := 1) c_712 (by decide); have := lv_neT (a := 2) c_713 (by decide); have := lv_neT (a := 3) c_714 (by decide); have := lv_neT (a := 4) c_715 (by decide); have := lv_neT (a := 5) c_716 (by decide); have := lv_neT (a := 6) c_717 (by decide); have := lv_neT (a := 7) c_719 (by decide); have := lv_neT (a := 8) c_720 (by decide); omega) (by decide) ?_
                    refine lv_iconst (v := (-1)) hx hb d_Desk_count_122 (by decide) ?_
                    have hk : k_Desk_count sx so p1 = (-1) := (by rw [k_Desk_count]; rw [if_neg c_711]; rw [if_neg c_712]; rw [if_neg c_713]; rw [if_neg c_714]; rw [if_neg c_715]; rw [if_neg c_716]; rw [if_neg c_717]; rw [if_neg c_719]; rw [if_neg c_720]; try rfl)
                    exact ct_ri hx hb hr hlocks hP hD hK hS d_Desk_count_123 (by rw [hk]; first | done | rfl) rfl
def k_Outside_printedByte (so : ob) (sa : Nat → Int32) (p1 : Int32) : Int32 :=
  if p1 < 0 then (-1) else (if (so.1 1) ≤ p1 then (-1) else (if p1 < 256 then ((sa p1.toNatClampNeg) &&& 255) else (-1)))
set_option maxHeartbeats 4000000 in
set_option maxRecDepth 100000 in
theorem c_Outside_printedByte (l : Launch) (G : gx) (tys : List (ClassId × FieldType)) {cA : ClassId} (ht : tys[0]? = some (cA, .byte)) (qo qa : Nat) (so : ob) (sa : Nat → Int32) (p1 : Int32) : ct_I l y_Outside_printedByte ws_Outside_printedByte ({ frames := 0, cells := 0, slots := 0, locals := 0 }) G tys [.ref qo, .int p1] [(qo, .inr (3, f_Outside qa so)), (qa, .inl (cA, 256, .inl sa))] (k_Outside_printedByte so sa p1) [(qo, .inr (3, f_Outside qa so)), (qa, .inl (cA, 256, .inl sa))] := by
  refine ct_hI (cc := cc_Outside_printedByte) (maxL := 2) (ret := (some .int)) (by decide) rfl (Nat.le_of_ble_eq_true rfl) ?_
  intro p e s m below meth c A ls hx hb hr hml hts hown hlocks hP hK hD hA hE hS hl
  have hl : lv_has ls 2 [(0, .ref qo), (1, .int p1)] := hl
  have hown : s.vm.findClass R_Outside = some m.cls := hown
  refine lv_iload_n hx hb d_Outside_printedByte_0 rfl (lv_at hl 1 rfl) ?_
  refine lv_if_lt (tgt := 21) hx hb d_Outside_printedByte_1 (by decide) (fun c_724 => ?_) (fun c_724 => ?_)
  · refine lv_iconst (v := (-1)) hx hb d_Outside_printedByte_21 (by decide) ?_
    have hk : k_Outside_printedByte so sa p1 = (-1) := (by rw [k_Outside_printedByte]; rw [if_pos c_724]; try rfl)
    exact ct_ri hx hb hr hlocks hP hD hK hS d_Outside_printedByte_22 (by rw [hk]; first | done | rfl) rfl
  · refine lv_iload_n hx hb d_Outside_printedByte_4 rfl (lv_at hl 1 rfl) ?_
    refine lv_aload_n hx hb d_Outside_printedByte_5 rfl (lv_at hl 0 rfl) ?_
    refine va_get (D := G.1) (ci := 3) (v := .int (so.1 1)) (C := R_Outside) (T := T_Outside) (N := 6) hx hb hts (fun w h => gd_sub _ (iw_Outside w h)) hown hK hP 0 rfl rfl 1 (by decide) (hts _ (gd_sub _ q_71)) (fun _ h9 => h9) rfl d_Outside_printedByte_6 ?_
    refine lv_icmp_ge (tgt := 21) hx hb d_Outside_printedByte_9 (by decide) (fun c_725 => ?_) (fun c_725 => ?_)
    · refine lv_iconst (v := (-1)) hx hb d_Outside_printedByte_21 (by decide) ?_
      have hk : k_Outside_printedByte so sa p1 = (-1) := (by rw [k_Outside_printedByte]; rw [if_neg c_724]; rw [if_pos c_725]; try rfl)
      exact ct_ri hx hb hr hlocks hP hD hK hS d_Outside_printedByte_22 (by rw [hk]; first | done | rfl) rfl
    · refine lv_iload_n hx hb d_Outside_printedByte_12 rfl (lv_at hl 1 rfl) ?_
      refine lv_aload_n hx hb d_Outside_printedByte_13 rfl (lv_at hl 0 rfl) ?_
      refine va_get (D := G.1) (ci := 3) (v := .ref qa) (C := R_Outside) (T := T_Outside) (N := 6) hx hb hts (fun w h => gd_sub _ (iw_Outside w h)) hown hK hP 0 rfl rfl 0 (by decide) (hts _ (gd_sub _ q_70)) (fun _ h9 => h9) rfl d_Outside_printedByte_14 ?_
      refine va_alen (v := 256) hx hb hK hP 1 0 rfl ht rfl d_Outside_printedByte_17 ?_
      refine lv_icmp_lt (tgt := 23) hx hb d_Outside_printedByte_18 (by decide) (fun c_726 => ?_) (fun c_726 => ?_)
      · refine lv_aload_n hx hb d_Outside_printedByte_23 rfl (lv_at hl 0 rfl) ?_
        refine va_get (D := G.1) (ci := 3) (v := .ref qa) (C := R_Outside) (T := T_Outside) (N := 6) hx hb hts (fun w h => gd_sub _ (iw_Outside w h)) hown hK hP 0 rfl rfl 0 (by decide) (hts _ (gd_sub _ q_70)) (fun _ h9 => h9) rfl d_Outside_printedByte_24 ?_
        refine lv_iload_n hx hb d_Outside_printedByte_27 rfl (lv_at hl 1 rfl) ?_
        refine va_bald hx hb hK hP 1 0 rfl ht (in256 c_724 (fun q9 => Int32.not_lt.mpr q9 c_726)) d_Outside_printedByte_28 ?_
        refine lv_sipush (v := 255) hx hb d_Outside_printedByte_29 (by decide) ?_
        refine lv_iand hx hb d_Outside_printedByte_32 ?_
        have hk : k_Outside_printedByte so sa p1 = ((sa p1.toNatClampNeg) &&& 255) := (by rw [k_Outside_printedByte]; rw [if_neg c_724]; rw [if_neg c_725]; rw [if_pos c_726]; try rfl)
        exact ct_ri hx hb hr hlocks hP hD hK hS d_Outside_printedByte_33 (by rw [hk]; first | done | rfl) rfl
      · refine lv_iconst (v := (-1)) hx hb d_Outside_printedByte_21 (by decide) ?_
        have hk : k_Outside_printedByte so sa p1 = (-1) := (by rw [k_Outside_printedByte]; rw [if_neg c_724]; rw [if_neg c_725]; rw [if_neg c_726]; try rfl)
        exact ct_ri hx hb hr hlocks hP hD hK hS d_Outside_printedByte_22 (by rw [hk]; first | done | rfl) rfl
def k_Desk_console (sx : ob) (so : ob) (sa : Nat → Int32) (p1 : Int32) : Int32 :=
  (k_Outside_printedByte so sa p1)
set_option maxHeartbeats 4000000 in
set_option maxRecDepth 100000 in
theorem c_Desk_console (l : Launch) (G : gx) (tys : List (ClassId × FieldType)) {cA : ClassId} (ht : tys[0]? = some (cA, .byte)) (qx qo qa qc qr : Nat) (sx : ob) (so : ob) (sa : Nat → Int32) (p1 : Int32) : ct_I l y_Desk_console ws_Desk_console ({ frames := 1, cells := 0, slots := 0, locals := 21 }) G tys [.ref qx, .int p1] [(qx, .inr (5, f_Desk qc qo qr sx)), (qo, .inr (3, f_Outside qa so)), (qa, .inl (cA, 256, .inl sa))] (k_Desk_console sx so sa p1) [(qx, .inr (5, f_Desk qc qo qr sx)), (qo, .inr (3, f_Outside qa so)), (qa, .inl (cA, 256, .inl sa))] := by
  refine ct_hI (cc := cc_Desk_console) (maxL := 2) (ret := (some .int)) (by decide) rfl (Nat.le_of_ble_eq_true rfl) ?_
  intro p e s m below meth c A ls hx hb hr hml hts hown hlocks hP hK hD hA hE hS hl
  have hl : lv_has ls 2 [(0, .ref qx), (1, .int p1)] := hl
  have hown : s.vm.findClass R_Desk = some m.cls := hown
  refine lv_aload_n hx hb d_Desk_console_0 rfl (lv_at hl 0 rfl) ?_
  refine va_get (D := G.1) (ci := 5) (v := .ref qo) (C := R_Desk) (T := T_Desk) (N := 8) hx hb hts (fun w h => gd_sub _ (iw_Desk w h)) hown hK hP 0 rfl rfl 1 (by decide) (hts _ (gd_sub _ q_206)) (fun _ h9 => h9) rfl d_Desk_console_1 ?_
  refine lv_iload_n hx hb d_Desk_console_4 rfl (lv_at hl 1 rfl) ?_
  refine ct_cVi (wr := [(qx, .inr (5, f_Desk qc qo qr sx))]) (w1 := [(qo, .inr (3, f_Outside qa so)), (qa, .inl (cA, 256, .inl sa))]) (w2 := [(qx, .inr (5, f_Desk qc qo qr sx)), (qo, .inr (3, f_Outside qa so)), (qa, .inl (cA, 256, .inl sa))]) (r := (k_Outside_printedByte so sa p1)) (As := [.int p1]) (rest := []) (ci := 3) (q0 := 0) ⟨hx, hb, hml, hown, hts⟩ (c_Outside_printedByte l G tys ht qo qa so sa p1) (cwV 1 hts (gdV gd_gd q_592 q_593 q_594 q_43 q_595) rfl rfl rfl (by decide +kernel) ⟨Nat.le_of_ble_eq_true rfl, Nat.le_of_ble_eq_true rfl⟩) hE hK hP hD hS hA [1, 2] [0] [0, 1, 2] rfl (by decide) rfl (by decide) (by decide) rfl (by decide) rfl rfl rfl hl.1 rfl (Nat.le_of_ble_eq_true rfl) d_Desk_console_5 ⟨Nat.zero_le _, Nat.zero_le _⟩ (fun H locs hP hD hS => ?_)
  have hk : k_Desk_console sx so sa p1 = (k_Outside_printedByte so sa p1) := (by rw [k_Desk_console]; try rfl)
  exact ct_ri hx hb hr hlocks hP hD hK hS d_Desk_console_8 (by rw [hk]; first | done | rfl) rfl
end
