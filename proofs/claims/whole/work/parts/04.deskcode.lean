abbrev y_Desk_init : MethodName := ⟨"TrapDesk", "<init>", "()V"⟩
abbrev cc_Desk_init : ByteArray := prog_1_method_1_code
abbrev ws_Desk_init : List Cond := Cond.code y_Desk_init cc_Desk_init 1 none :: gtb
theorem d_Desk_init_0 : decode cc_Desk_init 0 = .ok (.aload_n 0, 1) := by decide +kernel
theorem d_Desk_init_1 : decode cc_Desk_init 1 = .ok (.invokespecial 3, 3) := by decide +kernel
theorem d_Desk_init_4 : decode cc_Desk_init 4 = .ok (.aload_n 0, 1) := by decide +kernel
theorem d_Desk_init_5 : decode cc_Desk_init 5 = .ok (.new 9, 3) := by decide +kernel
theorem d_Desk_init_8 : decode cc_Desk_init 8 = .ok (.dup, 1) := by decide +kernel
theorem d_Desk_init_9 : decode cc_Desk_init 9 = .ok (.invokespecial 11, 3) := by decide +kernel
theorem d_Desk_init_12 : decode cc_Desk_init 12 = .ok (.putfield 12, 3) := by decide +kernel
theorem d_Desk_init_15 : decode cc_Desk_init 15 = .ok (.aload_n 0, 1) := by decide +kernel
theorem d_Desk_init_16 : decode cc_Desk_init 16 = .ok (.aload_n 0, 1) := by decide +kernel
theorem d_Desk_init_17 : decode cc_Desk_init 17 = .ok (.getfield 12, 3) := by decide +kernel
theorem d_Desk_init_20 : decode cc_Desk_init 20 = .ok (.getfield 16, 3) := by decide +kernel
theorem d_Desk_init_23 : decode cc_Desk_init 23 = .ok (.putfield 20, 3) := by decide +kernel
theorem d_Desk_init_26 : decode cc_Desk_init 26 = .ok (.aload_n 0, 1) := by decide +kernel
theorem d_Desk_init_27 : decode cc_Desk_init 27 = .ok (.new 21, 3) := by decide +kernel
theorem d_Desk_init_30 : decode cc_Desk_init 30 = .ok (.dup, 1) := by decide +kernel
theorem d_Desk_init_31 : decode cc_Desk_init 31 = .ok (.invokespecial 23, 3) := by decide +kernel
theorem d_Desk_init_34 : decode cc_Desk_init 34 = .ok (.putfield 24, 3) := by decide +kernel
theorem d_Desk_init_37 : decode cc_Desk_init 37 = .ok (.aload_n 0, 1) := by decide +kernel
theorem d_Desk_init_38 : decode cc_Desk_init 38 = .ok (.iconst 1, 1) := by decide +kernel
theorem d_Desk_init_39 : decode cc_Desk_init 39 = .ok (.putfield 28, 3) := by decide +kernel
theorem d_Desk_init_42 : decode cc_Desk_init 42 = .ok (.return_, 1) := by decide +kernel
abbrev y_Desk_begin : MethodName := ⟨"TrapDesk", "begin", "()V"⟩
abbrev cc_Desk_begin : ByteArray := prog_1_method_2_code
abbrev ws_Desk_begin : List Cond := Cond.code y_Desk_begin cc_Desk_begin 1 none :: gtb
theorem d_Desk_begin_0 : decode cc_Desk_begin 0 = .ok (.aload_n 0, 1) := by decide +kernel
theorem d_Desk_begin_1 : decode cc_Desk_begin 1 = .ok (.getfield 12, 3) := by decide +kernel
theorem d_Desk_begin_4 : decode cc_Desk_begin 4 = .ok (.invokevirtual 32, 3) := by decide +kernel
theorem d_Desk_begin_7 : decode cc_Desk_begin 7 = .ok (.aload_n 0, 1) := by decide +kernel
theorem d_Desk_begin_8 : decode cc_Desk_begin 8 = .ok (.getfield 24, 3) := by decide +kernel
theorem d_Desk_begin_11 : decode cc_Desk_begin 11 = .ok (.invokevirtual 35, 3) := by decide +kernel
theorem d_Desk_begin_14 : decode cc_Desk_begin 14 = .ok (.aload_n 0, 1) := by decide +kernel
theorem d_Desk_begin_15 : decode cc_Desk_begin 15 = .ok (.iconst 1, 1) := by decide +kernel
theorem d_Desk_begin_16 : decode cc_Desk_begin 16 = .ok (.putfield 28, 3) := by decide +kernel
theorem d_Desk_begin_19 : decode cc_Desk_begin 19 = .ok (.aload_n 0, 1) := by decide +kernel
theorem d_Desk_begin_20 : decode cc_Desk_begin 20 = .ok (.iconst 0, 1) := by decide +kernel
theorem d_Desk_begin_21 : decode cc_Desk_begin 21 = .ok (.putfield 36, 3) := by decide +kernel
theorem d_Desk_begin_24 : decode cc_Desk_begin 24 = .ok (.aload_n 0, 1) := by decide +kernel
theorem d_Desk_begin_25 : decode cc_Desk_begin 25 = .ok (.iconst 0, 1) := by decide +kernel
theorem d_Desk_begin_26 : decode cc_Desk_begin 26 = .ok (.putfield 39, 3) := by decide +kernel
theorem d_Desk_begin_29 : decode cc_Desk_begin 29 = .ok (.aload_n 0, 1) := by decide +kernel
theorem d_Desk_begin_30 : decode cc_Desk_begin 30 = .ok (.iconst 0, 1) := by decide +kernel
theorem d_Desk_begin_31 : decode cc_Desk_begin 31 = .ok (.putfield 42, 3) := by decide +kernel
theorem d_Desk_begin_34 : decode cc_Desk_begin 34 = .ok (.aload_n 0, 1) := by decide +kernel
theorem d_Desk_begin_35 : decode cc_Desk_begin 35 = .ok (.iconst 0, 1) := by decide +kernel
theorem d_Desk_begin_36 : decode cc_Desk_begin 36 = .ok (.putfield 45, 3) := by decide +kernel
theorem d_Desk_begin_39 : decode cc_Desk_begin 39 = .ok (.return_, 1) := by decide +kernel
abbrev y_Desk_mode : MethodName := ⟨"TrapDesk", "mode", "(I)I"⟩
abbrev cc_Desk_mode : ByteArray := prog_1_method_3_code
abbrev ws_Desk_mode : List Cond := Cond.code y_Desk_mode cc_Desk_mode 3 (some .int) :: gtb
theorem d_Desk_mode_0 : decode cc_Desk_mode 0 = .ok (.iload_n 1, 1) := by decide +kernel
theorem d_Desk_mode_1 : decode cc_Desk_mode 1 = .ok (.ifCond .lt 8, 3) := by decide +kernel
theorem d_Desk_mode_4 : decode cc_Desk_mode 4 = .ok (.iload_n 1, 1) := by decide +kernel
theorem d_Desk_mode_5 : decode cc_Desk_mode 5 = .ok (.iconst 3, 1) := by decide +kernel
theorem d_Desk_mode_6 : decode cc_Desk_mode 6 = .ok (.if_icmp .le 5, 3) := by decide +kernel
theorem d_Desk_mode_9 : decode cc_Desk_mode 9 = .ok (.iconst (-1), 1) := by decide +kernel
theorem d_Desk_mode_10 : decode cc_Desk_mode 10 = .ok (.ireturn, 1) := by decide +kernel
theorem d_Desk_mode_11 : decode cc_Desk_mode 11 = .ok (.aload_n 0, 1) := by decide +kernel
theorem d_Desk_mode_12 : decode cc_Desk_mode 12 = .ok (.getfield 28, 3) := by decide +kernel
theorem d_Desk_mode_15 : decode cc_Desk_mode 15 = .ok (.istore_n 2, 1) := by decide +kernel
theorem d_Desk_mode_16 : decode cc_Desk_mode 16 = .ok (.aload_n 0, 1) := by decide +kernel
theorem d_Desk_mode_17 : decode cc_Desk_mode 17 = .ok (.iload_n 1, 1) := by decide +kernel
theorem d_Desk_mode_18 : decode cc_Desk_mode 18 = .ok (.putfield 28, 3) := by decide +kernel
theorem d_Desk_mode_21 : decode cc_Desk_mode 21 = .ok (.iload_n 2, 1) := by decide +kernel
theorem d_Desk_mode_22 : decode cc_Desk_mode 22 = .ok (.ireturn, 1) := by decide +kernel
abbrev y_Desk_go : MethodName := ⟨"TrapDesk", "go", "(I)I"⟩
abbrev cc_Desk_go : ByteArray := prog_1_method_4_code
abbrev ws_Desk_go : List Cond := Cond.code y_Desk_go cc_Desk_go 2 (some .int) :: gtb
theorem d_Desk_go_0 : decode cc_Desk_go 0 = .ok (.iload_n 1, 1) := by decide +kernel
theorem d_Desk_go_1 : decode cc_Desk_go 1 = .ok (.iconst 3, 1) := by decide +kernel
theorem d_Desk_go_2 : decode cc_Desk_go 2 = .ok (.iand, 1) := by decide +kernel
theorem d_Desk_go_3 : decode cc_Desk_go 3 = .ok (.ifCond .eq 5, 3) := by decide +kernel
theorem d_Desk_go_6 : decode cc_Desk_go 6 = .ok (.iconst (-1), 1) := by decide +kernel
theorem d_Desk_go_7 : decode cc_Desk_go 7 = .ok (.ireturn, 1) := by decide +kernel
theorem d_Desk_go_8 : decode cc_Desk_go 8 = .ok (.aload_n 0, 1) := by decide +kernel
theorem d_Desk_go_9 : decode cc_Desk_go 9 = .ok (.iload_n 1, 1) := by decide +kernel
theorem d_Desk_go_10 : decode cc_Desk_go 10 = .ok (.putfield 36, 3) := by decide +kernel
theorem d_Desk_go_13 : decode cc_Desk_go 13 = .ok (.iconst 0, 1) := by decide +kernel
theorem d_Desk_go_14 : decode cc_Desk_go 14 = .ok (.ireturn, 1) := by decide +kernel
abbrev y_Desk_put : MethodName := ⟨"TrapDesk", "put", "(II)I"⟩
abbrev cc_Desk_put : ByteArray := prog_1_method_5_code
abbrev ws_Desk_put : List Cond := Cond.code y_Desk_put cc_Desk_put 3 (some .int) :: gtb
theorem d_Desk_put_0 : decode cc_Desk_put 0 = .ok (.iload_n 1, 1) := by decide +kernel
theorem d_Desk_put_1 : decode cc_Desk_put 1 = .ok (.invokestatic 48, 3) := by decide +kernel
theorem d_Desk_put_4 : decode cc_Desk_put 4 = .ok (.ifCond .eq 10, 3) := by decide +kernel
theorem d_Desk_put_7 : decode cc_Desk_put 7 = .ok (.iload_n 1, 1) := by decide +kernel
theorem d_Desk_put_8 : decode cc_Desk_put 8 = .ok (.invokestatic 54, 3) := by decide +kernel
theorem d_Desk_put_11 : decode cc_Desk_put 11 = .ok (.ifCond .eq 5, 3) := by decide +kernel
theorem d_Desk_put_14 : decode cc_Desk_put 14 = .ok (.iconst (-1), 1) := by decide +kernel
theorem d_Desk_put_15 : decode cc_Desk_put 15 = .ok (.ireturn, 1) := by decide +kernel
theorem d_Desk_put_16 : decode cc_Desk_put 16 = .ok (.aload_n 0, 1) := by decide +kernel
theorem d_Desk_put_17 : decode cc_Desk_put 17 = .ok (.getfield 12, 3) := by decide +kernel
theorem d_Desk_put_20 : decode cc_Desk_put 20 = .ok (.iload_n 1, 1) := by decide +kernel
theorem d_Desk_put_21 : decode cc_Desk_put 21 = .ok (.iload_n 2, 1) := by decide +kernel
theorem d_Desk_put_22 : decode cc_Desk_put 22 = .ok (.invokevirtual 57, 3) := by decide +kernel
theorem d_Desk_put_25 : decode cc_Desk_put 25 = .ok (.iconst 0, 1) := by decide +kernel
theorem d_Desk_put_26 : decode cc_Desk_put 26 = .ok (.ireturn, 1) := by decide +kernel
abbrev y_Desk_get : MethodName := ⟨"TrapDesk", "get", "(I)I"⟩
abbrev cc_Desk_get : ByteArray := prog_1_method_6_code
abbrev ws_Desk_get : List Cond := Cond.code y_Desk_get cc_Desk_get 2 (some .int) :: gtb
theorem d_Desk_get_0 : decode cc_Desk_get 0 = .ok (.aload_n 0, 1) := by decide +kernel
theorem d_Desk_get_1 : decode cc_Desk_get 1 = .ok (.getfield 12, 3) := by decide +kernel
theorem d_Desk_get_4 : decode cc_Desk_get 4 = .ok (.iload_n 1, 1) := by decide +kernel
theorem d_Desk_get_5 : decode cc_Desk_get 5 = .ok (.invokevirtual 61, 3) := by decide +kernel
theorem d_Desk_get_8 : decode cc_Desk_get 8 = .ok (.ireturn, 1) := by decide +kernel
abbrev y_Desk_time : MethodName := ⟨"TrapDesk", "time", "(J)J"⟩
abbrev cc_Desk_time : ByteArray := prog_1_method_7_code
abbrev ws_Desk_time : List Cond := Cond.code y_Desk_time cc_Desk_time 5 (some .long) :: gtb
theorem d_Desk_time_0 : decode cc_Desk_time 0 = .ok (.lload_n 1, 1) := by decide +kernel
theorem d_Desk_time_1 : decode cc_Desk_time 1 = .ok (.lconst 0, 1) := by decide +kernel
theorem d_Desk_time_2 : decode cc_Desk_time 2 = .ok (.lcmp, 1) := by decide +kernel
theorem d_Desk_time_3 : decode cc_Desk_time 3 = .ok (.ifCond .ge 7, 3) := by decide +kernel
theorem d_Desk_time_6 : decode cc_Desk_time 6 = .ok (.ldc2_w 65, 3) := by decide +kernel
theorem d_Desk_time_9 : decode cc_Desk_time 9 = .ok (.lreturn, 1) := by decide +kernel
theorem d_Desk_time_10 : decode cc_Desk_time 10 = .ok (.aload_n 0, 1) := by decide +kernel
theorem d_Desk_time_11 : decode cc_Desk_time 11 = .ok (.getfield 20, 3) := by decide +kernel
theorem d_Desk_time_14 : decode cc_Desk_time 14 = .ok (.getfield 67, 3) := by decide +kernel
theorem d_Desk_time_17 : decode cc_Desk_time 17 = .ok (.lstore_n 3, 1) := by decide +kernel
theorem d_Desk_time_18 : decode cc_Desk_time 18 = .ok (.aload_n 0, 1) := by decide +kernel
theorem d_Desk_time_19 : decode cc_Desk_time 19 = .ok (.getfield 20, 3) := by decide +kernel
theorem d_Desk_time_22 : decode cc_Desk_time 22 = .ok (.lload_n 1, 1) := by decide +kernel
theorem d_Desk_time_23 : decode cc_Desk_time 23 = .ok (.putfield 67, 3) := by decide +kernel
theorem d_Desk_time_26 : decode cc_Desk_time 26 = .ok (.lload_n 3, 1) := by decide +kernel
theorem d_Desk_time_27 : decode cc_Desk_time 27 = .ok (.lreturn, 1) := by decide +kernel
abbrev y_Desk_line : MethodName := ⟨"TrapDesk", "line", "(Z)Z"⟩
abbrev cc_Desk_line : ByteArray := prog_1_method_8_code
abbrev ws_Desk_line : List Cond := Cond.code y_Desk_line cc_Desk_line 3 (some .boolean) :: gtb
theorem d_Desk_line_0 : decode cc_Desk_line 0 = .ok (.aload_n 0, 1) := by decide +kernel
theorem d_Desk_line_1 : decode cc_Desk_line 1 = .ok (.getfield 20, 3) := by decide +kernel
theorem d_Desk_line_4 : decode cc_Desk_line 4 = .ok (.getfield 73, 3) := by decide +kernel
theorem d_Desk_line_7 : decode cc_Desk_line 7 = .ok (.istore_n 2, 1) := by decide +kernel
theorem d_Desk_line_8 : decode cc_Desk_line 8 = .ok (.aload_n 0, 1) := by decide +kernel
theorem d_Desk_line_9 : decode cc_Desk_line 9 = .ok (.getfield 20, 3) := by decide +kernel
theorem d_Desk_line_12 : decode cc_Desk_line 12 = .ok (.iload_n 1, 1) := by decide +kernel
theorem d_Desk_line_13 : decode cc_Desk_line 13 = .ok (.putfield 73, 3) := by decide +kernel
theorem d_Desk_line_16 : decode cc_Desk_line 16 = .ok (.iload_n 2, 1) := by decide +kernel
theorem d_Desk_line_17 : decode cc_Desk_line 17 = .ok (.ireturn, 1) := by decide +kernel
abbrev y_Desk_set : MethodName := ⟨"TrapDesk", "set", "(II)I"⟩
abbrev cc_Desk_set : ByteArray := prog_1_method_9_code
abbrev ws_Desk_set : List Cond := Cond.code y_Desk_set cc_Desk_set 4 (some .int) :: gtb
theorem d_Desk_set_0 : decode cc_Desk_set 0 = .ok (.aload_n 0, 1) := by decide +kernel
theorem d_Desk_set_1 : decode cc_Desk_set 1 = .ok (.getfield 24, 3) := by decide +kernel
theorem d_Desk_set_4 : decode cc_Desk_set 4 = .ok (.iload_n 1, 1) := by decide +kernel
theorem d_Desk_set_5 : decode cc_Desk_set 5 = .ok (.invokevirtual 77, 3) := by decide +kernel
theorem d_Desk_set_8 : decode cc_Desk_set 8 = .ok (.istore_n 3, 1) := by decide +kernel
theorem d_Desk_set_9 : decode cc_Desk_set 9 = .ok (.aload_n 0, 1) := by decide +kernel
theorem d_Desk_set_10 : decode cc_Desk_set 10 = .ok (.getfield 24, 3) := by decide +kernel
theorem d_Desk_set_13 : decode cc_Desk_set 13 = .ok (.iload_n 1, 1) := by decide +kernel
theorem d_Desk_set_14 : decode cc_Desk_set 14 = .ok (.iload_n 2, 1) := by decide +kernel
theorem d_Desk_set_15 : decode cc_Desk_set 15 = .ok (.invokevirtual 78, 3) := by decide +kernel
theorem d_Desk_set_18 : decode cc_Desk_set 18 = .ok (.iload_n 3, 1) := by decide +kernel
theorem d_Desk_set_19 : decode cc_Desk_set 19 = .ok (.ireturn, 1) := by decide +kernel
abbrev y_Desk_register : MethodName := ⟨"TrapDesk", "register", "(I)I"⟩
abbrev cc_Desk_register : ByteArray := prog_1_method_10_code
abbrev ws_Desk_register : List Cond := Cond.code y_Desk_register cc_Desk_register 2 (some .int) :: gtb
theorem d_Desk_register_0 : decode cc_Desk_register 0 = .ok (.aload_n 0, 1) := by decide +kernel
theorem d_Desk_register_1 : decode cc_Desk_register 1 = .ok (.getfield 24, 3) := by decide +kernel
theorem d_Desk_register_4 : decode cc_Desk_register 4 = .ok (.iload_n 1, 1) := by decide +kernel
theorem d_Desk_register_5 : decode cc_Desk_register 5 = .ok (.invokevirtual 77, 3) := by decide +kernel
theorem d_Desk_register_8 : decode cc_Desk_register 8 = .ok (.ireturn, 1) := by decide +kernel
abbrev y_Desk_doWord : MethodName := ⟨"TrapDesk", "doWord", "(I)I"⟩
abbrev cc_Desk_doWord : ByteArray := prog_1_method_11_code
abbrev ws_Desk_doWord : List Cond := Cond.code y_Desk_doWord cc_Desk_doWord 3 (some .int) :: gtb
theorem d_Desk_doWord_0 : decode cc_Desk_doWord 0 = .ok (.aload_n 0, 1) := by decide +kernel
theorem d_Desk_doWord_1 : decode cc_Desk_doWord 1 = .ok (.getfield 20, 3) := by decide +kernel
theorem d_Desk_doWord_4 : decode cc_Desk_doWord 4 = .ok (.getfield 79, 3) := by decide +kernel
theorem d_Desk_doWord_7 : decode cc_Desk_doWord 7 = .ok (.ifCond .eq 6, 3) := by decide +kernel
theorem d_Desk_doWord_10 : decode cc_Desk_doWord 10 = .ok (.bipush (-3), 2) := by decide +kernel
theorem d_Desk_doWord_12 : decode cc_Desk_doWord 12 = .ok (.ireturn, 1) := by decide +kernel
theorem d_Desk_doWord_13 : decode cc_Desk_doWord 13 = .ok (.aload_n 0, 1) := by decide +kernel
theorem d_Desk_doWord_14 : decode cc_Desk_doWord 14 = .ok (.iload_n 1, 1) := by decide +kernel
theorem d_Desk_doWord_15 : decode cc_Desk_doWord 15 = .ok (.invokevirtual 82, 3) := by decide +kernel
theorem d_Desk_doWord_18 : decode cc_Desk_doWord 18 = .ok (.istore_n 2, 1) := by decide +kernel
theorem d_Desk_doWord_19 : decode cc_Desk_doWord 19 = .ok (.iload_n 2, 1) := by decide +kernel
theorem d_Desk_doWord_20 : decode cc_Desk_doWord 20 = .ok (.ifCond .lt 17, 3) := by decide +kernel
theorem d_Desk_doWord_23 : decode cc_Desk_doWord 23 = .ok (.aload_n 0, 1) := by decide +kernel
theorem d_Desk_doWord_24 : decode cc_Desk_doWord 24 = .ok (.iload_n 2, 1) := by decide +kernel
theorem d_Desk_doWord_25 : decode cc_Desk_doWord 25 = .ok (.aload_n 0, 1) := by decide +kernel
theorem d_Desk_doWord_26 : decode cc_Desk_doWord 26 = .ok (.iload_n 2, 1) := by decide +kernel
theorem d_Desk_doWord_27 : decode cc_Desk_doWord 27 = .ok (.iload_n 1, 1) := by decide +kernel
theorem d_Desk_doWord_28 : decode cc_Desk_doWord 28 = .ok (.invokevirtual 85, 3) := by decide +kernel
theorem d_Desk_doWord_31 : decode cc_Desk_doWord 31 = .ok (.iconst 0, 1) := by decide +kernel
theorem d_Desk_doWord_32 : decode cc_Desk_doWord 32 = .ok (.iconst 0, 1) := by decide +kernel
theorem d_Desk_doWord_33 : decode cc_Desk_doWord 33 = .ok (.iconst 0, 1) := by decide +kernel
theorem d_Desk_doWord_34 : decode cc_Desk_doWord 34 = .ok (.invokevirtual 89, 3) := by decide +kernel
theorem d_Desk_doWord_37 : decode cc_Desk_doWord 37 = .ok (.iload_n 2, 1) := by decide +kernel
theorem d_Desk_doWord_38 : decode cc_Desk_doWord 38 = .ok (.ireturn, 1) := by decide +kernel
abbrev y_Desk_fail : MethodName := ⟨"TrapDesk", "fail", "(IIZJZ)I"⟩
abbrev cc_Desk_fail : ByteArray := prog_1_method_12_code
abbrev ws_Desk_fail : List Cond := Cond.code y_Desk_fail cc_Desk_fail 7 (some .int) :: gtb
theorem d_Desk_fail_0 : decode cc_Desk_fail 0 = .ok (.ldc 93, 2) := by decide +kernel
theorem d_Desk_fail_2 : decode cc_Desk_fail 2 = .ok (.iload_n 1, 1) := by decide +kernel
theorem d_Desk_fail_3 : decode cc_Desk_fail 3 = .ok (.invokestatic 94, 3) := by decide +kernel
theorem d_Desk_fail_6 : decode cc_Desk_fail 6 = .ok (.ifCond .eq 19, 3) := by decide +kernel
theorem d_Desk_fail_9 : decode cc_Desk_fail 9 = .ok (.lload 4, 2) := by decide +kernel
theorem d_Desk_fail_11 : decode cc_Desk_fail 11 = .ok (.lconst 0, 1) := by decide +kernel
theorem d_Desk_fail_12 : decode cc_Desk_fail 12 = .ok (.lcmp, 1) := by decide +kernel
theorem d_Desk_fail_13 : decode cc_Desk_fail 13 = .ok (.ifCond .lt 12, 3) := by decide +kernel
theorem d_Desk_fail_16 : decode cc_Desk_fail 16 = .ok (.lload 4, 2) := by decide +kernel
theorem d_Desk_fail_18 : decode cc_Desk_fail 18 = .ok (.ldc2_w 98, 3) := by decide +kernel
theorem d_Desk_fail_21 : decode cc_Desk_fail 21 = .ok (.lcmp, 1) := by decide +kernel
theorem d_Desk_fail_22 : decode cc_Desk_fail 22 = .ok (.ifCond .lt 5, 3) := by decide +kernel
theorem d_Desk_fail_25 : decode cc_Desk_fail 25 = .ok (.iconst (-1), 1) := by decide +kernel
theorem d_Desk_fail_26 : decode cc_Desk_fail 26 = .ok (.ireturn, 1) := by decide +kernel
theorem d_Desk_fail_27 : decode cc_Desk_fail 27 = .ok (.aload_n 0, 1) := by decide +kernel
theorem d_Desk_fail_28 : decode cc_Desk_fail 28 = .ok (.getfield 20, 3) := by decide +kernel
theorem d_Desk_fail_31 : decode cc_Desk_fail 31 = .ok (.getfield 79, 3) := by decide +kernel
theorem d_Desk_fail_34 : decode cc_Desk_fail 34 = .ok (.ifCond .eq 6, 3) := by decide +kernel
theorem d_Desk_fail_37 : decode cc_Desk_fail 37 = .ok (.bipush (-3), 2) := by decide +kernel
theorem d_Desk_fail_39 : decode cc_Desk_fail 39 = .ok (.ireturn, 1) := by decide +kernel
theorem d_Desk_fail_40 : decode cc_Desk_fail 40 = .ok (.ldc 100, 2) := by decide +kernel
theorem d_Desk_fail_42 : decode cc_Desk_fail 42 = .ok (.iload_n 1, 1) := by decide +kernel
theorem d_Desk_fail_43 : decode cc_Desk_fail 43 = .ok (.invokestatic 94, 3) := by decide +kernel
theorem d_Desk_fail_46 : decode cc_Desk_fail 46 = .ok (.ifCond .eq 30, 3) := by decide +kernel
theorem d_Desk_fail_49 : decode cc_Desk_fail 49 = .ok (.aload_n 0, 1) := by decide +kernel
theorem d_Desk_fail_50 : decode cc_Desk_fail 50 = .ok (.iload_n 1, 1) := by decide +kernel
theorem d_Desk_fail_51 : decode cc_Desk_fail 51 = .ok (.iload_n 2, 1) := by decide +kernel
theorem d_Desk_fail_52 : decode cc_Desk_fail 52 = .ok (.iload_n 3, 1) := by decide +kernel
theorem d_Desk_fail_53 : decode cc_Desk_fail 53 = .ok (.lload 4, 2) := by decide +kernel
theorem d_Desk_fail_55 : decode cc_Desk_fail 55 = .ok (.iconst 2, 1) := by decide +kernel
theorem d_Desk_fail_56 : decode cc_Desk_fail 56 = .ok (.lushr, 1) := by decide +kernel
theorem d_Desk_fail_57 : decode cc_Desk_fail 57 = .ok (.l2i, 1) := by decide +kernel
theorem d_Desk_fail_58 : decode cc_Desk_fail 58 = .ok (.iload 6, 2) := by decide +kernel
theorem d_Desk_fail_60 : decode cc_Desk_fail 60 = .ok (.ifCond .eq 9, 3) := by decide +kernel
theorem d_Desk_fail_63 : decode cc_Desk_fail 63 = .ok (.sipush 8192, 3) := by decide +kernel
theorem d_Desk_fail_66 : decode cc_Desk_fail 66 = .ok (.goto 4, 3) := by decide +kernel
theorem d_Desk_fail_69 : decode cc_Desk_fail 69 = .ok (.iconst 0, 1) := by decide +kernel
theorem d_Desk_fail_70 : decode cc_Desk_fail 70 = .ok (.invokevirtual 89, 3) := by decide +kernel
theorem d_Desk_fail_73 : decode cc_Desk_fail 73 = .ok (.goto 12, 3) := by decide +kernel
theorem d_Desk_fail_76 : decode cc_Desk_fail 76 = .ok (.aload_n 0, 1) := by decide +kernel
theorem d_Desk_fail_77 : decode cc_Desk_fail 77 = .ok (.iload_n 1, 1) := by decide +kernel
theorem d_Desk_fail_78 : decode cc_Desk_fail 78 = .ok (.iload_n 2, 1) := by decide +kernel
theorem d_Desk_fail_79 : decode cc_Desk_fail 79 = .ok (.iload_n 3, 1) := by decide +kernel
theorem d_Desk_fail_80 : decode cc_Desk_fail 80 = .ok (.iconst 0, 1) := by decide +kernel
theorem d_Desk_fail_81 : decode cc_Desk_fail 81 = .ok (.iconst 0, 1) := by decide +kernel
theorem d_Desk_fail_82 : decode cc_Desk_fail 82 = .ok (.invokevirtual 89, 3) := by decide +kernel
theorem d_Desk_fail_85 : decode cc_Desk_fail 85 = .ok (.aload_n 0, 1) := by decide +kernel
theorem d_Desk_fail_86 : decode cc_Desk_fail 86 = .ok (.getfield 28, 3) := by decide +kernel
theorem d_Desk_fail_89 : decode cc_Desk_fail 89 = .ok (.ireturn, 1) := by decide +kernel
abbrev y_Desk_interrupt : MethodName := ⟨"TrapDesk", "interrupt", "()I"⟩
abbrev cc_Desk_interrupt : ByteArray := prog_1_method_13_code
abbrev ws_Desk_interrupt : List Cond := Cond.code y_Desk_interrupt cc_Desk_interrupt 3 (some .int) :: gtb
theorem d_Desk_interrupt_0 : decode cc_Desk_interrupt 0 = .ok (.aload_n 0, 1) := by decide +kernel
theorem d_Desk_interrupt_1 : decode cc_Desk_interrupt 1 = .ok (.getfield 20, 3) := by decide +kernel
theorem d_Desk_interrupt_4 : decode cc_Desk_interrupt 4 = .ok (.getfield 79, 3) := by decide +kernel
theorem d_Desk_interrupt_7 : decode cc_Desk_interrupt 7 = .ok (.ifCond .eq 6, 3) := by decide +kernel
theorem d_Desk_interrupt_10 : decode cc_Desk_interrupt 10 = .ok (.bipush (-3), 2) := by decide +kernel
theorem d_Desk_interrupt_12 : decode cc_Desk_interrupt 12 = .ok (.ireturn, 1) := by decide +kernel
theorem d_Desk_interrupt_13 : decode cc_Desk_interrupt 13 = .ok (.aload_n 0, 1) := by decide +kernel
theorem d_Desk_interrupt_14 : decode cc_Desk_interrupt 14 = .ok (.invokevirtual 101, 3) := by decide +kernel
theorem d_Desk_interrupt_17 : decode cc_Desk_interrupt 17 = .ok (.istore_n 1, 1) := by decide +kernel
theorem d_Desk_interrupt_18 : decode cc_Desk_interrupt 18 = .ok (.iload_n 1, 1) := by decide +kernel
theorem d_Desk_interrupt_19 : decode cc_Desk_interrupt 19 = .ok (.iconst (-1), 1) := by decide +kernel
theorem d_Desk_interrupt_20 : decode cc_Desk_interrupt 20 = .ok (.if_icmp .eq 27, 3) := by decide +kernel
theorem d_Desk_interrupt_23 : decode cc_Desk_interrupt 23 = .ok (.aload_n 0, 1) := by decide +kernel
theorem d_Desk_interrupt_24 : decode cc_Desk_interrupt 24 = .ok (.dup, 1) := by decide +kernel
theorem d_Desk_interrupt_25 : decode cc_Desk_interrupt 25 = .ok (.getfield 45, 3) := by decide +kernel
theorem d_Desk_interrupt_28 : decode cc_Desk_interrupt 28 = .ok (.iconst 1, 1) := by decide +kernel
theorem d_Desk_interrupt_29 : decode cc_Desk_interrupt 29 = .ok (.iadd, 1) := by decide +kernel
theorem d_Desk_interrupt_30 : decode cc_Desk_interrupt 30 = .ok (.putfield 45, 3) := by decide +kernel
theorem d_Desk_interrupt_33 : decode cc_Desk_interrupt 33 = .ok (.aload_n 0, 1) := by decide +kernel
theorem d_Desk_interrupt_34 : decode cc_Desk_interrupt 34 = .ok (.ldc 105, 2) := by decide +kernel
theorem d_Desk_interrupt_36 : decode cc_Desk_interrupt 36 = .ok (.iload_n 1, 1) := by decide +kernel
theorem d_Desk_interrupt_37 : decode cc_Desk_interrupt 37 = .ok (.ior, 1) := by decide +kernel
theorem d_Desk_interrupt_38 : decode cc_Desk_interrupt 38 = .ok (.iconst 0, 1) := by decide +kernel
theorem d_Desk_interrupt_39 : decode cc_Desk_interrupt 39 = .ok (.iconst 0, 1) := by decide +kernel
theorem d_Desk_interrupt_40 : decode cc_Desk_interrupt 40 = .ok (.iconst 0, 1) := by decide +kernel
theorem d_Desk_interrupt_41 : decode cc_Desk_interrupt 41 = .ok (.iconst 0, 1) := by decide +kernel
theorem d_Desk_interrupt_42 : decode cc_Desk_interrupt 42 = .ok (.invokevirtual 106, 3) := by decide +kernel
theorem d_Desk_interrupt_45 : decode cc_Desk_interrupt 45 = .ok (.iload_n 1, 1) := by decide +kernel
theorem d_Desk_interrupt_46 : decode cc_Desk_interrupt 46 = .ok (.ireturn, 1) := by decide +kernel
theorem d_Desk_interrupt_47 : decode cc_Desk_interrupt 47 = .ok (.aload_n 0, 1) := by decide +kernel
theorem d_Desk_interrupt_48 : decode cc_Desk_interrupt 48 = .ok (.invokevirtual 109, 3) := by decide +kernel
theorem d_Desk_interrupt_51 : decode cc_Desk_interrupt 51 = .ok (.istore_n 2, 1) := by decide +kernel
theorem d_Desk_interrupt_52 : decode cc_Desk_interrupt 52 = .ok (.iload_n 2, 1) := by decide +kernel
theorem d_Desk_interrupt_53 : decode cc_Desk_interrupt 53 = .ok (.iconst (-1), 1) := by decide +kernel
theorem d_Desk_interrupt_54 : decode cc_Desk_interrupt 54 = .ok (.if_icmp .eq 27, 3) := by decide +kernel
theorem d_Desk_interrupt_57 : decode cc_Desk_interrupt 57 = .ok (.aload_n 0, 1) := by decide +kernel
theorem d_Desk_interrupt_58 : decode cc_Desk_interrupt 58 = .ok (.dup, 1) := by decide +kernel
theorem d_Desk_interrupt_59 : decode cc_Desk_interrupt 59 = .ok (.getfield 45, 3) := by decide +kernel
theorem d_Desk_interrupt_62 : decode cc_Desk_interrupt 62 = .ok (.iconst 1, 1) := by decide +kernel
theorem d_Desk_interrupt_63 : decode cc_Desk_interrupt 63 = .ok (.iadd, 1) := by decide +kernel
theorem d_Desk_interrupt_64 : decode cc_Desk_interrupt 64 = .ok (.putfield 45, 3) := by decide +kernel
theorem d_Desk_interrupt_67 : decode cc_Desk_interrupt 67 = .ok (.aload_n 0, 1) := by decide +kernel
theorem d_Desk_interrupt_68 : decode cc_Desk_interrupt 68 = .ok (.ldc 105, 2) := by decide +kernel
theorem d_Desk_interrupt_70 : decode cc_Desk_interrupt 70 = .ok (.iload_n 2, 1) := by decide +kernel
theorem d_Desk_interrupt_71 : decode cc_Desk_interrupt 71 = .ok (.ior, 1) := by decide +kernel
theorem d_Desk_interrupt_72 : decode cc_Desk_interrupt 72 = .ok (.iconst 0, 1) := by decide +kernel
theorem d_Desk_interrupt_73 : decode cc_Desk_interrupt 73 = .ok (.invokevirtual 112, 3) := by decide +kernel
theorem d_Desk_interrupt_76 : decode cc_Desk_interrupt 76 = .ok (.bipush 100, 2) := by decide +kernel
theorem d_Desk_interrupt_78 : decode cc_Desk_interrupt 78 = .ok (.iload_n 2, 1) := by decide +kernel
theorem d_Desk_interrupt_79 : decode cc_Desk_interrupt 79 = .ok (.iadd, 1) := by decide +kernel
theorem d_Desk_interrupt_80 : decode cc_Desk_interrupt 80 = .ok (.ireturn, 1) := by decide +kernel
theorem d_Desk_interrupt_81 : decode cc_Desk_interrupt 81 = .ok (.iconst (-1), 1) := by decide +kernel
theorem d_Desk_interrupt_82 : decode cc_Desk_interrupt 82 = .ok (.ireturn, 1) := by decide +kernel
abbrev y_Desk_count : MethodName := ⟨"TrapDesk", "count", "(I)I"⟩
abbrev cc_Desk_count : ByteArray := prog_1_method_14_code
abbrev ws_Desk_count : List Cond := Cond.code y_Desk_count cc_Desk_count 2 (some .int) :: gtb
theorem d_Desk_count_0 : decode cc_Desk_count 0 = .ok (.iload_n 1, 1) := by decide +kernel
theorem d_Desk_count_1 : decode cc_Desk_count 1 = .ok (.tableswitch 121 0 8 #[51, 56, 61, 66, 71, 76, 84, 100, 109], 51) := by decide +kernel
theorem d_Desk_count_52 : decode cc_Desk_count 52 = .ok (.aload_n 0, 1) := by decide +kernel
theorem d_Desk_count_53 : decode cc_Desk_count 53 = .ok (.getfield 28, 3) := by decide +kernel
theorem d_Desk_count_56 : decode cc_Desk_count 56 = .ok (.ireturn, 1) := by decide +kernel
theorem d_Desk_count_57 : decode cc_Desk_count 57 = .ok (.aload_n 0, 1) := by decide +kernel
theorem d_Desk_count_58 : decode cc_Desk_count 58 = .ok (.getfield 36, 3) := by decide +kernel
theorem d_Desk_count_61 : decode cc_Desk_count 61 = .ok (.ireturn, 1) := by decide +kernel
theorem d_Desk_count_62 : decode cc_Desk_count 62 = .ok (.aload_n 0, 1) := by decide +kernel
theorem d_Desk_count_63 : decode cc_Desk_count 63 = .ok (.getfield 39, 3) := by decide +kernel
theorem d_Desk_count_66 : decode cc_Desk_count 66 = .ok (.ireturn, 1) := by decide +kernel
theorem d_Desk_count_67 : decode cc_Desk_count 67 = .ok (.aload_n 0, 1) := by decide +kernel
theorem d_Desk_count_68 : decode cc_Desk_count 68 = .ok (.getfield 42, 3) := by decide +kernel
theorem d_Desk_count_71 : decode cc_Desk_count 71 = .ok (.ireturn, 1) := by decide +kernel
theorem d_Desk_count_72 : decode cc_Desk_count 72 = .ok (.aload_n 0, 1) := by decide +kernel
theorem d_Desk_count_73 : decode cc_Desk_count 73 = .ok (.getfield 45, 3) := by decide +kernel
theorem d_Desk_count_76 : decode cc_Desk_count 76 = .ok (.ireturn, 1) := by decide +kernel
theorem d_Desk_count_77 : decode cc_Desk_count 77 = .ok (.aload_n 0, 1) := by decide +kernel
theorem d_Desk_count_78 : decode cc_Desk_count 78 = .ok (.getfield 20, 3) := by decide +kernel
theorem d_Desk_count_81 : decode cc_Desk_count 81 = .ok (.getfield 115, 3) := by decide +kernel
theorem d_Desk_count_84 : decode cc_Desk_count 84 = .ok (.ireturn, 1) := by decide +kernel
theorem d_Desk_count_85 : decode cc_Desk_count 85 = .ok (.aload_n 0, 1) := by decide +kernel
theorem d_Desk_count_86 : decode cc_Desk_count 86 = .ok (.getfield 20, 3) := by decide +kernel
theorem d_Desk_count_89 : decode cc_Desk_count 89 = .ok (.getfield 79, 3) := by decide +kernel
theorem d_Desk_count_92 : decode cc_Desk_count 92 = .ok (.ifCond .eq 7, 3) := by decide +kernel
theorem d_Desk_count_95 : decode cc_Desk_count 95 = .ok (.iconst 1, 1) := by decide +kernel
theorem d_Desk_count_96 : decode cc_Desk_count 96 = .ok (.goto 4, 3) := by decide +kernel
theorem d_Desk_count_99 : decode cc_Desk_count 99 = .ok (.iconst 0, 1) := by decide +kernel
theorem d_Desk_count_100 : decode cc_Desk_count 100 = .ok (.ireturn, 1) := by decide +kernel
theorem d_Desk_count_101 : decode cc_Desk_count 101 = .ok (.aload_n 0, 1) := by decide +kernel
theorem d_Desk_count_102 : decode cc_Desk_count 102 = .ok (.getfield 20, 3) := by decide +kernel
theorem d_Desk_count_105 : decode cc_Desk_count 105 = .ok (.getfield 118, 3) := by decide +kernel
theorem d_Desk_count_108 : decode cc_Desk_count 108 = .ok (.l2i, 1) := by decide +kernel
theorem d_Desk_count_109 : decode cc_Desk_count 109 = .ok (.ireturn, 1) := by decide +kernel
theorem d_Desk_count_110 : decode cc_Desk_count 110 = .ok (.aload_n 0, 1) := by decide +kernel
theorem d_Desk_count_111 : decode cc_Desk_count 111 = .ok (.getfield 20, 3) := by decide +kernel
theorem d_Desk_count_114 : decode cc_Desk_count 114 = .ok (.getfield 118, 3) := by decide +kernel
theorem d_Desk_count_117 : decode cc_Desk_count 117 = .ok (.bipush 32, 2) := by decide +kernel
theorem d_Desk_count_119 : decode cc_Desk_count 119 = .ok (.lushr, 1) := by decide +kernel
theorem d_Desk_count_120 : decode cc_Desk_count 120 = .ok (.l2i, 1) := by decide +kernel
theorem d_Desk_count_121 : decode cc_Desk_count 121 = .ok (.ireturn, 1) := by decide +kernel
theorem d_Desk_count_122 : decode cc_Desk_count 122 = .ok (.iconst (-1), 1) := by decide +kernel
theorem d_Desk_count_123 : decode cc_Desk_count 123 = .ok (.ireturn, 1) := by decide +kernel
abbrev y_Desk_console : MethodName := ⟨"TrapDesk", "console", "(I)I"⟩
abbrev cc_Desk_console : ByteArray := prog_1_method_15_code
abbrev ws_Desk_console : List Cond := Cond.code y_Desk_console cc_Desk_console 2 (some .int) :: gtb
theorem d_Desk_console_0 : decode cc_Desk_console 0 = .ok (.aload_n 0, 1) := by decide +kernel
theorem d_Desk_console_1 : decode cc_Desk_console 1 = .ok (.getfield 20, 3) := by decide +kernel
theorem d_Desk_console_4 : decode cc_Desk_console 4 = .ok (.iload_n 1, 1) := by decide +kernel
theorem d_Desk_console_5 : decode cc_Desk_console 5 = .ok (.invokevirtual 121, 3) := by decide +kernel
theorem d_Desk_console_8 : decode cc_Desk_console 8 = .ok (.ireturn, 1) := by decide +kernel
abbrev y_Desk_perform : MethodName := ⟨"TrapDesk", "perform", "(I)I"⟩
abbrev cc_Desk_perform : ByteArray := prog_1_method_16_code
abbrev ws_Desk_perform : List Cond := Cond.code y_Desk_perform cc_Desk_perform 3 (some .int) :: gtb
theorem d_Desk_perform_0 : decode cc_Desk_perform 0 = .ok (.iload_n 1, 1) := by decide +kernel
theorem d_Desk_perform_1 : decode cc_Desk_perform 1 = .ok (.bipush 127, 2) := by decide +kernel
theorem d_Desk_perform_3 : decode cc_Desk_perform 3 = .ok (.iand, 1) := by decide +kernel
theorem d_Desk_perform_4 : decode cc_Desk_perform 4 = .ok (.bipush 115, 2) := by decide +kernel
theorem d_Desk_perform_6 : decode cc_Desk_perform 6 = .ok (.if_icmp .eq 5, 3) := by decide +kernel
theorem d_Desk_perform_9 : decode cc_Desk_perform 9 = .ok (.iconst 2, 1) := by decide +kernel
theorem d_Desk_perform_10 : decode cc_Desk_perform 10 = .ok (.ireturn, 1) := by decide +kernel
theorem d_Desk_perform_11 : decode cc_Desk_perform 11 = .ok (.iload_n 1, 1) := by decide +kernel
theorem d_Desk_perform_12 : decode cc_Desk_perform 12 = .ok (.bipush 12, 2) := by decide +kernel
theorem d_Desk_perform_14 : decode cc_Desk_perform 14 = .ok (.iushr, 1) := by decide +kernel
theorem d_Desk_perform_15 : decode cc_Desk_perform 15 = .ok (.bipush 7, 2) := by decide +kernel
theorem d_Desk_perform_17 : decode cc_Desk_perform 17 = .ok (.iand, 1) := by decide +kernel
theorem d_Desk_perform_18 : decode cc_Desk_perform 18 = .ok (.istore_n 2, 1) := by decide +kernel
theorem d_Desk_perform_19 : decode cc_Desk_perform 19 = .ok (.iload_n 2, 1) := by decide +kernel
theorem d_Desk_perform_20 : decode cc_Desk_perform 20 = .ok (.ifCond .ne 9, 3) := by decide +kernel
theorem d_Desk_perform_23 : decode cc_Desk_perform 23 = .ok (.aload_n 0, 1) := by decide +kernel
theorem d_Desk_perform_24 : decode cc_Desk_perform 24 = .ok (.iload_n 1, 1) := by decide +kernel
theorem d_Desk_perform_25 : decode cc_Desk_perform 25 = .ok (.invokevirtual 124, 3) := by decide +kernel
theorem d_Desk_perform_28 : decode cc_Desk_perform 28 = .ok (.ireturn, 1) := by decide +kernel
theorem d_Desk_perform_29 : decode cc_Desk_perform 29 = .ok (.iload_n 2, 1) := by decide +kernel
theorem d_Desk_perform_30 : decode cc_Desk_perform 30 = .ok (.iconst 4, 1) := by decide +kernel
theorem d_Desk_perform_31 : decode cc_Desk_perform 31 = .ok (.if_icmp .ne 9, 3) := by decide +kernel
theorem d_Desk_perform_34 : decode cc_Desk_perform 34 = .ok (.aload_n 0, 1) := by decide +kernel
theorem d_Desk_perform_35 : decode cc_Desk_perform 35 = .ok (.iload_n 1, 1) := by decide +kernel
theorem d_Desk_perform_36 : decode cc_Desk_perform 36 = .ok (.invokevirtual 127, 3) := by decide +kernel
theorem d_Desk_perform_39 : decode cc_Desk_perform 39 = .ok (.ireturn, 1) := by decide +kernel
theorem d_Desk_perform_40 : decode cc_Desk_perform 40 = .ok (.aload_n 0, 1) := by decide +kernel
theorem d_Desk_perform_41 : decode cc_Desk_perform 41 = .ok (.iload_n 1, 1) := by decide +kernel
theorem d_Desk_perform_42 : decode cc_Desk_perform 42 = .ok (.iload_n 2, 1) := by decide +kernel
theorem d_Desk_perform_43 : decode cc_Desk_perform 43 = .ok (.invokevirtual 130, 3) := by decide +kernel
theorem d_Desk_perform_46 : decode cc_Desk_perform 46 = .ok (.ireturn, 1) := by decide +kernel
abbrev y_Desk_systemWord : MethodName := ⟨"TrapDesk", "systemWord", "(I)I"⟩
abbrev cc_Desk_systemWord : ByteArray := prog_1_method_17_code
abbrev ws_Desk_systemWord : List Cond := Cond.code y_Desk_systemWord cc_Desk_systemWord 2 (some .int) :: gtb
theorem d_Desk_systemWord_0 : decode cc_Desk_systemWord 0 = .ok (.iload_n 1, 1) := by decide +kernel
theorem d_Desk_systemWord_1 : decode cc_Desk_systemWord 1 = .ok (.invokestatic 133, 3) := by decide +kernel
theorem d_Desk_systemWord_4 : decode cc_Desk_systemWord 4 = .ok (.ifCond .eq 5, 3) := by decide +kernel
theorem d_Desk_systemWord_7 : decode cc_Desk_systemWord 7 = .ok (.iconst 2, 1) := by decide +kernel
theorem d_Desk_systemWord_8 : decode cc_Desk_systemWord 8 = .ok (.ireturn, 1) := by decide +kernel
theorem d_Desk_systemWord_9 : decode cc_Desk_systemWord 9 = .ok (.iload_n 1, 1) := by decide +kernel
theorem d_Desk_systemWord_10 : decode cc_Desk_systemWord 10 = .ok (.invokestatic 136, 3) := by decide +kernel
theorem d_Desk_systemWord_13 : decode cc_Desk_systemWord 13 = .ok (.lookupswitch 47 #[(9, 35), (17, 42), (49, 42)], 35) := by decide +kernel
theorem d_Desk_systemWord_48 : decode cc_Desk_systemWord 48 = .ok (.aload_n 0, 1) := by decide +kernel
theorem d_Desk_systemWord_49 : decode cc_Desk_systemWord 49 = .ok (.ldc 141, 2) := by decide +kernel
theorem d_Desk_systemWord_51 : decode cc_Desk_systemWord 51 = .ok (.invokevirtual 142, 3) := by decide +kernel
theorem d_Desk_systemWord_54 : decode cc_Desk_systemWord 54 = .ok (.ireturn, 1) := by decide +kernel
theorem d_Desk_systemWord_55 : decode cc_Desk_systemWord 55 = .ok (.aload_n 0, 1) := by decide +kernel
theorem d_Desk_systemWord_56 : decode cc_Desk_systemWord 56 = .ok (.invokevirtual 145, 3) := by decide +kernel
theorem d_Desk_systemWord_59 : decode cc_Desk_systemWord 59 = .ok (.ireturn, 1) := by decide +kernel
theorem d_Desk_systemWord_60 : decode cc_Desk_systemWord 60 = .ok (.aload_n 0, 1) := by decide +kernel
theorem d_Desk_systemWord_61 : decode cc_Desk_systemWord 61 = .ok (.iload_n 1, 1) := by decide +kernel
theorem d_Desk_systemWord_62 : decode cc_Desk_systemWord 62 = .ok (.invokevirtual 148, 3) := by decide +kernel
theorem d_Desk_systemWord_65 : decode cc_Desk_systemWord 65 = .ok (.ireturn, 1) := by decide +kernel
abbrev y_Desk_wordWithoutA : MethodName := ⟨"TrapDesk", "wordWithoutA", "(I)I"⟩
abbrev cc_Desk_wordWithoutA : ByteArray := prog_1_method_18_code
abbrev ws_Desk_wordWithoutA : List Cond := Cond.code y_Desk_wordWithoutA cc_Desk_wordWithoutA 2 (some .int) :: gtb
theorem d_Desk_wordWithoutA_0 : decode cc_Desk_wordWithoutA 0 = .ok (.iload_n 1, 1) := by decide +kernel
theorem d_Desk_wordWithoutA_1 : decode cc_Desk_wordWithoutA 1 = .ok (.invokestatic 151, 3) := by decide +kernel
theorem d_Desk_wordWithoutA_4 : decode cc_Desk_wordWithoutA 4 = .ok (.ifCond .eq 5, 3) := by decide +kernel
theorem d_Desk_wordWithoutA_7 : decode cc_Desk_wordWithoutA 7 = .ok (.iconst 2, 1) := by decide +kernel
theorem d_Desk_wordWithoutA_8 : decode cc_Desk_wordWithoutA 8 = .ok (.ireturn, 1) := by decide +kernel
theorem d_Desk_wordWithoutA_9 : decode cc_Desk_wordWithoutA 9 = .ok (.iload_n 1, 1) := by decide +kernel
theorem d_Desk_wordWithoutA_10 : decode cc_Desk_wordWithoutA 10 = .ok (.bipush 20, 2) := by decide +kernel
theorem d_Desk_wordWithoutA_12 : decode cc_Desk_wordWithoutA 12 = .ok (.iushr, 1) := by decide +kernel
theorem d_Desk_wordWithoutA_13 : decode cc_Desk_wordWithoutA 13 = .ok (.lookupswitch 62 #[(0, 43), (1, 48), (258, 50), (261, 55)], 43) := by decide +kernel
theorem d_Desk_wordWithoutA_56 : decode cc_Desk_wordWithoutA 56 = .ok (.aload_n 0, 1) := by decide +kernel
theorem d_Desk_wordWithoutA_57 : decode cc_Desk_wordWithoutA 57 = .ok (.invokevirtual 154, 3) := by decide +kernel
theorem d_Desk_wordWithoutA_60 : decode cc_Desk_wordWithoutA 60 = .ok (.ireturn, 1) := by decide +kernel
theorem d_Desk_wordWithoutA_61 : decode cc_Desk_wordWithoutA 61 = .ok (.iconst 3, 1) := by decide +kernel
theorem d_Desk_wordWithoutA_62 : decode cc_Desk_wordWithoutA 62 = .ok (.ireturn, 1) := by decide +kernel
theorem d_Desk_wordWithoutA_63 : decode cc_Desk_wordWithoutA 63 = .ok (.aload_n 0, 1) := by decide +kernel
theorem d_Desk_wordWithoutA_64 : decode cc_Desk_wordWithoutA 64 = .ok (.invokevirtual 157, 3) := by decide +kernel
theorem d_Desk_wordWithoutA_67 : decode cc_Desk_wordWithoutA 67 = .ok (.ireturn, 1) := by decide +kernel
theorem d_Desk_wordWithoutA_68 : decode cc_Desk_wordWithoutA 68 = .ok (.aload_n 0, 1) := by decide +kernel
theorem d_Desk_wordWithoutA_69 : decode cc_Desk_wordWithoutA 69 = .ok (.ldc 160, 2) := by decide +kernel
theorem d_Desk_wordWithoutA_71 : decode cc_Desk_wordWithoutA 71 = .ok (.invokevirtual 142, 3) := by decide +kernel
theorem d_Desk_wordWithoutA_74 : decode cc_Desk_wordWithoutA 74 = .ok (.ireturn, 1) := by decide +kernel
theorem d_Desk_wordWithoutA_75 : decode cc_Desk_wordWithoutA 75 = .ok (.iconst 2, 1) := by decide +kernel
theorem d_Desk_wordWithoutA_76 : decode cc_Desk_wordWithoutA 76 = .ok (.ireturn, 1) := by decide +kernel
abbrev y_Desk_environmentCall : MethodName := ⟨"TrapDesk", "environmentCall", "()I"⟩
abbrev cc_Desk_environmentCall : ByteArray := prog_1_method_19_code
abbrev ws_Desk_environmentCall : List Cond := Cond.code y_Desk_environmentCall cc_Desk_environmentCall 2 (some .int) :: gtb
theorem d_Desk_environmentCall_0 : decode cc_Desk_environmentCall 0 = .ok (.aload_n 0, 1) := by decide +kernel
theorem d_Desk_environmentCall_1 : decode cc_Desk_environmentCall 1 = .ok (.getfield 28, 3) := by decide +kernel
theorem d_Desk_environmentCall_4 : decode cc_Desk_environmentCall 4 = .ok (.iconst 3, 1) := by decide +kernel
theorem d_Desk_environmentCall_5 : decode cc_Desk_environmentCall 5 = .ok (.if_icmp .ne 6, 3) := by decide +kernel
theorem d_Desk_environmentCall_8 : decode cc_Desk_environmentCall 8 = .ok (.bipush 10, 2) := by decide +kernel
theorem d_Desk_environmentCall_10 : decode cc_Desk_environmentCall 10 = .ok (.ireturn, 1) := by decide +kernel
theorem d_Desk_environmentCall_11 : decode cc_Desk_environmentCall 11 = .ok (.aload_n 0, 1) := by decide +kernel
theorem d_Desk_environmentCall_12 : decode cc_Desk_environmentCall 12 = .ok (.getfield 28, 3) := by decide +kernel
theorem d_Desk_environmentCall_15 : decode cc_Desk_environmentCall 15 = .ok (.iconst 1, 1) := by decide +kernel
theorem d_Desk_environmentCall_16 : decode cc_Desk_environmentCall 16 = .ok (.if_icmp .eq 6, 3) := by decide +kernel
theorem d_Desk_environmentCall_19 : decode cc_Desk_environmentCall 19 = .ok (.bipush 8, 2) := by decide +kernel
theorem d_Desk_environmentCall_21 : decode cc_Desk_environmentCall 21 = .ok (.ireturn, 1) := by decide +kernel
theorem d_Desk_environmentCall_22 : decode cc_Desk_environmentCall 22 = .ok (.aload_n 0, 1) := by decide +kernel
theorem d_Desk_environmentCall_23 : decode cc_Desk_environmentCall 23 = .ok (.getfield 20, 3) := by decide +kernel
theorem d_Desk_environmentCall_26 : decode cc_Desk_environmentCall 26 = .ok (.aload_n 0, 1) := by decide +kernel
theorem d_Desk_environmentCall_27 : decode cc_Desk_environmentCall 27 = .ok (.getfield 24, 3) := by decide +kernel
theorem d_Desk_environmentCall_30 : decode cc_Desk_environmentCall 30 = .ok (.getfield 161, 3) := by decide +kernel
theorem d_Desk_environmentCall_33 : decode cc_Desk_environmentCall 33 = .ok (.aload_n 0, 1) := by decide +kernel
theorem d_Desk_environmentCall_34 : decode cc_Desk_environmentCall 34 = .ok (.getfield 24, 3) := by decide +kernel
theorem d_Desk_environmentCall_37 : decode cc_Desk_environmentCall 37 = .ok (.getfield 164, 3) := by decide +kernel
theorem d_Desk_environmentCall_40 : decode cc_Desk_environmentCall 40 = .ok (.aload_n 0, 1) := by decide +kernel
theorem d_Desk_environmentCall_41 : decode cc_Desk_environmentCall 41 = .ok (.getfield 24, 3) := by decide +kernel
theorem d_Desk_environmentCall_44 : decode cc_Desk_environmentCall 44 = .ok (.getfield 167, 3) := by decide +kernel
theorem d_Desk_environmentCall_47 : decode cc_Desk_environmentCall 47 = .ok (.invokevirtual 170, 3) := by decide +kernel
theorem d_Desk_environmentCall_50 : decode cc_Desk_environmentCall 50 = .ok (.istore_n 1, 1) := by decide +kernel
theorem d_Desk_environmentCall_51 : decode cc_Desk_environmentCall 51 = .ok (.aload_n 0, 1) := by decide +kernel
theorem d_Desk_environmentCall_52 : decode cc_Desk_environmentCall 52 = .ok (.getfield 24, 3) := by decide +kernel
theorem d_Desk_environmentCall_55 : decode cc_Desk_environmentCall 55 = .ok (.iload_n 1, 1) := by decide +kernel
theorem d_Desk_environmentCall_56 : decode cc_Desk_environmentCall 56 = .ok (.putfield 164, 3) := by decide +kernel
theorem d_Desk_environmentCall_59 : decode cc_Desk_environmentCall 59 = .ok (.aload_n 0, 1) := by decide +kernel
theorem d_Desk_environmentCall_60 : decode cc_Desk_environmentCall 60 = .ok (.invokevirtual 174, 3) := by decide +kernel
theorem d_Desk_environmentCall_63 : decode cc_Desk_environmentCall 63 = .ok (.ireturn, 1) := by decide +kernel
abbrev y_Desk_supervisorReturn : MethodName := ⟨"TrapDesk", "supervisorReturn", "()I"⟩
abbrev cc_Desk_supervisorReturn : ByteArray := prog_1_method_20_code
abbrev ws_Desk_supervisorReturn : List Cond := Cond.code y_Desk_supervisorReturn cc_Desk_supervisorReturn 4 (some .int) :: gtb
theorem d_Desk_supervisorReturn_0 : decode cc_Desk_supervisorReturn 0 = .ok (.aload_n 0, 1) := by decide +kernel
theorem d_Desk_supervisorReturn_1 : decode cc_Desk_supervisorReturn 1 = .ok (.ldc 177, 2) := by decide +kernel
theorem d_Desk_supervisorReturn_3 : decode cc_Desk_supervisorReturn 3 = .ok (.invokevirtual 178, 3) := by decide +kernel
theorem d_Desk_supervisorReturn_6 : decode cc_Desk_supervisorReturn 6 = .ok (.istore_n 1, 1) := by decide +kernel
theorem d_Desk_supervisorReturn_7 : decode cc_Desk_supervisorReturn 7 = .ok (.iload_n 1, 1) := by decide +kernel
theorem d_Desk_supervisorReturn_8 : decode cc_Desk_supervisorReturn 8 = .ok (.iconst (-1), 1) := by decide +kernel
theorem d_Desk_supervisorReturn_9 : decode cc_Desk_supervisorReturn 9 = .ok (.if_icmp .eq 5, 3) := by decide +kernel
theorem d_Desk_supervisorReturn_12 : decode cc_Desk_supervisorReturn 12 = .ok (.iload_n 1, 1) := by decide +kernel
theorem d_Desk_supervisorReturn_13 : decode cc_Desk_supervisorReturn 13 = .ok (.ireturn, 1) := by decide +kernel
theorem d_Desk_supervisorReturn_14 : decode cc_Desk_supervisorReturn 14 = .ok (.aload_n 0, 1) := by decide +kernel
theorem d_Desk_supervisorReturn_15 : decode cc_Desk_supervisorReturn 15 = .ok (.getfield 28, 3) := by decide +kernel
theorem d_Desk_supervisorReturn_18 : decode cc_Desk_supervisorReturn 18 = .ok (.iconst 3, 1) := by decide +kernel
theorem d_Desk_supervisorReturn_19 : decode cc_Desk_supervisorReturn 19 = .ok (.if_icmp .ne 41, 3) := by decide +kernel
theorem d_Desk_supervisorReturn_22 : decode cc_Desk_supervisorReturn 22 = .ok (.aload_n 0, 1) := by decide +kernel
theorem d_Desk_supervisorReturn_23 : decode cc_Desk_supervisorReturn 23 = .ok (.aload_n 0, 1) := by decide +kernel
theorem d_Desk_supervisorReturn_24 : decode cc_Desk_supervisorReturn 24 = .ok (.getfield 12, 3) := by decide +kernel
theorem d_Desk_supervisorReturn_27 : decode cc_Desk_supervisorReturn 27 = .ok (.getfield 181, 3) := by decide +kernel
theorem d_Desk_supervisorReturn_30 : decode cc_Desk_supervisorReturn 30 = .ok (.getfield 185, 3) := by decide +kernel
theorem d_Desk_supervisorReturn_33 : decode cc_Desk_supervisorReturn 33 = .ok (.putfield 36, 3) := by decide +kernel
theorem d_Desk_supervisorReturn_36 : decode cc_Desk_supervisorReturn 36 = .ok (.aload_n 0, 1) := by decide +kernel
theorem d_Desk_supervisorReturn_37 : decode cc_Desk_supervisorReturn 37 = .ok (.aload_n 0, 1) := by decide +kernel
theorem d_Desk_supervisorReturn_38 : decode cc_Desk_supervisorReturn 38 = .ok (.getfield 12, 3) := by decide +kernel
theorem d_Desk_supervisorReturn_41 : decode cc_Desk_supervisorReturn 41 = .ok (.getfield 181, 3) := by decide +kernel
theorem d_Desk_supervisorReturn_44 : decode cc_Desk_supervisorReturn 44 = .ok (.invokevirtual 190, 3) := by decide +kernel
theorem d_Desk_supervisorReturn_47 : decode cc_Desk_supervisorReturn 47 = .ok (.ifCond .eq 7, 3) := by decide +kernel
theorem d_Desk_supervisorReturn_50 : decode cc_Desk_supervisorReturn 50 = .ok (.iconst 3, 1) := by decide +kernel
theorem d_Desk_supervisorReturn_51 : decode cc_Desk_supervisorReturn 51 = .ok (.goto 4, 3) := by decide +kernel
theorem d_Desk_supervisorReturn_54 : decode cc_Desk_supervisorReturn 54 = .ok (.iconst 2, 1) := by decide +kernel
theorem d_Desk_supervisorReturn_55 : decode cc_Desk_supervisorReturn 55 = .ok (.putfield 28, 3) := by decide +kernel
theorem d_Desk_supervisorReturn_58 : decode cc_Desk_supervisorReturn 58 = .ok (.iconst (-1), 1) := by decide +kernel
theorem d_Desk_supervisorReturn_59 : decode cc_Desk_supervisorReturn 59 = .ok (.ireturn, 1) := by decide +kernel
theorem d_Desk_supervisorReturn_60 : decode cc_Desk_supervisorReturn 60 = .ok (.aload_n 0, 1) := by decide +kernel
theorem d_Desk_supervisorReturn_61 : decode cc_Desk_supervisorReturn 61 = .ok (.aload_n 0, 1) := by decide +kernel
theorem d_Desk_supervisorReturn_62 : decode cc_Desk_supervisorReturn 62 = .ok (.getfield 12, 3) := by decide +kernel
theorem d_Desk_supervisorReturn_65 : decode cc_Desk_supervisorReturn 65 = .ok (.getfield 194, 3) := by decide +kernel
theorem d_Desk_supervisorReturn_68 : decode cc_Desk_supervisorReturn 68 = .ok (.getfield 185, 3) := by decide +kernel
theorem d_Desk_supervisorReturn_71 : decode cc_Desk_supervisorReturn 71 = .ok (.putfield 36, 3) := by decide +kernel
theorem d_Desk_supervisorReturn_74 : decode cc_Desk_supervisorReturn 74 = .ok (.aload_n 0, 1) := by decide +kernel
theorem d_Desk_supervisorReturn_75 : decode cc_Desk_supervisorReturn 75 = .ok (.getfield 12, 3) := by decide +kernel
theorem d_Desk_supervisorReturn_78 : decode cc_Desk_supervisorReturn 78 = .ok (.getfield 194, 3) := by decide +kernel
theorem d_Desk_supervisorReturn_81 : decode cc_Desk_supervisorReturn 81 = .ok (.invokevirtual 190, 3) := by decide +kernel
theorem d_Desk_supervisorReturn_84 : decode cc_Desk_supervisorReturn 84 = .ok (.istore_n 2, 1) := by decide +kernel
theorem d_Desk_supervisorReturn_85 : decode cc_Desk_supervisorReturn 85 = .ok (.aload_n 0, 1) := by decide +kernel
theorem d_Desk_supervisorReturn_86 : decode cc_Desk_supervisorReturn 86 = .ok (.getfield 12, 3) := by decide +kernel
theorem d_Desk_supervisorReturn_89 : decode cc_Desk_supervisorReturn 89 = .ok (.getfield 197, 3) := by decide +kernel
theorem d_Desk_supervisorReturn_92 : decode cc_Desk_supervisorReturn 92 = .ok (.invokevirtual 201, 3) := by decide +kernel
theorem d_Desk_supervisorReturn_95 : decode cc_Desk_supervisorReturn 95 = .ok (.istore_n 3, 1) := by decide +kernel
theorem d_Desk_supervisorReturn_96 : decode cc_Desk_supervisorReturn 96 = .ok (.iload_n 3, 1) := by decide +kernel
theorem d_Desk_supervisorReturn_97 : decode cc_Desk_supervisorReturn 97 = .ok (.ifCond .eq 19, 3) := by decide +kernel
theorem d_Desk_supervisorReturn_100 : decode cc_Desk_supervisorReturn 100 = .ok (.aload_n 0, 1) := by decide +kernel
theorem d_Desk_supervisorReturn_101 : decode cc_Desk_supervisorReturn 101 = .ok (.iload_n 2, 1) := by decide +kernel
theorem d_Desk_supervisorReturn_102 : decode cc_Desk_supervisorReturn 102 = .ok (.ifCond .eq 7, 3) := by decide +kernel
theorem d_Desk_supervisorReturn_105 : decode cc_Desk_supervisorReturn 105 = .ok (.iconst 3, 1) := by decide +kernel
theorem d_Desk_supervisorReturn_106 : decode cc_Desk_supervisorReturn 106 = .ok (.goto 4, 3) := by decide +kernel
theorem d_Desk_supervisorReturn_109 : decode cc_Desk_supervisorReturn 109 = .ok (.iconst 2, 1) := by decide +kernel
theorem d_Desk_supervisorReturn_110 : decode cc_Desk_supervisorReturn 110 = .ok (.putfield 28, 3) := by decide +kernel
theorem d_Desk_supervisorReturn_113 : decode cc_Desk_supervisorReturn 113 = .ok (.goto 16, 3) := by decide +kernel
theorem d_Desk_supervisorReturn_116 : decode cc_Desk_supervisorReturn 116 = .ok (.aload_n 0, 1) := by decide +kernel
theorem d_Desk_supervisorReturn_117 : decode cc_Desk_supervisorReturn 117 = .ok (.iload_n 2, 1) := by decide +kernel
theorem d_Desk_supervisorReturn_118 : decode cc_Desk_supervisorReturn 118 = .ok (.ifCond .eq 7, 3) := by decide +kernel
theorem d_Desk_supervisorReturn_121 : decode cc_Desk_supervisorReturn 121 = .ok (.iconst 1, 1) := by decide +kernel
theorem d_Desk_supervisorReturn_122 : decode cc_Desk_supervisorReturn 122 = .ok (.goto 4, 3) := by decide +kernel
theorem d_Desk_supervisorReturn_125 : decode cc_Desk_supervisorReturn 125 = .ok (.iconst 0, 1) := by decide +kernel
theorem d_Desk_supervisorReturn_126 : decode cc_Desk_supervisorReturn 126 = .ok (.putfield 28, 3) := by decide +kernel
theorem d_Desk_supervisorReturn_129 : decode cc_Desk_supervisorReturn 129 = .ok (.iconst (-1), 1) := by decide +kernel
theorem d_Desk_supervisorReturn_130 : decode cc_Desk_supervisorReturn 130 = .ok (.ireturn, 1) := by decide +kernel
abbrev y_Desk_nothingUnless : MethodName := ⟨"TrapDesk", "nothingUnless", "(I)I"⟩
abbrev cc_Desk_nothingUnless : ByteArray := prog_1_method_21_code
abbrev ws_Desk_nothingUnless : List Cond := Cond.code y_Desk_nothingUnless cc_Desk_nothingUnless 3 (some .int) :: gtb
theorem d_Desk_nothingUnless_0 : decode cc_Desk_nothingUnless 0 = .ok (.aload_n 0, 1) := by decide +kernel
theorem d_Desk_nothingUnless_1 : decode cc_Desk_nothingUnless 1 = .ok (.iload_n 1, 1) := by decide +kernel
theorem d_Desk_nothingUnless_2 : decode cc_Desk_nothingUnless 2 = .ok (.invokevirtual 178, 3) := by decide +kernel
theorem d_Desk_nothingUnless_5 : decode cc_Desk_nothingUnless 5 = .ok (.istore_n 2, 1) := by decide +kernel
theorem d_Desk_nothingUnless_6 : decode cc_Desk_nothingUnless 6 = .ok (.iload_n 2, 1) := by decide +kernel
theorem d_Desk_nothingUnless_7 : decode cc_Desk_nothingUnless 7 = .ok (.iconst (-1), 1) := by decide +kernel
theorem d_Desk_nothingUnless_8 : decode cc_Desk_nothingUnless 8 = .ok (.if_icmp .ne 10, 3) := by decide +kernel
theorem d_Desk_nothingUnless_11 : decode cc_Desk_nothingUnless 11 = .ok (.aload_n 0, 1) := by decide +kernel
theorem d_Desk_nothingUnless_12 : decode cc_Desk_nothingUnless 12 = .ok (.invokevirtual 174, 3) := by decide +kernel
theorem d_Desk_nothingUnless_15 : decode cc_Desk_nothingUnless 15 = .ok (.goto 4, 3) := by decide +kernel
theorem d_Desk_nothingUnless_18 : decode cc_Desk_nothingUnless 18 = .ok (.iload_n 2, 1) := by decide +kernel
theorem d_Desk_nothingUnless_19 : decode cc_Desk_nothingUnless 19 = .ok (.ireturn, 1) := by decide +kernel
abbrev y_Desk_refusalOfSupervisorWord : MethodName := ⟨"TrapDesk", "refusalOfSupervisorWord", "(I)I"⟩
abbrev cc_Desk_refusalOfSupervisorWord : ByteArray := prog_1_method_22_code
abbrev ws_Desk_refusalOfSupervisorWord : List Cond := Cond.code y_Desk_refusalOfSupervisorWord cc_Desk_refusalOfSupervisorWord 2 (some .int) :: gtb
theorem d_Desk_refusalOfSupervisorWord_0 : decode cc_Desk_refusalOfSupervisorWord 0 = .ok (.aload_n 0, 1) := by decide +kernel
theorem d_Desk_refusalOfSupervisorWord_1 : decode cc_Desk_refusalOfSupervisorWord 1 = .ok (.getfield 28, 3) := by decide +kernel
theorem d_Desk_refusalOfSupervisorWord_4 : decode cc_Desk_refusalOfSupervisorWord 4 = .ok (.tableswitch 54 1 3 #[28, 51, 30], 28) := by decide +kernel
theorem d_Desk_refusalOfSupervisorWord_32 : decode cc_Desk_refusalOfSupervisorWord 32 = .ok (.iconst (-1), 1) := by decide +kernel
theorem d_Desk_refusalOfSupervisorWord_33 : decode cc_Desk_refusalOfSupervisorWord 33 = .ok (.ireturn, 1) := by decide +kernel
theorem d_Desk_refusalOfSupervisorWord_34 : decode cc_Desk_refusalOfSupervisorWord 34 = .ok (.aload_n 0, 1) := by decide +kernel
theorem d_Desk_refusalOfSupervisorWord_35 : decode cc_Desk_refusalOfSupervisorWord 35 = .ok (.getfield 12, 3) := by decide +kernel
theorem d_Desk_refusalOfSupervisorWord_38 : decode cc_Desk_refusalOfSupervisorWord 38 = .ok (.getfield 197, 3) := by decide +kernel
theorem d_Desk_refusalOfSupervisorWord_41 : decode cc_Desk_refusalOfSupervisorWord 41 = .ok (.iload_n 1, 1) := by decide +kernel
theorem d_Desk_refusalOfSupervisorWord_42 : decode cc_Desk_refusalOfSupervisorWord 42 = .ok (.invokevirtual 202, 3) := by decide +kernel
theorem d_Desk_refusalOfSupervisorWord_45 : decode cc_Desk_refusalOfSupervisorWord 45 = .ok (.ifCond .eq 8, 3) := by decide +kernel
theorem d_Desk_refusalOfSupervisorWord_48 : decode cc_Desk_refusalOfSupervisorWord 48 = .ok (.bipush 22, 2) := by decide +kernel
theorem d_Desk_refusalOfSupervisorWord_50 : decode cc_Desk_refusalOfSupervisorWord 50 = .ok (.goto 4, 3) := by decide +kernel
theorem d_Desk_refusalOfSupervisorWord_53 : decode cc_Desk_refusalOfSupervisorWord 53 = .ok (.iconst (-1), 1) := by decide +kernel
theorem d_Desk_refusalOfSupervisorWord_54 : decode cc_Desk_refusalOfSupervisorWord 54 = .ok (.ireturn, 1) := by decide +kernel
theorem d_Desk_refusalOfSupervisorWord_55 : decode cc_Desk_refusalOfSupervisorWord 55 = .ok (.bipush 22, 2) := by decide +kernel
theorem d_Desk_refusalOfSupervisorWord_57 : decode cc_Desk_refusalOfSupervisorWord 57 = .ok (.ireturn, 1) := by decide +kernel
theorem d_Desk_refusalOfSupervisorWord_58 : decode cc_Desk_refusalOfSupervisorWord 58 = .ok (.iconst 2, 1) := by decide +kernel
theorem d_Desk_refusalOfSupervisorWord_59 : decode cc_Desk_refusalOfSupervisorWord 59 = .ok (.ireturn, 1) := by decide +kernel
abbrev y_Desk_hypervisorFence : MethodName := ⟨"TrapDesk", "hypervisorFence", "()I"⟩
abbrev cc_Desk_hypervisorFence : ByteArray := prog_1_method_23_code
abbrev ws_Desk_hypervisorFence : List Cond := Cond.code y_Desk_hypervisorFence cc_Desk_hypervisorFence 1 (some .int) :: gtb
theorem d_Desk_hypervisorFence_0 : decode cc_Desk_hypervisorFence 0 = .ok (.aload_n 0, 1) := by decide +kernel
theorem d_Desk_hypervisorFence_1 : decode cc_Desk_hypervisorFence 1 = .ok (.invokevirtual 205, 3) := by decide +kernel
theorem d_Desk_hypervisorFence_4 : decode cc_Desk_hypervisorFence 4 = .ok (.ifCond .eq 6, 3) := by decide +kernel
theorem d_Desk_hypervisorFence_7 : decode cc_Desk_hypervisorFence 7 = .ok (.bipush 22, 2) := by decide +kernel
theorem d_Desk_hypervisorFence_9 : decode cc_Desk_hypervisorFence 9 = .ok (.ireturn, 1) := by decide +kernel
theorem d_Desk_hypervisorFence_10 : decode cc_Desk_hypervisorFence 10 = .ok (.aload_n 0, 1) := by decide +kernel
theorem d_Desk_hypervisorFence_11 : decode cc_Desk_hypervisorFence 11 = .ok (.getfield 28, 3) := by decide +kernel
theorem d_Desk_hypervisorFence_14 : decode cc_Desk_hypervisorFence 14 = .ok (.ifCond .ne 7, 3) := by decide +kernel
theorem d_Desk_hypervisorFence_17 : decode cc_Desk_hypervisorFence 17 = .ok (.iconst 2, 1) := by decide +kernel
theorem d_Desk_hypervisorFence_18 : decode cc_Desk_hypervisorFence 18 = .ok (.goto 7, 3) := by decide +kernel
theorem d_Desk_hypervisorFence_21 : decode cc_Desk_hypervisorFence 21 = .ok (.aload_n 0, 1) := by decide +kernel
theorem d_Desk_hypervisorFence_22 : decode cc_Desk_hypervisorFence 22 = .ok (.invokevirtual 174, 3) := by decide +kernel
theorem d_Desk_hypervisorFence_25 : decode cc_Desk_hypervisorFence 25 = .ok (.ireturn, 1) := by decide +kernel
abbrev y_Desk_farAccessWord : MethodName := ⟨"TrapDesk", "farAccessWord", "(I)I"⟩
abbrev cc_Desk_farAccessWord : ByteArray := prog_1_method_24_code
abbrev ws_Desk_farAccessWord : List Cond := Cond.code y_Desk_farAccessWord cc_Desk_farAccessWord 2 (some .int) :: gtb
theorem d_Desk_farAccessWord_0 : decode cc_Desk_farAccessWord 0 = .ok (.iload_n 1, 1) := by decide +kernel
theorem d_Desk_farAccessWord_1 : decode cc_Desk_farAccessWord 1 = .ok (.invokestatic 136, 3) := by decide +kernel
theorem d_Desk_farAccessWord_4 : decode cc_Desk_farAccessWord 4 = .ok (.iload_n 1, 1) := by decide +kernel
theorem d_Desk_farAccessWord_5 : decode cc_Desk_farAccessWord 5 = .ok (.invokestatic 208, 3) := by decide +kernel
theorem d_Desk_farAccessWord_8 : decode cc_Desk_farAccessWord 8 = .ok (.iload_n 1, 1) := by decide +kernel
theorem d_Desk_farAccessWord_9 : decode cc_Desk_farAccessWord 9 = .ok (.invokestatic 133, 3) := by decide +kernel
theorem d_Desk_farAccessWord_12 : decode cc_Desk_farAccessWord 12 = .ok (.invokestatic 211, 3) := by decide +kernel
theorem d_Desk_farAccessWord_15 : decode cc_Desk_farAccessWord 15 = .ok (.ifCond .ne 5, 3) := by decide +kernel
theorem d_Desk_farAccessWord_18 : decode cc_Desk_farAccessWord 18 = .ok (.iconst 2, 1) := by decide +kernel
theorem d_Desk_farAccessWord_19 : decode cc_Desk_farAccessWord 19 = .ok (.ireturn, 1) := by decide +kernel
theorem d_Desk_farAccessWord_20 : decode cc_Desk_farAccessWord 20 = .ok (.aload_n 0, 1) := by decide +kernel
theorem d_Desk_farAccessWord_21 : decode cc_Desk_farAccessWord 21 = .ok (.invokevirtual 205, 3) := by decide +kernel
theorem d_Desk_farAccessWord_24 : decode cc_Desk_farAccessWord 24 = .ok (.ifCond .eq 6, 3) := by decide +kernel
theorem d_Desk_farAccessWord_27 : decode cc_Desk_farAccessWord 27 = .ok (.bipush 22, 2) := by decide +kernel
theorem d_Desk_farAccessWord_29 : decode cc_Desk_farAccessWord 29 = .ok (.ireturn, 1) := by decide +kernel
theorem d_Desk_farAccessWord_30 : decode cc_Desk_farAccessWord 30 = .ok (.aload_n 0, 1) := by decide +kernel
theorem d_Desk_farAccessWord_31 : decode cc_Desk_farAccessWord 31 = .ok (.getfield 28, 3) := by decide +kernel
theorem d_Desk_farAccessWord_34 : decode cc_Desk_farAccessWord 34 = .ok (.ifCond .ne 21, 3) := by decide +kernel
theorem d_Desk_farAccessWord_37 : decode cc_Desk_farAccessWord 37 = .ok (.aload_n 0, 1) := by decide +kernel
theorem d_Desk_farAccessWord_38 : decode cc_Desk_farAccessWord 38 = .ok (.getfield 12, 3) := by decide +kernel
theorem d_Desk_farAccessWord_41 : decode cc_Desk_farAccessWord 41 = .ok (.getfield 197, 3) := by decide +kernel
theorem d_Desk_farAccessWord_44 : decode cc_Desk_farAccessWord 44 = .ok (.sipush 512, 3) := by decide +kernel
theorem d_Desk_farAccessWord_47 : decode cc_Desk_farAccessWord 47 = .ok (.invokevirtual 202, 3) := by decide +kernel
theorem d_Desk_farAccessWord_50 : decode cc_Desk_farAccessWord 50 = .ok (.ifCond .ne 5, 3) := by decide +kernel
theorem d_Desk_farAccessWord_53 : decode cc_Desk_farAccessWord 53 = .ok (.iconst 2, 1) := by decide +kernel
theorem d_Desk_farAccessWord_54 : decode cc_Desk_farAccessWord 54 = .ok (.ireturn, 1) := by decide +kernel
theorem d_Desk_farAccessWord_55 : decode cc_Desk_farAccessWord 55 = .ok (.bipush (-2), 2) := by decide +kernel
theorem d_Desk_farAccessWord_57 : decode cc_Desk_farAccessWord 57 = .ok (.ireturn, 1) := by decide +kernel
abbrev y_Desk_isFarAccess : MethodName := ⟨"TrapDesk", "isFarAccess", "(III)Z"⟩
abbrev cc_Desk_isFarAccess : ByteArray := prog_1_method_25_code
abbrev ws_Desk_isFarAccess : List Cond := Cond.code y_Desk_isFarAccess cc_Desk_isFarAccess 3 (some .boolean) :: gtb
theorem d_Desk_isFarAccess_0 : decode cc_Desk_isFarAccess 0 = .ok (.iload_n 0, 1) := by decide +kernel
theorem d_Desk_isFarAccess_1 : decode cc_Desk_isFarAccess 1 = .ok (.tableswitch 99 48 53 #[39, 89, 54, 89, 74, 89], 39) := by decide +kernel
theorem d_Desk_isFarAccess_40 : decode cc_Desk_isFarAccess 40 = .ok (.iload_n 1, 1) := by decide +kernel
theorem d_Desk_isFarAccess_41 : decode cc_Desk_isFarAccess 41 = .ok (.ifCond .eq 8, 3) := by decide +kernel
theorem d_Desk_isFarAccess_44 : decode cc_Desk_isFarAccess 44 = .ok (.iload_n 1, 1) := by decide +kernel
theorem d_Desk_isFarAccess_45 : decode cc_Desk_isFarAccess 45 = .ok (.iconst 1, 1) := by decide +kernel
theorem d_Desk_isFarAccess_46 : decode cc_Desk_isFarAccess 46 = .ok (.if_icmp .ne 7, 3) := by decide +kernel
theorem d_Desk_isFarAccess_49 : decode cc_Desk_isFarAccess 49 = .ok (.iconst 1, 1) := by decide +kernel
theorem d_Desk_isFarAccess_50 : decode cc_Desk_isFarAccess 50 = .ok (.goto 4, 3) := by decide +kernel
theorem d_Desk_isFarAccess_53 : decode cc_Desk_isFarAccess 53 = .ok (.iconst 0, 1) := by decide +kernel
theorem d_Desk_isFarAccess_54 : decode cc_Desk_isFarAccess 54 = .ok (.ireturn, 1) := by decide +kernel
theorem d_Desk_isFarAccess_55 : decode cc_Desk_isFarAccess 55 = .ok (.iload_n 1, 1) := by decide +kernel
theorem d_Desk_isFarAccess_56 : decode cc_Desk_isFarAccess 56 = .ok (.ifCond .eq 13, 3) := by decide +kernel
theorem d_Desk_isFarAccess_59 : decode cc_Desk_isFarAccess 59 = .ok (.iload_n 1, 1) := by decide +kernel
theorem d_Desk_isFarAccess_60 : decode cc_Desk_isFarAccess 60 = .ok (.iconst 1, 1) := by decide +kernel
theorem d_Desk_isFarAccess_61 : decode cc_Desk_isFarAccess 61 = .ok (.if_icmp .eq 8, 3) := by decide +kernel
theorem d_Desk_isFarAccess_64 : decode cc_Desk_isFarAccess 64 = .ok (.iload_n 1, 1) := by decide +kernel
theorem d_Desk_isFarAccess_65 : decode cc_Desk_isFarAccess 65 = .ok (.iconst 3, 1) := by decide +kernel
theorem d_Desk_isFarAccess_66 : decode cc_Desk_isFarAccess 66 = .ok (.if_icmp .ne 7, 3) := by decide +kernel
theorem d_Desk_isFarAccess_69 : decode cc_Desk_isFarAccess 69 = .ok (.iconst 1, 1) := by decide +kernel
theorem d_Desk_isFarAccess_70 : decode cc_Desk_isFarAccess 70 = .ok (.goto 4, 3) := by decide +kernel
theorem d_Desk_isFarAccess_73 : decode cc_Desk_isFarAccess 73 = .ok (.iconst 0, 1) := by decide +kernel
theorem d_Desk_isFarAccess_74 : decode cc_Desk_isFarAccess 74 = .ok (.ireturn, 1) := by decide +kernel
theorem d_Desk_isFarAccess_75 : decode cc_Desk_isFarAccess 75 = .ok (.iload_n 1, 1) := by decide +kernel
theorem d_Desk_isFarAccess_76 : decode cc_Desk_isFarAccess 76 = .ok (.ifCond .eq 8, 3) := by decide +kernel
theorem d_Desk_isFarAccess_79 : decode cc_Desk_isFarAccess 79 = .ok (.iload_n 1, 1) := by decide +kernel
theorem d_Desk_isFarAccess_80 : decode cc_Desk_isFarAccess 80 = .ok (.iconst 3, 1) := by decide +kernel
theorem d_Desk_isFarAccess_81 : decode cc_Desk_isFarAccess 81 = .ok (.if_icmp .ne 7, 3) := by decide +kernel
theorem d_Desk_isFarAccess_84 : decode cc_Desk_isFarAccess 84 = .ok (.iconst 1, 1) := by decide +kernel
theorem d_Desk_isFarAccess_85 : decode cc_Desk_isFarAccess 85 = .ok (.goto 4, 3) := by decide +kernel
theorem d_Desk_isFarAccess_88 : decode cc_Desk_isFarAccess 88 = .ok (.iconst 0, 1) := by decide +kernel
theorem d_Desk_isFarAccess_89 : decode cc_Desk_isFarAccess 89 = .ok (.ireturn, 1) := by decide +kernel
theorem d_Desk_isFarAccess_90 : decode cc_Desk_isFarAccess 90 = .ok (.iload_n 2, 1) := by decide +kernel
theorem d_Desk_isFarAccess_91 : decode cc_Desk_isFarAccess 91 = .ok (.ifCond .ne 7, 3) := by decide +kernel
theorem d_Desk_isFarAccess_94 : decode cc_Desk_isFarAccess 94 = .ok (.iconst 1, 1) := by decide +kernel
theorem d_Desk_isFarAccess_95 : decode cc_Desk_isFarAccess 95 = .ok (.goto 4, 3) := by decide +kernel
theorem d_Desk_isFarAccess_98 : decode cc_Desk_isFarAccess 98 = .ok (.iconst 0, 1) := by decide +kernel
theorem d_Desk_isFarAccess_99 : decode cc_Desk_isFarAccess 99 = .ok (.ireturn, 1) := by decide +kernel
theorem d_Desk_isFarAccess_100 : decode cc_Desk_isFarAccess 100 = .ok (.iconst 0, 1) := by decide +kernel
theorem d_Desk_isFarAccess_101 : decode cc_Desk_isFarAccess 101 = .ok (.ireturn, 1) := by decide +kernel
abbrev y_Desk_controlWord : MethodName := ⟨"TrapDesk", "controlWord", "(II)I"⟩
abbrev cc_Desk_controlWord : ByteArray := prog_1_method_26_code
abbrev ws_Desk_controlWord : List Cond := Cond.code y_Desk_controlWord cc_Desk_controlWord 11 (some .int) :: gtb
theorem d_Desk_controlWord_0 : decode cc_Desk_controlWord 0 = .ok (.iload_n 1, 1) := by decide +kernel
theorem d_Desk_controlWord_1 : decode cc_Desk_controlWord 1 = .ok (.bipush 20, 2) := by decide +kernel
theorem d_Desk_controlWord_3 : decode cc_Desk_controlWord 3 = .ok (.iushr, 1) := by decide +kernel
theorem d_Desk_controlWord_4 : decode cc_Desk_controlWord 4 = .ok (.istore_n 3, 1) := by decide +kernel
theorem d_Desk_controlWord_5 : decode cc_Desk_controlWord 5 = .ok (.iload_n 1, 1) := by decide +kernel
theorem d_Desk_controlWord_6 : decode cc_Desk_controlWord 6 = .ok (.invokestatic 151, 3) := by decide +kernel
theorem d_Desk_controlWord_9 : decode cc_Desk_controlWord 9 = .ok (.istore 4, 2) := by decide +kernel
theorem d_Desk_controlWord_11 : decode cc_Desk_controlWord 11 = .ok (.iload_n 2, 1) := by decide +kernel
theorem d_Desk_controlWord_12 : decode cc_Desk_controlWord 12 = .ok (.iconst 3, 1) := by decide +kernel
theorem d_Desk_controlWord_13 : decode cc_Desk_controlWord 13 = .ok (.iand, 1) := by decide +kernel
theorem d_Desk_controlWord_14 : decode cc_Desk_controlWord 14 = .ok (.istore 5, 2) := by decide +kernel
theorem d_Desk_controlWord_16 : decode cc_Desk_controlWord 16 = .ok (.iload 5, 2) := by decide +kernel
theorem d_Desk_controlWord_18 : decode cc_Desk_controlWord 18 = .ok (.iconst 1, 1) := by decide +kernel
theorem d_Desk_controlWord_19 : decode cc_Desk_controlWord 19 = .ok (.if_icmp .eq 8, 3) := by decide +kernel
theorem d_Desk_controlWord_22 : decode cc_Desk_controlWord 22 = .ok (.iload 4, 2) := by decide +kernel
theorem d_Desk_controlWord_24 : decode cc_Desk_controlWord 24 = .ok (.ifCond .eq 7, 3) := by decide +kernel
theorem d_Desk_controlWord_27 : decode cc_Desk_controlWord 27 = .ok (.iconst 1, 1) := by decide +kernel
theorem d_Desk_controlWord_28 : decode cc_Desk_controlWord 28 = .ok (.goto 4, 3) := by decide +kernel
theorem d_Desk_controlWord_31 : decode cc_Desk_controlWord 31 = .ok (.iconst 0, 1) := by decide +kernel
theorem d_Desk_controlWord_32 : decode cc_Desk_controlWord 32 = .ok (.istore 6, 2) := by decide +kernel
theorem d_Desk_controlWord_34 : decode cc_Desk_controlWord 34 = .ok (.aload_n 0, 1) := by decide +kernel
theorem d_Desk_controlWord_35 : decode cc_Desk_controlWord 35 = .ok (.iload_n 3, 1) := by decide +kernel
theorem d_Desk_controlWord_36 : decode cc_Desk_controlWord 36 = .ok (.iload 6, 2) := by decide +kernel
theorem d_Desk_controlWord_38 : decode cc_Desk_controlWord 38 = .ok (.invokevirtual 215, 3) := by decide +kernel
theorem d_Desk_controlWord_41 : decode cc_Desk_controlWord 41 = .ok (.istore 7, 2) := by decide +kernel
theorem d_Desk_controlWord_43 : decode cc_Desk_controlWord 43 = .ok (.iload 7, 2) := by decide +kernel
theorem d_Desk_controlWord_45 : decode cc_Desk_controlWord 45 = .ok (.iconst (-1), 1) := by decide +kernel
theorem d_Desk_controlWord_46 : decode cc_Desk_controlWord 46 = .ok (.if_icmp .eq 6, 3) := by decide +kernel
theorem d_Desk_controlWord_49 : decode cc_Desk_controlWord 49 = .ok (.iload 7, 2) := by decide +kernel
theorem d_Desk_controlWord_51 : decode cc_Desk_controlWord 51 = .ok (.ireturn, 1) := by decide +kernel
theorem d_Desk_controlWord_52 : decode cc_Desk_controlWord 52 = .ok (.aload_n 0, 1) := by decide +kernel
theorem d_Desk_controlWord_53 : decode cc_Desk_controlWord 53 = .ok (.getfield 28, 3) := by decide +kernel
theorem d_Desk_controlWord_56 : decode cc_Desk_controlWord 56 = .ok (.iconst 3, 1) := by decide +kernel
theorem d_Desk_controlWord_57 : decode cc_Desk_controlWord 57 = .ok (.if_icmp .ne 10, 3) := by decide +kernel
theorem d_Desk_controlWord_60 : decode cc_Desk_controlWord 60 = .ok (.iload_n 3, 1) := by decide +kernel
theorem d_Desk_controlWord_61 : decode cc_Desk_controlWord 61 = .ok (.invokestatic 219, 3) := by decide +kernel
theorem d_Desk_controlWord_64 : decode cc_Desk_controlWord 64 = .ok (.goto 4, 3) := by decide +kernel
theorem d_Desk_controlWord_67 : decode cc_Desk_controlWord 67 = .ok (.iload_n 3, 1) := by decide +kernel
theorem d_Desk_controlWord_68 : decode cc_Desk_controlWord 68 = .ok (.istore 8, 2) := by decide +kernel
theorem d_Desk_controlWord_70 : decode cc_Desk_controlWord 70 = .ok (.iload_n 2, 1) := by decide +kernel
theorem d_Desk_controlWord_71 : decode cc_Desk_controlWord 71 = .ok (.iconst 4, 1) := by decide +kernel
theorem d_Desk_controlWord_72 : decode cc_Desk_controlWord 72 = .ok (.if_icmp .le 8, 3) := by decide +kernel
theorem d_Desk_controlWord_75 : decode cc_Desk_controlWord 75 = .ok (.iload 4, 2) := by decide +kernel
theorem d_Desk_controlWord_77 : decode cc_Desk_controlWord 77 = .ok (.goto 12, 3) := by decide +kernel
theorem d_Desk_controlWord_80 : decode cc_Desk_controlWord 80 = .ok (.aload_n 0, 1) := by decide +kernel
theorem d_Desk_controlWord_81 : decode cc_Desk_controlWord 81 = .ok (.getfield 24, 3) := by decide +kernel
theorem d_Desk_controlWord_84 : decode cc_Desk_controlWord 84 = .ok (.iload 4, 2) := by decide +kernel
theorem d_Desk_controlWord_86 : decode cc_Desk_controlWord 86 = .ok (.invokevirtual 77, 3) := by decide +kernel
theorem d_Desk_controlWord_89 : decode cc_Desk_controlWord 89 = .ok (.istore 9, 2) := by decide +kernel
theorem d_Desk_controlWord_91 : decode cc_Desk_controlWord 91 = .ok (.aload_n 0, 1) := by decide +kernel
theorem d_Desk_controlWord_92 : decode cc_Desk_controlWord 92 = .ok (.getfield 12, 3) := by decide +kernel
theorem d_Desk_controlWord_95 : decode cc_Desk_controlWord 95 = .ok (.iload 8, 2) := by decide +kernel
theorem d_Desk_controlWord_97 : decode cc_Desk_controlWord 97 = .ok (.invokevirtual 61, 3) := by decide +kernel
theorem d_Desk_controlWord_100 : decode cc_Desk_controlWord 100 = .ok (.istore 10, 2) := by decide +kernel
theorem d_Desk_controlWord_102 : decode cc_Desk_controlWord 102 = .ok (.iload 6, 2) := by decide +kernel
theorem d_Desk_controlWord_104 : decode cc_Desk_controlWord 104 = .ok (.ifCond .eq 21, 3) := by decide +kernel
theorem d_Desk_controlWord_107 : decode cc_Desk_controlWord 107 = .ok (.aload_n 0, 1) := by decide +kernel
theorem d_Desk_controlWord_108 : decode cc_Desk_controlWord 108 = .ok (.getfield 12, 3) := by decide +kernel
theorem d_Desk_controlWord_111 : decode cc_Desk_controlWord 111 = .ok (.iload 8, 2) := by decide +kernel
theorem d_Desk_controlWord_113 : decode cc_Desk_controlWord 113 = .ok (.iload 5, 2) := by decide +kernel
theorem d_Desk_controlWord_115 : decode cc_Desk_controlWord 115 = .ok (.iload 10, 2) := by decide +kernel
theorem d_Desk_controlWord_117 : decode cc_Desk_controlWord 117 = .ok (.iload 9, 2) := by decide +kernel
theorem d_Desk_controlWord_119 : decode cc_Desk_controlWord 119 = .ok (.invokestatic 222, 3) := by decide +kernel
theorem d_Desk_controlWord_122 : decode cc_Desk_controlWord 122 = .ok (.invokevirtual 57, 3) := by decide +kernel
theorem d_Desk_controlWord_125 : decode cc_Desk_controlWord 125 = .ok (.aload_n 0, 1) := by decide +kernel
theorem d_Desk_controlWord_126 : decode cc_Desk_controlWord 126 = .ok (.getfield 24, 3) := by decide +kernel
theorem d_Desk_controlWord_129 : decode cc_Desk_controlWord 129 = .ok (.iload_n 1, 1) := by decide +kernel
theorem d_Desk_controlWord_130 : decode cc_Desk_controlWord 130 = .ok (.invokestatic 133, 3) := by decide +kernel
theorem d_Desk_controlWord_133 : decode cc_Desk_controlWord 133 = .ok (.iload 10, 2) := by decide +kernel
theorem d_Desk_controlWord_135 : decode cc_Desk_controlWord 135 = .ok (.invokevirtual 78, 3) := by decide +kernel
theorem d_Desk_controlWord_138 : decode cc_Desk_controlWord 138 = .ok (.aload_n 0, 1) := by decide +kernel
theorem d_Desk_controlWord_139 : decode cc_Desk_controlWord 139 = .ok (.invokevirtual 174, 3) := by decide +kernel
theorem d_Desk_controlWord_142 : decode cc_Desk_controlWord 142 = .ok (.ireturn, 1) := by decide +kernel
abbrev y_Desk_combined : MethodName := ⟨"TrapDesk", "combined", "(III)I"⟩
abbrev cc_Desk_combined : ByteArray := prog_1_method_27_code
abbrev ws_Desk_combined : List Cond := Cond.code y_Desk_combined cc_Desk_combined 3 (some .int) :: gtb
theorem d_Desk_combined_0 : decode cc_Desk_combined 0 = .ok (.iload_n 0, 1) := by decide +kernel
theorem d_Desk_combined_1 : decode cc_Desk_combined 1 = .ok (.lookupswitch 33 #[(1, 27), (2, 29)], 27) := by decide +kernel
theorem d_Desk_combined_28 : decode cc_Desk_combined 28 = .ok (.iload_n 2, 1) := by decide +kernel
theorem d_Desk_combined_29 : decode cc_Desk_combined 29 = .ok (.ireturn, 1) := by decide +kernel
theorem d_Desk_combined_30 : decode cc_Desk_combined 30 = .ok (.iload_n 1, 1) := by decide +kernel
theorem d_Desk_combined_31 : decode cc_Desk_combined 31 = .ok (.iload_n 2, 1) := by decide +kernel
theorem d_Desk_combined_32 : decode cc_Desk_combined 32 = .ok (.ior, 1) := by decide +kernel
theorem d_Desk_combined_33 : decode cc_Desk_combined 33 = .ok (.ireturn, 1) := by decide +kernel
theorem d_Desk_combined_34 : decode cc_Desk_combined 34 = .ok (.iload_n 1, 1) := by decide +kernel
theorem d_Desk_combined_35 : decode cc_Desk_combined 35 = .ok (.iload_n 2, 1) := by decide +kernel
theorem d_Desk_combined_36 : decode cc_Desk_combined 36 = .ok (.iconst (-1), 1) := by decide +kernel
theorem d_Desk_combined_37 : decode cc_Desk_combined 37 = .ok (.ixor, 1) := by decide +kernel
theorem d_Desk_combined_38 : decode cc_Desk_combined 38 = .ok (.iand, 1) := by decide +kernel
theorem d_Desk_combined_39 : decode cc_Desk_combined 39 = .ok (.ireturn, 1) := by decide +kernel
abbrev y_Desk_refusalOfAccess : MethodName := ⟨"TrapDesk", "refusalOfAccess", "(IZ)I"⟩
abbrev cc_Desk_refusalOfAccess : ByteArray := prog_1_method_28_code
abbrev ws_Desk_refusalOfAccess : List Cond := Cond.code y_Desk_refusalOfAccess cc_Desk_refusalOfAccess 3 (some .int) :: gtb
theorem d_Desk_refusalOfAccess_0 : decode cc_Desk_refusalOfAccess 0 = .ok (.iload_n 1, 1) := by decide +kernel
theorem d_Desk_refusalOfAccess_1 : decode cc_Desk_refusalOfAccess 1 = .ok (.invokestatic 48, 3) := by decide +kernel
theorem d_Desk_refusalOfAccess_4 : decode cc_Desk_refusalOfAccess 4 = .ok (.ifCond .ne 5, 3) := by decide +kernel
theorem d_Desk_refusalOfAccess_7 : decode cc_Desk_refusalOfAccess 7 = .ok (.iconst 2, 1) := by decide +kernel
theorem d_Desk_refusalOfAccess_8 : decode cc_Desk_refusalOfAccess 8 = .ok (.ireturn, 1) := by decide +kernel
theorem d_Desk_refusalOfAccess_9 : decode cc_Desk_refusalOfAccess 9 = .ok (.iload_n 1, 1) := by decide +kernel
theorem d_Desk_refusalOfAccess_10 : decode cc_Desk_refusalOfAccess 10 = .ok (.invokestatic 54, 3) := by decide +kernel
theorem d_Desk_refusalOfAccess_13 : decode cc_Desk_refusalOfAccess 13 = .ok (.ifCond .eq 13, 3) := by decide +kernel
theorem d_Desk_refusalOfAccess_16 : decode cc_Desk_refusalOfAccess 16 = .ok (.iload_n 2, 1) := by decide +kernel
theorem d_Desk_refusalOfAccess_17 : decode cc_Desk_refusalOfAccess 17 = .ok (.ifCond .eq 7, 3) := by decide +kernel
theorem d_Desk_refusalOfAccess_20 : decode cc_Desk_refusalOfAccess 20 = .ok (.iconst 2, 1) := by decide +kernel
theorem d_Desk_refusalOfAccess_21 : decode cc_Desk_refusalOfAccess 21 = .ok (.goto 4, 3) := by decide +kernel
theorem d_Desk_refusalOfAccess_24 : decode cc_Desk_refusalOfAccess 24 = .ok (.iconst (-1), 1) := by decide +kernel
theorem d_Desk_refusalOfAccess_25 : decode cc_Desk_refusalOfAccess 25 = .ok (.ireturn, 1) := by decide +kernel
theorem d_Desk_refusalOfAccess_26 : decode cc_Desk_refusalOfAccess 26 = .ok (.aload_n 0, 1) := by decide +kernel
theorem d_Desk_refusalOfAccess_27 : decode cc_Desk_refusalOfAccess 27 = .ok (.getfield 28, 3) := by decide +kernel
theorem d_Desk_refusalOfAccess_30 : decode cc_Desk_refusalOfAccess 30 = .ok (.tableswitch 49 0 3 #[32, 30, 49, 34], 30) := by decide +kernel
theorem d_Desk_refusalOfAccess_60 : decode cc_Desk_refusalOfAccess 60 = .ok (.iconst (-1), 1) := by decide +kernel
theorem d_Desk_refusalOfAccess_61 : decode cc_Desk_refusalOfAccess 61 = .ok (.ireturn, 1) := by decide +kernel
theorem d_Desk_refusalOfAccess_62 : decode cc_Desk_refusalOfAccess 62 = .ok (.iconst 2, 1) := by decide +kernel
theorem d_Desk_refusalOfAccess_63 : decode cc_Desk_refusalOfAccess 63 = .ok (.ireturn, 1) := by decide +kernel
theorem d_Desk_refusalOfAccess_64 : decode cc_Desk_refusalOfAccess 64 = .ok (.aload_n 0, 1) := by decide +kernel
theorem d_Desk_refusalOfAccess_65 : decode cc_Desk_refusalOfAccess 65 = .ok (.iload_n 1, 1) := by decide +kernel
theorem d_Desk_refusalOfAccess_66 : decode cc_Desk_refusalOfAccess 66 = .ok (.invokevirtual 225, 3) := by decide +kernel
theorem d_Desk_refusalOfAccess_69 : decode cc_Desk_refusalOfAccess 69 = .ok (.ifCond .eq 7, 3) := by decide +kernel
theorem d_Desk_refusalOfAccess_72 : decode cc_Desk_refusalOfAccess 72 = .ok (.iconst (-1), 1) := by decide +kernel
theorem d_Desk_refusalOfAccess_73 : decode cc_Desk_refusalOfAccess 73 = .ok (.goto 5, 3) := by decide +kernel
theorem d_Desk_refusalOfAccess_76 : decode cc_Desk_refusalOfAccess 76 = .ok (.bipush 22, 2) := by decide +kernel
theorem d_Desk_refusalOfAccess_78 : decode cc_Desk_refusalOfAccess 78 = .ok (.ireturn, 1) := by decide +kernel
theorem d_Desk_refusalOfAccess_79 : decode cc_Desk_refusalOfAccess 79 = .ok (.bipush 22, 2) := by decide +kernel
theorem d_Desk_refusalOfAccess_81 : decode cc_Desk_refusalOfAccess 81 = .ok (.ireturn, 1) := by decide +kernel
abbrev y_Desk_isOpenToVs : MethodName := ⟨"TrapDesk", "isOpenToVs", "(I)Z"⟩
abbrev cc_Desk_isOpenToVs : ByteArray := prog_1_method_29_code
abbrev ws_Desk_isOpenToVs : List Cond := Cond.code y_Desk_isOpenToVs cc_Desk_isOpenToVs 2 (some .boolean) :: gtb
theorem d_Desk_isOpenToVs_0 : decode cc_Desk_isOpenToVs 0 = .ok (.iload_n 1, 1) := by decide +kernel
theorem d_Desk_isOpenToVs_1 : decode cc_Desk_isOpenToVs 1 = .ok (.invokestatic 228, 3) := by decide +kernel
theorem d_Desk_isOpenToVs_4 : decode cc_Desk_isOpenToVs 4 = .ok (.ifCond .ne 5, 3) := by decide +kernel
theorem d_Desk_isOpenToVs_7 : decode cc_Desk_isOpenToVs 7 = .ok (.iconst 0, 1) := by decide +kernel
theorem d_Desk_isOpenToVs_8 : decode cc_Desk_isOpenToVs 8 = .ok (.ireturn, 1) := by decide +kernel
theorem d_Desk_isOpenToVs_9 : decode cc_Desk_isOpenToVs 9 = .ok (.iload_n 1, 1) := by decide +kernel
theorem d_Desk_isOpenToVs_10 : decode cc_Desk_isOpenToVs 10 = .ok (.sipush 384, 3) := by decide +kernel
theorem d_Desk_isOpenToVs_13 : decode cc_Desk_isOpenToVs 13 = .ok (.if_icmp .ne 18, 3) := by decide +kernel
theorem d_Desk_isOpenToVs_16 : decode cc_Desk_isOpenToVs 16 = .ok (.aload_n 0, 1) := by decide +kernel
theorem d_Desk_isOpenToVs_17 : decode cc_Desk_isOpenToVs 17 = .ok (.getfield 12, 3) := by decide +kernel
theorem d_Desk_isOpenToVs_20 : decode cc_Desk_isOpenToVs 20 = .ok (.getfield 197, 3) := by decide +kernel
theorem d_Desk_isOpenToVs_23 : decode cc_Desk_isOpenToVs 23 = .ok (.ldc 141, 2) := by decide +kernel
theorem d_Desk_isOpenToVs_25 : decode cc_Desk_isOpenToVs 25 = .ok (.invokevirtual 202, 3) := by decide +kernel
theorem d_Desk_isOpenToVs_28 : decode cc_Desk_isOpenToVs 28 = .ok (.ifCond .ne 7, 3) := by decide +kernel
theorem d_Desk_isOpenToVs_31 : decode cc_Desk_isOpenToVs 31 = .ok (.iconst 1, 1) := by decide +kernel
theorem d_Desk_isOpenToVs_32 : decode cc_Desk_isOpenToVs 32 = .ok (.goto 4, 3) := by decide +kernel
theorem d_Desk_isOpenToVs_35 : decode cc_Desk_isOpenToVs 35 = .ok (.iconst 0, 1) := by decide +kernel
theorem d_Desk_isOpenToVs_36 : decode cc_Desk_isOpenToVs 36 = .ok (.ireturn, 1) := by decide +kernel
abbrev y_Desk_goOn : MethodName := ⟨"TrapDesk", "goOn", "()I"⟩
abbrev cc_Desk_goOn : ByteArray := prog_1_method_30_code
abbrev ws_Desk_goOn : List Cond := Cond.code y_Desk_goOn cc_Desk_goOn 1 (some .int) :: gtb
theorem d_Desk_goOn_0 : decode cc_Desk_goOn 0 = .ok (.aload_n 0, 1) := by decide +kernel
theorem d_Desk_goOn_1 : decode cc_Desk_goOn 1 = .ok (.dup, 1) := by decide +kernel
theorem d_Desk_goOn_2 : decode cc_Desk_goOn 2 = .ok (.getfield 36, 3) := by decide +kernel
theorem d_Desk_goOn_5 : decode cc_Desk_goOn 5 = .ok (.iconst 4, 1) := by decide +kernel
theorem d_Desk_goOn_6 : decode cc_Desk_goOn 6 = .ok (.iadd, 1) := by decide +kernel
theorem d_Desk_goOn_7 : decode cc_Desk_goOn 7 = .ok (.putfield 36, 3) := by decide +kernel
theorem d_Desk_goOn_10 : decode cc_Desk_goOn 10 = .ok (.iconst (-1), 1) := by decide +kernel
theorem d_Desk_goOn_11 : decode cc_Desk_goOn 11 = .ok (.ireturn, 1) := by decide +kernel
abbrev y_Desk_fieldD : MethodName := ⟨"TrapDesk", "fieldD", "(I)I"⟩
abbrev cc_Desk_fieldD : ByteArray := prog_1_method_31_code
abbrev ws_Desk_fieldD : List Cond := Cond.code y_Desk_fieldD cc_Desk_fieldD 1 (some .int) :: gtb
theorem d_Desk_fieldD_0 : decode cc_Desk_fieldD 0 = .ok (.iload_n 0, 1) := by decide +kernel
theorem d_Desk_fieldD_1 : decode cc_Desk_fieldD 1 = .ok (.bipush 7, 2) := by decide +kernel
theorem d_Desk_fieldD_3 : decode cc_Desk_fieldD 3 = .ok (.iushr, 1) := by decide +kernel
theorem d_Desk_fieldD_4 : decode cc_Desk_fieldD 4 = .ok (.bipush 31, 2) := by decide +kernel
theorem d_Desk_fieldD_6 : decode cc_Desk_fieldD 6 = .ok (.iand, 1) := by decide +kernel
theorem d_Desk_fieldD_7 : decode cc_Desk_fieldD 7 = .ok (.ireturn, 1) := by decide +kernel
abbrev y_Desk_fieldA : MethodName := ⟨"TrapDesk", "fieldA", "(I)I"⟩
abbrev cc_Desk_fieldA : ByteArray := prog_1_method_32_code
abbrev ws_Desk_fieldA : List Cond := Cond.code y_Desk_fieldA cc_Desk_fieldA 1 (some .int) :: gtb
theorem d_Desk_fieldA_0 : decode cc_Desk_fieldA 0 = .ok (.iload_n 0, 1) := by decide +kernel
theorem d_Desk_fieldA_1 : decode cc_Desk_fieldA 1 = .ok (.bipush 15, 2) := by decide +kernel
theorem d_Desk_fieldA_3 : decode cc_Desk_fieldA 3 = .ok (.iushr, 1) := by decide +kernel
theorem d_Desk_fieldA_4 : decode cc_Desk_fieldA 4 = .ok (.bipush 31, 2) := by decide +kernel
theorem d_Desk_fieldA_6 : decode cc_Desk_fieldA 6 = .ok (.iand, 1) := by decide +kernel
theorem d_Desk_fieldA_7 : decode cc_Desk_fieldA 7 = .ok (.ireturn, 1) := by decide +kernel
abbrev y_Desk_fieldB : MethodName := ⟨"TrapDesk", "fieldB", "(I)I"⟩
abbrev cc_Desk_fieldB : ByteArray := prog_1_method_33_code
abbrev ws_Desk_fieldB : List Cond := Cond.code y_Desk_fieldB cc_Desk_fieldB 1 (some .int) :: gtb
theorem d_Desk_fieldB_0 : decode cc_Desk_fieldB 0 = .ok (.iload_n 0, 1) := by decide +kernel
theorem d_Desk_fieldB_1 : decode cc_Desk_fieldB 1 = .ok (.bipush 20, 2) := by decide +kernel
theorem d_Desk_fieldB_3 : decode cc_Desk_fieldB 3 = .ok (.iushr, 1) := by decide +kernel
theorem d_Desk_fieldB_4 : decode cc_Desk_fieldB 4 = .ok (.bipush 31, 2) := by decide +kernel
theorem d_Desk_fieldB_6 : decode cc_Desk_fieldB 6 = .ok (.iand, 1) := by decide +kernel
theorem d_Desk_fieldB_7 : decode cc_Desk_fieldB 7 = .ok (.ireturn, 1) := by decide +kernel
abbrev y_Desk_fieldG : MethodName := ⟨"TrapDesk", "fieldG", "(I)I"⟩
abbrev cc_Desk_fieldG : ByteArray := prog_1_method_34_code
abbrev ws_Desk_fieldG : List Cond := Cond.code y_Desk_fieldG cc_Desk_fieldG 1 (some .int) :: gtb
theorem d_Desk_fieldG_0 : decode cc_Desk_fieldG 0 = .ok (.iload_n 0, 1) := by decide +kernel
theorem d_Desk_fieldG_1 : decode cc_Desk_fieldG 1 = .ok (.bipush 25, 2) := by decide +kernel
theorem d_Desk_fieldG_3 : decode cc_Desk_fieldG 3 = .ok (.iushr, 1) := by decide +kernel
theorem d_Desk_fieldG_4 : decode cc_Desk_fieldG 4 = .ok (.ireturn, 1) := by decide +kernel
abbrev y_Desk_trapValue : MethodName := ⟨"TrapDesk", "trapValue", "(II)I"⟩
abbrev cc_Desk_trapValue : ByteArray := prog_1_method_35_code
abbrev ws_Desk_trapValue : List Cond := Cond.code y_Desk_trapValue cc_Desk_trapValue 3 (some .int) :: gtb
theorem d_Desk_trapValue_0 : decode cc_Desk_trapValue 0 = .ok (.iload_n 1, 1) := by decide +kernel
theorem d_Desk_trapValue_1 : decode cc_Desk_trapValue 1 = .ok (.lookupswitch 42 #[(2, 35), (3, 37), (22, 35)], 35) := by decide +kernel
theorem d_Desk_trapValue_36 : decode cc_Desk_trapValue 36 = .ok (.iload_n 2, 1) := by decide +kernel
theorem d_Desk_trapValue_37 : decode cc_Desk_trapValue 37 = .ok (.ireturn, 1) := by decide +kernel
theorem d_Desk_trapValue_38 : decode cc_Desk_trapValue 38 = .ok (.aload_n 0, 1) := by decide +kernel
theorem d_Desk_trapValue_39 : decode cc_Desk_trapValue 39 = .ok (.getfield 36, 3) := by decide +kernel
theorem d_Desk_trapValue_42 : decode cc_Desk_trapValue 42 = .ok (.ireturn, 1) := by decide +kernel
theorem d_Desk_trapValue_43 : decode cc_Desk_trapValue 43 = .ok (.iconst 0, 1) := by decide +kernel
theorem d_Desk_trapValue_44 : decode cc_Desk_trapValue 44 = .ok (.ireturn, 1) := by decide +kernel
abbrev y_Desk_raise : MethodName := ⟨"TrapDesk", "raise", "(IIZII)V"⟩
abbrev cc_Desk_raise : ByteArray := prog_1_method_36_code
abbrev ws_Desk_raise : List Cond := Cond.code y_Desk_raise cc_Desk_raise 7 none :: gtb
theorem d_Desk_raise_0 : decode cc_Desk_raise 0 = .ok (.aload_n 0, 1) := by decide +kernel
theorem d_Desk_raise_1 : decode cc_Desk_raise 1 = .ok (.invokevirtual 205, 3) := by decide +kernel
theorem d_Desk_raise_4 : decode cc_Desk_raise 4 = .ok (.ifCond .eq 27, 3) := by decide +kernel
theorem d_Desk_raise_7 : decode cc_Desk_raise 7 = .ok (.aload_n 0, 1) := by decide +kernel
theorem d_Desk_raise_8 : decode cc_Desk_raise 8 = .ok (.getfield 12, 3) := by decide +kernel
theorem d_Desk_raise_11 : decode cc_Desk_raise 11 = .ok (.getfield 197, 3) := by decide +kernel
theorem d_Desk_raise_14 : decode cc_Desk_raise 14 = .ok (.getfield 231, 3) := by decide +kernel
theorem d_Desk_raise_17 : decode cc_Desk_raise 17 = .ok (.iload_n 1, 1) := by decide +kernel
theorem d_Desk_raise_18 : decode cc_Desk_raise 18 = .ok (.invokestatic 94, 3) := by decide +kernel
theorem d_Desk_raise_21 : decode cc_Desk_raise 21 = .ok (.ifCond .eq 10, 3) := by decide +kernel
theorem d_Desk_raise_24 : decode cc_Desk_raise 24 = .ok (.aload_n 0, 1) := by decide +kernel
theorem d_Desk_raise_25 : decode cc_Desk_raise 25 = .ok (.iload_n 1, 1) := by decide +kernel
theorem d_Desk_raise_26 : decode cc_Desk_raise 26 = .ok (.iload_n 2, 1) := by decide +kernel
theorem d_Desk_raise_27 : decode cc_Desk_raise 27 = .ok (.invokevirtual 112, 3) := by decide +kernel
theorem d_Desk_raise_30 : decode cc_Desk_raise 30 = .ok (.return_, 1) := by decide +kernel
theorem d_Desk_raise_31 : decode cc_Desk_raise 31 = .ok (.ldc 234, 2) := by decide +kernel
theorem d_Desk_raise_33 : decode cc_Desk_raise 33 = .ok (.iload_n 1, 1) := by decide +kernel
theorem d_Desk_raise_34 : decode cc_Desk_raise 34 = .ok (.invokestatic 94, 3) := by decide +kernel
theorem d_Desk_raise_37 : decode cc_Desk_raise 37 = .ok (.ifCond .eq 18, 3) := by decide +kernel
theorem d_Desk_raise_40 : decode cc_Desk_raise 40 = .ok (.iload_n 3, 1) := by decide +kernel
theorem d_Desk_raise_41 : decode cc_Desk_raise 41 = .ok (.ifCond .ne 10, 3) := by decide +kernel
theorem d_Desk_raise_44 : decode cc_Desk_raise 44 = .ok (.aload_n 0, 1) := by decide +kernel
theorem d_Desk_raise_45 : decode cc_Desk_raise 45 = .ok (.invokevirtual 205, 3) := by decide +kernel
theorem d_Desk_raise_48 : decode cc_Desk_raise 48 = .ok (.ifCond .eq 7, 3) := by decide +kernel
theorem d_Desk_raise_51 : decode cc_Desk_raise 51 = .ok (.iconst 1, 1) := by decide +kernel
theorem d_Desk_raise_52 : decode cc_Desk_raise 52 = .ok (.goto 4, 3) := by decide +kernel
theorem d_Desk_raise_55 : decode cc_Desk_raise 55 = .ok (.iconst 0, 1) := by decide +kernel
theorem d_Desk_raise_56 : decode cc_Desk_raise 56 = .ok (.istore 6, 2) := by decide +kernel
theorem d_Desk_raise_58 : decode cc_Desk_raise 58 = .ok (.aload_n 0, 1) := by decide +kernel
theorem d_Desk_raise_59 : decode cc_Desk_raise 59 = .ok (.iload_n 1, 1) := by decide +kernel
theorem d_Desk_raise_60 : decode cc_Desk_raise 60 = .ok (.iload_n 2, 1) := by decide +kernel
theorem d_Desk_raise_61 : decode cc_Desk_raise 61 = .ok (.iload 6, 2) := by decide +kernel
theorem d_Desk_raise_63 : decode cc_Desk_raise 63 = .ok (.iload 4, 2) := by decide +kernel
theorem d_Desk_raise_65 : decode cc_Desk_raise 65 = .ok (.iload 5, 2) := by decide +kernel
theorem d_Desk_raise_67 : decode cc_Desk_raise 67 = .ok (.invokevirtual 106, 3) := by decide +kernel
theorem d_Desk_raise_70 : decode cc_Desk_raise 70 = .ok (.return_, 1) := by decide +kernel
abbrev y_Desk_enterS : MethodName := ⟨"TrapDesk", "enterS", "(IIZII)V"⟩
abbrev cc_Desk_enterS : ByteArray := prog_1_method_37_code
abbrev ws_Desk_enterS : List Cond := Cond.code y_Desk_enterS cc_Desk_enterS 6 none :: gtb
theorem d_Desk_enterS_0 : decode cc_Desk_enterS 0 = .ok (.aload_n 0, 1) := by decide +kernel
theorem d_Desk_enterS_1 : decode cc_Desk_enterS 1 = .ok (.getfield 12, 3) := by decide +kernel
theorem d_Desk_enterS_4 : decode cc_Desk_enterS 4 = .ok (.getfield 197, 3) := by decide +kernel
theorem d_Desk_enterS_7 : decode cc_Desk_enterS 7 = .ok (.aload_n 0, 1) := by decide +kernel
theorem d_Desk_enterS_8 : decode cc_Desk_enterS 8 = .ok (.invokevirtual 205, 3) := by decide +kernel
theorem d_Desk_enterS_11 : decode cc_Desk_enterS 11 = .ok (.aload_n 0, 1) := by decide +kernel
theorem d_Desk_enterS_12 : decode cc_Desk_enterS 12 = .ok (.invokevirtual 235, 3) := by decide +kernel
theorem d_Desk_enterS_15 : decode cc_Desk_enterS 15 = .ok (.iload_n 3, 1) := by decide +kernel
theorem d_Desk_enterS_16 : decode cc_Desk_enterS 16 = .ok (.invokevirtual 238, 3) := by decide +kernel
theorem d_Desk_enterS_19 : decode cc_Desk_enterS 19 = .ok (.aload_n 0, 1) := by decide +kernel
theorem d_Desk_enterS_20 : decode cc_Desk_enterS 20 = .ok (.getfield 12, 3) := by decide +kernel
theorem d_Desk_enterS_23 : decode cc_Desk_enterS 23 = .ok (.getfield 197, 3) := by decide +kernel
theorem d_Desk_enterS_26 : decode cc_Desk_enterS 26 = .ok (.iload 4, 2) := by decide +kernel
theorem d_Desk_enterS_28 : decode cc_Desk_enterS 28 = .ok (.putfield 242, 3) := by decide +kernel
theorem d_Desk_enterS_31 : decode cc_Desk_enterS 31 = .ok (.aload_n 0, 1) := by decide +kernel
theorem d_Desk_enterS_32 : decode cc_Desk_enterS 32 = .ok (.getfield 12, 3) := by decide +kernel
theorem d_Desk_enterS_35 : decode cc_Desk_enterS 35 = .ok (.getfield 197, 3) := by decide +kernel
theorem d_Desk_enterS_38 : decode cc_Desk_enterS 38 = .ok (.iload 5, 2) := by decide +kernel
theorem d_Desk_enterS_40 : decode cc_Desk_enterS 40 = .ok (.putfield 245, 3) := by decide +kernel
theorem d_Desk_enterS_43 : decode cc_Desk_enterS 43 = .ok (.aload_n 0, 1) := by decide +kernel
theorem d_Desk_enterS_44 : decode cc_Desk_enterS 44 = .ok (.aload_n 0, 1) := by decide +kernel
theorem d_Desk_enterS_45 : decode cc_Desk_enterS 45 = .ok (.getfield 12, 3) := by decide +kernel
theorem d_Desk_enterS_48 : decode cc_Desk_enterS 48 = .ok (.getfield 194, 3) := by decide +kernel
theorem d_Desk_enterS_51 : decode cc_Desk_enterS 51 = .ok (.aload_n 0, 1) := by decide +kernel
theorem d_Desk_enterS_52 : decode cc_Desk_enterS 52 = .ok (.getfield 36, 3) := by decide +kernel
theorem d_Desk_enterS_55 : decode cc_Desk_enterS 55 = .ok (.iload_n 1, 1) := by decide +kernel
theorem d_Desk_enterS_56 : decode cc_Desk_enterS 56 = .ok (.iload_n 2, 1) := by decide +kernel
theorem d_Desk_enterS_57 : decode cc_Desk_enterS 57 = .ok (.aload_n 0, 1) := by decide +kernel
theorem d_Desk_enterS_58 : decode cc_Desk_enterS 58 = .ok (.invokevirtual 235, 3) := by decide +kernel
theorem d_Desk_enterS_61 : decode cc_Desk_enterS 61 = .ok (.invokevirtual 248, 3) := by decide +kernel
theorem d_Desk_enterS_64 : decode cc_Desk_enterS 64 = .ok (.putfield 36, 3) := by decide +kernel
theorem d_Desk_enterS_67 : decode cc_Desk_enterS 67 = .ok (.aload_n 0, 1) := by decide +kernel
theorem d_Desk_enterS_68 : decode cc_Desk_enterS 68 = .ok (.iconst 1, 1) := by decide +kernel
theorem d_Desk_enterS_69 : decode cc_Desk_enterS 69 = .ok (.putfield 28, 3) := by decide +kernel
theorem d_Desk_enterS_72 : decode cc_Desk_enterS 72 = .ok (.aload_n 0, 1) := by decide +kernel
theorem d_Desk_enterS_73 : decode cc_Desk_enterS 73 = .ok (.dup, 1) := by decide +kernel
theorem d_Desk_enterS_74 : decode cc_Desk_enterS 74 = .ok (.getfield 39, 3) := by decide +kernel
theorem d_Desk_enterS_77 : decode cc_Desk_enterS 77 = .ok (.iconst 1, 1) := by decide +kernel
theorem d_Desk_enterS_78 : decode cc_Desk_enterS 78 = .ok (.iadd, 1) := by decide +kernel
theorem d_Desk_enterS_79 : decode cc_Desk_enterS 79 = .ok (.putfield 39, 3) := by decide +kernel
theorem d_Desk_enterS_82 : decode cc_Desk_enterS 82 = .ok (.return_, 1) := by decide +kernel
abbrev y_Desk_enterVs : MethodName := ⟨"TrapDesk", "enterVs", "(II)V"⟩
abbrev cc_Desk_enterVs : ByteArray := prog_1_method_38_code
abbrev ws_Desk_enterVs : List Cond := Cond.code y_Desk_enterVs cc_Desk_enterVs 3 none :: gtb
theorem d_Desk_enterVs_0 : decode cc_Desk_enterVs 0 = .ok (.aload_n 0, 1) := by decide +kernel
theorem d_Desk_enterVs_1 : decode cc_Desk_enterVs 1 = .ok (.aload_n 0, 1) := by decide +kernel
theorem d_Desk_enterVs_2 : decode cc_Desk_enterVs 2 = .ok (.getfield 12, 3) := by decide +kernel
theorem d_Desk_enterVs_5 : decode cc_Desk_enterVs 5 = .ok (.getfield 181, 3) := by decide +kernel
theorem d_Desk_enterVs_8 : decode cc_Desk_enterVs 8 = .ok (.aload_n 0, 1) := by decide +kernel
theorem d_Desk_enterVs_9 : decode cc_Desk_enterVs 9 = .ok (.getfield 36, 3) := by decide +kernel
theorem d_Desk_enterVs_12 : decode cc_Desk_enterVs 12 = .ok (.iload_n 1, 1) := by decide +kernel
theorem d_Desk_enterVs_13 : decode cc_Desk_enterVs 13 = .ok (.iload_n 2, 1) := by decide +kernel
theorem d_Desk_enterVs_14 : decode cc_Desk_enterVs 14 = .ok (.aload_n 0, 1) := by decide +kernel
theorem d_Desk_enterVs_15 : decode cc_Desk_enterVs 15 = .ok (.invokevirtual 235, 3) := by decide +kernel
theorem d_Desk_enterVs_18 : decode cc_Desk_enterVs 18 = .ok (.invokevirtual 248, 3) := by decide +kernel
theorem d_Desk_enterVs_21 : decode cc_Desk_enterVs 21 = .ok (.putfield 36, 3) := by decide +kernel
theorem d_Desk_enterVs_24 : decode cc_Desk_enterVs 24 = .ok (.aload_n 0, 1) := by decide +kernel
theorem d_Desk_enterVs_25 : decode cc_Desk_enterVs 25 = .ok (.iconst 3, 1) := by decide +kernel
theorem d_Desk_enterVs_26 : decode cc_Desk_enterVs 26 = .ok (.putfield 28, 3) := by decide +kernel
theorem d_Desk_enterVs_29 : decode cc_Desk_enterVs 29 = .ok (.aload_n 0, 1) := by decide +kernel
theorem d_Desk_enterVs_30 : decode cc_Desk_enterVs 30 = .ok (.dup, 1) := by decide +kernel
theorem d_Desk_enterVs_31 : decode cc_Desk_enterVs 31 = .ok (.getfield 42, 3) := by decide +kernel
theorem d_Desk_enterVs_34 : decode cc_Desk_enterVs 34 = .ok (.iconst 1, 1) := by decide +kernel
theorem d_Desk_enterVs_35 : decode cc_Desk_enterVs 35 = .ok (.iadd, 1) := by decide +kernel
theorem d_Desk_enterVs_36 : decode cc_Desk_enterVs 36 = .ok (.putfield 42, 3) := by decide +kernel
theorem d_Desk_enterVs_39 : decode cc_Desk_enterVs 39 = .ok (.return_, 1) := by decide +kernel
abbrev y_Desk_dueForS : MethodName := ⟨"TrapDesk", "dueForS", "()I"⟩
abbrev cc_Desk_dueForS : ByteArray := prog_1_method_39_code
abbrev ws_Desk_dueForS : List Cond := Cond.code y_Desk_dueForS cc_Desk_dueForS 1 (some .int) :: gtb
theorem d_Desk_dueForS_0 : decode cc_Desk_dueForS 0 = .ok (.aload_n 0, 1) := by decide +kernel
theorem d_Desk_dueForS_1 : decode cc_Desk_dueForS 1 = .ok (.getfield 28, 3) := by decide +kernel
theorem d_Desk_dueForS_4 : decode cc_Desk_dueForS 4 = .ok (.iconst 1, 1) := by decide +kernel
theorem d_Desk_dueForS_5 : decode cc_Desk_dueForS 5 = .ok (.if_icmp .ne 18, 3) := by decide +kernel
theorem d_Desk_dueForS_8 : decode cc_Desk_dueForS 8 = .ok (.aload_n 0, 1) := by decide +kernel
theorem d_Desk_dueForS_9 : decode cc_Desk_dueForS 9 = .ok (.getfield 12, 3) := by decide +kernel
theorem d_Desk_dueForS_12 : decode cc_Desk_dueForS 12 = .ok (.getfield 194, 3) := by decide +kernel
theorem d_Desk_dueForS_15 : decode cc_Desk_dueForS 15 = .ok (.invokevirtual 251, 3) := by decide +kernel
theorem d_Desk_dueForS_18 : decode cc_Desk_dueForS 18 = .ok (.ifCond .ne 5, 3) := by decide +kernel
theorem d_Desk_dueForS_21 : decode cc_Desk_dueForS 21 = .ok (.iconst (-1), 1) := by decide +kernel
theorem d_Desk_dueForS_22 : decode cc_Desk_dueForS 22 = .ok (.ireturn, 1) := by decide +kernel
theorem d_Desk_dueForS_23 : decode cc_Desk_dueForS 23 = .ok (.getstatic 254, 3) := by decide +kernel
theorem d_Desk_dueForS_26 : decode cc_Desk_dueForS 26 = .ok (.aload_n 0, 1) := by decide +kernel
theorem d_Desk_dueForS_27 : decode cc_Desk_dueForS 27 = .ok (.getfield 12, 3) := by decide +kernel
theorem d_Desk_dueForS_30 : decode cc_Desk_dueForS 30 = .ok (.invokevirtual 258, 3) := by decide +kernel
theorem d_Desk_dueForS_33 : decode cc_Desk_dueForS 33 = .ok (.invokestatic 261, 3) := by decide +kernel
theorem d_Desk_dueForS_36 : decode cc_Desk_dueForS 36 = .ok (.ireturn, 1) := by decide +kernel
abbrev y_Desk_dueForVs : MethodName := ⟨"TrapDesk", "dueForVs", "()I"⟩
abbrev cc_Desk_dueForVs : ByteArray := prog_1_method_40_code
abbrev ws_Desk_dueForVs : List Cond := Cond.code y_Desk_dueForVs cc_Desk_dueForVs 2 (some .int) :: gtb
theorem d_Desk_dueForVs_0 : decode cc_Desk_dueForVs 0 = .ok (.aload_n 0, 1) := by decide +kernel
theorem d_Desk_dueForVs_1 : decode cc_Desk_dueForVs 1 = .ok (.invokevirtual 205, 3) := by decide +kernel
theorem d_Desk_dueForVs_4 : decode cc_Desk_dueForVs 4 = .ok (.ifCond .eq 24, 3) := by decide +kernel
theorem d_Desk_dueForVs_7 : decode cc_Desk_dueForVs 7 = .ok (.aload_n 0, 1) := by decide +kernel
theorem d_Desk_dueForVs_8 : decode cc_Desk_dueForVs 8 = .ok (.getfield 28, 3) := by decide +kernel
theorem d_Desk_dueForVs_11 : decode cc_Desk_dueForVs 11 = .ok (.iconst 3, 1) := by decide +kernel
theorem d_Desk_dueForVs_12 : decode cc_Desk_dueForVs 12 = .ok (.if_icmp .ne 18, 3) := by decide +kernel
theorem d_Desk_dueForVs_15 : decode cc_Desk_dueForVs 15 = .ok (.aload_n 0, 1) := by decide +kernel
theorem d_Desk_dueForVs_16 : decode cc_Desk_dueForVs 16 = .ok (.getfield 12, 3) := by decide +kernel
theorem d_Desk_dueForVs_19 : decode cc_Desk_dueForVs 19 = .ok (.getfield 181, 3) := by decide +kernel
theorem d_Desk_dueForVs_22 : decode cc_Desk_dueForVs 22 = .ok (.invokevirtual 251, 3) := by decide +kernel
theorem d_Desk_dueForVs_25 : decode cc_Desk_dueForVs 25 = .ok (.ifCond .ne 5, 3) := by decide +kernel
theorem d_Desk_dueForVs_28 : decode cc_Desk_dueForVs 28 = .ok (.iconst (-1), 1) := by decide +kernel
theorem d_Desk_dueForVs_29 : decode cc_Desk_dueForVs 29 = .ok (.ireturn, 1) := by decide +kernel
theorem d_Desk_dueForVs_30 : decode cc_Desk_dueForVs 30 = .ok (.getstatic 265, 3) := by decide +kernel
theorem d_Desk_dueForVs_33 : decode cc_Desk_dueForVs 33 = .ok (.aload_n 0, 1) := by decide +kernel
theorem d_Desk_dueForVs_34 : decode cc_Desk_dueForVs 34 = .ok (.getfield 12, 3) := by decide +kernel
theorem d_Desk_dueForVs_37 : decode cc_Desk_dueForVs 37 = .ok (.invokevirtual 268, 3) := by decide +kernel
theorem d_Desk_dueForVs_40 : decode cc_Desk_dueForVs 40 = .ok (.invokestatic 261, 3) := by decide +kernel
theorem d_Desk_dueForVs_43 : decode cc_Desk_dueForVs 43 = .ok (.istore_n 1, 1) := by decide +kernel
theorem d_Desk_dueForVs_44 : decode cc_Desk_dueForVs 44 = .ok (.iload_n 1, 1) := by decide +kernel
theorem d_Desk_dueForVs_45 : decode cc_Desk_dueForVs 45 = .ok (.iconst (-1), 1) := by decide +kernel
theorem d_Desk_dueForVs_46 : decode cc_Desk_dueForVs 46 = .ok (.if_icmp .ne 7, 3) := by decide +kernel
theorem d_Desk_dueForVs_49 : decode cc_Desk_dueForVs 49 = .ok (.iconst (-1), 1) := by decide +kernel
theorem d_Desk_dueForVs_50 : decode cc_Desk_dueForVs 50 = .ok (.goto 6, 3) := by decide +kernel
theorem d_Desk_dueForVs_53 : decode cc_Desk_dueForVs 53 = .ok (.iload_n 1, 1) := by decide +kernel
theorem d_Desk_dueForVs_54 : decode cc_Desk_dueForVs 54 = .ok (.iconst 1, 1) := by decide +kernel
theorem d_Desk_dueForVs_55 : decode cc_Desk_dueForVs 55 = .ok (.isub, 1) := by decide +kernel
theorem d_Desk_dueForVs_56 : decode cc_Desk_dueForVs 56 = .ok (.ireturn, 1) := by decide +kernel
abbrev y_Desk_firstOf : MethodName := ⟨"TrapDesk", "firstOf", "([II)I"⟩
abbrev cc_Desk_firstOf : ByteArray := prog_1_method_41_code
abbrev ws_Desk_firstOf : List Cond := Cond.code y_Desk_firstOf cc_Desk_firstOf 3 (some .int) :: gtb
theorem d_Desk_firstOf_0 : decode cc_Desk_firstOf 0 = .ok (.iconst 0, 1) := by decide +kernel
theorem d_Desk_firstOf_1 : decode cc_Desk_firstOf 1 = .ok (.istore_n 2, 1) := by decide +kernel
theorem d_Desk_firstOf_2 : decode cc_Desk_firstOf 2 = .ok (.iload_n 2, 1) := by decide +kernel
theorem d_Desk_firstOf_3 : decode cc_Desk_firstOf 3 = .ok (.aload_n 0, 1) := by decide +kernel
theorem d_Desk_firstOf_4 : decode cc_Desk_firstOf 4 = .ok (.arraylength, 1) := by decide +kernel
theorem d_Desk_firstOf_5 : decode cc_Desk_firstOf 5 = .ok (.if_icmp .ge 23, 3) := by decide +kernel
theorem d_Desk_firstOf_8 : decode cc_Desk_firstOf 8 = .ok (.iload_n 1, 1) := by decide +kernel
theorem d_Desk_firstOf_9 : decode cc_Desk_firstOf 9 = .ok (.aload_n 0, 1) := by decide +kernel
theorem d_Desk_firstOf_10 : decode cc_Desk_firstOf 10 = .ok (.iload_n 2, 1) := by decide +kernel
theorem d_Desk_firstOf_11 : decode cc_Desk_firstOf 11 = .ok (.iaload, 1) := by decide +kernel
theorem d_Desk_firstOf_12 : decode cc_Desk_firstOf 12 = .ok (.invokestatic 94, 3) := by decide +kernel
theorem d_Desk_firstOf_15 : decode cc_Desk_firstOf 15 = .ok (.ifCond .eq 7, 3) := by decide +kernel
theorem d_Desk_firstOf_18 : decode cc_Desk_firstOf 18 = .ok (.aload_n 0, 1) := by decide +kernel
theorem d_Desk_firstOf_19 : decode cc_Desk_firstOf 19 = .ok (.iload_n 2, 1) := by decide +kernel
theorem d_Desk_firstOf_20 : decode cc_Desk_firstOf 20 = .ok (.iaload, 1) := by decide +kernel
theorem d_Desk_firstOf_21 : decode cc_Desk_firstOf 21 = .ok (.ireturn, 1) := by decide +kernel
theorem d_Desk_firstOf_22 : decode cc_Desk_firstOf 22 = .ok (.iinc 2 1, 3) := by decide +kernel
theorem d_Desk_firstOf_25 : decode cc_Desk_firstOf 25 = .ok (.goto (-23), 3) := by decide +kernel
theorem d_Desk_firstOf_28 : decode cc_Desk_firstOf 28 = .ok (.iconst (-1), 1) := by decide +kernel
theorem d_Desk_firstOf_29 : decode cc_Desk_firstOf 29 = .ok (.ireturn, 1) := by decide +kernel
abbrev y_Desk_isVirtual : MethodName := ⟨"TrapDesk", "isVirtual", "()Z"⟩
abbrev cc_Desk_isVirtual : ByteArray := prog_1_method_42_code
abbrev ws_Desk_isVirtual : List Cond := Cond.code y_Desk_isVirtual cc_Desk_isVirtual 1 (some .boolean) :: gtb
theorem d_Desk_isVirtual_0 : decode cc_Desk_isVirtual 0 = .ok (.aload_n 0, 1) := by decide +kernel
theorem d_Desk_isVirtual_1 : decode cc_Desk_isVirtual 1 = .ok (.getfield 28, 3) := by decide +kernel
theorem d_Desk_isVirtual_4 : decode cc_Desk_isVirtual 4 = .ok (.iconst 2, 1) := by decide +kernel
theorem d_Desk_isVirtual_5 : decode cc_Desk_isVirtual 5 = .ok (.if_icmp .eq 11, 3) := by decide +kernel
theorem d_Desk_isVirtual_8 : decode cc_Desk_isVirtual 8 = .ok (.aload_n 0, 1) := by decide +kernel
theorem d_Desk_isVirtual_9 : decode cc_Desk_isVirtual 9 = .ok (.getfield 28, 3) := by decide +kernel
theorem d_Desk_isVirtual_12 : decode cc_Desk_isVirtual 12 = .ok (.iconst 3, 1) := by decide +kernel
theorem d_Desk_isVirtual_13 : decode cc_Desk_isVirtual 13 = .ok (.if_icmp .ne 7, 3) := by decide +kernel
theorem d_Desk_isVirtual_16 : decode cc_Desk_isVirtual 16 = .ok (.iconst 1, 1) := by decide +kernel
theorem d_Desk_isVirtual_17 : decode cc_Desk_isVirtual 17 = .ok (.goto 4, 3) := by decide +kernel
theorem d_Desk_isVirtual_20 : decode cc_Desk_isVirtual 20 = .ok (.iconst 0, 1) := by decide +kernel
theorem d_Desk_isVirtual_21 : decode cc_Desk_isVirtual 21 = .ok (.ireturn, 1) := by decide +kernel
abbrev y_Desk_isSupervisor : MethodName := ⟨"TrapDesk", "isSupervisor", "()Z"⟩
abbrev cc_Desk_isSupervisor : ByteArray := prog_1_method_43_code
abbrev ws_Desk_isSupervisor : List Cond := Cond.code y_Desk_isSupervisor cc_Desk_isSupervisor 1 (some .boolean) :: gtb
theorem d_Desk_isSupervisor_0 : decode cc_Desk_isSupervisor 0 = .ok (.aload_n 0, 1) := by decide +kernel
theorem d_Desk_isSupervisor_1 : decode cc_Desk_isSupervisor 1 = .ok (.getfield 28, 3) := by decide +kernel
theorem d_Desk_isSupervisor_4 : decode cc_Desk_isSupervisor 4 = .ok (.iconst 1, 1) := by decide +kernel
theorem d_Desk_isSupervisor_5 : decode cc_Desk_isSupervisor 5 = .ok (.if_icmp .eq 11, 3) := by decide +kernel
theorem d_Desk_isSupervisor_8 : decode cc_Desk_isSupervisor 8 = .ok (.aload_n 0, 1) := by decide +kernel
theorem d_Desk_isSupervisor_9 : decode cc_Desk_isSupervisor 9 = .ok (.getfield 28, 3) := by decide +kernel
theorem d_Desk_isSupervisor_12 : decode cc_Desk_isSupervisor 12 = .ok (.iconst 3, 1) := by decide +kernel
theorem d_Desk_isSupervisor_13 : decode cc_Desk_isSupervisor 13 = .ok (.if_icmp .ne 7, 3) := by decide +kernel
theorem d_Desk_isSupervisor_16 : decode cc_Desk_isSupervisor 16 = .ok (.iconst 1, 1) := by decide +kernel
theorem d_Desk_isSupervisor_17 : decode cc_Desk_isSupervisor 17 = .ok (.goto 4, 3) := by decide +kernel
theorem d_Desk_isSupervisor_20 : decode cc_Desk_isSupervisor 20 = .ok (.iconst 0, 1) := by decide +kernel
theorem d_Desk_isSupervisor_21 : decode cc_Desk_isSupervisor 21 = .ok (.ireturn, 1) := by decide +kernel
abbrev y_Desk_isIn : MethodName := ⟨"TrapDesk", "isIn", "(II)Z"⟩
abbrev cc_Desk_isIn : ByteArray := prog_1_method_44_code
abbrev ws_Desk_isIn : List Cond := Cond.code y_Desk_isIn cc_Desk_isIn 2 (some .boolean) :: gtb
theorem d_Desk_isIn_0 : decode cc_Desk_isIn 0 = .ok (.iload_n 1, 1) := by decide +kernel
theorem d_Desk_isIn_1 : decode cc_Desk_isIn 1 = .ok (.ifCond .lt 21, 3) := by decide +kernel
theorem d_Desk_isIn_4 : decode cc_Desk_isIn 4 = .ok (.iload_n 1, 1) := by decide +kernel
theorem d_Desk_isIn_5 : decode cc_Desk_isIn 5 = .ok (.bipush 32, 2) := by decide +kernel
theorem d_Desk_isIn_7 : decode cc_Desk_isIn 7 = .ok (.if_icmp .ge 15, 3) := by decide +kernel
theorem d_Desk_isIn_10 : decode cc_Desk_isIn 10 = .ok (.iload_n 0, 1) := by decide +kernel
theorem d_Desk_isIn_11 : decode cc_Desk_isIn 11 = .ok (.iload_n 1, 1) := by decide +kernel
theorem d_Desk_isIn_12 : decode cc_Desk_isIn 12 = .ok (.iushr, 1) := by decide +kernel
theorem d_Desk_isIn_13 : decode cc_Desk_isIn 13 = .ok (.iconst 1, 1) := by decide +kernel
theorem d_Desk_isIn_14 : decode cc_Desk_isIn 14 = .ok (.iand, 1) := by decide +kernel
theorem d_Desk_isIn_15 : decode cc_Desk_isIn 15 = .ok (.ifCond .eq 7, 3) := by decide +kernel
theorem d_Desk_isIn_18 : decode cc_Desk_isIn 18 = .ok (.iconst 1, 1) := by decide +kernel
theorem d_Desk_isIn_19 : decode cc_Desk_isIn 19 = .ok (.goto 4, 3) := by decide +kernel
theorem d_Desk_isIn_22 : decode cc_Desk_isIn 22 = .ok (.iconst 0, 1) := by decide +kernel
theorem d_Desk_isIn_23 : decode cc_Desk_isIn 23 = .ok (.ireturn, 1) := by decide +kernel
abbrev y_Bank_init : MethodName := ⟨"TrapDesk$Bank", "<init>", "()V"⟩
abbrev cc_Bank_init : ByteArray := prog_2_method_1_code
abbrev ws_Bank_init : List Cond := Cond.code y_Bank_init cc_Bank_init 1 none :: gtb
theorem d_Bank_init_0 : decode cc_Bank_init 0 = .ok (.aload_n 0, 1) := by decide +kernel
theorem d_Bank_init_1 : decode cc_Bank_init 1 = .ok (.invokespecial 5, 3) := by decide +kernel
theorem d_Bank_init_4 : decode cc_Bank_init 4 = .ok (.return_, 1) := by decide +kernel
abbrev y_Bank_reset : MethodName := ⟨"TrapDesk$Bank", "reset", "()V"⟩
abbrev cc_Bank_reset : ByteArray := prog_2_method_2_code
abbrev ws_Bank_reset : List Cond := Cond.code y_Bank_reset cc_Bank_reset 1 none :: gtb
theorem d_Bank_reset_0 : decode cc_Bank_reset 0 = .ok (.aload_n 0, 1) := by decide +kernel
theorem d_Bank_reset_1 : decode cc_Bank_reset 1 = .ok (.iconst 0, 1) := by decide +kernel
theorem d_Bank_reset_2 : decode cc_Bank_reset 2 = .ok (.putfield 11, 3) := by decide +kernel
theorem d_Bank_reset_5 : decode cc_Bank_reset 5 = .ok (.aload_n 0, 1) := by decide +kernel
theorem d_Bank_reset_6 : decode cc_Bank_reset 6 = .ok (.iconst 0, 1) := by decide +kernel
theorem d_Bank_reset_7 : decode cc_Bank_reset 7 = .ok (.putfield 15, 3) := by decide +kernel
theorem d_Bank_reset_10 : decode cc_Bank_reset 10 = .ok (.aload_n 0, 1) := by decide +kernel
theorem d_Bank_reset_11 : decode cc_Bank_reset 11 = .ok (.iconst 0, 1) := by decide +kernel
theorem d_Bank_reset_12 : decode cc_Bank_reset 12 = .ok (.putfield 18, 3) := by decide +kernel
theorem d_Bank_reset_15 : decode cc_Bank_reset 15 = .ok (.aload_n 0, 1) := by decide +kernel
theorem d_Bank_reset_16 : decode cc_Bank_reset 16 = .ok (.iconst 0, 1) := by decide +kernel
theorem d_Bank_reset_17 : decode cc_Bank_reset 17 = .ok (.putfield 21, 3) := by decide +kernel
theorem d_Bank_reset_20 : decode cc_Bank_reset 20 = .ok (.aload_n 0, 1) := by decide +kernel
theorem d_Bank_reset_21 : decode cc_Bank_reset 21 = .ok (.iconst 0, 1) := by decide +kernel
theorem d_Bank_reset_22 : decode cc_Bank_reset 22 = .ok (.putfield 24, 3) := by decide +kernel
theorem d_Bank_reset_25 : decode cc_Bank_reset 25 = .ok (.aload_n 0, 1) := by decide +kernel
theorem d_Bank_reset_26 : decode cc_Bank_reset 26 = .ok (.iconst 0, 1) := by decide +kernel
theorem d_Bank_reset_27 : decode cc_Bank_reset 27 = .ok (.putfield 27, 3) := by decide +kernel
theorem d_Bank_reset_30 : decode cc_Bank_reset 30 = .ok (.aload_n 0, 1) := by decide +kernel
theorem d_Bank_reset_31 : decode cc_Bank_reset 31 = .ok (.iconst 0, 1) := by decide +kernel
theorem d_Bank_reset_32 : decode cc_Bank_reset 32 = .ok (.putfield 30, 3) := by decide +kernel
theorem d_Bank_reset_35 : decode cc_Bank_reset 35 = .ok (.return_, 1) := by decide +kernel
abbrev y_Bank_read : MethodName := ⟨"TrapDesk$Bank", "read", "(I)I"⟩
abbrev cc_Bank_read : ByteArray := prog_2_method_3_code
abbrev ws_Bank_read : List Cond := Cond.code y_Bank_read cc_Bank_read 2 (some .int) :: gtb
theorem d_Bank_read_0 : decode cc_Bank_read 0 = .ok (.iload_n 1, 1) := by decide +kernel
theorem d_Bank_read_1 : decode cc_Bank_read 1 = .ok (.lookupswitch 102 #[(0, 67), (5, 72), (64, 77), (65, 82), (66, 87), (67, 92), (128, 97)], 67) := by decide +kernel
theorem d_Bank_read_68 : decode cc_Bank_read 68 = .ok (.aload_n 0, 1) := by decide +kernel
theorem d_Bank_read_69 : decode cc_Bank_read 69 = .ok (.getfield 11, 3) := by decide +kernel
theorem d_Bank_read_72 : decode cc_Bank_read 72 = .ok (.ireturn, 1) := by decide +kernel
theorem d_Bank_read_73 : decode cc_Bank_read 73 = .ok (.aload_n 0, 1) := by decide +kernel
theorem d_Bank_read_74 : decode cc_Bank_read 74 = .ok (.getfield 15, 3) := by decide +kernel
theorem d_Bank_read_77 : decode cc_Bank_read 77 = .ok (.ireturn, 1) := by decide +kernel
theorem d_Bank_read_78 : decode cc_Bank_read 78 = .ok (.aload_n 0, 1) := by decide +kernel
theorem d_Bank_read_79 : decode cc_Bank_read 79 = .ok (.getfield 18, 3) := by decide +kernel
theorem d_Bank_read_82 : decode cc_Bank_read 82 = .ok (.ireturn, 1) := by decide +kernel
theorem d_Bank_read_83 : decode cc_Bank_read 83 = .ok (.aload_n 0, 1) := by decide +kernel
theorem d_Bank_read_84 : decode cc_Bank_read 84 = .ok (.getfield 21, 3) := by decide +kernel
theorem d_Bank_read_87 : decode cc_Bank_read 87 = .ok (.ireturn, 1) := by decide +kernel
theorem d_Bank_read_88 : decode cc_Bank_read 88 = .ok (.aload_n 0, 1) := by decide +kernel
theorem d_Bank_read_89 : decode cc_Bank_read 89 = .ok (.getfield 24, 3) := by decide +kernel
theorem d_Bank_read_92 : decode cc_Bank_read 92 = .ok (.ireturn, 1) := by decide +kernel
theorem d_Bank_read_93 : decode cc_Bank_read 93 = .ok (.aload_n 0, 1) := by decide +kernel
theorem d_Bank_read_94 : decode cc_Bank_read 94 = .ok (.getfield 27, 3) := by decide +kernel
theorem d_Bank_read_97 : decode cc_Bank_read 97 = .ok (.ireturn, 1) := by decide +kernel
theorem d_Bank_read_98 : decode cc_Bank_read 98 = .ok (.aload_n 0, 1) := by decide +kernel
theorem d_Bank_read_99 : decode cc_Bank_read 99 = .ok (.getfield 30, 3) := by decide +kernel
theorem d_Bank_read_102 : decode cc_Bank_read 102 = .ok (.ireturn, 1) := by decide +kernel
theorem d_Bank_read_103 : decode cc_Bank_read 103 = .ok (.iconst 0, 1) := by decide +kernel
theorem d_Bank_read_104 : decode cc_Bank_read 104 = .ok (.ireturn, 1) := by decide +kernel
abbrev y_Bank_write : MethodName := ⟨"TrapDesk$Bank", "write", "(II)V"⟩
abbrev cc_Bank_write : ByteArray := prog_2_method_4_code
abbrev ws_Bank_write : List Cond := Cond.code y_Bank_write cc_Bank_write 3 none :: gtb
theorem d_Bank_write_0 : decode cc_Bank_write 0 = .ok (.iload_n 1, 1) := by decide +kernel
theorem d_Bank_write_1 : decode cc_Bank_write 1 = .ok (.lookupswitch 135 #[(0, 67), (5, 78), (64, 89), (65, 97), (66, 108), (67, 116), (128, 124)], 67) := by decide +kernel
theorem d_Bank_write_68 : decode cc_Bank_write 68 = .ok (.aload_n 0, 1) := by decide +kernel
theorem d_Bank_write_69 : decode cc_Bank_write 69 = .ok (.iload_n 2, 1) := by decide +kernel
theorem d_Bank_write_70 : decode cc_Bank_write 70 = .ok (.ldc 33, 2) := by decide +kernel
theorem d_Bank_write_72 : decode cc_Bank_write 72 = .ok (.iand, 1) := by decide +kernel
theorem d_Bank_write_73 : decode cc_Bank_write 73 = .ok (.putfield 11, 3) := by decide +kernel
theorem d_Bank_write_76 : decode cc_Bank_write 76 = .ok (.goto 60, 3) := by decide +kernel
theorem d_Bank_write_79 : decode cc_Bank_write 79 = .ok (.aload_n 0, 1) := by decide +kernel
theorem d_Bank_write_80 : decode cc_Bank_write 80 = .ok (.iload_n 2, 1) := by decide +kernel
theorem d_Bank_write_81 : decode cc_Bank_write 81 = .ok (.bipush (-3), 2) := by decide +kernel
theorem d_Bank_write_83 : decode cc_Bank_write 83 = .ok (.iand, 1) := by decide +kernel
theorem d_Bank_write_84 : decode cc_Bank_write 84 = .ok (.putfield 15, 3) := by decide +kernel
theorem d_Bank_write_87 : decode cc_Bank_write 87 = .ok (.goto 49, 3) := by decide +kernel
theorem d_Bank_write_90 : decode cc_Bank_write 90 = .ok (.aload_n 0, 1) := by decide +kernel
theorem d_Bank_write_91 : decode cc_Bank_write 91 = .ok (.iload_n 2, 1) := by decide +kernel
theorem d_Bank_write_92 : decode cc_Bank_write 92 = .ok (.putfield 18, 3) := by decide +kernel
theorem d_Bank_write_95 : decode cc_Bank_write 95 = .ok (.goto 41, 3) := by decide +kernel
theorem d_Bank_write_98 : decode cc_Bank_write 98 = .ok (.aload_n 0, 1) := by decide +kernel
theorem d_Bank_write_99 : decode cc_Bank_write 99 = .ok (.iload_n 2, 1) := by decide +kernel
theorem d_Bank_write_100 : decode cc_Bank_write 100 = .ok (.bipush (-4), 2) := by decide +kernel
theorem d_Bank_write_102 : decode cc_Bank_write 102 = .ok (.iand, 1) := by decide +kernel
theorem d_Bank_write_103 : decode cc_Bank_write 103 = .ok (.putfield 21, 3) := by decide +kernel
theorem d_Bank_write_106 : decode cc_Bank_write 106 = .ok (.goto 30, 3) := by decide +kernel
theorem d_Bank_write_109 : decode cc_Bank_write 109 = .ok (.aload_n 0, 1) := by decide +kernel
theorem d_Bank_write_110 : decode cc_Bank_write 110 = .ok (.iload_n 2, 1) := by decide +kernel
theorem d_Bank_write_111 : decode cc_Bank_write 111 = .ok (.putfield 24, 3) := by decide +kernel
theorem d_Bank_write_114 : decode cc_Bank_write 114 = .ok (.goto 22, 3) := by decide +kernel
theorem d_Bank_write_117 : decode cc_Bank_write 117 = .ok (.aload_n 0, 1) := by decide +kernel
theorem d_Bank_write_118 : decode cc_Bank_write 118 = .ok (.iload_n 2, 1) := by decide +kernel
theorem d_Bank_write_119 : decode cc_Bank_write 119 = .ok (.putfield 27, 3) := by decide +kernel
theorem d_Bank_write_122 : decode cc_Bank_write 122 = .ok (.goto 14, 3) := by decide +kernel
theorem d_Bank_write_125 : decode cc_Bank_write 125 = .ok (.aload_n 0, 1) := by decide +kernel
theorem d_Bank_write_126 : decode cc_Bank_write 126 = .ok (.iload_n 2, 1) := by decide +kernel
theorem d_Bank_write_127 : decode cc_Bank_write 127 = .ok (.ldc 34, 2) := by decide +kernel
theorem d_Bank_write_129 : decode cc_Bank_write 129 = .ok (.iand, 1) := by decide +kernel
theorem d_Bank_write_130 : decode cc_Bank_write 130 = .ok (.putfield 30, 3) := by decide +kernel
theorem d_Bank_write_133 : decode cc_Bank_write 133 = .ok (.goto 3, 3) := by decide +kernel
theorem d_Bank_write_136 : decode cc_Bank_write 136 = .ok (.return_, 1) := by decide +kernel
abbrev y_Bank_hasInterruptsOn : MethodName := ⟨"TrapDesk$Bank", "hasInterruptsOn", "()Z"⟩
abbrev cc_Bank_hasInterruptsOn : ByteArray := prog_2_method_5_code
abbrev ws_Bank_hasInterruptsOn : List Cond := Cond.code y_Bank_hasInterruptsOn cc_Bank_hasInterruptsOn 1 (some .boolean) :: gtb
theorem d_Bank_hasInterruptsOn_0 : decode cc_Bank_hasInterruptsOn 0 = .ok (.aload_n 0, 1) := by decide +kernel
theorem d_Bank_hasInterruptsOn_1 : decode cc_Bank_hasInterruptsOn 1 = .ok (.getfield 11, 3) := by decide +kernel
theorem d_Bank_hasInterruptsOn_4 : decode cc_Bank_hasInterruptsOn 4 = .ok (.iconst 2, 1) := by decide +kernel
theorem d_Bank_hasInterruptsOn_5 : decode cc_Bank_hasInterruptsOn 5 = .ok (.iand, 1) := by decide +kernel
theorem d_Bank_hasInterruptsOn_6 : decode cc_Bank_hasInterruptsOn 6 = .ok (.ifCond .eq 7, 3) := by decide +kernel
theorem d_Bank_hasInterruptsOn_9 : decode cc_Bank_hasInterruptsOn 9 = .ok (.iconst 1, 1) := by decide +kernel
theorem d_Bank_hasInterruptsOn_10 : decode cc_Bank_hasInterruptsOn 10 = .ok (.goto 4, 3) := by decide +kernel
theorem d_Bank_hasInterruptsOn_13 : decode cc_Bank_hasInterruptsOn 13 = .ok (.iconst 0, 1) := by decide +kernel
theorem d_Bank_hasInterruptsOn_14 : decode cc_Bank_hasInterruptsOn 14 = .ok (.ireturn, 1) := by decide +kernel
abbrev y_Bank_enter : MethodName := ⟨"TrapDesk$Bank", "enter", "(IIIZ)I"⟩
abbrev cc_Bank_enter : ByteArray := prog_2_method_6_code
abbrev ws_Bank_enter : List Cond := Cond.code y_Bank_enter cc_Bank_enter 7 (some .int) :: gtb
theorem d_Bank_enter_0 : decode cc_Bank_enter 0 = .ok (.aload_n 0, 1) := by decide +kernel
theorem d_Bank_enter_1 : decode cc_Bank_enter 1 = .ok (.iload_n 1, 1) := by decide +kernel
theorem d_Bank_enter_2 : decode cc_Bank_enter 2 = .ok (.putfield 21, 3) := by decide +kernel
theorem d_Bank_enter_5 : decode cc_Bank_enter 5 = .ok (.aload_n 0, 1) := by decide +kernel
theorem d_Bank_enter_6 : decode cc_Bank_enter 6 = .ok (.iload_n 2, 1) := by decide +kernel
theorem d_Bank_enter_7 : decode cc_Bank_enter 7 = .ok (.putfield 24, 3) := by decide +kernel
theorem d_Bank_enter_10 : decode cc_Bank_enter 10 = .ok (.aload_n 0, 1) := by decide +kernel
theorem d_Bank_enter_11 : decode cc_Bank_enter 11 = .ok (.iload_n 3, 1) := by decide +kernel
theorem d_Bank_enter_12 : decode cc_Bank_enter 12 = .ok (.putfield 27, 3) := by decide +kernel
theorem d_Bank_enter_15 : decode cc_Bank_enter 15 = .ok (.aload_n 0, 1) := by decide +kernel
theorem d_Bank_enter_16 : decode cc_Bank_enter 16 = .ok (.getfield 11, 3) := by decide +kernel
theorem d_Bank_enter_19 : decode cc_Bank_enter 19 = .ok (.sipush (-291), 3) := by decide +kernel
theorem d_Bank_enter_22 : decode cc_Bank_enter 22 = .ok (.iand, 1) := by decide +kernel
theorem d_Bank_enter_23 : decode cc_Bank_enter 23 = .ok (.istore 5, 2) := by decide +kernel
theorem d_Bank_enter_25 : decode cc_Bank_enter 25 = .ok (.aload_n 0, 1) := by decide +kernel
theorem d_Bank_enter_26 : decode cc_Bank_enter 26 = .ok (.invokevirtual 35, 3) := by decide +kernel
theorem d_Bank_enter_29 : decode cc_Bank_enter 29 = .ok (.ifCond .eq 8, 3) := by decide +kernel
theorem d_Bank_enter_32 : decode cc_Bank_enter 32 = .ok (.bipush 32, 2) := by decide +kernel
theorem d_Bank_enter_34 : decode cc_Bank_enter 34 = .ok (.goto 4, 3) := by decide +kernel
theorem d_Bank_enter_37 : decode cc_Bank_enter 37 = .ok (.iconst 0, 1) := by decide +kernel
theorem d_Bank_enter_38 : decode cc_Bank_enter 38 = .ok (.istore 6, 2) := by decide +kernel
theorem d_Bank_enter_40 : decode cc_Bank_enter 40 = .ok (.aload_n 0, 1) := by decide +kernel
theorem d_Bank_enter_41 : decode cc_Bank_enter 41 = .ok (.iload 5, 2) := by decide +kernel
theorem d_Bank_enter_43 : decode cc_Bank_enter 43 = .ok (.iload 6, 2) := by decide +kernel
theorem d_Bank_enter_45 : decode cc_Bank_enter 45 = .ok (.ior, 1) := by decide +kernel
theorem d_Bank_enter_46 : decode cc_Bank_enter 46 = .ok (.iload 4, 2) := by decide +kernel
theorem d_Bank_enter_48 : decode cc_Bank_enter 48 = .ok (.ifCond .eq 9, 3) := by decide +kernel
theorem d_Bank_enter_51 : decode cc_Bank_enter 51 = .ok (.sipush 256, 3) := by decide +kernel
theorem d_Bank_enter_54 : decode cc_Bank_enter 54 = .ok (.goto 4, 3) := by decide +kernel
theorem d_Bank_enter_57 : decode cc_Bank_enter 57 = .ok (.iconst 0, 1) := by decide +kernel
theorem d_Bank_enter_58 : decode cc_Bank_enter 58 = .ok (.ior, 1) := by decide +kernel
theorem d_Bank_enter_59 : decode cc_Bank_enter 59 = .ok (.putfield 11, 3) := by decide +kernel
theorem d_Bank_enter_62 : decode cc_Bank_enter 62 = .ok (.aload_n 0, 1) := by decide +kernel
theorem d_Bank_enter_63 : decode cc_Bank_enter 63 = .ok (.iload_n 2, 1) := by decide +kernel
theorem d_Bank_enter_64 : decode cc_Bank_enter 64 = .ok (.invokevirtual 39, 3) := by decide +kernel
theorem d_Bank_enter_67 : decode cc_Bank_enter 67 = .ok (.ireturn, 1) := by decide +kernel
abbrev y_Bank_handlerOf : MethodName := ⟨"TrapDesk$Bank", "handlerOf", "(I)I"⟩
abbrev cc_Bank_handlerOf : ByteArray := prog_2_method_7_code
abbrev ws_Bank_handlerOf : List Cond := Cond.code y_Bank_handlerOf cc_Bank_handlerOf 4 (some .int) :: gtb
theorem d_Bank_handlerOf_0 : decode cc_Bank_handlerOf 0 = .ok (.aload_n 0, 1) := by decide +kernel
theorem d_Bank_handlerOf_1 : decode cc_Bank_handlerOf 1 = .ok (.getfield 15, 3) := by decide +kernel
theorem d_Bank_handlerOf_4 : decode cc_Bank_handlerOf 4 = .ok (.bipush (-4), 2) := by decide +kernel
theorem d_Bank_handlerOf_6 : decode cc_Bank_handlerOf 6 = .ok (.iand, 1) := by decide +kernel
theorem d_Bank_handlerOf_7 : decode cc_Bank_handlerOf 7 = .ok (.istore_n 2, 1) := by decide +kernel
theorem d_Bank_handlerOf_8 : decode cc_Bank_handlerOf 8 = .ok (.iload_n 1, 1) := by decide +kernel
theorem d_Bank_handlerOf_9 : decode cc_Bank_handlerOf 9 = .ok (.ldc 43, 2) := by decide +kernel
theorem d_Bank_handlerOf_11 : decode cc_Bank_handlerOf 11 = .ok (.iand, 1) := by decide +kernel
theorem d_Bank_handlerOf_12 : decode cc_Bank_handlerOf 12 = .ok (.ifCond .eq 16, 3) := by decide +kernel
theorem d_Bank_handlerOf_15 : decode cc_Bank_handlerOf 15 = .ok (.aload_n 0, 1) := by decide +kernel
theorem d_Bank_handlerOf_16 : decode cc_Bank_handlerOf 16 = .ok (.getfield 15, 3) := by decide +kernel
theorem d_Bank_handlerOf_19 : decode cc_Bank_handlerOf 19 = .ok (.iconst 1, 1) := by decide +kernel
theorem d_Bank_handlerOf_20 : decode cc_Bank_handlerOf 20 = .ok (.iand, 1) := by decide +kernel
theorem d_Bank_handlerOf_21 : decode cc_Bank_handlerOf 21 = .ok (.ifCond .eq 7, 3) := by decide +kernel
theorem d_Bank_handlerOf_24 : decode cc_Bank_handlerOf 24 = .ok (.iconst 1, 1) := by decide +kernel
theorem d_Bank_handlerOf_25 : decode cc_Bank_handlerOf 25 = .ok (.goto 4, 3) := by decide +kernel
theorem d_Bank_handlerOf_28 : decode cc_Bank_handlerOf 28 = .ok (.iconst 0, 1) := by decide +kernel
theorem d_Bank_handlerOf_29 : decode cc_Bank_handlerOf 29 = .ok (.istore_n 3, 1) := by decide +kernel
theorem d_Bank_handlerOf_30 : decode cc_Bank_handlerOf 30 = .ok (.iload_n 3, 1) := by decide +kernel
theorem d_Bank_handlerOf_31 : decode cc_Bank_handlerOf 31 = .ok (.ifCond .eq 14, 3) := by decide +kernel
theorem d_Bank_handlerOf_34 : decode cc_Bank_handlerOf 34 = .ok (.iload_n 2, 1) := by decide +kernel
theorem d_Bank_handlerOf_35 : decode cc_Bank_handlerOf 35 = .ok (.iconst 4, 1) := by decide +kernel
theorem d_Bank_handlerOf_36 : decode cc_Bank_handlerOf 36 = .ok (.iload_n 1, 1) := by decide +kernel
theorem d_Bank_handlerOf_37 : decode cc_Bank_handlerOf 37 = .ok (.ldc 44, 2) := by decide +kernel
theorem d_Bank_handlerOf_39 : decode cc_Bank_handlerOf 39 = .ok (.iand, 1) := by decide +kernel
theorem d_Bank_handlerOf_40 : decode cc_Bank_handlerOf 40 = .ok (.imul, 1) := by decide +kernel
theorem d_Bank_handlerOf_41 : decode cc_Bank_handlerOf 41 = .ok (.iadd, 1) := by decide +kernel
theorem d_Bank_handlerOf_42 : decode cc_Bank_handlerOf 42 = .ok (.goto 4, 3) := by decide +kernel
theorem d_Bank_handlerOf_45 : decode cc_Bank_handlerOf 45 = .ok (.iload_n 2, 1) := by decide +kernel
theorem d_Bank_handlerOf_46 : decode cc_Bank_handlerOf 46 = .ok (.ireturn, 1) := by decide +kernel
abbrev y_Bank_leave : MethodName := ⟨"TrapDesk$Bank", "leave", "()Z"⟩
abbrev cc_Bank_leave : ByteArray := prog_2_method_8_code
abbrev ws_Bank_leave : List Cond := Cond.code y_Bank_leave cc_Bank_leave 3 (some .boolean) :: gtb
theorem d_Bank_leave_0 : decode cc_Bank_leave 0 = .ok (.aload_n 0, 1) := by decide +kernel
theorem d_Bank_leave_1 : decode cc_Bank_leave 1 = .ok (.getfield 11, 3) := by decide +kernel
theorem d_Bank_leave_4 : decode cc_Bank_leave 4 = .ok (.sipush 256, 3) := by decide +kernel
theorem d_Bank_leave_7 : decode cc_Bank_leave 7 = .ok (.iand, 1) := by decide +kernel
theorem d_Bank_leave_8 : decode cc_Bank_leave 8 = .ok (.ifCond .eq 7, 3) := by decide +kernel
theorem d_Bank_leave_11 : decode cc_Bank_leave 11 = .ok (.iconst 1, 1) := by decide +kernel
theorem d_Bank_leave_12 : decode cc_Bank_leave 12 = .ok (.goto 4, 3) := by decide +kernel
theorem d_Bank_leave_15 : decode cc_Bank_leave 15 = .ok (.iconst 0, 1) := by decide +kernel
theorem d_Bank_leave_16 : decode cc_Bank_leave 16 = .ok (.istore_n 1, 1) := by decide +kernel
theorem d_Bank_leave_17 : decode cc_Bank_leave 17 = .ok (.aload_n 0, 1) := by decide +kernel
theorem d_Bank_leave_18 : decode cc_Bank_leave 18 = .ok (.getfield 11, 3) := by decide +kernel
theorem d_Bank_leave_21 : decode cc_Bank_leave 21 = .ok (.sipush (-259), 3) := by decide +kernel
theorem d_Bank_leave_24 : decode cc_Bank_leave 24 = .ok (.iand, 1) := by decide +kernel
theorem d_Bank_leave_25 : decode cc_Bank_leave 25 = .ok (.istore_n 2, 1) := by decide +kernel
theorem d_Bank_leave_26 : decode cc_Bank_leave 26 = .ok (.aload_n 0, 1) := by decide +kernel
theorem d_Bank_leave_27 : decode cc_Bank_leave 27 = .ok (.iload_n 2, 1) := by decide +kernel
theorem d_Bank_leave_28 : decode cc_Bank_leave 28 = .ok (.bipush 32, 2) := by decide +kernel
theorem d_Bank_leave_30 : decode cc_Bank_leave 30 = .ok (.ior, 1) := by decide +kernel
theorem d_Bank_leave_31 : decode cc_Bank_leave 31 = .ok (.aload_n 0, 1) := by decide +kernel
theorem d_Bank_leave_32 : decode cc_Bank_leave 32 = .ok (.getfield 11, 3) := by decide +kernel
theorem d_Bank_leave_35 : decode cc_Bank_leave 35 = .ok (.bipush 32, 2) := by decide +kernel
theorem d_Bank_leave_37 : decode cc_Bank_leave 37 = .ok (.iand, 1) := by decide +kernel
theorem d_Bank_leave_38 : decode cc_Bank_leave 38 = .ok (.ifCond .eq 7, 3) := by decide +kernel
theorem d_Bank_leave_41 : decode cc_Bank_leave 41 = .ok (.iconst 2, 1) := by decide +kernel
theorem d_Bank_leave_42 : decode cc_Bank_leave 42 = .ok (.goto 4, 3) := by decide +kernel
theorem d_Bank_leave_45 : decode cc_Bank_leave 45 = .ok (.iconst 0, 1) := by decide +kernel
theorem d_Bank_leave_46 : decode cc_Bank_leave 46 = .ok (.ior, 1) := by decide +kernel
theorem d_Bank_leave_47 : decode cc_Bank_leave 47 = .ok (.putfield 11, 3) := by decide +kernel
theorem d_Bank_leave_50 : decode cc_Bank_leave 50 = .ok (.iload_n 1, 1) := by decide +kernel
theorem d_Bank_leave_51 : decode cc_Bank_leave 51 = .ok (.ireturn, 1) := by decide +kernel
abbrev y_Hyper_init : MethodName := ⟨"TrapDesk$Hyper", "<init>", "()V"⟩
abbrev cc_Hyper_init : ByteArray := prog_4_method_1_code
abbrev ws_Hyper_init : List Cond := Cond.code y_Hyper_init cc_Hyper_init 1 none :: gtb
theorem d_Hyper_init_0 : decode cc_Hyper_init 0 = .ok (.aload_n 0, 1) := by decide +kernel
theorem d_Hyper_init_1 : decode cc_Hyper_init 1 = .ok (.invokespecial 3, 3) := by decide +kernel
theorem d_Hyper_init_4 : decode cc_Hyper_init 4 = .ok (.return_, 1) := by decide +kernel
abbrev y_Hyper_reset : MethodName := ⟨"TrapDesk$Hyper", "reset", "()V"⟩
abbrev cc_Hyper_reset : ByteArray := prog_4_method_2_code
abbrev ws_Hyper_reset : List Cond := Cond.code y_Hyper_reset cc_Hyper_reset 1 none :: gtb
theorem d_Hyper_reset_0 : decode cc_Hyper_reset 0 = .ok (.aload_n 0, 1) := by decide +kernel
theorem d_Hyper_reset_1 : decode cc_Hyper_reset 1 = .ok (.iconst 0, 1) := by decide +kernel
theorem d_Hyper_reset_2 : decode cc_Hyper_reset 2 = .ok (.putfield 9, 3) := by decide +kernel
theorem d_Hyper_reset_5 : decode cc_Hyper_reset 5 = .ok (.aload_n 0, 1) := by decide +kernel
theorem d_Hyper_reset_6 : decode cc_Hyper_reset 6 = .ok (.iconst 0, 1) := by decide +kernel
theorem d_Hyper_reset_7 : decode cc_Hyper_reset 7 = .ok (.putfield 13, 3) := by decide +kernel
theorem d_Hyper_reset_10 : decode cc_Hyper_reset 10 = .ok (.aload_n 0, 1) := by decide +kernel
theorem d_Hyper_reset_11 : decode cc_Hyper_reset 11 = .ok (.iconst 0, 1) := by decide +kernel
theorem d_Hyper_reset_12 : decode cc_Hyper_reset 12 = .ok (.putfield 16, 3) := by decide +kernel
theorem d_Hyper_reset_15 : decode cc_Hyper_reset 15 = .ok (.aload_n 0, 1) := by decide +kernel
theorem d_Hyper_reset_16 : decode cc_Hyper_reset 16 = .ok (.iconst 0, 1) := by decide +kernel
theorem d_Hyper_reset_17 : decode cc_Hyper_reset 17 = .ok (.putfield 19, 3) := by decide +kernel
theorem d_Hyper_reset_20 : decode cc_Hyper_reset 20 = .ok (.aload_n 0, 1) := by decide +kernel
theorem d_Hyper_reset_21 : decode cc_Hyper_reset 21 = .ok (.iconst 0, 1) := by decide +kernel
theorem d_Hyper_reset_22 : decode cc_Hyper_reset 22 = .ok (.putfield 22, 3) := by decide +kernel
theorem d_Hyper_reset_25 : decode cc_Hyper_reset 25 = .ok (.aload_n 0, 1) := by decide +kernel
theorem d_Hyper_reset_26 : decode cc_Hyper_reset 26 = .ok (.iconst 0, 1) := by decide +kernel
theorem d_Hyper_reset_27 : decode cc_Hyper_reset 27 = .ok (.putfield 25, 3) := by decide +kernel
theorem d_Hyper_reset_30 : decode cc_Hyper_reset 30 = .ok (.aload_n 0, 1) := by decide +kernel
theorem d_Hyper_reset_31 : decode cc_Hyper_reset 31 = .ok (.iconst 0, 1) := by decide +kernel
theorem d_Hyper_reset_32 : decode cc_Hyper_reset 32 = .ok (.putfield 28, 3) := by decide +kernel
theorem d_Hyper_reset_35 : decode cc_Hyper_reset 35 = .ok (.aload_n 0, 1) := by decide +kernel
theorem d_Hyper_reset_36 : decode cc_Hyper_reset 36 = .ok (.iconst 0, 1) := by decide +kernel
theorem d_Hyper_reset_37 : decode cc_Hyper_reset 37 = .ok (.putfield 31, 3) := by decide +kernel
theorem d_Hyper_reset_40 : decode cc_Hyper_reset 40 = .ok (.return_, 1) := by decide +kernel
abbrev y_Hyper_read : MethodName := ⟨"TrapDesk$Hyper", "read", "(I)I"⟩
abbrev cc_Hyper_read : ByteArray := prog_4_method_3_code
abbrev ws_Hyper_read : List Cond := Cond.code y_Hyper_read cc_Hyper_read 2 (some .int) :: gtb
theorem d_Hyper_read_0 : decode cc_Hyper_read 0 = .ok (.iload_n 1, 1) := by decide +kernel
theorem d_Hyper_read_1 : decode cc_Hyper_read 1 = .ok (.lookupswitch 123 #[(1536, 83), (1538, 88), (1539, 93), (1540, 98), (1603, 103), (1604, 108), (1605, 108), (1610, 113), (1664, 118)], 83) := by decide +kernel
theorem d_Hyper_read_84 : decode cc_Hyper_read 84 = .ok (.aload_n 0, 1) := by decide +kernel
theorem d_Hyper_read_85 : decode cc_Hyper_read 85 = .ok (.getfield 9, 3) := by decide +kernel
theorem d_Hyper_read_88 : decode cc_Hyper_read 88 = .ok (.ireturn, 1) := by decide +kernel
theorem d_Hyper_read_89 : decode cc_Hyper_read 89 = .ok (.aload_n 0, 1) := by decide +kernel
theorem d_Hyper_read_90 : decode cc_Hyper_read 90 = .ok (.getfield 13, 3) := by decide +kernel
theorem d_Hyper_read_93 : decode cc_Hyper_read 93 = .ok (.ireturn, 1) := by decide +kernel
theorem d_Hyper_read_94 : decode cc_Hyper_read 94 = .ok (.aload_n 0, 1) := by decide +kernel
theorem d_Hyper_read_95 : decode cc_Hyper_read 95 = .ok (.getfield 16, 3) := by decide +kernel
theorem d_Hyper_read_98 : decode cc_Hyper_read 98 = .ok (.ireturn, 1) := by decide +kernel
theorem d_Hyper_read_99 : decode cc_Hyper_read 99 = .ok (.aload_n 0, 1) := by decide +kernel
theorem d_Hyper_read_100 : decode cc_Hyper_read 100 = .ok (.getfield 19, 3) := by decide +kernel
theorem d_Hyper_read_103 : decode cc_Hyper_read 103 = .ok (.ireturn, 1) := by decide +kernel
theorem d_Hyper_read_104 : decode cc_Hyper_read 104 = .ok (.aload_n 0, 1) := by decide +kernel
theorem d_Hyper_read_105 : decode cc_Hyper_read 105 = .ok (.getfield 22, 3) := by decide +kernel
theorem d_Hyper_read_108 : decode cc_Hyper_read 108 = .ok (.ireturn, 1) := by decide +kernel
theorem d_Hyper_read_109 : decode cc_Hyper_read 109 = .ok (.aload_n 0, 1) := by decide +kernel
theorem d_Hyper_read_110 : decode cc_Hyper_read 110 = .ok (.getfield 25, 3) := by decide +kernel
theorem d_Hyper_read_113 : decode cc_Hyper_read 113 = .ok (.ireturn, 1) := by decide +kernel
theorem d_Hyper_read_114 : decode cc_Hyper_read 114 = .ok (.aload_n 0, 1) := by decide +kernel
theorem d_Hyper_read_115 : decode cc_Hyper_read 115 = .ok (.getfield 28, 3) := by decide +kernel
theorem d_Hyper_read_118 : decode cc_Hyper_read 118 = .ok (.ireturn, 1) := by decide +kernel
theorem d_Hyper_read_119 : decode cc_Hyper_read 119 = .ok (.aload_n 0, 1) := by decide +kernel
theorem d_Hyper_read_120 : decode cc_Hyper_read 120 = .ok (.getfield 31, 3) := by decide +kernel
theorem d_Hyper_read_123 : decode cc_Hyper_read 123 = .ok (.ireturn, 1) := by decide +kernel
theorem d_Hyper_read_124 : decode cc_Hyper_read 124 = .ok (.iconst 0, 1) := by decide +kernel
theorem d_Hyper_read_125 : decode cc_Hyper_read 125 = .ok (.ireturn, 1) := by decide +kernel
abbrev y_Hyper_write : MethodName := ⟨"TrapDesk$Hyper", "write", "(II)V"⟩
abbrev cc_Hyper_write : ByteArray := prog_4_method_4_code
abbrev ws_Hyper_write : List Cond := Cond.code y_Hyper_write cc_Hyper_write 3 none :: gtb
theorem d_Hyper_write_0 : decode cc_Hyper_write 0 = .ok (.iload_n 1, 1) := by decide +kernel
theorem d_Hyper_write_1 : decode cc_Hyper_write 1 = .ok (.lookupswitch 184 #[(1536, 83), (1538, 94), (1539, 105), (1540, 117), (1603, 129), (1604, 137), (1605, 153), (1610, 165), (1664, 173)], 83) := by decide +kernel
theorem d_Hyper_write_84 : decode cc_Hyper_write 84 = .ok (.aload_n 0, 1) := by decide +kernel
theorem d_Hyper_write_85 : decode cc_Hyper_write 85 = .ok (.iload_n 2, 1) := by decide +kernel
theorem d_Hyper_write_86 : decode cc_Hyper_write 86 = .ok (.ldc 34, 2) := by decide +kernel
theorem d_Hyper_write_88 : decode cc_Hyper_write 88 = .ok (.iand, 1) := by decide +kernel
theorem d_Hyper_write_89 : decode cc_Hyper_write 89 = .ok (.putfield 9, 3) := by decide +kernel
theorem d_Hyper_write_92 : decode cc_Hyper_write 92 = .ok (.goto 93, 3) := by decide +kernel
theorem d_Hyper_write_95 : decode cc_Hyper_write 95 = .ok (.aload_n 0, 1) := by decide +kernel
theorem d_Hyper_write_96 : decode cc_Hyper_write 96 = .ok (.iload_n 2, 1) := by decide +kernel
theorem d_Hyper_write_97 : decode cc_Hyper_write 97 = .ok (.ldc 35, 2) := by decide +kernel
theorem d_Hyper_write_99 : decode cc_Hyper_write 99 = .ok (.iand, 1) := by decide +kernel
theorem d_Hyper_write_100 : decode cc_Hyper_write 100 = .ok (.putfield 13, 3) := by decide +kernel
theorem d_Hyper_write_103 : decode cc_Hyper_write 103 = .ok (.goto 82, 3) := by decide +kernel
theorem d_Hyper_write_106 : decode cc_Hyper_write 106 = .ok (.aload_n 0, 1) := by decide +kernel
theorem d_Hyper_write_107 : decode cc_Hyper_write 107 = .ok (.iload_n 2, 1) := by decide +kernel
theorem d_Hyper_write_108 : decode cc_Hyper_write 108 = .ok (.sipush 1092, 3) := by decide +kernel
theorem d_Hyper_write_111 : decode cc_Hyper_write 111 = .ok (.iand, 1) := by decide +kernel
theorem d_Hyper_write_112 : decode cc_Hyper_write 112 = .ok (.putfield 16, 3) := by decide +kernel
theorem d_Hyper_write_115 : decode cc_Hyper_write 115 = .ok (.goto 70, 3) := by decide +kernel
theorem d_Hyper_write_118 : decode cc_Hyper_write 118 = .ok (.aload_n 0, 1) := by decide +kernel
theorem d_Hyper_write_119 : decode cc_Hyper_write 119 = .ok (.iload_n 2, 1) := by decide +kernel
theorem d_Hyper_write_120 : decode cc_Hyper_write 120 = .ok (.sipush 1092, 3) := by decide +kernel
theorem d_Hyper_write_123 : decode cc_Hyper_write 123 = .ok (.iand, 1) := by decide +kernel
theorem d_Hyper_write_124 : decode cc_Hyper_write 124 = .ok (.putfield 19, 3) := by decide +kernel
theorem d_Hyper_write_127 : decode cc_Hyper_write 127 = .ok (.goto 58, 3) := by decide +kernel
theorem d_Hyper_write_130 : decode cc_Hyper_write 130 = .ok (.aload_n 0, 1) := by decide +kernel
theorem d_Hyper_write_131 : decode cc_Hyper_write 131 = .ok (.iload_n 2, 1) := by decide +kernel
theorem d_Hyper_write_132 : decode cc_Hyper_write 132 = .ok (.putfield 22, 3) := by decide +kernel
theorem d_Hyper_write_135 : decode cc_Hyper_write 135 = .ok (.goto 50, 3) := by decide +kernel
theorem d_Hyper_write_138 : decode cc_Hyper_write 138 = .ok (.aload_n 0, 1) := by decide +kernel
theorem d_Hyper_write_139 : decode cc_Hyper_write 139 = .ok (.aload_n 0, 1) := by decide +kernel
theorem d_Hyper_write_140 : decode cc_Hyper_write 140 = .ok (.getfield 25, 3) := by decide +kernel
theorem d_Hyper_write_143 : decode cc_Hyper_write 143 = .ok (.iconst 4, 1) := by decide +kernel
theorem d_Hyper_write_144 : decode cc_Hyper_write 144 = .ok (.iload_n 2, 1) := by decide +kernel
theorem d_Hyper_write_145 : decode cc_Hyper_write 145 = .ok (.invokestatic 36, 3) := by decide +kernel
theorem d_Hyper_write_148 : decode cc_Hyper_write 148 = .ok (.putfield 25, 3) := by decide +kernel
theorem d_Hyper_write_151 : decode cc_Hyper_write 151 = .ok (.goto 34, 3) := by decide +kernel
theorem d_Hyper_write_154 : decode cc_Hyper_write 154 = .ok (.aload_n 0, 1) := by decide +kernel
theorem d_Hyper_write_155 : decode cc_Hyper_write 155 = .ok (.iload_n 2, 1) := by decide +kernel
theorem d_Hyper_write_156 : decode cc_Hyper_write 156 = .ok (.sipush 1092, 3) := by decide +kernel
theorem d_Hyper_write_159 : decode cc_Hyper_write 159 = .ok (.iand, 1) := by decide +kernel
theorem d_Hyper_write_160 : decode cc_Hyper_write 160 = .ok (.putfield 25, 3) := by decide +kernel
theorem d_Hyper_write_163 : decode cc_Hyper_write 163 = .ok (.goto 22, 3) := by decide +kernel
theorem d_Hyper_write_166 : decode cc_Hyper_write 166 = .ok (.aload_n 0, 1) := by decide +kernel
theorem d_Hyper_write_167 : decode cc_Hyper_write 167 = .ok (.iload_n 2, 1) := by decide +kernel
theorem d_Hyper_write_168 : decode cc_Hyper_write 168 = .ok (.putfield 28, 3) := by decide +kernel
theorem d_Hyper_write_171 : decode cc_Hyper_write 171 = .ok (.goto 14, 3) := by decide +kernel
theorem d_Hyper_write_174 : decode cc_Hyper_write 174 = .ok (.aload_n 0, 1) := by decide +kernel
theorem d_Hyper_write_175 : decode cc_Hyper_write 175 = .ok (.iload_n 2, 1) := by decide +kernel
theorem d_Hyper_write_176 : decode cc_Hyper_write 176 = .ok (.ldc 40, 2) := by decide +kernel
theorem d_Hyper_write_178 : decode cc_Hyper_write 178 = .ok (.iand, 1) := by decide +kernel
theorem d_Hyper_write_179 : decode cc_Hyper_write 179 = .ok (.putfield 31, 3) := by decide +kernel
theorem d_Hyper_write_182 : decode cc_Hyper_write 182 = .ok (.goto 3, 3) := by decide +kernel
theorem d_Hyper_write_185 : decode cc_Hyper_write 185 = .ok (.return_, 1) := by decide +kernel
abbrev y_Hyper_replaced : MethodName := ⟨"TrapDesk$Hyper", "replaced", "(III)I"⟩
abbrev cc_Hyper_replaced : ByteArray := prog_4_method_5_code
abbrev ws_Hyper_replaced : List Cond := Cond.code y_Hyper_replaced cc_Hyper_replaced 3 (some .int) :: gtb
theorem d_Hyper_replaced_0 : decode cc_Hyper_replaced 0 = .ok (.iload_n 0, 1) := by decide +kernel
theorem d_Hyper_replaced_1 : decode cc_Hyper_replaced 1 = .ok (.iload_n 1, 1) := by decide +kernel
theorem d_Hyper_replaced_2 : decode cc_Hyper_replaced 2 = .ok (.iconst (-1), 1) := by decide +kernel
theorem d_Hyper_replaced_3 : decode cc_Hyper_replaced 3 = .ok (.ixor, 1) := by decide +kernel
theorem d_Hyper_replaced_4 : decode cc_Hyper_replaced 4 = .ok (.iand, 1) := by decide +kernel
theorem d_Hyper_replaced_5 : decode cc_Hyper_replaced 5 = .ok (.iload_n 2, 1) := by decide +kernel
theorem d_Hyper_replaced_6 : decode cc_Hyper_replaced 6 = .ok (.iload_n 1, 1) := by decide +kernel
theorem d_Hyper_replaced_7 : decode cc_Hyper_replaced 7 = .ok (.iand, 1) := by decide +kernel
theorem d_Hyper_replaced_8 : decode cc_Hyper_replaced 8 = .ok (.ior, 1) := by decide +kernel
theorem d_Hyper_replaced_9 : decode cc_Hyper_replaced 9 = .ok (.ireturn, 1) := by decide +kernel
abbrev y_Hyper_hasStatus : MethodName := ⟨"TrapDesk$Hyper", "hasStatus", "(I)Z"⟩
abbrev cc_Hyper_hasStatus : ByteArray := prog_4_method_6_code
abbrev ws_Hyper_hasStatus : List Cond := Cond.code y_Hyper_hasStatus cc_Hyper_hasStatus 2 (some .boolean) :: gtb
theorem d_Hyper_hasStatus_0 : decode cc_Hyper_hasStatus 0 = .ok (.aload_n 0, 1) := by decide +kernel
theorem d_Hyper_hasStatus_1 : decode cc_Hyper_hasStatus 1 = .ok (.getfield 9, 3) := by decide +kernel
theorem d_Hyper_hasStatus_4 : decode cc_Hyper_hasStatus 4 = .ok (.iload_n 1, 1) := by decide +kernel
theorem d_Hyper_hasStatus_5 : decode cc_Hyper_hasStatus 5 = .ok (.iand, 1) := by decide +kernel
theorem d_Hyper_hasStatus_6 : decode cc_Hyper_hasStatus 6 = .ok (.ifCond .eq 7, 3) := by decide +kernel
theorem d_Hyper_hasStatus_9 : decode cc_Hyper_hasStatus 9 = .ok (.iconst 1, 1) := by decide +kernel
theorem d_Hyper_hasStatus_10 : decode cc_Hyper_hasStatus 10 = .ok (.goto 4, 3) := by decide +kernel
theorem d_Hyper_hasStatus_13 : decode cc_Hyper_hasStatus 13 = .ok (.iconst 0, 1) := by decide +kernel
theorem d_Hyper_hasStatus_14 : decode cc_Hyper_hasStatus 14 = .ok (.ireturn, 1) := by decide +kernel
abbrev y_Hyper_guestIe : MethodName := ⟨"TrapDesk$Hyper", "guestIe", "()I"⟩
abbrev cc_Hyper_guestIe : ByteArray := prog_4_method_7_code
abbrev ws_Hyper_guestIe : List Cond := Cond.code y_Hyper_guestIe cc_Hyper_guestIe 1 (some .int) :: gtb
theorem d_Hyper_guestIe_0 : decode cc_Hyper_guestIe 0 = .ok (.aload_n 0, 1) := by decide +kernel
theorem d_Hyper_guestIe_1 : decode cc_Hyper_guestIe 1 = .ok (.getfield 19, 3) := by decide +kernel
theorem d_Hyper_guestIe_4 : decode cc_Hyper_guestIe 4 = .ok (.aload_n 0, 1) := by decide +kernel
theorem d_Hyper_guestIe_5 : decode cc_Hyper_guestIe 5 = .ok (.getfield 16, 3) := by decide +kernel
theorem d_Hyper_guestIe_8 : decode cc_Hyper_guestIe 8 = .ok (.iand, 1) := by decide +kernel
theorem d_Hyper_guestIe_9 : decode cc_Hyper_guestIe 9 = .ok (.iconst 1, 1) := by decide +kernel
theorem d_Hyper_guestIe_10 : decode cc_Hyper_guestIe 10 = .ok (.iushr, 1) := by decide +kernel
theorem d_Hyper_guestIe_11 : decode cc_Hyper_guestIe 11 = .ok (.ireturn, 1) := by decide +kernel
abbrev y_Hyper_guestIp : MethodName := ⟨"TrapDesk$Hyper", "guestIp", "()I"⟩
abbrev cc_Hyper_guestIp : ByteArray := prog_4_method_8_code
abbrev ws_Hyper_guestIp : List Cond := Cond.code y_Hyper_guestIp cc_Hyper_guestIp 1 (some .int) :: gtb
theorem d_Hyper_guestIp_0 : decode cc_Hyper_guestIp 0 = .ok (.aload_n 0, 1) := by decide +kernel
theorem d_Hyper_guestIp_1 : decode cc_Hyper_guestIp 1 = .ok (.getfield 25, 3) := by decide +kernel
theorem d_Hyper_guestIp_4 : decode cc_Hyper_guestIp 4 = .ok (.aload_n 0, 1) := by decide +kernel
theorem d_Hyper_guestIp_5 : decode cc_Hyper_guestIp 5 = .ok (.getfield 16, 3) := by decide +kernel
theorem d_Hyper_guestIp_8 : decode cc_Hyper_guestIp 8 = .ok (.iand, 1) := by decide +kernel
theorem d_Hyper_guestIp_9 : decode cc_Hyper_guestIp 9 = .ok (.iconst 1, 1) := by decide +kernel
theorem d_Hyper_guestIp_10 : decode cc_Hyper_guestIp 10 = .ok (.iushr, 1) := by decide +kernel
theorem d_Hyper_guestIp_11 : decode cc_Hyper_guestIp 11 = .ok (.ireturn, 1) := by decide +kernel
abbrev y_Hyper_writeGuestIe : MethodName := ⟨"TrapDesk$Hyper", "writeGuestIe", "(I)V"⟩
abbrev cc_Hyper_writeGuestIe : ByteArray := prog_4_method_9_code
abbrev ws_Hyper_writeGuestIe : List Cond := Cond.code y_Hyper_writeGuestIe cc_Hyper_writeGuestIe 2 none :: gtb
theorem d_Hyper_writeGuestIe_0 : decode cc_Hyper_writeGuestIe 0 = .ok (.aload_n 0, 1) := by decide +kernel
theorem d_Hyper_writeGuestIe_1 : decode cc_Hyper_writeGuestIe 1 = .ok (.aload_n 0, 1) := by decide +kernel
theorem d_Hyper_writeGuestIe_2 : decode cc_Hyper_writeGuestIe 2 = .ok (.getfield 19, 3) := by decide +kernel
theorem d_Hyper_writeGuestIe_5 : decode cc_Hyper_writeGuestIe 5 = .ok (.aload_n 0, 1) := by decide +kernel
theorem d_Hyper_writeGuestIe_6 : decode cc_Hyper_writeGuestIe 6 = .ok (.getfield 16, 3) := by decide +kernel
theorem d_Hyper_writeGuestIe_9 : decode cc_Hyper_writeGuestIe 9 = .ok (.iload_n 1, 1) := by decide +kernel
theorem d_Hyper_writeGuestIe_10 : decode cc_Hyper_writeGuestIe 10 = .ok (.iconst 1, 1) := by decide +kernel
theorem d_Hyper_writeGuestIe_11 : decode cc_Hyper_writeGuestIe 11 = .ok (.ishl, 1) := by decide +kernel
theorem d_Hyper_writeGuestIe_12 : decode cc_Hyper_writeGuestIe 12 = .ok (.invokestatic 36, 3) := by decide +kernel
theorem d_Hyper_writeGuestIe_15 : decode cc_Hyper_writeGuestIe 15 = .ok (.putfield 19, 3) := by decide +kernel
theorem d_Hyper_writeGuestIe_18 : decode cc_Hyper_writeGuestIe 18 = .ok (.return_, 1) := by decide +kernel
abbrev y_Hyper_writeGuestIp : MethodName := ⟨"TrapDesk$Hyper", "writeGuestIp", "(I)V"⟩
abbrev cc_Hyper_writeGuestIp : ByteArray := prog_4_method_10_code
abbrev ws_Hyper_writeGuestIp : List Cond := Cond.code y_Hyper_writeGuestIp cc_Hyper_writeGuestIp 2 none :: gtb
theorem d_Hyper_writeGuestIp_0 : decode cc_Hyper_writeGuestIp 0 = .ok (.aload_n 0, 1) := by decide +kernel
theorem d_Hyper_writeGuestIp_1 : decode cc_Hyper_writeGuestIp 1 = .ok (.aload_n 0, 1) := by decide +kernel
theorem d_Hyper_writeGuestIp_2 : decode cc_Hyper_writeGuestIp 2 = .ok (.getfield 25, 3) := by decide +kernel
theorem d_Hyper_writeGuestIp_5 : decode cc_Hyper_writeGuestIp 5 = .ok (.aload_n 0, 1) := by decide +kernel
theorem d_Hyper_writeGuestIp_6 : decode cc_Hyper_writeGuestIp 6 = .ok (.getfield 16, 3) := by decide +kernel
theorem d_Hyper_writeGuestIp_9 : decode cc_Hyper_writeGuestIp 9 = .ok (.iconst 4, 1) := by decide +kernel
theorem d_Hyper_writeGuestIp_10 : decode cc_Hyper_writeGuestIp 10 = .ok (.iand, 1) := by decide +kernel
theorem d_Hyper_writeGuestIp_11 : decode cc_Hyper_writeGuestIp 11 = .ok (.iload_n 1, 1) := by decide +kernel
theorem d_Hyper_writeGuestIp_12 : decode cc_Hyper_writeGuestIp 12 = .ok (.iconst 1, 1) := by decide +kernel
theorem d_Hyper_writeGuestIp_13 : decode cc_Hyper_writeGuestIp 13 = .ok (.ishl, 1) := by decide +kernel
theorem d_Hyper_writeGuestIp_14 : decode cc_Hyper_writeGuestIp 14 = .ok (.invokestatic 36, 3) := by decide +kernel
theorem d_Hyper_writeGuestIp_17 : decode cc_Hyper_writeGuestIp 17 = .ok (.putfield 25, 3) := by decide +kernel
theorem d_Hyper_writeGuestIp_20 : decode cc_Hyper_writeGuestIp 20 = .ok (.return_, 1) := by decide +kernel
abbrev y_Hyper_enter : MethodName := ⟨"TrapDesk$Hyper", "enter", "(ZZZ)V"⟩
abbrev cc_Hyper_enter : ByteArray := prog_4_method_11_code
abbrev ws_Hyper_enter : List Cond := Cond.code y_Hyper_enter cc_Hyper_enter 4 none :: gtb
theorem d_Hyper_enter_0 : decode cc_Hyper_enter 0 = .ok (.aload_n 0, 1) := by decide +kernel
theorem d_Hyper_enter_1 : decode cc_Hyper_enter 1 = .ok (.aload_n 0, 1) := by decide +kernel
theorem d_Hyper_enter_2 : decode cc_Hyper_enter 2 = .ok (.getfield 9, 3) := by decide +kernel
theorem d_Hyper_enter_5 : decode cc_Hyper_enter 5 = .ok (.bipush 64, 2) := by decide +kernel
theorem d_Hyper_enter_7 : decode cc_Hyper_enter 7 = .ok (.iload_n 3, 1) := by decide +kernel
theorem d_Hyper_enter_8 : decode cc_Hyper_enter 8 = .ok (.ifCond .eq 8, 3) := by decide +kernel
theorem d_Hyper_enter_11 : decode cc_Hyper_enter 11 = .ok (.bipush 64, 2) := by decide +kernel
theorem d_Hyper_enter_13 : decode cc_Hyper_enter 13 = .ok (.goto 4, 3) := by decide +kernel
theorem d_Hyper_enter_16 : decode cc_Hyper_enter 16 = .ok (.iconst 0, 1) := by decide +kernel
theorem d_Hyper_enter_17 : decode cc_Hyper_enter 17 = .ok (.invokestatic 36, 3) := by decide +kernel
theorem d_Hyper_enter_20 : decode cc_Hyper_enter 20 = .ok (.putfield 9, 3) := by decide +kernel
theorem d_Hyper_enter_23 : decode cc_Hyper_enter 23 = .ok (.aload_n 0, 1) := by decide +kernel
theorem d_Hyper_enter_24 : decode cc_Hyper_enter 24 = .ok (.aload_n 0, 1) := by decide +kernel
theorem d_Hyper_enter_25 : decode cc_Hyper_enter 25 = .ok (.getfield 9, 3) := by decide +kernel
theorem d_Hyper_enter_28 : decode cc_Hyper_enter 28 = .ok (.sipush 128, 3) := by decide +kernel
theorem d_Hyper_enter_31 : decode cc_Hyper_enter 31 = .ok (.iload_n 1, 1) := by decide +kernel
theorem d_Hyper_enter_32 : decode cc_Hyper_enter 32 = .ok (.ifCond .eq 9, 3) := by decide +kernel
theorem d_Hyper_enter_35 : decode cc_Hyper_enter 35 = .ok (.sipush 128, 3) := by decide +kernel
theorem d_Hyper_enter_38 : decode cc_Hyper_enter 38 = .ok (.goto 4, 3) := by decide +kernel
theorem d_Hyper_enter_41 : decode cc_Hyper_enter 41 = .ok (.iconst 0, 1) := by decide +kernel
theorem d_Hyper_enter_42 : decode cc_Hyper_enter 42 = .ok (.invokestatic 36, 3) := by decide +kernel
theorem d_Hyper_enter_45 : decode cc_Hyper_enter 45 = .ok (.putfield 9, 3) := by decide +kernel
theorem d_Hyper_enter_48 : decode cc_Hyper_enter 48 = .ok (.iload_n 1, 1) := by decide +kernel
theorem d_Hyper_enter_49 : decode cc_Hyper_enter 49 = .ok (.ifCond .eq 28, 3) := by decide +kernel
theorem d_Hyper_enter_52 : decode cc_Hyper_enter 52 = .ok (.aload_n 0, 1) := by decide +kernel
theorem d_Hyper_enter_53 : decode cc_Hyper_enter 53 = .ok (.aload_n 0, 1) := by decide +kernel
theorem d_Hyper_enter_54 : decode cc_Hyper_enter 54 = .ok (.getfield 9, 3) := by decide +kernel
theorem d_Hyper_enter_57 : decode cc_Hyper_enter 57 = .ok (.sipush 256, 3) := by decide +kernel
theorem d_Hyper_enter_60 : decode cc_Hyper_enter 60 = .ok (.iload_n 2, 1) := by decide +kernel
theorem d_Hyper_enter_61 : decode cc_Hyper_enter 61 = .ok (.ifCond .eq 9, 3) := by decide +kernel
theorem d_Hyper_enter_64 : decode cc_Hyper_enter 64 = .ok (.sipush 256, 3) := by decide +kernel
theorem d_Hyper_enter_67 : decode cc_Hyper_enter 67 = .ok (.goto 4, 3) := by decide +kernel
theorem d_Hyper_enter_70 : decode cc_Hyper_enter 70 = .ok (.iconst 0, 1) := by decide +kernel
theorem d_Hyper_enter_71 : decode cc_Hyper_enter 71 = .ok (.invokestatic 36, 3) := by decide +kernel
theorem d_Hyper_enter_74 : decode cc_Hyper_enter 74 = .ok (.putfield 9, 3) := by decide +kernel
theorem d_Hyper_enter_77 : decode cc_Hyper_enter 77 = .ok (.return_, 1) := by decide +kernel
abbrev y_Hyper_leave : MethodName := ⟨"TrapDesk$Hyper", "leave", "()Z"⟩
abbrev cc_Hyper_leave : ByteArray := prog_4_method_12_code
abbrev ws_Hyper_leave : List Cond := Cond.code y_Hyper_leave cc_Hyper_leave 2 (some .boolean) :: gtb
theorem d_Hyper_leave_0 : decode cc_Hyper_leave 0 = .ok (.aload_n 0, 1) := by decide +kernel
theorem d_Hyper_leave_1 : decode cc_Hyper_leave 1 = .ok (.sipush 128, 3) := by decide +kernel
theorem d_Hyper_leave_4 : decode cc_Hyper_leave 4 = .ok (.invokevirtual 41, 3) := by decide +kernel
theorem d_Hyper_leave_7 : decode cc_Hyper_leave 7 = .ok (.istore_n 1, 1) := by decide +kernel
theorem d_Hyper_leave_8 : decode cc_Hyper_leave 8 = .ok (.aload_n 0, 1) := by decide +kernel
theorem d_Hyper_leave_9 : decode cc_Hyper_leave 9 = .ok (.aload_n 0, 1) := by decide +kernel
theorem d_Hyper_leave_10 : decode cc_Hyper_leave 10 = .ok (.getfield 9, 3) := by decide +kernel
theorem d_Hyper_leave_13 : decode cc_Hyper_leave 13 = .ok (.sipush (-129), 3) := by decide +kernel
theorem d_Hyper_leave_16 : decode cc_Hyper_leave 16 = .ok (.iand, 1) := by decide +kernel
theorem d_Hyper_leave_17 : decode cc_Hyper_leave 17 = .ok (.putfield 9, 3) := by decide +kernel
theorem d_Hyper_leave_20 : decode cc_Hyper_leave 20 = .ok (.iload_n 1, 1) := by decide +kernel
theorem d_Hyper_leave_21 : decode cc_Hyper_leave 21 = .ok (.ireturn, 1) := by decide +kernel
abbrev y_Controls_init : MethodName := ⟨"TrapDesk$Controls", "<init>", "()V"⟩
abbrev cc_Controls_init : ByteArray := prog_3_method_1_code
abbrev ws_Controls_init : List Cond := Cond.code y_Controls_init cc_Controls_init 1 none :: gtb
theorem d_Controls_init_0 : decode cc_Controls_init 0 = .ok (.aload_n 0, 1) := by decide +kernel
theorem d_Controls_init_1 : decode cc_Controls_init 1 = .ok (.invokespecial 3, 3) := by decide +kernel
theorem d_Controls_init_4 : decode cc_Controls_init 4 = .ok (.aload_n 0, 1) := by decide +kernel
theorem d_Controls_init_5 : decode cc_Controls_init 5 = .ok (.new 9, 3) := by decide +kernel
theorem d_Controls_init_8 : decode cc_Controls_init 8 = .ok (.dup, 1) := by decide +kernel
theorem d_Controls_init_9 : decode cc_Controls_init 9 = .ok (.invokespecial 11, 3) := by decide +kernel
theorem d_Controls_init_12 : decode cc_Controls_init 12 = .ok (.putfield 12, 3) := by decide +kernel
theorem d_Controls_init_15 : decode cc_Controls_init 15 = .ok (.aload_n 0, 1) := by decide +kernel
theorem d_Controls_init_16 : decode cc_Controls_init 16 = .ok (.new 16, 3) := by decide +kernel
theorem d_Controls_init_19 : decode cc_Controls_init 19 = .ok (.dup, 1) := by decide +kernel
theorem d_Controls_init_20 : decode cc_Controls_init 20 = .ok (.invokespecial 18, 3) := by decide +kernel
theorem d_Controls_init_23 : decode cc_Controls_init 23 = .ok (.putfield 19, 3) := by decide +kernel
theorem d_Controls_init_26 : decode cc_Controls_init 26 = .ok (.aload_n 0, 1) := by decide +kernel
theorem d_Controls_init_27 : decode cc_Controls_init 27 = .ok (.new 16, 3) := by decide +kernel
theorem d_Controls_init_30 : decode cc_Controls_init 30 = .ok (.dup, 1) := by decide +kernel
theorem d_Controls_init_31 : decode cc_Controls_init 31 = .ok (.invokespecial 18, 3) := by decide +kernel
theorem d_Controls_init_34 : decode cc_Controls_init 34 = .ok (.putfield 23, 3) := by decide +kernel
theorem d_Controls_init_37 : decode cc_Controls_init 37 = .ok (.aload_n 0, 1) := by decide +kernel
theorem d_Controls_init_38 : decode cc_Controls_init 38 = .ok (.new 26, 3) := by decide +kernel
theorem d_Controls_init_41 : decode cc_Controls_init 41 = .ok (.dup, 1) := by decide +kernel
theorem d_Controls_init_42 : decode cc_Controls_init 42 = .ok (.invokespecial 28, 3) := by decide +kernel
theorem d_Controls_init_45 : decode cc_Controls_init 45 = .ok (.putfield 29, 3) := by decide +kernel
theorem d_Controls_init_48 : decode cc_Controls_init 48 = .ok (.return_, 1) := by decide +kernel
abbrev y_Controls_reset : MethodName := ⟨"TrapDesk$Controls", "reset", "()V"⟩
abbrev cc_Controls_reset : ByteArray := prog_3_method_2_code
abbrev ws_Controls_reset : List Cond := Cond.code y_Controls_reset cc_Controls_reset 1 none :: gtb
theorem d_Controls_reset_0 : decode cc_Controls_reset 0 = .ok (.aload_n 0, 1) := by decide +kernel
theorem d_Controls_reset_1 : decode cc_Controls_reset 1 = .ok (.getfield 12, 3) := by decide +kernel
theorem d_Controls_reset_4 : decode cc_Controls_reset 4 = .ok (.invokevirtual 33, 3) := by decide +kernel
theorem d_Controls_reset_7 : decode cc_Controls_reset 7 = .ok (.aload_n 0, 1) := by decide +kernel
theorem d_Controls_reset_8 : decode cc_Controls_reset 8 = .ok (.getfield 19, 3) := by decide +kernel
theorem d_Controls_reset_11 : decode cc_Controls_reset 11 = .ok (.invokevirtual 36, 3) := by decide +kernel
theorem d_Controls_reset_14 : decode cc_Controls_reset 14 = .ok (.aload_n 0, 1) := by decide +kernel
theorem d_Controls_reset_15 : decode cc_Controls_reset 15 = .ok (.getfield 23, 3) := by decide +kernel
theorem d_Controls_reset_18 : decode cc_Controls_reset 18 = .ok (.invokevirtual 36, 3) := by decide +kernel
theorem d_Controls_reset_21 : decode cc_Controls_reset 21 = .ok (.aload_n 0, 1) := by decide +kernel
theorem d_Controls_reset_22 : decode cc_Controls_reset 22 = .ok (.getfield 29, 3) := by decide +kernel
theorem d_Controls_reset_25 : decode cc_Controls_reset 25 = .ok (.invokevirtual 37, 3) := by decide +kernel
theorem d_Controls_reset_28 : decode cc_Controls_reset 28 = .ok (.aload_n 0, 1) := by decide +kernel
theorem d_Controls_reset_29 : decode cc_Controls_reset 29 = .ok (.iconst 0, 1) := by decide +kernel
theorem d_Controls_reset_30 : decode cc_Controls_reset 30 = .ok (.putfield 38, 3) := by decide +kernel
theorem d_Controls_reset_33 : decode cc_Controls_reset 33 = .ok (.aload_n 0, 1) := by decide +kernel
theorem d_Controls_reset_34 : decode cc_Controls_reset 34 = .ok (.iconst 0, 1) := by decide +kernel
theorem d_Controls_reset_35 : decode cc_Controls_reset 35 = .ok (.putfield 42, 3) := by decide +kernel
theorem d_Controls_reset_38 : decode cc_Controls_reset 38 = .ok (.return_, 1) := by decide +kernel
abbrev y_Controls_read : MethodName := ⟨"TrapDesk$Controls", "read", "(I)I"⟩
abbrev cc_Controls_read : ByteArray := prog_3_method_3_code
abbrev ws_Controls_read : List Cond := Cond.code y_Controls_read cc_Controls_read 2 (some .int) :: gtb
theorem d_Controls_read_0 : decode cc_Controls_read 0 = .ok (.iload_n 1, 1) := by decide +kernel
theorem d_Controls_read_1 : decode cc_Controls_read 1 = .ok (.invokestatic 45, 3) := by decide +kernel
theorem d_Controls_read_4 : decode cc_Controls_read 4 = .ok (.ifCond .eq 12, 3) := by decide +kernel
theorem d_Controls_read_7 : decode cc_Controls_read 7 = .ok (.aload_n 0, 1) := by decide +kernel
theorem d_Controls_read_8 : decode cc_Controls_read 8 = .ok (.iload_n 1, 1) := by decide +kernel
theorem d_Controls_read_9 : decode cc_Controls_read 9 = .ok (.invokestatic 51, 3) := by decide +kernel
theorem d_Controls_read_12 : decode cc_Controls_read 12 = .ok (.invokevirtual 55, 3) := by decide +kernel
theorem d_Controls_read_15 : decode cc_Controls_read 15 = .ok (.ireturn, 1) := by decide +kernel
theorem d_Controls_read_16 : decode cc_Controls_read 16 = .ok (.iload_n 1, 1) := by decide +kernel
theorem d_Controls_read_17 : decode cc_Controls_read 17 = .ok (.invokestatic 58, 3) := by decide +kernel
theorem d_Controls_read_20 : decode cc_Controls_read 20 = .ok (.ifCond .eq 12, 3) := by decide +kernel
theorem d_Controls_read_23 : decode cc_Controls_read 23 = .ok (.aload_n 0, 1) := by decide +kernel
theorem d_Controls_read_24 : decode cc_Controls_read 24 = .ok (.iload_n 1, 1) := by decide +kernel
theorem d_Controls_read_25 : decode cc_Controls_read 25 = .ok (.invokestatic 51, 3) := by decide +kernel
theorem d_Controls_read_28 : decode cc_Controls_read 28 = .ok (.invokevirtual 61, 3) := by decide +kernel
theorem d_Controls_read_31 : decode cc_Controls_read 31 = .ok (.ireturn, 1) := by decide +kernel
theorem d_Controls_read_32 : decode cc_Controls_read 32 = .ok (.iload_n 1, 1) := by decide +kernel
theorem d_Controls_read_33 : decode cc_Controls_read 33 = .ok (.lookupswitch 48 #[(3073, 27), (3201, 36)], 27) := by decide +kernel
theorem d_Controls_read_60 : decode cc_Controls_read 60 = .ok (.aload_n 0, 1) := by decide +kernel
theorem d_Controls_read_61 : decode cc_Controls_read 61 = .ok (.getfield 12, 3) := by decide +kernel
theorem d_Controls_read_64 : decode cc_Controls_read 64 = .ok (.getfield 64, 3) := by decide +kernel
theorem d_Controls_read_67 : decode cc_Controls_read 67 = .ok (.l2i, 1) := by decide +kernel
theorem d_Controls_read_68 : decode cc_Controls_read 68 = .ok (.ireturn, 1) := by decide +kernel
theorem d_Controls_read_69 : decode cc_Controls_read 69 = .ok (.aload_n 0, 1) := by decide +kernel
theorem d_Controls_read_70 : decode cc_Controls_read 70 = .ok (.getfield 12, 3) := by decide +kernel
theorem d_Controls_read_73 : decode cc_Controls_read 73 = .ok (.getfield 64, 3) := by decide +kernel
theorem d_Controls_read_76 : decode cc_Controls_read 76 = .ok (.bipush 32, 2) := by decide +kernel
theorem d_Controls_read_78 : decode cc_Controls_read 78 = .ok (.lushr, 1) := by decide +kernel
theorem d_Controls_read_79 : decode cc_Controls_read 79 = .ok (.l2i, 1) := by decide +kernel
theorem d_Controls_read_80 : decode cc_Controls_read 80 = .ok (.ireturn, 1) := by decide +kernel
theorem d_Controls_read_81 : decode cc_Controls_read 81 = .ok (.aload_n 0, 1) := by decide +kernel
theorem d_Controls_read_82 : decode cc_Controls_read 82 = .ok (.getfield 29, 3) := by decide +kernel
theorem d_Controls_read_85 : decode cc_Controls_read 85 = .ok (.iload_n 1, 1) := by decide +kernel
theorem d_Controls_read_86 : decode cc_Controls_read 86 = .ok (.invokevirtual 68, 3) := by decide +kernel
theorem d_Controls_read_89 : decode cc_Controls_read 89 = .ok (.ireturn, 1) := by decide +kernel
abbrev y_Controls_readHost : MethodName := ⟨"TrapDesk$Controls", "readHost", "(I)I"⟩
abbrev cc_Controls_readHost : ByteArray := prog_3_method_4_code
abbrev ws_Controls_readHost : List Cond := Cond.code y_Controls_readHost cc_Controls_readHost 2 (some .int) :: gtb
theorem d_Controls_readHost_0 : decode cc_Controls_readHost 0 = .ok (.iload_n 1, 1) := by decide +kernel
theorem d_Controls_readHost_1 : decode cc_Controls_readHost 1 = .ok (.lookupswitch 37 #[(4, 27), (68, 32)], 27) := by decide +kernel
theorem d_Controls_readHost_28 : decode cc_Controls_readHost 28 = .ok (.aload_n 0, 1) := by decide +kernel
theorem d_Controls_readHost_29 : decode cc_Controls_readHost 29 = .ok (.getfield 38, 3) := by decide +kernel
theorem d_Controls_readHost_32 : decode cc_Controls_readHost 32 = .ok (.ireturn, 1) := by decide +kernel
theorem d_Controls_readHost_33 : decode cc_Controls_readHost 33 = .ok (.aload_n 0, 1) := by decide +kernel
theorem d_Controls_readHost_34 : decode cc_Controls_readHost 34 = .ok (.invokevirtual 71, 3) := by decide +kernel
theorem d_Controls_readHost_37 : decode cc_Controls_readHost 37 = .ok (.ireturn, 1) := by decide +kernel
theorem d_Controls_readHost_38 : decode cc_Controls_readHost 38 = .ok (.aload_n 0, 1) := by decide +kernel
theorem d_Controls_readHost_39 : decode cc_Controls_readHost 39 = .ok (.getfield 19, 3) := by decide +kernel
theorem d_Controls_readHost_42 : decode cc_Controls_readHost 42 = .ok (.iload_n 1, 1) := by decide +kernel
theorem d_Controls_readHost_43 : decode cc_Controls_readHost 43 = .ok (.invokevirtual 75, 3) := by decide +kernel
theorem d_Controls_readHost_46 : decode cc_Controls_readHost 46 = .ok (.ireturn, 1) := by decide +kernel
abbrev y_Controls_readGuest : MethodName := ⟨"TrapDesk$Controls", "readGuest", "(I)I"⟩
abbrev cc_Controls_readGuest : ByteArray := prog_3_method_5_code
abbrev ws_Controls_readGuest : List Cond := Cond.code y_Controls_readGuest cc_Controls_readGuest 2 (some .int) :: gtb
theorem d_Controls_readGuest_0 : decode cc_Controls_readGuest 0 = .ok (.iload_n 1, 1) := by decide +kernel
theorem d_Controls_readGuest_1 : decode cc_Controls_readGuest 1 = .ok (.lookupswitch 43 #[(4, 27), (68, 35)], 27) := by decide +kernel
theorem d_Controls_readGuest_28 : decode cc_Controls_readGuest 28 = .ok (.aload_n 0, 1) := by decide +kernel
theorem d_Controls_readGuest_29 : decode cc_Controls_readGuest 29 = .ok (.getfield 29, 3) := by decide +kernel
theorem d_Controls_readGuest_32 : decode cc_Controls_readGuest 32 = .ok (.invokevirtual 76, 3) := by decide +kernel
theorem d_Controls_readGuest_35 : decode cc_Controls_readGuest 35 = .ok (.ireturn, 1) := by decide +kernel
theorem d_Controls_readGuest_36 : decode cc_Controls_readGuest 36 = .ok (.aload_n 0, 1) := by decide +kernel
theorem d_Controls_readGuest_37 : decode cc_Controls_readGuest 37 = .ok (.getfield 29, 3) := by decide +kernel
theorem d_Controls_readGuest_40 : decode cc_Controls_readGuest 40 = .ok (.invokevirtual 79, 3) := by decide +kernel
theorem d_Controls_readGuest_43 : decode cc_Controls_readGuest 43 = .ok (.ireturn, 1) := by decide +kernel
theorem d_Controls_readGuest_44 : decode cc_Controls_readGuest 44 = .ok (.aload_n 0, 1) := by decide +kernel
theorem d_Controls_readGuest_45 : decode cc_Controls_readGuest 45 = .ok (.getfield 23, 3) := by decide +kernel
theorem d_Controls_readGuest_48 : decode cc_Controls_readGuest 48 = .ok (.iload_n 1, 1) := by decide +kernel
theorem d_Controls_readGuest_49 : decode cc_Controls_readGuest 49 = .ok (.invokevirtual 75, 3) := by decide +kernel
theorem d_Controls_readGuest_52 : decode cc_Controls_readGuest 52 = .ok (.ireturn, 1) := by decide +kernel
abbrev y_Controls_write : MethodName := ⟨"TrapDesk$Controls", "write", "(II)V"⟩
abbrev cc_Controls_write : ByteArray := prog_3_method_6_code
abbrev ws_Controls_write : List Cond := Cond.code y_Controls_write cc_Controls_write 3 none :: gtb
theorem d_Controls_write_0 : decode cc_Controls_write 0 = .ok (.iload_n 1, 1) := by decide +kernel
theorem d_Controls_write_1 : decode cc_Controls_write 1 = .ok (.invokestatic 45, 3) := by decide +kernel
theorem d_Controls_write_4 : decode cc_Controls_write 4 = .ok (.ifCond .eq 15, 3) := by decide +kernel
theorem d_Controls_write_7 : decode cc_Controls_write 7 = .ok (.aload_n 0, 1) := by decide +kernel
theorem d_Controls_write_8 : decode cc_Controls_write 8 = .ok (.iload_n 1, 1) := by decide +kernel
theorem d_Controls_write_9 : decode cc_Controls_write 9 = .ok (.invokestatic 51, 3) := by decide +kernel
theorem d_Controls_write_12 : decode cc_Controls_write 12 = .ok (.iload_n 2, 1) := by decide +kernel
theorem d_Controls_write_13 : decode cc_Controls_write 13 = .ok (.invokevirtual 82, 3) := by decide +kernel
theorem d_Controls_write_16 : decode cc_Controls_write 16 = .ok (.goto 31, 3) := by decide +kernel
theorem d_Controls_write_19 : decode cc_Controls_write 19 = .ok (.iload_n 1, 1) := by decide +kernel
theorem d_Controls_write_20 : decode cc_Controls_write 20 = .ok (.invokestatic 58, 3) := by decide +kernel
theorem d_Controls_write_23 : decode cc_Controls_write 23 = .ok (.ifCond .eq 15, 3) := by decide +kernel
theorem d_Controls_write_26 : decode cc_Controls_write 26 = .ok (.aload_n 0, 1) := by decide +kernel
theorem d_Controls_write_27 : decode cc_Controls_write 27 = .ok (.iload_n 1, 1) := by decide +kernel
theorem d_Controls_write_28 : decode cc_Controls_write 28 = .ok (.invokestatic 51, 3) := by decide +kernel
theorem d_Controls_write_31 : decode cc_Controls_write 31 = .ok (.iload_n 2, 1) := by decide +kernel
theorem d_Controls_write_32 : decode cc_Controls_write 32 = .ok (.invokevirtual 86, 3) := by decide +kernel
theorem d_Controls_write_35 : decode cc_Controls_write 35 = .ok (.goto 12, 3) := by decide +kernel
theorem d_Controls_write_38 : decode cc_Controls_write 38 = .ok (.aload_n 0, 1) := by decide +kernel
theorem d_Controls_write_39 : decode cc_Controls_write 39 = .ok (.getfield 29, 3) := by decide +kernel
theorem d_Controls_write_42 : decode cc_Controls_write 42 = .ok (.iload_n 1, 1) := by decide +kernel
theorem d_Controls_write_43 : decode cc_Controls_write 43 = .ok (.iload_n 2, 1) := by decide +kernel
theorem d_Controls_write_44 : decode cc_Controls_write 44 = .ok (.invokevirtual 89, 3) := by decide +kernel
theorem d_Controls_write_47 : decode cc_Controls_write 47 = .ok (.return_, 1) := by decide +kernel
abbrev y_Controls_writeHost : MethodName := ⟨"TrapDesk$Controls", "writeHost", "(II)V"⟩
abbrev cc_Controls_writeHost : ByteArray := prog_3_method_7_code
abbrev ws_Controls_writeHost : List Cond := Cond.code y_Controls_writeHost cc_Controls_writeHost 3 none :: gtb
theorem d_Controls_writeHost_0 : decode cc_Controls_writeHost 0 = .ok (.iload_n 1, 1) := by decide +kernel
theorem d_Controls_writeHost_1 : decode cc_Controls_writeHost 1 = .ok (.lookupswitch 49 #[(4, 27), (68, 39)], 27) := by decide +kernel
theorem d_Controls_writeHost_28 : decode cc_Controls_writeHost 28 = .ok (.aload_n 0, 1) := by decide +kernel
theorem d_Controls_writeHost_29 : decode cc_Controls_writeHost 29 = .ok (.iload_n 2, 1) := by decide +kernel
theorem d_Controls_writeHost_30 : decode cc_Controls_writeHost 30 = .ok (.sipush 546, 3) := by decide +kernel
theorem d_Controls_writeHost_33 : decode cc_Controls_writeHost 33 = .ok (.iand, 1) := by decide +kernel
theorem d_Controls_writeHost_34 : decode cc_Controls_writeHost 34 = .ok (.putfield 38, 3) := by decide +kernel
theorem d_Controls_writeHost_37 : decode cc_Controls_writeHost 37 = .ok (.goto 22, 3) := by decide +kernel
theorem d_Controls_writeHost_40 : decode cc_Controls_writeHost 40 = .ok (.aload_n 0, 1) := by decide +kernel
theorem d_Controls_writeHost_41 : decode cc_Controls_writeHost 41 = .ok (.iload_n 2, 1) := by decide +kernel
theorem d_Controls_writeHost_42 : decode cc_Controls_writeHost 42 = .ok (.iconst 2, 1) := by decide +kernel
theorem d_Controls_writeHost_43 : decode cc_Controls_writeHost 43 = .ok (.iand, 1) := by decide +kernel
theorem d_Controls_writeHost_44 : decode cc_Controls_writeHost 44 = .ok (.putfield 42, 3) := by decide +kernel
theorem d_Controls_writeHost_47 : decode cc_Controls_writeHost 47 = .ok (.goto 12, 3) := by decide +kernel
theorem d_Controls_writeHost_50 : decode cc_Controls_writeHost 50 = .ok (.aload_n 0, 1) := by decide +kernel
theorem d_Controls_writeHost_51 : decode cc_Controls_writeHost 51 = .ok (.getfield 19, 3) := by decide +kernel
theorem d_Controls_writeHost_54 : decode cc_Controls_writeHost 54 = .ok (.iload_n 1, 1) := by decide +kernel
theorem d_Controls_writeHost_55 : decode cc_Controls_writeHost 55 = .ok (.iload_n 2, 1) := by decide +kernel
theorem d_Controls_writeHost_56 : decode cc_Controls_writeHost 56 = .ok (.invokevirtual 92, 3) := by decide +kernel
theorem d_Controls_writeHost_59 : decode cc_Controls_writeHost 59 = .ok (.return_, 1) := by decide +kernel
abbrev y_Controls_writeGuest : MethodName := ⟨"TrapDesk$Controls", "writeGuest", "(II)V"⟩
abbrev cc_Controls_writeGuest : ByteArray := prog_3_method_8_code
abbrev ws_Controls_writeGuest : List Cond := Cond.code y_Controls_writeGuest cc_Controls_writeGuest 3 none :: gtb
theorem d_Controls_writeGuest_0 : decode cc_Controls_writeGuest 0 = .ok (.iload_n 1, 1) := by decide +kernel
theorem d_Controls_writeGuest_1 : decode cc_Controls_writeGuest 1 = .ok (.lookupswitch 49 #[(4, 27), (68, 38)], 27) := by decide +kernel
theorem d_Controls_writeGuest_28 : decode cc_Controls_writeGuest 28 = .ok (.aload_n 0, 1) := by decide +kernel
theorem d_Controls_writeGuest_29 : decode cc_Controls_writeGuest 29 = .ok (.getfield 29, 3) := by decide +kernel
theorem d_Controls_writeGuest_32 : decode cc_Controls_writeGuest 32 = .ok (.iload_n 2, 1) := by decide +kernel
theorem d_Controls_writeGuest_33 : decode cc_Controls_writeGuest 33 = .ok (.invokevirtual 93, 3) := by decide +kernel
theorem d_Controls_writeGuest_36 : decode cc_Controls_writeGuest 36 = .ok (.goto 23, 3) := by decide +kernel
theorem d_Controls_writeGuest_39 : decode cc_Controls_writeGuest 39 = .ok (.aload_n 0, 1) := by decide +kernel
theorem d_Controls_writeGuest_40 : decode cc_Controls_writeGuest 40 = .ok (.getfield 29, 3) := by decide +kernel
theorem d_Controls_writeGuest_43 : decode cc_Controls_writeGuest 43 = .ok (.iload_n 2, 1) := by decide +kernel
theorem d_Controls_writeGuest_44 : decode cc_Controls_writeGuest 44 = .ok (.invokevirtual 97, 3) := by decide +kernel
theorem d_Controls_writeGuest_47 : decode cc_Controls_writeGuest 47 = .ok (.goto 12, 3) := by decide +kernel
theorem d_Controls_writeGuest_50 : decode cc_Controls_writeGuest 50 = .ok (.aload_n 0, 1) := by decide +kernel
theorem d_Controls_writeGuest_51 : decode cc_Controls_writeGuest 51 = .ok (.getfield 23, 3) := by decide +kernel
theorem d_Controls_writeGuest_54 : decode cc_Controls_writeGuest 54 = .ok (.iload_n 1, 1) := by decide +kernel
theorem d_Controls_writeGuest_55 : decode cc_Controls_writeGuest 55 = .ok (.iload_n 2, 1) := by decide +kernel
theorem d_Controls_writeGuest_56 : decode cc_Controls_writeGuest 56 = .ok (.invokevirtual 92, 3) := by decide +kernel
theorem d_Controls_writeGuest_59 : decode cc_Controls_writeGuest 59 = .ok (.return_, 1) := by decide +kernel
abbrev y_Controls_hostIp : MethodName := ⟨"TrapDesk$Controls", "hostIp", "()I"⟩
abbrev cc_Controls_hostIp : ByteArray := prog_3_method_9_code
abbrev ws_Controls_hostIp : List Cond := Cond.code y_Controls_hostIp cc_Controls_hostIp 3 (some .int) :: gtb
theorem d_Controls_hostIp_0 : decode cc_Controls_hostIp 0 = .ok (.aload_n 0, 1) := by decide +kernel
theorem d_Controls_hostIp_1 : decode cc_Controls_hostIp 1 = .ok (.getfield 12, 3) := by decide +kernel
theorem d_Controls_hostIp_4 : decode cc_Controls_hostIp 4 = .ok (.invokevirtual 100, 3) := by decide +kernel
theorem d_Controls_hostIp_7 : decode cc_Controls_hostIp 7 = .ok (.ifCond .eq 8, 3) := by decide +kernel
theorem d_Controls_hostIp_10 : decode cc_Controls_hostIp 10 = .ok (.bipush 32, 2) := by decide +kernel
theorem d_Controls_hostIp_12 : decode cc_Controls_hostIp 12 = .ok (.goto 4, 3) := by decide +kernel
theorem d_Controls_hostIp_15 : decode cc_Controls_hostIp 15 = .ok (.iconst 0, 1) := by decide +kernel
theorem d_Controls_hostIp_16 : decode cc_Controls_hostIp 16 = .ok (.istore_n 1, 1) := by decide +kernel
theorem d_Controls_hostIp_17 : decode cc_Controls_hostIp 17 = .ok (.aload_n 0, 1) := by decide +kernel
theorem d_Controls_hostIp_18 : decode cc_Controls_hostIp 18 = .ok (.getfield 12, 3) := by decide +kernel
theorem d_Controls_hostIp_21 : decode cc_Controls_hostIp 21 = .ok (.getfield 104, 3) := by decide +kernel
theorem d_Controls_hostIp_24 : decode cc_Controls_hostIp 24 = .ok (.ifCond .eq 9, 3) := by decide +kernel
theorem d_Controls_hostIp_27 : decode cc_Controls_hostIp 27 = .ok (.sipush 512, 3) := by decide +kernel
theorem d_Controls_hostIp_30 : decode cc_Controls_hostIp 30 = .ok (.goto 4, 3) := by decide +kernel
theorem d_Controls_hostIp_33 : decode cc_Controls_hostIp 33 = .ok (.iconst 0, 1) := by decide +kernel
theorem d_Controls_hostIp_34 : decode cc_Controls_hostIp 34 = .ok (.istore_n 2, 1) := by decide +kernel
theorem d_Controls_hostIp_35 : decode cc_Controls_hostIp 35 = .ok (.aload_n 0, 1) := by decide +kernel
theorem d_Controls_hostIp_36 : decode cc_Controls_hostIp 36 = .ok (.getfield 42, 3) := by decide +kernel
theorem d_Controls_hostIp_39 : decode cc_Controls_hostIp 39 = .ok (.iload_n 1, 1) := by decide +kernel
theorem d_Controls_hostIp_40 : decode cc_Controls_hostIp 40 = .ok (.ior, 1) := by decide +kernel
theorem d_Controls_hostIp_41 : decode cc_Controls_hostIp 41 = .ok (.iload_n 2, 1) := by decide +kernel
theorem d_Controls_hostIp_42 : decode cc_Controls_hostIp 42 = .ok (.ior, 1) := by decide +kernel
theorem d_Controls_hostIp_43 : decode cc_Controls_hostIp 43 = .ok (.ireturn, 1) := by decide +kernel
abbrev y_Controls_waitingForS : MethodName := ⟨"TrapDesk$Controls", "waitingForS", "()I"⟩
abbrev cc_Controls_waitingForS : ByteArray := prog_3_method_10_code
abbrev ws_Controls_waitingForS : List Cond := Cond.code y_Controls_waitingForS cc_Controls_waitingForS 1 (some .int) :: gtb
theorem d_Controls_waitingForS_0 : decode cc_Controls_waitingForS 0 = .ok (.aload_n 0, 1) := by decide +kernel
theorem d_Controls_waitingForS_1 : decode cc_Controls_waitingForS 1 = .ok (.invokevirtual 71, 3) := by decide +kernel
theorem d_Controls_waitingForS_4 : decode cc_Controls_waitingForS 4 = .ok (.aload_n 0, 1) := by decide +kernel
theorem d_Controls_waitingForS_5 : decode cc_Controls_waitingForS 5 = .ok (.getfield 38, 3) := by decide +kernel
theorem d_Controls_waitingForS_8 : decode cc_Controls_waitingForS 8 = .ok (.iand, 1) := by decide +kernel
theorem d_Controls_waitingForS_9 : decode cc_Controls_waitingForS 9 = .ok (.aload_n 0, 1) := by decide +kernel
theorem d_Controls_waitingForS_10 : decode cc_Controls_waitingForS 10 = .ok (.getfield 29, 3) := by decide +kernel
theorem d_Controls_waitingForS_13 : decode cc_Controls_waitingForS 13 = .ok (.getfield 108, 3) := by decide +kernel
theorem d_Controls_waitingForS_16 : decode cc_Controls_waitingForS 16 = .ok (.aload_n 0, 1) := by decide +kernel
theorem d_Controls_waitingForS_17 : decode cc_Controls_waitingForS 17 = .ok (.getfield 29, 3) := by decide +kernel
theorem d_Controls_waitingForS_20 : decode cc_Controls_waitingForS 20 = .ok (.getfield 111, 3) := by decide +kernel
theorem d_Controls_waitingForS_23 : decode cc_Controls_waitingForS 23 = .ok (.iand, 1) := by decide +kernel
theorem d_Controls_waitingForS_24 : decode cc_Controls_waitingForS 24 = .ok (.aload_n 0, 1) := by decide +kernel
theorem d_Controls_waitingForS_25 : decode cc_Controls_waitingForS 25 = .ok (.getfield 29, 3) := by decide +kernel
theorem d_Controls_waitingForS_28 : decode cc_Controls_waitingForS 28 = .ok (.getfield 114, 3) := by decide +kernel
theorem d_Controls_waitingForS_31 : decode cc_Controls_waitingForS 31 = .ok (.iconst (-1), 1) := by decide +kernel
theorem d_Controls_waitingForS_32 : decode cc_Controls_waitingForS 32 = .ok (.ixor, 1) := by decide +kernel
theorem d_Controls_waitingForS_33 : decode cc_Controls_waitingForS 33 = .ok (.iand, 1) := by decide +kernel
theorem d_Controls_waitingForS_34 : decode cc_Controls_waitingForS 34 = .ok (.ior, 1) := by decide +kernel
theorem d_Controls_waitingForS_35 : decode cc_Controls_waitingForS 35 = .ok (.ireturn, 1) := by decide +kernel
abbrev y_Controls_waitingForVs : MethodName := ⟨"TrapDesk$Controls", "waitingForVs", "()I"⟩
abbrev cc_Controls_waitingForVs : ByteArray := prog_3_method_11_code
abbrev ws_Controls_waitingForVs : List Cond := Cond.code y_Controls_waitingForVs cc_Controls_waitingForVs 1 (some .int) :: gtb
theorem d_Controls_waitingForVs_0 : decode cc_Controls_waitingForVs 0 = .ok (.aload_n 0, 1) := by decide +kernel
theorem d_Controls_waitingForVs_1 : decode cc_Controls_waitingForVs 1 = .ok (.getfield 29, 3) := by decide +kernel
theorem d_Controls_waitingForVs_4 : decode cc_Controls_waitingForVs 4 = .ok (.getfield 108, 3) := by decide +kernel
theorem d_Controls_waitingForVs_7 : decode cc_Controls_waitingForVs 7 = .ok (.aload_n 0, 1) := by decide +kernel
theorem d_Controls_waitingForVs_8 : decode cc_Controls_waitingForVs 8 = .ok (.getfield 29, 3) := by decide +kernel
theorem d_Controls_waitingForVs_11 : decode cc_Controls_waitingForVs 11 = .ok (.getfield 111, 3) := by decide +kernel
theorem d_Controls_waitingForVs_14 : decode cc_Controls_waitingForVs 14 = .ok (.iand, 1) := by decide +kernel
theorem d_Controls_waitingForVs_15 : decode cc_Controls_waitingForVs 15 = .ok (.aload_n 0, 1) := by decide +kernel
theorem d_Controls_waitingForVs_16 : decode cc_Controls_waitingForVs 16 = .ok (.getfield 29, 3) := by decide +kernel
theorem d_Controls_waitingForVs_19 : decode cc_Controls_waitingForVs 19 = .ok (.getfield 114, 3) := by decide +kernel
theorem d_Controls_waitingForVs_22 : decode cc_Controls_waitingForVs 22 = .ok (.iand, 1) := by decide +kernel
theorem d_Controls_waitingForVs_23 : decode cc_Controls_waitingForVs 23 = .ok (.ireturn, 1) := by decide +kernel
abbrev y_Numbers_isKnown : MethodName := ⟨"TrapDesk$Numbers", "isKnown", "(I)Z"⟩
abbrev cc_Numbers_isKnown : ByteArray := prog_5_method_2_code
abbrev ws_Numbers_isKnown : List Cond := Cond.code y_Numbers_isKnown cc_Numbers_isKnown 1 (some .boolean) :: gtb
theorem d_Numbers_isKnown_0 : decode cc_Numbers_isKnown 0 = .ok (.iload_n 0, 1) := by decide +kernel
theorem d_Numbers_isKnown_1 : decode cc_Numbers_isKnown 1 = .ok (.invokestatic 9, 3) := by decide +kernel
theorem d_Numbers_isKnown_4 : decode cc_Numbers_isKnown 4 = .ok (.ifCond .ne 24, 3) := by decide +kernel
theorem d_Numbers_isKnown_7 : decode cc_Numbers_isKnown 7 = .ok (.iload_n 0, 1) := by decide +kernel
theorem d_Numbers_isKnown_8 : decode cc_Numbers_isKnown 8 = .ok (.invokestatic 13, 3) := by decide +kernel
theorem d_Numbers_isKnown_11 : decode cc_Numbers_isKnown 11 = .ok (.ifCond .ne 17, 3) := by decide +kernel
theorem d_Numbers_isKnown_14 : decode cc_Numbers_isKnown 14 = .ok (.iload_n 0, 1) := by decide +kernel
theorem d_Numbers_isKnown_15 : decode cc_Numbers_isKnown 15 = .ok (.invokestatic 16, 3) := by decide +kernel
theorem d_Numbers_isKnown_18 : decode cc_Numbers_isKnown 18 = .ok (.ifCond .ne 10, 3) := by decide +kernel
theorem d_Numbers_isKnown_21 : decode cc_Numbers_isKnown 21 = .ok (.iload_n 0, 1) := by decide +kernel
theorem d_Numbers_isKnown_22 : decode cc_Numbers_isKnown 22 = .ok (.invokestatic 19, 3) := by decide +kernel
theorem d_Numbers_isKnown_25 : decode cc_Numbers_isKnown 25 = .ok (.ifCond .eq 7, 3) := by decide +kernel
theorem d_Numbers_isKnown_28 : decode cc_Numbers_isKnown 28 = .ok (.iconst 1, 1) := by decide +kernel
theorem d_Numbers_isKnown_29 : decode cc_Numbers_isKnown 29 = .ok (.goto 4, 3) := by decide +kernel
theorem d_Numbers_isKnown_32 : decode cc_Numbers_isKnown 32 = .ok (.iconst 0, 1) := by decide +kernel
theorem d_Numbers_isKnown_33 : decode cc_Numbers_isKnown 33 = .ok (.ireturn, 1) := by decide +kernel
abbrev y_Numbers_isOfS : MethodName := ⟨"TrapDesk$Numbers", "isOfS", "(I)Z"⟩
abbrev cc_Numbers_isOfS : ByteArray := prog_5_method_3_code
abbrev ws_Numbers_isOfS : List Cond := Cond.code y_Numbers_isOfS cc_Numbers_isOfS 1 (some .boolean) :: gtb
theorem d_Numbers_isOfS_0 : decode cc_Numbers_isOfS 0 = .ok (.sipush 256, 3) := by decide +kernel
theorem d_Numbers_isOfS_3 : decode cc_Numbers_isOfS 3 = .ok (.iload_n 0, 1) := by decide +kernel
theorem d_Numbers_isOfS_4 : decode cc_Numbers_isOfS 4 = .ok (.invokestatic 22, 3) := by decide +kernel
theorem d_Numbers_isOfS_7 : decode cc_Numbers_isOfS 7 = .ok (.ireturn, 1) := by decide +kernel
abbrev y_Numbers_isOfVs : MethodName := ⟨"TrapDesk$Numbers", "isOfVs", "(I)Z"⟩
abbrev cc_Numbers_isOfVs : ByteArray := prog_5_method_4_code
abbrev ws_Numbers_isOfVs : List Cond := Cond.code y_Numbers_isOfVs cc_Numbers_isOfVs 1 (some .boolean) :: gtb
theorem d_Numbers_isOfVs_0 : decode cc_Numbers_isOfVs 0 = .ok (.sipush 512, 3) := by decide +kernel
theorem d_Numbers_isOfVs_3 : decode cc_Numbers_isOfVs 3 = .ok (.iload_n 0, 1) := by decide +kernel
theorem d_Numbers_isOfVs_4 : decode cc_Numbers_isOfVs 4 = .ok (.invokestatic 22, 3) := by decide +kernel
theorem d_Numbers_isOfVs_7 : decode cc_Numbers_isOfVs 7 = .ok (.ireturn, 1) := by decide +kernel
abbrev y_Numbers_isOf : MethodName := ⟨"TrapDesk$Numbers", "isOf", "(II)Z"⟩
abbrev cc_Numbers_isOf : ByteArray := prog_5_method_5_code
abbrev ws_Numbers_isOf : List Cond := Cond.code y_Numbers_isOf cc_Numbers_isOf 2 (some .boolean) :: gtb
theorem d_Numbers_isOf_0 : decode cc_Numbers_isOf 0 = .ok (.iload_n 1, 1) := by decide +kernel
theorem d_Numbers_isOf_1 : decode cc_Numbers_isOf 1 = .ok (.sipush (-256), 3) := by decide +kernel
theorem d_Numbers_isOf_4 : decode cc_Numbers_isOf 4 = .ok (.iand, 1) := by decide +kernel
theorem d_Numbers_isOf_5 : decode cc_Numbers_isOf 5 = .ok (.iload_n 0, 1) := by decide +kernel
theorem d_Numbers_isOf_6 : decode cc_Numbers_isOf 6 = .ok (.if_icmp .ne 17, 3) := by decide +kernel
theorem d_Numbers_isOf_9 : decode cc_Numbers_isOf 9 = .ok (.iload_n 1, 1) := by decide +kernel
theorem d_Numbers_isOf_10 : decode cc_Numbers_isOf 10 = .ok (.invokestatic 26, 3) := by decide +kernel
theorem d_Numbers_isOf_13 : decode cc_Numbers_isOf 13 = .ok (.invokestatic 30, 3) := by decide +kernel
theorem d_Numbers_isOf_16 : decode cc_Numbers_isOf 16 = .ok (.ifCond .eq 7, 3) := by decide +kernel
theorem d_Numbers_isOf_19 : decode cc_Numbers_isOf 19 = .ok (.iconst 1, 1) := by decide +kernel
theorem d_Numbers_isOf_20 : decode cc_Numbers_isOf 20 = .ok (.goto 4, 3) := by decide +kernel
theorem d_Numbers_isOf_23 : decode cc_Numbers_isOf 23 = .ok (.iconst 0, 1) := by decide +kernel
theorem d_Numbers_isOf_24 : decode cc_Numbers_isOf 24 = .ok (.ireturn, 1) := by decide +kernel
abbrev y_Numbers_kindOf : MethodName := ⟨"TrapDesk$Numbers", "kindOf", "(I)I"⟩
abbrev cc_Numbers_kindOf : ByteArray := prog_5_method_6_code
abbrev ws_Numbers_kindOf : List Cond := Cond.code y_Numbers_kindOf cc_Numbers_kindOf 1 (some .int) :: gtb
theorem d_Numbers_kindOf_0 : decode cc_Numbers_kindOf 0 = .ok (.iload_n 0, 1) := by decide +kernel
theorem d_Numbers_kindOf_1 : decode cc_Numbers_kindOf 1 = .ok (.sipush 255, 3) := by decide +kernel
theorem d_Numbers_kindOf_4 : decode cc_Numbers_kindOf 4 = .ok (.iand, 1) := by decide +kernel
theorem d_Numbers_kindOf_5 : decode cc_Numbers_kindOf 5 = .ok (.ireturn, 1) := by decide +kernel
abbrev y_Numbers_isKind : MethodName := ⟨"TrapDesk$Numbers", "isKind", "(I)Z"⟩
abbrev cc_Numbers_isKind : ByteArray := prog_5_method_7_code
abbrev ws_Numbers_isKind : List Cond := Cond.code y_Numbers_isKind cc_Numbers_isKind 1 (some .boolean) :: gtb
theorem d_Numbers_isKind_0 : decode cc_Numbers_isKind 0 = .ok (.iload_n 0, 1) := by decide +kernel
theorem d_Numbers_isKind_1 : decode cc_Numbers_isKind 1 = .ok (.lookupswitch 85 #[(0, 83), (4, 83), (5, 83), (64, 83), (65, 83), (66, 83), (67, 83), (68, 83), (128, 83)], 83) := by decide +kernel
theorem d_Numbers_isKind_84 : decode cc_Numbers_isKind 84 = .ok (.iconst 1, 1) := by decide +kernel
theorem d_Numbers_isKind_85 : decode cc_Numbers_isKind 85 = .ok (.ireturn, 1) := by decide +kernel
theorem d_Numbers_isKind_86 : decode cc_Numbers_isKind 86 = .ok (.iconst 0, 1) := by decide +kernel
theorem d_Numbers_isKind_87 : decode cc_Numbers_isKind 87 = .ok (.ireturn, 1) := by decide +kernel
abbrev y_Numbers_isOfH : MethodName := ⟨"TrapDesk$Numbers", "isOfH", "(I)Z"⟩
abbrev cc_Numbers_isOfH : ByteArray := prog_5_method_8_code
abbrev ws_Numbers_isOfH : List Cond := Cond.code y_Numbers_isOfH cc_Numbers_isOfH 1 (some .boolean) :: gtb
theorem d_Numbers_isOfH_0 : decode cc_Numbers_isOfH 0 = .ok (.iload_n 0, 1) := by decide +kernel
theorem d_Numbers_isOfH_1 : decode cc_Numbers_isOfH 1 = .ok (.lookupswitch 85 #[(1536, 83), (1538, 83), (1539, 83), (1540, 83), (1603, 83), (1604, 83), (1605, 83), (1610, 83), (1664, 83)], 83) := by decide +kernel
theorem d_Numbers_isOfH_84 : decode cc_Numbers_isOfH 84 = .ok (.iconst 1, 1) := by decide +kernel
theorem d_Numbers_isOfH_85 : decode cc_Numbers_isOfH 85 = .ok (.ireturn, 1) := by decide +kernel
theorem d_Numbers_isOfH_86 : decode cc_Numbers_isOfH 86 = .ok (.iconst 0, 1) := by decide +kernel
theorem d_Numbers_isOfH_87 : decode cc_Numbers_isOfH 87 = .ok (.ireturn, 1) := by decide +kernel
abbrev y_Numbers_isTime : MethodName := ⟨"TrapDesk$Numbers", "isTime", "(I)Z"⟩
abbrev cc_Numbers_isTime : ByteArray := prog_5_method_9_code
abbrev ws_Numbers_isTime : List Cond := Cond.code y_Numbers_isTime cc_Numbers_isTime 1 (some .boolean) :: gtb
theorem d_Numbers_isTime_0 : decode cc_Numbers_isTime 0 = .ok (.iload_n 0, 1) := by decide +kernel
theorem d_Numbers_isTime_1 : decode cc_Numbers_isTime 1 = .ok (.sipush 3073, 3) := by decide +kernel
theorem d_Numbers_isTime_4 : decode cc_Numbers_isTime 4 = .ok (.if_icmp .eq 10, 3) := by decide +kernel
theorem d_Numbers_isTime_7 : decode cc_Numbers_isTime 7 = .ok (.iload_n 0, 1) := by decide +kernel
theorem d_Numbers_isTime_8 : decode cc_Numbers_isTime 8 = .ok (.sipush 3201, 3) := by decide +kernel
theorem d_Numbers_isTime_11 : decode cc_Numbers_isTime 11 = .ok (.if_icmp .ne 7, 3) := by decide +kernel
theorem d_Numbers_isTime_14 : decode cc_Numbers_isTime 14 = .ok (.iconst 1, 1) := by decide +kernel
theorem d_Numbers_isTime_15 : decode cc_Numbers_isTime 15 = .ok (.goto 4, 3) := by decide +kernel
theorem d_Numbers_isTime_18 : decode cc_Numbers_isTime 18 = .ok (.iconst 0, 1) := by decide +kernel
theorem d_Numbers_isTime_19 : decode cc_Numbers_isTime 19 = .ok (.ireturn, 1) := by decide +kernel
abbrev y_Numbers_inVs : MethodName := ⟨"TrapDesk$Numbers", "inVs", "(I)I"⟩
abbrev cc_Numbers_inVs : ByteArray := prog_5_method_10_code
abbrev ws_Numbers_inVs : List Cond := Cond.code y_Numbers_inVs cc_Numbers_inVs 1 (some .int) :: gtb
theorem d_Numbers_inVs_0 : decode cc_Numbers_inVs 0 = .ok (.iload_n 0, 1) := by decide +kernel
theorem d_Numbers_inVs_1 : decode cc_Numbers_inVs 1 = .ok (.invokestatic 9, 3) := by decide +kernel
theorem d_Numbers_inVs_4 : decode cc_Numbers_inVs 4 = .ok (.ifCond .eq 14, 3) := by decide +kernel
theorem d_Numbers_inVs_7 : decode cc_Numbers_inVs 7 = .ok (.sipush 512, 3) := by decide +kernel
theorem d_Numbers_inVs_10 : decode cc_Numbers_inVs 10 = .ok (.iload_n 0, 1) := by decide +kernel
theorem d_Numbers_inVs_11 : decode cc_Numbers_inVs 11 = .ok (.invokestatic 26, 3) := by decide +kernel
theorem d_Numbers_inVs_14 : decode cc_Numbers_inVs 14 = .ok (.ior, 1) := by decide +kernel
theorem d_Numbers_inVs_15 : decode cc_Numbers_inVs 15 = .ok (.goto 4, 3) := by decide +kernel
theorem d_Numbers_inVs_18 : decode cc_Numbers_inVs 18 = .ok (.iload_n 0, 1) := by decide +kernel
theorem d_Numbers_inVs_19 : decode cc_Numbers_inVs 19 = .ok (.ireturn, 1) := by decide +kernel
abbrev y_Outside_init : MethodName := ⟨"TrapDesk$Outside", "<init>", "()V"⟩
abbrev cc_Outside_init : ByteArray := prog_6_method_1_code
abbrev ws_Outside_init : List Cond := Cond.code y_Outside_init cc_Outside_init 1 none :: gtb
theorem d_Outside_init_0 : decode cc_Outside_init 0 = .ok (.aload_n 0, 1) := by decide +kernel
theorem d_Outside_init_1 : decode cc_Outside_init 1 = .ok (.invokespecial 3, 3) := by decide +kernel
theorem d_Outside_init_4 : decode cc_Outside_init 4 = .ok (.aload_n 0, 1) := by decide +kernel
theorem d_Outside_init_5 : decode cc_Outside_init 5 = .ok (.sipush 256, 3) := by decide +kernel
theorem d_Outside_init_8 : decode cc_Outside_init 8 = .ok (.newarray .byte, 2) := by decide +kernel
theorem d_Outside_init_10 : decode cc_Outside_init 10 = .ok (.putfield 11, 3) := by decide +kernel
theorem d_Outside_init_13 : decode cc_Outside_init 13 = .ok (.aload_n 0, 1) := by decide +kernel
theorem d_Outside_init_14 : decode cc_Outside_init 14 = .ok (.ldc2_w 15, 3) := by decide +kernel
theorem d_Outside_init_17 : decode cc_Outside_init 17 = .ok (.putfield 17, 3) := by decide +kernel
theorem d_Outside_init_20 : decode cc_Outside_init 20 = .ok (.return_, 1) := by decide +kernel
abbrev y_Outside_reset : MethodName := ⟨"TrapDesk$Outside", "reset", "()V"⟩
abbrev cc_Outside_reset : ByteArray := prog_6_method_2_code
abbrev ws_Outside_reset : List Cond := Cond.code y_Outside_reset cc_Outside_reset 1 none :: gtb
theorem d_Outside_reset_0 : decode cc_Outside_reset 0 = .ok (.aload_n 0, 1) := by decide +kernel
theorem d_Outside_reset_1 : decode cc_Outside_reset 1 = .ok (.iconst 0, 1) := by decide +kernel
theorem d_Outside_reset_2 : decode cc_Outside_reset 2 = .ok (.putfield 21, 3) := by decide +kernel
theorem d_Outside_reset_5 : decode cc_Outside_reset 5 = .ok (.aload_n 0, 1) := by decide +kernel
theorem d_Outside_reset_6 : decode cc_Outside_reset 6 = .ok (.lconst 0, 1) := by decide +kernel
theorem d_Outside_reset_7 : decode cc_Outside_reset 7 = .ok (.putfield 25, 3) := by decide +kernel
theorem d_Outside_reset_10 : decode cc_Outside_reset 10 = .ok (.aload_n 0, 1) := by decide +kernel
theorem d_Outside_reset_11 : decode cc_Outside_reset 11 = .ok (.ldc2_w 15, 3) := by decide +kernel
theorem d_Outside_reset_14 : decode cc_Outside_reset 14 = .ok (.putfield 17, 3) := by decide +kernel
theorem d_Outside_reset_17 : decode cc_Outside_reset 17 = .ok (.aload_n 0, 1) := by decide +kernel
theorem d_Outside_reset_18 : decode cc_Outside_reset 18 = .ok (.iconst 0, 1) := by decide +kernel
theorem d_Outside_reset_19 : decode cc_Outside_reset 19 = .ok (.putfield 28, 3) := by decide +kernel
theorem d_Outside_reset_22 : decode cc_Outside_reset 22 = .ok (.aload_n 0, 1) := by decide +kernel
theorem d_Outside_reset_23 : decode cc_Outside_reset 23 = .ok (.iconst 0, 1) := by decide +kernel
theorem d_Outside_reset_24 : decode cc_Outside_reset 24 = .ok (.putfield 32, 3) := by decide +kernel
theorem d_Outside_reset_27 : decode cc_Outside_reset 27 = .ok (.return_, 1) := by decide +kernel
abbrev y_Outside_alarmRings : MethodName := ⟨"TrapDesk$Outside", "alarmRings", "()Z"⟩
abbrev cc_Outside_alarmRings : ByteArray := prog_6_method_3_code
abbrev ws_Outside_alarmRings : List Cond := Cond.code y_Outside_alarmRings cc_Outside_alarmRings 1 (some .boolean) :: gtb
theorem d_Outside_alarmRings_0 : decode cc_Outside_alarmRings 0 = .ok (.aload_n 0, 1) := by decide +kernel
theorem d_Outside_alarmRings_1 : decode cc_Outside_alarmRings 1 = .ok (.getfield 25, 3) := by decide +kernel
theorem d_Outside_alarmRings_4 : decode cc_Outside_alarmRings 4 = .ok (.aload_n 0, 1) := by decide +kernel
theorem d_Outside_alarmRings_5 : decode cc_Outside_alarmRings 5 = .ok (.getfield 17, 3) := by decide +kernel
theorem d_Outside_alarmRings_8 : decode cc_Outside_alarmRings 8 = .ok (.lcmp, 1) := by decide +kernel
theorem d_Outside_alarmRings_9 : decode cc_Outside_alarmRings 9 = .ok (.ifCond .lt 7, 3) := by decide +kernel
theorem d_Outside_alarmRings_12 : decode cc_Outside_alarmRings 12 = .ok (.iconst 1, 1) := by decide +kernel
theorem d_Outside_alarmRings_13 : decode cc_Outside_alarmRings 13 = .ok (.goto 4, 3) := by decide +kernel
theorem d_Outside_alarmRings_16 : decode cc_Outside_alarmRings 16 = .ok (.iconst 0, 1) := by decide +kernel
theorem d_Outside_alarmRings_17 : decode cc_Outside_alarmRings 17 = .ok (.ireturn, 1) := by decide +kernel
abbrev y_Outside_serve : MethodName := ⟨"TrapDesk$Outside", "serve", "(III)I"⟩
abbrev cc_Outside_serve : ByteArray := prog_6_method_4_code
abbrev ws_Outside_serve : List Cond := Cond.code y_Outside_serve cc_Outside_serve 4 (some .int) :: gtb
theorem d_Outside_serve_0 : decode cc_Outside_serve 0 = .ok (.iload_n 1, 1) := by decide +kernel
theorem d_Outside_serve_1 : decode cc_Outside_serve 1 = .ok (.lookupswitch 57 #[(0, 35), (1, 43), (8, 50)], 35) := by decide +kernel
theorem d_Outside_serve_36 : decode cc_Outside_serve 36 = .ok (.aload_n 0, 1) := by decide +kernel
theorem d_Outside_serve_37 : decode cc_Outside_serve 37 = .ok (.iload_n 2, 1) := by decide +kernel
theorem d_Outside_serve_38 : decode cc_Outside_serve 38 = .ok (.iload_n 3, 1) := by decide +kernel
theorem d_Outside_serve_39 : decode cc_Outside_serve 39 = .ok (.invokevirtual 35, 3) := by decide +kernel
theorem d_Outside_serve_42 : decode cc_Outside_serve 42 = .ok (.iconst 0, 1) := by decide +kernel
theorem d_Outside_serve_43 : decode cc_Outside_serve 43 = .ok (.ireturn, 1) := by decide +kernel
theorem d_Outside_serve_44 : decode cc_Outside_serve 44 = .ok (.aload_n 0, 1) := by decide +kernel
theorem d_Outside_serve_45 : decode cc_Outside_serve 45 = .ok (.iload_n 2, 1) := by decide +kernel
theorem d_Outside_serve_46 : decode cc_Outside_serve 46 = .ok (.invokevirtual 39, 3) := by decide +kernel
theorem d_Outside_serve_49 : decode cc_Outside_serve 49 = .ok (.iconst 0, 1) := by decide +kernel
theorem d_Outside_serve_50 : decode cc_Outside_serve 50 = .ok (.ireturn, 1) := by decide +kernel
theorem d_Outside_serve_51 : decode cc_Outside_serve 51 = .ok (.aload_n 0, 1) := by decide +kernel
theorem d_Outside_serve_52 : decode cc_Outside_serve 52 = .ok (.iconst 1, 1) := by decide +kernel
theorem d_Outside_serve_53 : decode cc_Outside_serve 53 = .ok (.putfield 32, 3) := by decide +kernel
theorem d_Outside_serve_56 : decode cc_Outside_serve 56 = .ok (.iconst 0, 1) := by decide +kernel
theorem d_Outside_serve_57 : decode cc_Outside_serve 57 = .ok (.ireturn, 1) := by decide +kernel
theorem d_Outside_serve_58 : decode cc_Outside_serve 58 = .ok (.bipush (-2), 2) := by decide +kernel
theorem d_Outside_serve_60 : decode cc_Outside_serve 60 = .ok (.ireturn, 1) := by decide +kernel
abbrev y_Outside_setAlarm : MethodName := ⟨"TrapDesk$Outside", "setAlarm", "(II)V"⟩
abbrev cc_Outside_setAlarm : ByteArray := prog_6_method_5_code
abbrev ws_Outside_setAlarm : List Cond := Cond.code y_Outside_setAlarm cc_Outside_setAlarm 3 none :: gtb
theorem d_Outside_setAlarm_0 : decode cc_Outside_setAlarm 0 = .ok (.iload_n 2, 1) := by decide +kernel
theorem d_Outside_setAlarm_1 : decode cc_Outside_setAlarm 1 = .ok (.ifCond .ge 13, 3) := by decide +kernel
theorem d_Outside_setAlarm_4 : decode cc_Outside_setAlarm 4 = .ok (.aload_n 0, 1) := by decide +kernel
theorem d_Outside_setAlarm_5 : decode cc_Outside_setAlarm 5 = .ok (.ldc2_w 15, 3) := by decide +kernel
theorem d_Outside_setAlarm_8 : decode cc_Outside_setAlarm 8 = .ok (.putfield 17, 3) := by decide +kernel
theorem d_Outside_setAlarm_11 : decode cc_Outside_setAlarm 11 = .ok (.goto 19, 3) := by decide +kernel
theorem d_Outside_setAlarm_14 : decode cc_Outside_setAlarm 14 = .ok (.aload_n 0, 1) := by decide +kernel
theorem d_Outside_setAlarm_15 : decode cc_Outside_setAlarm 15 = .ok (.iload_n 2, 1) := by decide +kernel
theorem d_Outside_setAlarm_16 : decode cc_Outside_setAlarm 16 = .ok (.i2l, 1) := by decide +kernel
theorem d_Outside_setAlarm_17 : decode cc_Outside_setAlarm 17 = .ok (.bipush 32, 2) := by decide +kernel
theorem d_Outside_setAlarm_19 : decode cc_Outside_setAlarm 19 = .ok (.lshl, 1) := by decide +kernel
theorem d_Outside_setAlarm_20 : decode cc_Outside_setAlarm 20 = .ok (.iload_n 1, 1) := by decide +kernel
theorem d_Outside_setAlarm_21 : decode cc_Outside_setAlarm 21 = .ok (.i2l, 1) := by decide +kernel
theorem d_Outside_setAlarm_22 : decode cc_Outside_setAlarm 22 = .ok (.ldc2_w 43, 3) := by decide +kernel
theorem d_Outside_setAlarm_25 : decode cc_Outside_setAlarm 25 = .ok (.land, 1) := by decide +kernel
theorem d_Outside_setAlarm_26 : decode cc_Outside_setAlarm 26 = .ok (.lor, 1) := by decide +kernel
theorem d_Outside_setAlarm_27 : decode cc_Outside_setAlarm 27 = .ok (.putfield 17, 3) := by decide +kernel
theorem d_Outside_setAlarm_30 : decode cc_Outside_setAlarm 30 = .ok (.return_, 1) := by decide +kernel
abbrev y_Outside_print : MethodName := ⟨"TrapDesk$Outside", "print", "(I)V"⟩
abbrev cc_Outside_print : ByteArray := prog_6_method_6_code
abbrev ws_Outside_print : List Cond := Cond.code y_Outside_print cc_Outside_print 2 none :: gtb
theorem d_Outside_print_0 : decode cc_Outside_print 0 = .ok (.aload_n 0, 1) := by decide +kernel
theorem d_Outside_print_1 : decode cc_Outside_print 1 = .ok (.getfield 21, 3) := by decide +kernel
theorem d_Outside_print_4 : decode cc_Outside_print 4 = .ok (.aload_n 0, 1) := by decide +kernel
theorem d_Outside_print_5 : decode cc_Outside_print 5 = .ok (.getfield 11, 3) := by decide +kernel
theorem d_Outside_print_8 : decode cc_Outside_print 8 = .ok (.arraylength, 1) := by decide +kernel
theorem d_Outside_print_9 : decode cc_Outside_print 9 = .ok (.if_icmp .ge 24, 3) := by decide +kernel
theorem d_Outside_print_12 : decode cc_Outside_print 12 = .ok (.aload_n 0, 1) := by decide +kernel
theorem d_Outside_print_13 : decode cc_Outside_print 13 = .ok (.getfield 11, 3) := by decide +kernel
theorem d_Outside_print_16 : decode cc_Outside_print 16 = .ok (.aload_n 0, 1) := by decide +kernel
theorem d_Outside_print_17 : decode cc_Outside_print 17 = .ok (.getfield 21, 3) := by decide +kernel
theorem d_Outside_print_20 : decode cc_Outside_print 20 = .ok (.iload_n 1, 1) := by decide +kernel
theorem d_Outside_print_21 : decode cc_Outside_print 21 = .ok (.i2b, 1) := by decide +kernel
theorem d_Outside_print_22 : decode cc_Outside_print 22 = .ok (.bastore, 1) := by decide +kernel
theorem d_Outside_print_23 : decode cc_Outside_print 23 = .ok (.aload_n 0, 1) := by decide +kernel
theorem d_Outside_print_24 : decode cc_Outside_print 24 = .ok (.dup, 1) := by decide +kernel
theorem d_Outside_print_25 : decode cc_Outside_print 25 = .ok (.getfield 21, 3) := by decide +kernel
theorem d_Outside_print_28 : decode cc_Outside_print 28 = .ok (.iconst 1, 1) := by decide +kernel
theorem d_Outside_print_29 : decode cc_Outside_print 29 = .ok (.iadd, 1) := by decide +kernel
theorem d_Outside_print_30 : decode cc_Outside_print 30 = .ok (.putfield 21, 3) := by decide +kernel
theorem d_Outside_print_33 : decode cc_Outside_print 33 = .ok (.return_, 1) := by decide +kernel
abbrev y_Outside_printedByte : MethodName := ⟨"TrapDesk$Outside", "printedByte", "(I)I"⟩
abbrev cc_Outside_printedByte : ByteArray := prog_6_method_7_code
abbrev ws_Outside_printedByte : List Cond := Cond.code y_Outside_printedByte cc_Outside_printedByte 2 (some .int) :: gtb
theorem d_Outside_printedByte_0 : decode cc_Outside_printedByte 0 = .ok (.iload_n 1, 1) := by decide +kernel
theorem d_Outside_printedByte_1 : decode cc_Outside_printedByte 1 = .ok (.ifCond .lt 20, 3) := by decide +kernel
theorem d_Outside_printedByte_4 : decode cc_Outside_printedByte 4 = .ok (.iload_n 1, 1) := by decide +kernel
theorem d_Outside_printedByte_5 : decode cc_Outside_printedByte 5 = .ok (.aload_n 0, 1) := by decide +kernel
theorem d_Outside_printedByte_6 : decode cc_Outside_printedByte 6 = .ok (.getfield 21, 3) := by decide +kernel
theorem d_Outside_printedByte_9 : decode cc_Outside_printedByte 9 = .ok (.if_icmp .ge 12, 3) := by decide +kernel
theorem d_Outside_printedByte_12 : decode cc_Outside_printedByte 12 = .ok (.iload_n 1, 1) := by decide +kernel
theorem d_Outside_printedByte_13 : decode cc_Outside_printedByte 13 = .ok (.aload_n 0, 1) := by decide +kernel
theorem d_Outside_printedByte_14 : decode cc_Outside_printedByte 14 = .ok (.getfield 11, 3) := by decide +kernel
theorem d_Outside_printedByte_17 : decode cc_Outside_printedByte 17 = .ok (.arraylength, 1) := by decide +kernel
theorem d_Outside_printedByte_18 : decode cc_Outside_printedByte 18 = .ok (.if_icmp .lt 5, 3) := by decide +kernel
theorem d_Outside_printedByte_21 : decode cc_Outside_printedByte 21 = .ok (.iconst (-1), 1) := by decide +kernel
theorem d_Outside_printedByte_22 : decode cc_Outside_printedByte 22 = .ok (.ireturn, 1) := by decide +kernel
theorem d_Outside_printedByte_23 : decode cc_Outside_printedByte 23 = .ok (.aload_n 0, 1) := by decide +kernel
theorem d_Outside_printedByte_24 : decode cc_Outside_printedByte 24 = .ok (.getfield 11, 3) := by decide +kernel
theorem d_Outside_printedByte_27 : decode cc_Outside_printedByte 27 = .ok (.iload_n 1, 1) := by decide +kernel
theorem d_Outside_printedByte_28 : decode cc_Outside_printedByte 28 = .ok (.baload, 1) := by decide +kernel
theorem d_Outside_printedByte_29 : decode cc_Outside_printedByte 29 = .ok (.sipush 255, 3) := by decide +kernel
theorem d_Outside_printedByte_32 : decode cc_Outside_printedByte 32 = .ok (.iand, 1) := by decide +kernel
theorem d_Outside_printedByte_33 : decode cc_Outside_printedByte 33 = .ok (.ireturn, 1) := by decide +kernel
abbrev y_Registers_init : MethodName := ⟨"TrapDesk$Registers", "<init>", "()V"⟩
abbrev cc_Registers_init : ByteArray := prog_7_method_1_code
abbrev ws_Registers_init : List Cond := Cond.code y_Registers_init cc_Registers_init 1 none :: gtb
theorem d_Registers_init_0 : decode cc_Registers_init 0 = .ok (.aload_n 0, 1) := by decide +kernel
theorem d_Registers_init_1 : decode cc_Registers_init 1 = .ok (.invokespecial 1, 3) := by decide +kernel
theorem d_Registers_init_4 : decode cc_Registers_init 4 = .ok (.return_, 1) := by decide +kernel
abbrev y_Registers_reset : MethodName := ⟨"TrapDesk$Registers", "reset", "()V"⟩
abbrev cc_Registers_reset : ByteArray := prog_7_method_2_code
abbrev ws_Registers_reset : List Cond := Cond.code y_Registers_reset cc_Registers_reset 1 none :: gtb
theorem d_Registers_reset_0 : decode cc_Registers_reset 0 = .ok (.aload_n 0, 1) := by decide +kernel
theorem d_Registers_reset_1 : decode cc_Registers_reset 1 = .ok (.iconst 0, 1) := by decide +kernel
theorem d_Registers_reset_2 : decode cc_Registers_reset 2 = .ok (.putfield 7, 3) := by decide +kernel
theorem d_Registers_reset_5 : decode cc_Registers_reset 5 = .ok (.aload_n 0, 1) := by decide +kernel
theorem d_Registers_reset_6 : decode cc_Registers_reset 6 = .ok (.iconst 0, 1) := by decide +kernel
theorem d_Registers_reset_7 : decode cc_Registers_reset 7 = .ok (.putfield 13, 3) := by decide +kernel
theorem d_Registers_reset_10 : decode cc_Registers_reset 10 = .ok (.aload_n 0, 1) := by decide +kernel
theorem d_Registers_reset_11 : decode cc_Registers_reset 11 = .ok (.iconst 0, 1) := by decide +kernel
theorem d_Registers_reset_12 : decode cc_Registers_reset 12 = .ok (.putfield 16, 3) := by decide +kernel
theorem d_Registers_reset_15 : decode cc_Registers_reset 15 = .ok (.return_, 1) := by decide +kernel
abbrev y_Registers_read : MethodName := ⟨"TrapDesk$Registers", "read", "(I)I"⟩
abbrev cc_Registers_read : ByteArray := prog_7_method_3_code
abbrev ws_Registers_read : List Cond := Cond.code y_Registers_read cc_Registers_read 2 (some .int) :: gtb
theorem d_Registers_read_0 : decode cc_Registers_read 0 = .ok (.iload_n 1, 1) := by decide +kernel
theorem d_Registers_read_1 : decode cc_Registers_read 1 = .ok (.lookupswitch 50 #[(10, 35), (11, 40), (17, 45)], 35) := by decide +kernel
theorem d_Registers_read_36 : decode cc_Registers_read 36 = .ok (.aload_n 0, 1) := by decide +kernel
theorem d_Registers_read_37 : decode cc_Registers_read 37 = .ok (.getfield 7, 3) := by decide +kernel
theorem d_Registers_read_40 : decode cc_Registers_read 40 = .ok (.ireturn, 1) := by decide +kernel
theorem d_Registers_read_41 : decode cc_Registers_read 41 = .ok (.aload_n 0, 1) := by decide +kernel
theorem d_Registers_read_42 : decode cc_Registers_read 42 = .ok (.getfield 13, 3) := by decide +kernel
theorem d_Registers_read_45 : decode cc_Registers_read 45 = .ok (.ireturn, 1) := by decide +kernel
theorem d_Registers_read_46 : decode cc_Registers_read 46 = .ok (.aload_n 0, 1) := by decide +kernel
theorem d_Registers_read_47 : decode cc_Registers_read 47 = .ok (.getfield 16, 3) := by decide +kernel
theorem d_Registers_read_50 : decode cc_Registers_read 50 = .ok (.ireturn, 1) := by decide +kernel
theorem d_Registers_read_51 : decode cc_Registers_read 51 = .ok (.iconst 0, 1) := by decide +kernel
theorem d_Registers_read_52 : decode cc_Registers_read 52 = .ok (.ireturn, 1) := by decide +kernel
abbrev y_Registers_write : MethodName := ⟨"TrapDesk$Registers", "write", "(II)V"⟩
abbrev cc_Registers_write : ByteArray := prog_7_method_4_code
abbrev ws_Registers_write : List Cond := Cond.code y_Registers_write cc_Registers_write 3 none :: gtb
theorem d_Registers_write_0 : decode cc_Registers_write 0 = .ok (.iload_n 1, 1) := by decide +kernel
theorem d_Registers_write_1 : decode cc_Registers_write 1 = .ok (.lookupswitch 59 #[(10, 35), (11, 43), (17, 51)], 35) := by decide +kernel
theorem d_Registers_write_36 : decode cc_Registers_write 36 = .ok (.aload_n 0, 1) := by decide +kernel
theorem d_Registers_write_37 : decode cc_Registers_write 37 = .ok (.iload_n 2, 1) := by decide +kernel
theorem d_Registers_write_38 : decode cc_Registers_write 38 = .ok (.putfield 7, 3) := by decide +kernel
theorem d_Registers_write_41 : decode cc_Registers_write 41 = .ok (.goto 19, 3) := by decide +kernel
theorem d_Registers_write_44 : decode cc_Registers_write 44 = .ok (.aload_n 0, 1) := by decide +kernel
theorem d_Registers_write_45 : decode cc_Registers_write 45 = .ok (.iload_n 2, 1) := by decide +kernel
theorem d_Registers_write_46 : decode cc_Registers_write 46 = .ok (.putfield 13, 3) := by decide +kernel
theorem d_Registers_write_49 : decode cc_Registers_write 49 = .ok (.goto 11, 3) := by decide +kernel
theorem d_Registers_write_52 : decode cc_Registers_write 52 = .ok (.aload_n 0, 1) := by decide +kernel
theorem d_Registers_write_53 : decode cc_Registers_write 53 = .ok (.iload_n 2, 1) := by decide +kernel
theorem d_Registers_write_54 : decode cc_Registers_write 54 = .ok (.putfield 16, 3) := by decide +kernel
theorem d_Registers_write_57 : decode cc_Registers_write 57 = .ok (.goto 3, 3) := by decide +kernel
theorem d_Registers_write_60 : decode cc_Registers_write 60 = .ok (.return_, 1) := by decide +kernel
