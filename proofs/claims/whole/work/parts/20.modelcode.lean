abbrev y_Model_init : MethodName := ⟨"TrapDeskModel", "<init>", "()V"⟩
abbrev cc_Model_init : ByteArray := prog_9_method_1_code
abbrev ws_Model_init : List Cond := Cond.code y_Model_init cc_Model_init 1 none :: gtb
theorem d_Model_init_0 : decode cc_Model_init 0 = .ok (.aload_n 0, 1) := by decide +kernel
theorem d_Model_init_1 : decode cc_Model_init 1 = .ok (.invokespecial 1, 3) := by decide +kernel
theorem d_Model_init_4 : decode cc_Model_init 4 = .ok (.aload_n 0, 1) := by decide +kernel
theorem d_Model_init_5 : decode cc_Model_init 5 = .ok (.sipush 256, 3) := by decide +kernel
theorem d_Model_init_8 : decode cc_Model_init 8 = .ok (.newarray .int, 2) := by decide +kernel
theorem d_Model_init_10 : decode cc_Model_init 10 = .ok (.putfield 7, 3) := by decide +kernel
theorem d_Model_init_13 : decode cc_Model_init 13 = .ok (.aload_n 0, 1) := by decide +kernel
theorem d_Model_init_14 : decode cc_Model_init 14 = .ok (.sipush 512, 3) := by decide +kernel
theorem d_Model_init_17 : decode cc_Model_init 17 = .ok (.newarray .int, 2) := by decide +kernel
theorem d_Model_init_19 : decode cc_Model_init 19 = .ok (.putfield 13, 3) := by decide +kernel
theorem d_Model_init_22 : decode cc_Model_init 22 = .ok (.aload_n 0, 1) := by decide +kernel
theorem d_Model_init_23 : decode cc_Model_init 23 = .ok (.invokevirtual 16, 3) := by decide +kernel
theorem d_Model_init_26 : decode cc_Model_init 26 = .ok (.return_, 1) := by decide +kernel
abbrev y_Model_begin : MethodName := ⟨"TrapDeskModel", "begin", "()V"⟩
abbrev cc_Model_begin : ByteArray := prog_9_method_3_code
abbrev ws_Model_begin : List Cond := Cond.code y_Model_begin cc_Model_begin 2 none :: gtb
theorem d_Model_begin_0 : decode cc_Model_begin 0 = .ok (.aload_n 0, 1) := by decide +kernel
theorem d_Model_begin_1 : decode cc_Model_begin 1 = .ok (.iconst 1, 1) := by decide +kernel
theorem d_Model_begin_2 : decode cc_Model_begin 2 = .ok (.putfield 19, 3) := by decide +kernel
theorem d_Model_begin_5 : decode cc_Model_begin 5 = .ok (.aload_n 0, 1) := by decide +kernel
theorem d_Model_begin_6 : decode cc_Model_begin 6 = .ok (.iconst 0, 1) := by decide +kernel
theorem d_Model_begin_7 : decode cc_Model_begin 7 = .ok (.putfield 23, 3) := by decide +kernel
theorem d_Model_begin_10 : decode cc_Model_begin 10 = .ok (.aload_n 0, 1) := by decide +kernel
theorem d_Model_begin_11 : decode cc_Model_begin 11 = .ok (.lconst 0, 1) := by decide +kernel
theorem d_Model_begin_12 : decode cc_Model_begin 12 = .ok (.putfield 26, 3) := by decide +kernel
theorem d_Model_begin_15 : decode cc_Model_begin 15 = .ok (.aload_n 0, 1) := by decide +kernel
theorem d_Model_begin_16 : decode cc_Model_begin 16 = .ok (.ldc2_w 30, 3) := by decide +kernel
theorem d_Model_begin_19 : decode cc_Model_begin 19 = .ok (.putfield 32, 3) := by decide +kernel
theorem d_Model_begin_22 : decode cc_Model_begin 22 = .ok (.aload_n 0, 1) := by decide +kernel
theorem d_Model_begin_23 : decode cc_Model_begin 23 = .ok (.iconst 0, 1) := by decide +kernel
theorem d_Model_begin_24 : decode cc_Model_begin 24 = .ok (.putfield 35, 3) := by decide +kernel
theorem d_Model_begin_27 : decode cc_Model_begin 27 = .ok (.aload_n 0, 1) := by decide +kernel
theorem d_Model_begin_28 : decode cc_Model_begin 28 = .ok (.iconst 0, 1) := by decide +kernel
theorem d_Model_begin_29 : decode cc_Model_begin 29 = .ok (.putfield 39, 3) := by decide +kernel
theorem d_Model_begin_32 : decode cc_Model_begin 32 = .ok (.aload_n 0, 1) := by decide +kernel
theorem d_Model_begin_33 : decode cc_Model_begin 33 = .ok (.iconst 0, 1) := by decide +kernel
theorem d_Model_begin_34 : decode cc_Model_begin 34 = .ok (.putfield 42, 3) := by decide +kernel
theorem d_Model_begin_37 : decode cc_Model_begin 37 = .ok (.aload_n 0, 1) := by decide +kernel
theorem d_Model_begin_38 : decode cc_Model_begin 38 = .ok (.iconst 0, 1) := by decide +kernel
theorem d_Model_begin_39 : decode cc_Model_begin 39 = .ok (.putfield 45, 3) := by decide +kernel
theorem d_Model_begin_42 : decode cc_Model_begin 42 = .ok (.aload_n 0, 1) := by decide +kernel
theorem d_Model_begin_43 : decode cc_Model_begin 43 = .ok (.iconst 0, 1) := by decide +kernel
theorem d_Model_begin_44 : decode cc_Model_begin 44 = .ok (.putfield 48, 3) := by decide +kernel
theorem d_Model_begin_47 : decode cc_Model_begin 47 = .ok (.aload_n 0, 1) := by decide +kernel
theorem d_Model_begin_48 : decode cc_Model_begin 48 = .ok (.iconst 0, 1) := by decide +kernel
theorem d_Model_begin_49 : decode cc_Model_begin 49 = .ok (.putfield 51, 3) := by decide +kernel
theorem d_Model_begin_52 : decode cc_Model_begin 52 = .ok (.aload_n 0, 1) := by decide +kernel
theorem d_Model_begin_53 : decode cc_Model_begin 53 = .ok (.iconst 0, 1) := by decide +kernel
theorem d_Model_begin_54 : decode cc_Model_begin 54 = .ok (.putfield 54, 3) := by decide +kernel
theorem d_Model_begin_57 : decode cc_Model_begin 57 = .ok (.aload_n 0, 1) := by decide +kernel
theorem d_Model_begin_58 : decode cc_Model_begin 58 = .ok (.iconst 0, 1) := by decide +kernel
theorem d_Model_begin_59 : decode cc_Model_begin 59 = .ok (.putfield 57, 3) := by decide +kernel
theorem d_Model_begin_62 : decode cc_Model_begin 62 = .ok (.aload_n 0, 1) := by decide +kernel
theorem d_Model_begin_63 : decode cc_Model_begin 63 = .ok (.iconst 0, 1) := by decide +kernel
theorem d_Model_begin_64 : decode cc_Model_begin 64 = .ok (.putfield 60, 3) := by decide +kernel
theorem d_Model_begin_67 : decode cc_Model_begin 67 = .ok (.iconst 0, 1) := by decide +kernel
theorem d_Model_begin_68 : decode cc_Model_begin 68 = .ok (.istore_n 1, 1) := by decide +kernel
theorem d_Model_begin_69 : decode cc_Model_begin 69 = .ok (.iload_n 1, 1) := by decide +kernel
theorem d_Model_begin_70 : decode cc_Model_begin 70 = .ok (.sipush 512, 3) := by decide +kernel
theorem d_Model_begin_73 : decode cc_Model_begin 73 = .ok (.if_icmp .ge 16, 3) := by decide +kernel
theorem d_Model_begin_76 : decode cc_Model_begin 76 = .ok (.aload_n 0, 1) := by decide +kernel
theorem d_Model_begin_77 : decode cc_Model_begin 77 = .ok (.getfield 13, 3) := by decide +kernel
theorem d_Model_begin_80 : decode cc_Model_begin 80 = .ok (.iload_n 1, 1) := by decide +kernel
theorem d_Model_begin_81 : decode cc_Model_begin 81 = .ok (.iconst 0, 1) := by decide +kernel
theorem d_Model_begin_82 : decode cc_Model_begin 82 = .ok (.iastore, 1) := by decide +kernel
theorem d_Model_begin_83 : decode cc_Model_begin 83 = .ok (.iinc 1 1, 3) := by decide +kernel
theorem d_Model_begin_86 : decode cc_Model_begin 86 = .ok (.goto (-17), 3) := by decide +kernel
theorem d_Model_begin_89 : decode cc_Model_begin 89 = .ok (.aload_n 0, 1) := by decide +kernel
theorem d_Model_begin_90 : decode cc_Model_begin 90 = .ok (.iconst 0, 1) := by decide +kernel
theorem d_Model_begin_91 : decode cc_Model_begin 91 = .ok (.putfield 63, 3) := by decide +kernel
theorem d_Model_begin_94 : decode cc_Model_begin 94 = .ok (.aload_n 0, 1) := by decide +kernel
theorem d_Model_begin_95 : decode cc_Model_begin 95 = .ok (.iconst 0, 1) := by decide +kernel
theorem d_Model_begin_96 : decode cc_Model_begin 96 = .ok (.putfield 66, 3) := by decide +kernel
theorem d_Model_begin_99 : decode cc_Model_begin 99 = .ok (.aload_n 0, 1) := by decide +kernel
theorem d_Model_begin_100 : decode cc_Model_begin 100 = .ok (.iconst 0, 1) := by decide +kernel
theorem d_Model_begin_101 : decode cc_Model_begin 101 = .ok (.putfield 69, 3) := by decide +kernel
theorem d_Model_begin_104 : decode cc_Model_begin 104 = .ok (.aload_n 0, 1) := by decide +kernel
theorem d_Model_begin_105 : decode cc_Model_begin 105 = .ok (.iconst 0, 1) := by decide +kernel
theorem d_Model_begin_106 : decode cc_Model_begin 106 = .ok (.putfield 72, 3) := by decide +kernel
theorem d_Model_begin_109 : decode cc_Model_begin 109 = .ok (.aload_n 0, 1) := by decide +kernel
theorem d_Model_begin_110 : decode cc_Model_begin 110 = .ok (.iconst 0, 1) := by decide +kernel
theorem d_Model_begin_111 : decode cc_Model_begin 111 = .ok (.putfield 75, 3) := by decide +kernel
theorem d_Model_begin_114 : decode cc_Model_begin 114 = .ok (.aload_n 0, 1) := by decide +kernel
theorem d_Model_begin_115 : decode cc_Model_begin 115 = .ok (.iconst 0, 1) := by decide +kernel
theorem d_Model_begin_116 : decode cc_Model_begin 116 = .ok (.putfield 78, 3) := by decide +kernel
theorem d_Model_begin_119 : decode cc_Model_begin 119 = .ok (.aload_n 0, 1) := by decide +kernel
theorem d_Model_begin_120 : decode cc_Model_begin 120 = .ok (.iconst 0, 1) := by decide +kernel
theorem d_Model_begin_121 : decode cc_Model_begin 121 = .ok (.putfield 81, 3) := by decide +kernel
theorem d_Model_begin_124 : decode cc_Model_begin 124 = .ok (.aload_n 0, 1) := by decide +kernel
theorem d_Model_begin_125 : decode cc_Model_begin 125 = .ok (.iconst 0, 1) := by decide +kernel
theorem d_Model_begin_126 : decode cc_Model_begin 126 = .ok (.putfield 84, 3) := by decide +kernel
theorem d_Model_begin_129 : decode cc_Model_begin 129 = .ok (.return_, 1) := by decide +kernel
abbrev y_Model_isKind : MethodName := ⟨"TrapDeskModel", "isKind", "(I)Z"⟩
abbrev cc_Model_isKind : ByteArray := prog_9_method_4_code
abbrev ws_Model_isKind : List Cond := Cond.code y_Model_isKind cc_Model_isKind 1 (some .boolean) :: gtb
theorem d_Model_isKind_0 : decode cc_Model_isKind 0 = .ok (.iload_n 0, 1) := by decide +kernel
theorem d_Model_isKind_1 : decode cc_Model_isKind 1 = .ok (.ifCond .eq 32, 3) := by decide +kernel
theorem d_Model_isKind_4 : decode cc_Model_isKind 4 = .ok (.iload_n 0, 1) := by decide +kernel
theorem d_Model_isKind_5 : decode cc_Model_isKind 5 = .ok (.iconst 4, 1) := by decide +kernel
theorem d_Model_isKind_6 : decode cc_Model_isKind 6 = .ok (.if_icmp .eq 27, 3) := by decide +kernel
theorem d_Model_isKind_9 : decode cc_Model_isKind 9 = .ok (.iload_n 0, 1) := by decide +kernel
theorem d_Model_isKind_10 : decode cc_Model_isKind 10 = .ok (.iconst 5, 1) := by decide +kernel
theorem d_Model_isKind_11 : decode cc_Model_isKind 11 = .ok (.if_icmp .eq 22, 3) := by decide +kernel
theorem d_Model_isKind_14 : decode cc_Model_isKind 14 = .ok (.iload_n 0, 1) := by decide +kernel
theorem d_Model_isKind_15 : decode cc_Model_isKind 15 = .ok (.bipush 64, 2) := by decide +kernel
theorem d_Model_isKind_17 : decode cc_Model_isKind 17 = .ok (.if_icmp .lt 9, 3) := by decide +kernel
theorem d_Model_isKind_20 : decode cc_Model_isKind 20 = .ok (.iload_n 0, 1) := by decide +kernel
theorem d_Model_isKind_21 : decode cc_Model_isKind 21 = .ok (.bipush 68, 2) := by decide +kernel
theorem d_Model_isKind_23 : decode cc_Model_isKind 23 = .ok (.if_icmp .le 10, 3) := by decide +kernel
theorem d_Model_isKind_26 : decode cc_Model_isKind 26 = .ok (.iload_n 0, 1) := by decide +kernel
theorem d_Model_isKind_27 : decode cc_Model_isKind 27 = .ok (.sipush 128, 3) := by decide +kernel
theorem d_Model_isKind_30 : decode cc_Model_isKind 30 = .ok (.if_icmp .ne 7, 3) := by decide +kernel
theorem d_Model_isKind_33 : decode cc_Model_isKind 33 = .ok (.iconst 1, 1) := by decide +kernel
theorem d_Model_isKind_34 : decode cc_Model_isKind 34 = .ok (.goto 4, 3) := by decide +kernel
theorem d_Model_isKind_37 : decode cc_Model_isKind 37 = .ok (.iconst 0, 1) := by decide +kernel
theorem d_Model_isKind_38 : decode cc_Model_isKind 38 = .ok (.ireturn, 1) := by decide +kernel
abbrev y_Model_isTime : MethodName := ⟨"TrapDeskModel", "isTime", "(I)Z"⟩
abbrev cc_Model_isTime : ByteArray := prog_9_method_5_code
abbrev ws_Model_isTime : List Cond := Cond.code y_Model_isTime cc_Model_isTime 1 (some .boolean) :: gtb
theorem d_Model_isTime_0 : decode cc_Model_isTime 0 = .ok (.iload_n 0, 1) := by decide +kernel
theorem d_Model_isTime_1 : decode cc_Model_isTime 1 = .ok (.sipush 3073, 3) := by decide +kernel
theorem d_Model_isTime_4 : decode cc_Model_isTime 4 = .ok (.if_icmp .eq 10, 3) := by decide +kernel
theorem d_Model_isTime_7 : decode cc_Model_isTime 7 = .ok (.iload_n 0, 1) := by decide +kernel
theorem d_Model_isTime_8 : decode cc_Model_isTime 8 = .ok (.sipush 3201, 3) := by decide +kernel
theorem d_Model_isTime_11 : decode cc_Model_isTime 11 = .ok (.if_icmp .ne 7, 3) := by decide +kernel
theorem d_Model_isTime_14 : decode cc_Model_isTime 14 = .ok (.iconst 1, 1) := by decide +kernel
theorem d_Model_isTime_15 : decode cc_Model_isTime 15 = .ok (.goto 4, 3) := by decide +kernel
theorem d_Model_isTime_18 : decode cc_Model_isTime 18 = .ok (.iconst 0, 1) := by decide +kernel
theorem d_Model_isTime_19 : decode cc_Model_isTime 19 = .ok (.ireturn, 1) := by decide +kernel
abbrev y_Model_isH : MethodName := ⟨"TrapDeskModel", "isH", "(I)Z"⟩
abbrev cc_Model_isH : ByteArray := prog_9_method_6_code
abbrev ws_Model_isH : List Cond := Cond.code y_Model_isH cc_Model_isH 1 (some .boolean) :: gtb
theorem d_Model_isH_0 : decode cc_Model_isH 0 = .ok (.iload_n 0, 1) := by decide +kernel
theorem d_Model_isH_1 : decode cc_Model_isH 1 = .ok (.lookupswitch 85 #[(1536, 83), (1538, 83), (1539, 83), (1540, 83), (1603, 83), (1604, 83), (1605, 83), (1610, 83), (1664, 83)], 83) := by decide +kernel
theorem d_Model_isH_84 : decode cc_Model_isH 84 = .ok (.iconst 1, 1) := by decide +kernel
theorem d_Model_isH_85 : decode cc_Model_isH 85 = .ok (.ireturn, 1) := by decide +kernel
theorem d_Model_isH_86 : decode cc_Model_isH 86 = .ok (.iconst 0, 1) := by decide +kernel
theorem d_Model_isH_87 : decode cc_Model_isH 87 = .ok (.ireturn, 1) := by decide +kernel
abbrev y_Model_isOne : MethodName := ⟨"TrapDeskModel", "isOne", "(I)Z"⟩
abbrev cc_Model_isOne : ByteArray := prog_9_method_7_code
abbrev ws_Model_isOne : List Cond := Cond.code y_Model_isOne cc_Model_isOne 2 (some .boolean) :: gtb
theorem d_Model_isOne_0 : decode cc_Model_isOne 0 = .ok (.iload_n 0, 1) := by decide +kernel
theorem d_Model_isOne_1 : decode cc_Model_isOne 1 = .ok (.bipush 8, 2) := by decide +kernel
theorem d_Model_isOne_3 : decode cc_Model_isOne 3 = .ok (.ishr, 1) := by decide +kernel
theorem d_Model_isOne_4 : decode cc_Model_isOne 4 = .ok (.istore_n 1, 1) := by decide +kernel
theorem d_Model_isOne_5 : decode cc_Model_isOne 5 = .ok (.iload_n 1, 1) := by decide +kernel
theorem d_Model_isOne_6 : decode cc_Model_isOne 6 = .ok (.iconst 1, 1) := by decide +kernel
theorem d_Model_isOne_7 : decode cc_Model_isOne 7 = .ok (.if_icmp .eq 8, 3) := by decide +kernel
theorem d_Model_isOne_10 : decode cc_Model_isOne 10 = .ok (.iload_n 1, 1) := by decide +kernel
theorem d_Model_isOne_11 : decode cc_Model_isOne 11 = .ok (.iconst 2, 1) := by decide +kernel
theorem d_Model_isOne_12 : decode cc_Model_isOne 12 = .ok (.if_icmp .ne 14, 3) := by decide +kernel
theorem d_Model_isOne_15 : decode cc_Model_isOne 15 = .ok (.iload_n 0, 1) := by decide +kernel
theorem d_Model_isOne_16 : decode cc_Model_isOne 16 = .ok (.sipush 255, 3) := by decide +kernel
theorem d_Model_isOne_19 : decode cc_Model_isOne 19 = .ok (.iand, 1) := by decide +kernel
theorem d_Model_isOne_20 : decode cc_Model_isOne 20 = .ok (.invokestatic 87, 3) := by decide +kernel
theorem d_Model_isOne_23 : decode cc_Model_isOne 23 = .ok (.ifCond .ne 17, 3) := by decide +kernel
theorem d_Model_isOne_26 : decode cc_Model_isOne 26 = .ok (.iload_n 0, 1) := by decide +kernel
theorem d_Model_isOne_27 : decode cc_Model_isOne 27 = .ok (.invokestatic 91, 3) := by decide +kernel
theorem d_Model_isOne_30 : decode cc_Model_isOne 30 = .ok (.ifCond .ne 10, 3) := by decide +kernel
theorem d_Model_isOne_33 : decode cc_Model_isOne 33 = .ok (.iload_n 0, 1) := by decide +kernel
theorem d_Model_isOne_34 : decode cc_Model_isOne 34 = .ok (.invokestatic 94, 3) := by decide +kernel
theorem d_Model_isOne_37 : decode cc_Model_isOne 37 = .ok (.ifCond .eq 7, 3) := by decide +kernel
theorem d_Model_isOne_40 : decode cc_Model_isOne 40 = .ok (.iconst 1, 1) := by decide +kernel
theorem d_Model_isOne_41 : decode cc_Model_isOne 41 = .ok (.goto 4, 3) := by decide +kernel
theorem d_Model_isOne_44 : decode cc_Model_isOne 44 = .ok (.iconst 0, 1) := by decide +kernel
theorem d_Model_isOne_45 : decode cc_Model_isOne 45 = .ok (.ireturn, 1) := by decide +kernel
abbrev y_Model_sip : MethodName := ⟨"TrapDeskModel", "sip", "()I"⟩
abbrev cc_Model_sip : ByteArray := prog_9_method_8_code
abbrev ws_Model_sip : List Cond := Cond.code y_Model_sip cc_Model_sip 1 (some .int) :: gtb
theorem d_Model_sip_0 : decode cc_Model_sip 0 = .ok (.aload_n 0, 1) := by decide +kernel
theorem d_Model_sip_1 : decode cc_Model_sip 1 = .ok (.getfield 13, 3) := by decide +kernel
theorem d_Model_sip_4 : decode cc_Model_sip 4 = .ok (.bipush 68, 2) := by decide +kernel
theorem d_Model_sip_6 : decode cc_Model_sip 6 = .ok (.iaload, 1) := by decide +kernel
theorem d_Model_sip_7 : decode cc_Model_sip 7 = .ok (.iconst 2, 1) := by decide +kernel
theorem d_Model_sip_8 : decode cc_Model_sip 8 = .ok (.iand, 1) := by decide +kernel
theorem d_Model_sip_9 : decode cc_Model_sip 9 = .ok (.aload_n 0, 1) := by decide +kernel
theorem d_Model_sip_10 : decode cc_Model_sip 10 = .ok (.getfield 26, 3) := by decide +kernel
theorem d_Model_sip_13 : decode cc_Model_sip 13 = .ok (.aload_n 0, 1) := by decide +kernel
theorem d_Model_sip_14 : decode cc_Model_sip 14 = .ok (.getfield 32, 3) := by decide +kernel
theorem d_Model_sip_17 : decode cc_Model_sip 17 = .ok (.lcmp, 1) := by decide +kernel
theorem d_Model_sip_18 : decode cc_Model_sip 18 = .ok (.ifCond .lt 8, 3) := by decide +kernel
theorem d_Model_sip_21 : decode cc_Model_sip 21 = .ok (.bipush 32, 2) := by decide +kernel
theorem d_Model_sip_23 : decode cc_Model_sip 23 = .ok (.goto 4, 3) := by decide +kernel
theorem d_Model_sip_26 : decode cc_Model_sip 26 = .ok (.iconst 0, 1) := by decide +kernel
theorem d_Model_sip_27 : decode cc_Model_sip 27 = .ok (.ior, 1) := by decide +kernel
theorem d_Model_sip_28 : decode cc_Model_sip 28 = .ok (.aload_n 0, 1) := by decide +kernel
theorem d_Model_sip_29 : decode cc_Model_sip 29 = .ok (.getfield 35, 3) := by decide +kernel
theorem d_Model_sip_32 : decode cc_Model_sip 32 = .ok (.ifCond .eq 9, 3) := by decide +kernel
theorem d_Model_sip_35 : decode cc_Model_sip 35 = .ok (.sipush 512, 3) := by decide +kernel
theorem d_Model_sip_38 : decode cc_Model_sip 38 = .ok (.goto 4, 3) := by decide +kernel
theorem d_Model_sip_41 : decode cc_Model_sip 41 = .ok (.iconst 0, 1) := by decide +kernel
theorem d_Model_sip_42 : decode cc_Model_sip 42 = .ok (.ior, 1) := by decide +kernel
theorem d_Model_sip_43 : decode cc_Model_sip 43 = .ok (.ireturn, 1) := by decide +kernel
abbrev y_Model_tells : MethodName := ⟨"TrapDeskModel", "tells", "(I)I"⟩
abbrev cc_Model_tells : ByteArray := prog_9_method_9_code
abbrev ws_Model_tells : List Cond := Cond.code y_Model_tells cc_Model_tells 2 (some .int) :: gtb
theorem d_Model_tells_0 : decode cc_Model_tells 0 = .ok (.iload_n 1, 1) := by decide +kernel
theorem d_Model_tells_1 : decode cc_Model_tells 1 = .ok (.lookupswitch 207 #[(324, 123), (516, 128), (580, 140), (1536, 152), (1538, 157), (1539, 162), (1540, 167), (1603, 172), (1604, 177), (1605, 177), (1610, 182), (1664, 187), (3073, 192), (3201, 198)], 123) := by decide +kernel
theorem d_Model_tells_124 : decode cc_Model_tells 124 = .ok (.aload_n 0, 1) := by decide +kernel
theorem d_Model_tells_125 : decode cc_Model_tells 125 = .ok (.invokevirtual 97, 3) := by decide +kernel
theorem d_Model_tells_128 : decode cc_Model_tells 128 = .ok (.ireturn, 1) := by decide +kernel
theorem d_Model_tells_129 : decode cc_Model_tells 129 = .ok (.aload_n 0, 1) := by decide +kernel
theorem d_Model_tells_130 : decode cc_Model_tells 130 = .ok (.getfield 72, 3) := by decide +kernel
theorem d_Model_tells_133 : decode cc_Model_tells 133 = .ok (.aload_n 0, 1) := by decide +kernel
theorem d_Model_tells_134 : decode cc_Model_tells 134 = .ok (.getfield 69, 3) := by decide +kernel
theorem d_Model_tells_137 : decode cc_Model_tells 137 = .ok (.iand, 1) := by decide +kernel
theorem d_Model_tells_138 : decode cc_Model_tells 138 = .ok (.iconst 1, 1) := by decide +kernel
theorem d_Model_tells_139 : decode cc_Model_tells 139 = .ok (.iushr, 1) := by decide +kernel
theorem d_Model_tells_140 : decode cc_Model_tells 140 = .ok (.ireturn, 1) := by decide +kernel
theorem d_Model_tells_141 : decode cc_Model_tells 141 = .ok (.aload_n 0, 1) := by decide +kernel
theorem d_Model_tells_142 : decode cc_Model_tells 142 = .ok (.getfield 78, 3) := by decide +kernel
theorem d_Model_tells_145 : decode cc_Model_tells 145 = .ok (.aload_n 0, 1) := by decide +kernel
theorem d_Model_tells_146 : decode cc_Model_tells 146 = .ok (.getfield 69, 3) := by decide +kernel
theorem d_Model_tells_149 : decode cc_Model_tells 149 = .ok (.iand, 1) := by decide +kernel
theorem d_Model_tells_150 : decode cc_Model_tells 150 = .ok (.iconst 1, 1) := by decide +kernel
theorem d_Model_tells_151 : decode cc_Model_tells 151 = .ok (.iushr, 1) := by decide +kernel
theorem d_Model_tells_152 : decode cc_Model_tells 152 = .ok (.ireturn, 1) := by decide +kernel
theorem d_Model_tells_153 : decode cc_Model_tells 153 = .ok (.aload_n 0, 1) := by decide +kernel
theorem d_Model_tells_154 : decode cc_Model_tells 154 = .ok (.getfield 63, 3) := by decide +kernel
theorem d_Model_tells_157 : decode cc_Model_tells 157 = .ok (.ireturn, 1) := by decide +kernel
theorem d_Model_tells_158 : decode cc_Model_tells 158 = .ok (.aload_n 0, 1) := by decide +kernel
theorem d_Model_tells_159 : decode cc_Model_tells 159 = .ok (.getfield 66, 3) := by decide +kernel
theorem d_Model_tells_162 : decode cc_Model_tells 162 = .ok (.ireturn, 1) := by decide +kernel
theorem d_Model_tells_163 : decode cc_Model_tells 163 = .ok (.aload_n 0, 1) := by decide +kernel
theorem d_Model_tells_164 : decode cc_Model_tells 164 = .ok (.getfield 69, 3) := by decide +kernel
theorem d_Model_tells_167 : decode cc_Model_tells 167 = .ok (.ireturn, 1) := by decide +kernel
theorem d_Model_tells_168 : decode cc_Model_tells 168 = .ok (.aload_n 0, 1) := by decide +kernel
theorem d_Model_tells_169 : decode cc_Model_tells 169 = .ok (.getfield 72, 3) := by decide +kernel
theorem d_Model_tells_172 : decode cc_Model_tells 172 = .ok (.ireturn, 1) := by decide +kernel
theorem d_Model_tells_173 : decode cc_Model_tells 173 = .ok (.aload_n 0, 1) := by decide +kernel
theorem d_Model_tells_174 : decode cc_Model_tells 174 = .ok (.getfield 75, 3) := by decide +kernel
theorem d_Model_tells_177 : decode cc_Model_tells 177 = .ok (.ireturn, 1) := by decide +kernel
theorem d_Model_tells_178 : decode cc_Model_tells 178 = .ok (.aload_n 0, 1) := by decide +kernel
theorem d_Model_tells_179 : decode cc_Model_tells 179 = .ok (.getfield 78, 3) := by decide +kernel
theorem d_Model_tells_182 : decode cc_Model_tells 182 = .ok (.ireturn, 1) := by decide +kernel
theorem d_Model_tells_183 : decode cc_Model_tells 183 = .ok (.aload_n 0, 1) := by decide +kernel
theorem d_Model_tells_184 : decode cc_Model_tells 184 = .ok (.getfield 81, 3) := by decide +kernel
theorem d_Model_tells_187 : decode cc_Model_tells 187 = .ok (.ireturn, 1) := by decide +kernel
theorem d_Model_tells_188 : decode cc_Model_tells 188 = .ok (.aload_n 0, 1) := by decide +kernel
theorem d_Model_tells_189 : decode cc_Model_tells 189 = .ok (.getfield 84, 3) := by decide +kernel
theorem d_Model_tells_192 : decode cc_Model_tells 192 = .ok (.ireturn, 1) := by decide +kernel
theorem d_Model_tells_193 : decode cc_Model_tells 193 = .ok (.aload_n 0, 1) := by decide +kernel
theorem d_Model_tells_194 : decode cc_Model_tells 194 = .ok (.getfield 26, 3) := by decide +kernel
theorem d_Model_tells_197 : decode cc_Model_tells 197 = .ok (.l2i, 1) := by decide +kernel
theorem d_Model_tells_198 : decode cc_Model_tells 198 = .ok (.ireturn, 1) := by decide +kernel
theorem d_Model_tells_199 : decode cc_Model_tells 199 = .ok (.aload_n 0, 1) := by decide +kernel
theorem d_Model_tells_200 : decode cc_Model_tells 200 = .ok (.getfield 26, 3) := by decide +kernel
theorem d_Model_tells_203 : decode cc_Model_tells 203 = .ok (.bipush 32, 2) := by decide +kernel
theorem d_Model_tells_205 : decode cc_Model_tells 205 = .ok (.lshr, 1) := by decide +kernel
theorem d_Model_tells_206 : decode cc_Model_tells 206 = .ok (.l2i, 1) := by decide +kernel
theorem d_Model_tells_207 : decode cc_Model_tells 207 = .ok (.ireturn, 1) := by decide +kernel
theorem d_Model_tells_208 : decode cc_Model_tells 208 = .ok (.aload_n 0, 1) := by decide +kernel
theorem d_Model_tells_209 : decode cc_Model_tells 209 = .ok (.getfield 13, 3) := by decide +kernel
theorem d_Model_tells_212 : decode cc_Model_tells 212 = .ok (.iload_n 1, 1) := by decide +kernel
theorem d_Model_tells_213 : decode cc_Model_tells 213 = .ok (.sipush 256, 3) := by decide +kernel
theorem d_Model_tells_216 : decode cc_Model_tells 216 = .ok (.isub, 1) := by decide +kernel
theorem d_Model_tells_217 : decode cc_Model_tells 217 = .ok (.iaload, 1) := by decide +kernel
theorem d_Model_tells_218 : decode cc_Model_tells 218 = .ok (.ireturn, 1) := by decide +kernel
abbrev y_Model_keeps : MethodName := ⟨"TrapDeskModel", "keeps", "(II)I"⟩
abbrev cc_Model_keeps : ByteArray := prog_9_method_10_code
abbrev ws_Model_keeps : List Cond := Cond.code y_Model_keeps cc_Model_keeps 2 (some .int) :: gtb
theorem d_Model_keeps_0 : decode cc_Model_keeps 0 = .ok (.iload_n 0, 1) := by decide +kernel
theorem d_Model_keeps_1 : decode cc_Model_keeps 1 = .ok (.lookupswitch 89 #[(0, 59), (4, 64), (5, 70), (65, 75), (68, 80), (128, 84)], 59) := by decide +kernel
theorem d_Model_keeps_60 : decode cc_Model_keeps 60 = .ok (.iload_n 1, 1) := by decide +kernel
theorem d_Model_keeps_61 : decode cc_Model_keeps 61 = .ok (.ldc 101, 2) := by decide +kernel
theorem d_Model_keeps_63 : decode cc_Model_keeps 63 = .ok (.iand, 1) := by decide +kernel
theorem d_Model_keeps_64 : decode cc_Model_keeps 64 = .ok (.ireturn, 1) := by decide +kernel
theorem d_Model_keeps_65 : decode cc_Model_keeps 65 = .ok (.iload_n 1, 1) := by decide +kernel
theorem d_Model_keeps_66 : decode cc_Model_keeps 66 = .ok (.sipush 546, 3) := by decide +kernel
theorem d_Model_keeps_69 : decode cc_Model_keeps 69 = .ok (.iand, 1) := by decide +kernel
theorem d_Model_keeps_70 : decode cc_Model_keeps 70 = .ok (.ireturn, 1) := by decide +kernel
theorem d_Model_keeps_71 : decode cc_Model_keeps 71 = .ok (.iload_n 1, 1) := by decide +kernel
theorem d_Model_keeps_72 : decode cc_Model_keeps 72 = .ok (.bipush (-3), 2) := by decide +kernel
theorem d_Model_keeps_74 : decode cc_Model_keeps 74 = .ok (.iand, 1) := by decide +kernel
theorem d_Model_keeps_75 : decode cc_Model_keeps 75 = .ok (.ireturn, 1) := by decide +kernel
theorem d_Model_keeps_76 : decode cc_Model_keeps 76 = .ok (.iload_n 1, 1) := by decide +kernel
theorem d_Model_keeps_77 : decode cc_Model_keeps 77 = .ok (.bipush (-4), 2) := by decide +kernel
theorem d_Model_keeps_79 : decode cc_Model_keeps 79 = .ok (.iand, 1) := by decide +kernel
theorem d_Model_keeps_80 : decode cc_Model_keeps 80 = .ok (.ireturn, 1) := by decide +kernel
theorem d_Model_keeps_81 : decode cc_Model_keeps 81 = .ok (.iload_n 1, 1) := by decide +kernel
theorem d_Model_keeps_82 : decode cc_Model_keeps 82 = .ok (.iconst 2, 1) := by decide +kernel
theorem d_Model_keeps_83 : decode cc_Model_keeps 83 = .ok (.iand, 1) := by decide +kernel
theorem d_Model_keeps_84 : decode cc_Model_keeps 84 = .ok (.ireturn, 1) := by decide +kernel
theorem d_Model_keeps_85 : decode cc_Model_keeps 85 = .ok (.iload_n 1, 1) := by decide +kernel
theorem d_Model_keeps_86 : decode cc_Model_keeps 86 = .ok (.ldc 102, 2) := by decide +kernel
theorem d_Model_keeps_88 : decode cc_Model_keeps 88 = .ok (.iand, 1) := by decide +kernel
theorem d_Model_keeps_89 : decode cc_Model_keeps 89 = .ok (.ireturn, 1) := by decide +kernel
theorem d_Model_keeps_90 : decode cc_Model_keeps 90 = .ok (.iload_n 1, 1) := by decide +kernel
theorem d_Model_keeps_91 : decode cc_Model_keeps 91 = .ok (.ireturn, 1) := by decide +kernel
abbrev y_Model_write : MethodName := ⟨"TrapDeskModel", "write", "(II)V"⟩
abbrev cc_Model_write : ByteArray := prog_9_method_11_code
abbrev ws_Model_write : List Cond := Cond.code y_Model_write cc_Model_write 4 none :: gtb
theorem d_Model_write_0 : decode cc_Model_write 0 = .ok (.iload_n 1, 1) := by decide +kernel
theorem d_Model_write_1 : decode cc_Model_write 1 = .ok (.lookupswitch 261 #[(516, 99), (580, 129), (1536, 158), (1538, 169), (1539, 180), (1540, 192), (1603, 204), (1604, 212), (1605, 230), (1610, 242), (1664, 250)], 99) := by decide +kernel
theorem d_Model_write_100 : decode cc_Model_write 100 = .ok (.aload_n 0, 1) := by decide +kernel
theorem d_Model_write_101 : decode cc_Model_write 101 = .ok (.getfield 69, 3) := by decide +kernel
theorem d_Model_write_104 : decode cc_Model_write 104 = .ok (.sipush 1092, 3) := by decide +kernel
theorem d_Model_write_107 : decode cc_Model_write 107 = .ok (.iand, 1) := by decide +kernel
theorem d_Model_write_108 : decode cc_Model_write 108 = .ok (.istore_n 3, 1) := by decide +kernel
theorem d_Model_write_109 : decode cc_Model_write 109 = .ok (.aload_n 0, 1) := by decide +kernel
theorem d_Model_write_110 : decode cc_Model_write 110 = .ok (.aload_n 0, 1) := by decide +kernel
theorem d_Model_write_111 : decode cc_Model_write 111 = .ok (.getfield 72, 3) := by decide +kernel
theorem d_Model_write_114 : decode cc_Model_write 114 = .ok (.iload_n 3, 1) := by decide +kernel
theorem d_Model_write_115 : decode cc_Model_write 115 = .ok (.iconst (-1), 1) := by decide +kernel
theorem d_Model_write_116 : decode cc_Model_write 116 = .ok (.ixor, 1) := by decide +kernel
theorem d_Model_write_117 : decode cc_Model_write 117 = .ok (.iand, 1) := by decide +kernel
theorem d_Model_write_118 : decode cc_Model_write 118 = .ok (.iload_n 2, 1) := by decide +kernel
theorem d_Model_write_119 : decode cc_Model_write 119 = .ok (.iconst 1, 1) := by decide +kernel
theorem d_Model_write_120 : decode cc_Model_write 120 = .ok (.ishl, 1) := by decide +kernel
theorem d_Model_write_121 : decode cc_Model_write 121 = .ok (.iload_n 3, 1) := by decide +kernel
theorem d_Model_write_122 : decode cc_Model_write 122 = .ok (.iand, 1) := by decide +kernel
theorem d_Model_write_123 : decode cc_Model_write 123 = .ok (.ior, 1) := by decide +kernel
theorem d_Model_write_124 : decode cc_Model_write 124 = .ok (.putfield 72, 3) := by decide +kernel
theorem d_Model_write_127 : decode cc_Model_write 127 = .ok (.goto 154, 3) := by decide +kernel
theorem d_Model_write_130 : decode cc_Model_write 130 = .ok (.aload_n 0, 1) := by decide +kernel
theorem d_Model_write_131 : decode cc_Model_write 131 = .ok (.getfield 69, 3) := by decide +kernel
theorem d_Model_write_134 : decode cc_Model_write 134 = .ok (.iconst 4, 1) := by decide +kernel
theorem d_Model_write_135 : decode cc_Model_write 135 = .ok (.iand, 1) := by decide +kernel
theorem d_Model_write_136 : decode cc_Model_write 136 = .ok (.ifCond .eq 145, 3) := by decide +kernel
theorem d_Model_write_139 : decode cc_Model_write 139 = .ok (.aload_n 0, 1) := by decide +kernel
theorem d_Model_write_140 : decode cc_Model_write 140 = .ok (.aload_n 0, 1) := by decide +kernel
theorem d_Model_write_141 : decode cc_Model_write 141 = .ok (.getfield 78, 3) := by decide +kernel
theorem d_Model_write_144 : decode cc_Model_write 144 = .ok (.bipush (-5), 2) := by decide +kernel
theorem d_Model_write_146 : decode cc_Model_write 146 = .ok (.iand, 1) := by decide +kernel
theorem d_Model_write_147 : decode cc_Model_write 147 = .ok (.iload_n 2, 1) := by decide +kernel
theorem d_Model_write_148 : decode cc_Model_write 148 = .ok (.iconst 1, 1) := by decide +kernel
theorem d_Model_write_149 : decode cc_Model_write 149 = .ok (.ishl, 1) := by decide +kernel
theorem d_Model_write_150 : decode cc_Model_write 150 = .ok (.iconst 4, 1) := by decide +kernel
theorem d_Model_write_151 : decode cc_Model_write 151 = .ok (.iand, 1) := by decide +kernel
theorem d_Model_write_152 : decode cc_Model_write 152 = .ok (.ior, 1) := by decide +kernel
theorem d_Model_write_153 : decode cc_Model_write 153 = .ok (.putfield 78, 3) := by decide +kernel
theorem d_Model_write_156 : decode cc_Model_write 156 = .ok (.goto 125, 3) := by decide +kernel
theorem d_Model_write_159 : decode cc_Model_write 159 = .ok (.aload_n 0, 1) := by decide +kernel
theorem d_Model_write_160 : decode cc_Model_write 160 = .ok (.iload_n 2, 1) := by decide +kernel
theorem d_Model_write_161 : decode cc_Model_write 161 = .ok (.ldc 103, 2) := by decide +kernel
theorem d_Model_write_163 : decode cc_Model_write 163 = .ok (.iand, 1) := by decide +kernel
theorem d_Model_write_164 : decode cc_Model_write 164 = .ok (.putfield 63, 3) := by decide +kernel
theorem d_Model_write_167 : decode cc_Model_write 167 = .ok (.goto 114, 3) := by decide +kernel
theorem d_Model_write_170 : decode cc_Model_write 170 = .ok (.aload_n 0, 1) := by decide +kernel
theorem d_Model_write_171 : decode cc_Model_write 171 = .ok (.iload_n 2, 1) := by decide +kernel
theorem d_Model_write_172 : decode cc_Model_write 172 = .ok (.ldc 104, 2) := by decide +kernel
theorem d_Model_write_174 : decode cc_Model_write 174 = .ok (.iand, 1) := by decide +kernel
theorem d_Model_write_175 : decode cc_Model_write 175 = .ok (.putfield 66, 3) := by decide +kernel
theorem d_Model_write_178 : decode cc_Model_write 178 = .ok (.goto 103, 3) := by decide +kernel
theorem d_Model_write_181 : decode cc_Model_write 181 = .ok (.aload_n 0, 1) := by decide +kernel
theorem d_Model_write_182 : decode cc_Model_write 182 = .ok (.iload_n 2, 1) := by decide +kernel
theorem d_Model_write_183 : decode cc_Model_write 183 = .ok (.sipush 1092, 3) := by decide +kernel
theorem d_Model_write_186 : decode cc_Model_write 186 = .ok (.iand, 1) := by decide +kernel
theorem d_Model_write_187 : decode cc_Model_write 187 = .ok (.putfield 69, 3) := by decide +kernel
theorem d_Model_write_190 : decode cc_Model_write 190 = .ok (.goto 91, 3) := by decide +kernel
theorem d_Model_write_193 : decode cc_Model_write 193 = .ok (.aload_n 0, 1) := by decide +kernel
theorem d_Model_write_194 : decode cc_Model_write 194 = .ok (.iload_n 2, 1) := by decide +kernel
theorem d_Model_write_195 : decode cc_Model_write 195 = .ok (.sipush 1092, 3) := by decide +kernel
theorem d_Model_write_198 : decode cc_Model_write 198 = .ok (.iand, 1) := by decide +kernel
theorem d_Model_write_199 : decode cc_Model_write 199 = .ok (.putfield 72, 3) := by decide +kernel
theorem d_Model_write_202 : decode cc_Model_write 202 = .ok (.goto 79, 3) := by decide +kernel
theorem d_Model_write_205 : decode cc_Model_write 205 = .ok (.aload_n 0, 1) := by decide +kernel
theorem d_Model_write_206 : decode cc_Model_write 206 = .ok (.iload_n 2, 1) := by decide +kernel
theorem d_Model_write_207 : decode cc_Model_write 207 = .ok (.putfield 75, 3) := by decide +kernel
theorem d_Model_write_210 : decode cc_Model_write 210 = .ok (.goto 71, 3) := by decide +kernel
theorem d_Model_write_213 : decode cc_Model_write 213 = .ok (.aload_n 0, 1) := by decide +kernel
theorem d_Model_write_214 : decode cc_Model_write 214 = .ok (.aload_n 0, 1) := by decide +kernel
theorem d_Model_write_215 : decode cc_Model_write 215 = .ok (.getfield 78, 3) := by decide +kernel
theorem d_Model_write_218 : decode cc_Model_write 218 = .ok (.bipush (-5), 2) := by decide +kernel
theorem d_Model_write_220 : decode cc_Model_write 220 = .ok (.iand, 1) := by decide +kernel
theorem d_Model_write_221 : decode cc_Model_write 221 = .ok (.iload_n 2, 1) := by decide +kernel
theorem d_Model_write_222 : decode cc_Model_write 222 = .ok (.iconst 4, 1) := by decide +kernel
theorem d_Model_write_223 : decode cc_Model_write 223 = .ok (.iand, 1) := by decide +kernel
theorem d_Model_write_224 : decode cc_Model_write 224 = .ok (.ior, 1) := by decide +kernel
theorem d_Model_write_225 : decode cc_Model_write 225 = .ok (.putfield 78, 3) := by decide +kernel
theorem d_Model_write_228 : decode cc_Model_write 228 = .ok (.goto 53, 3) := by decide +kernel
theorem d_Model_write_231 : decode cc_Model_write 231 = .ok (.aload_n 0, 1) := by decide +kernel
theorem d_Model_write_232 : decode cc_Model_write 232 = .ok (.iload_n 2, 1) := by decide +kernel
theorem d_Model_write_233 : decode cc_Model_write 233 = .ok (.sipush 1092, 3) := by decide +kernel
theorem d_Model_write_236 : decode cc_Model_write 236 = .ok (.iand, 1) := by decide +kernel
theorem d_Model_write_237 : decode cc_Model_write 237 = .ok (.putfield 78, 3) := by decide +kernel
theorem d_Model_write_240 : decode cc_Model_write 240 = .ok (.goto 41, 3) := by decide +kernel
theorem d_Model_write_243 : decode cc_Model_write 243 = .ok (.aload_n 0, 1) := by decide +kernel
theorem d_Model_write_244 : decode cc_Model_write 244 = .ok (.iload_n 2, 1) := by decide +kernel
theorem d_Model_write_245 : decode cc_Model_write 245 = .ok (.putfield 81, 3) := by decide +kernel
theorem d_Model_write_248 : decode cc_Model_write 248 = .ok (.goto 33, 3) := by decide +kernel
theorem d_Model_write_251 : decode cc_Model_write 251 = .ok (.aload_n 0, 1) := by decide +kernel
theorem d_Model_write_252 : decode cc_Model_write 252 = .ok (.iload_n 2, 1) := by decide +kernel
theorem d_Model_write_253 : decode cc_Model_write 253 = .ok (.ldc 105, 2) := by decide +kernel
theorem d_Model_write_255 : decode cc_Model_write 255 = .ok (.iand, 1) := by decide +kernel
theorem d_Model_write_256 : decode cc_Model_write 256 = .ok (.putfield 84, 3) := by decide +kernel
theorem d_Model_write_259 : decode cc_Model_write 259 = .ok (.goto 22, 3) := by decide +kernel
theorem d_Model_write_262 : decode cc_Model_write 262 = .ok (.aload_n 0, 1) := by decide +kernel
theorem d_Model_write_263 : decode cc_Model_write 263 = .ok (.getfield 13, 3) := by decide +kernel
theorem d_Model_write_266 : decode cc_Model_write 266 = .ok (.iload_n 1, 1) := by decide +kernel
theorem d_Model_write_267 : decode cc_Model_write 267 = .ok (.sipush 256, 3) := by decide +kernel
theorem d_Model_write_270 : decode cc_Model_write 270 = .ok (.isub, 1) := by decide +kernel
theorem d_Model_write_271 : decode cc_Model_write 271 = .ok (.iload_n 1, 1) := by decide +kernel
theorem d_Model_write_272 : decode cc_Model_write 272 = .ok (.sipush 255, 3) := by decide +kernel
theorem d_Model_write_275 : decode cc_Model_write 275 = .ok (.iand, 1) := by decide +kernel
theorem d_Model_write_276 : decode cc_Model_write 276 = .ok (.iload_n 2, 1) := by decide +kernel
theorem d_Model_write_277 : decode cc_Model_write 277 = .ok (.invokestatic 106, 3) := by decide +kernel
theorem d_Model_write_280 : decode cc_Model_write 280 = .ok (.iastore, 1) := by decide +kernel
theorem d_Model_write_281 : decode cc_Model_write 281 = .ok (.return_, 1) := by decide +kernel
abbrev y_Model_put : MethodName := ⟨"TrapDeskModel", "put", "(II)I"⟩
abbrev cc_Model_put : ByteArray := prog_9_method_12_code
abbrev ws_Model_put : List Cond := Cond.code y_Model_put cc_Model_put 3 (some .int) :: gtb
theorem d_Model_put_0 : decode cc_Model_put 0 = .ok (.iload_n 1, 1) := by decide +kernel
theorem d_Model_put_1 : decode cc_Model_put 1 = .ok (.invokestatic 110, 3) := by decide +kernel
theorem d_Model_put_4 : decode cc_Model_put 4 = .ok (.ifCond .eq 10, 3) := by decide +kernel
theorem d_Model_put_7 : decode cc_Model_put 7 = .ok (.iload_n 1, 1) := by decide +kernel
theorem d_Model_put_8 : decode cc_Model_put 8 = .ok (.invokestatic 94, 3) := by decide +kernel
theorem d_Model_put_11 : decode cc_Model_put 11 = .ok (.ifCond .eq 5, 3) := by decide +kernel
theorem d_Model_put_14 : decode cc_Model_put 14 = .ok (.iconst (-1), 1) := by decide +kernel
theorem d_Model_put_15 : decode cc_Model_put 15 = .ok (.ireturn, 1) := by decide +kernel
theorem d_Model_put_16 : decode cc_Model_put 16 = .ok (.aload_n 0, 1) := by decide +kernel
theorem d_Model_put_17 : decode cc_Model_put 17 = .ok (.iload_n 1, 1) := by decide +kernel
theorem d_Model_put_18 : decode cc_Model_put 18 = .ok (.iload_n 2, 1) := by decide +kernel
theorem d_Model_put_19 : decode cc_Model_put 19 = .ok (.invokevirtual 113, 3) := by decide +kernel
theorem d_Model_put_22 : decode cc_Model_put 22 = .ok (.iconst 0, 1) := by decide +kernel
theorem d_Model_put_23 : decode cc_Model_put 23 = .ok (.ireturn, 1) := by decide +kernel
abbrev y_Model_get : MethodName := ⟨"TrapDeskModel", "get", "(I)I"⟩
abbrev cc_Model_get : ByteArray := prog_9_method_13_code
abbrev ws_Model_get : List Cond := Cond.code y_Model_get cc_Model_get 2 (some .int) :: gtb
theorem d_Model_get_0 : decode cc_Model_get 0 = .ok (.iload_n 1, 1) := by decide +kernel
theorem d_Model_get_1 : decode cc_Model_get 1 = .ok (.invokestatic 110, 3) := by decide +kernel
theorem d_Model_get_4 : decode cc_Model_get 4 = .ok (.ifCond .eq 11, 3) := by decide +kernel
theorem d_Model_get_7 : decode cc_Model_get 7 = .ok (.aload_n 0, 1) := by decide +kernel
theorem d_Model_get_8 : decode cc_Model_get 8 = .ok (.iload_n 1, 1) := by decide +kernel
theorem d_Model_get_9 : decode cc_Model_get 9 = .ok (.invokevirtual 117, 3) := by decide +kernel
theorem d_Model_get_12 : decode cc_Model_get 12 = .ok (.goto 4, 3) := by decide +kernel
theorem d_Model_get_15 : decode cc_Model_get 15 = .ok (.iconst 0, 1) := by decide +kernel
theorem d_Model_get_16 : decode cc_Model_get 16 = .ok (.ireturn, 1) := by decide +kernel
abbrev y_Model_has : MethodName := ⟨"TrapDeskModel", "has", "(I)Z"⟩
abbrev cc_Model_has : ByteArray := prog_9_method_14_code
abbrev ws_Model_has : List Cond := Cond.code y_Model_has cc_Model_has 2 (some .boolean) :: gtb
theorem d_Model_has_0 : decode cc_Model_has 0 = .ok (.aload_n 0, 1) := by decide +kernel
theorem d_Model_has_1 : decode cc_Model_has 1 = .ok (.getfield 63, 3) := by decide +kernel
theorem d_Model_has_4 : decode cc_Model_has 4 = .ok (.iload_n 1, 1) := by decide +kernel
theorem d_Model_has_5 : decode cc_Model_has 5 = .ok (.iand, 1) := by decide +kernel
theorem d_Model_has_6 : decode cc_Model_has 6 = .ok (.ifCond .eq 7, 3) := by decide +kernel
theorem d_Model_has_9 : decode cc_Model_has 9 = .ok (.iconst 1, 1) := by decide +kernel
theorem d_Model_has_10 : decode cc_Model_has 10 = .ok (.goto 4, 3) := by decide +kernel
theorem d_Model_has_13 : decode cc_Model_has 13 = .ok (.iconst 0, 1) := by decide +kernel
theorem d_Model_has_14 : decode cc_Model_has 14 = .ok (.ireturn, 1) := by decide +kernel
abbrev y_Model_access : MethodName := ⟨"TrapDeskModel", "access", "(IZ)I"⟩
abbrev cc_Model_access : ByteArray := prog_9_method_15_code
abbrev ws_Model_access : List Cond := Cond.code y_Model_access cc_Model_access 4 (some .int) :: gtb
theorem d_Model_access_0 : decode cc_Model_access 0 = .ok (.iload_n 1, 1) := by decide +kernel
theorem d_Model_access_1 : decode cc_Model_access 1 = .ok (.invokestatic 110, 3) := by decide +kernel
theorem d_Model_access_4 : decode cc_Model_access 4 = .ok (.ifCond .eq 14, 3) := by decide +kernel
theorem d_Model_access_7 : decode cc_Model_access 7 = .ok (.iload_n 2, 1) := by decide +kernel
theorem d_Model_access_8 : decode cc_Model_access 8 = .ok (.ifCond .eq 12, 3) := by decide +kernel
theorem d_Model_access_11 : decode cc_Model_access 11 = .ok (.iload_n 1, 1) := by decide +kernel
theorem d_Model_access_12 : decode cc_Model_access 12 = .ok (.invokestatic 94, 3) := by decide +kernel
theorem d_Model_access_15 : decode cc_Model_access 15 = .ok (.ifCond .eq 5, 3) := by decide +kernel
theorem d_Model_access_18 : decode cc_Model_access 18 = .ok (.iconst 2, 1) := by decide +kernel
theorem d_Model_access_19 : decode cc_Model_access 19 = .ok (.ireturn, 1) := by decide +kernel
theorem d_Model_access_20 : decode cc_Model_access 20 = .ok (.aload_n 0, 1) := by decide +kernel
theorem d_Model_access_21 : decode cc_Model_access 21 = .ok (.getfield 19, 3) := by decide +kernel
theorem d_Model_access_24 : decode cc_Model_access 24 = .ok (.iconst 1, 1) := by decide +kernel
theorem d_Model_access_25 : decode cc_Model_access 25 = .ok (.if_icmp .eq 10, 3) := by decide +kernel
theorem d_Model_access_28 : decode cc_Model_access 28 = .ok (.iload_n 1, 1) := by decide +kernel
theorem d_Model_access_29 : decode cc_Model_access 29 = .ok (.invokestatic 94, 3) := by decide +kernel
theorem d_Model_access_32 : decode cc_Model_access 32 = .ok (.ifCond .eq 5, 3) := by decide +kernel
theorem d_Model_access_35 : decode cc_Model_access 35 = .ok (.iconst 0, 1) := by decide +kernel
theorem d_Model_access_36 : decode cc_Model_access 36 = .ok (.ireturn, 1) := by decide +kernel
theorem d_Model_access_37 : decode cc_Model_access 37 = .ok (.aload_n 0, 1) := by decide +kernel
theorem d_Model_access_38 : decode cc_Model_access 38 = .ok (.getfield 19, 3) := by decide +kernel
theorem d_Model_access_41 : decode cc_Model_access 41 = .ok (.ifCond .ne 5, 3) := by decide +kernel
theorem d_Model_access_44 : decode cc_Model_access 44 = .ok (.iconst 2, 1) := by decide +kernel
theorem d_Model_access_45 : decode cc_Model_access 45 = .ok (.ireturn, 1) := by decide +kernel
theorem d_Model_access_46 : decode cc_Model_access 46 = .ok (.iload_n 1, 1) := by decide +kernel
theorem d_Model_access_47 : decode cc_Model_access 47 = .ok (.bipush 8, 2) := by decide +kernel
theorem d_Model_access_49 : decode cc_Model_access 49 = .ok (.ishr, 1) := by decide +kernel
theorem d_Model_access_50 : decode cc_Model_access 50 = .ok (.iconst 1, 1) := by decide +kernel
theorem d_Model_access_51 : decode cc_Model_access 51 = .ok (.if_icmp .ne 23, 3) := by decide +kernel
theorem d_Model_access_54 : decode cc_Model_access 54 = .ok (.iload_n 1, 1) := by decide +kernel
theorem d_Model_access_55 : decode cc_Model_access 55 = .ok (.sipush 384, 3) := by decide +kernel
theorem d_Model_access_58 : decode cc_Model_access 58 = .ok (.if_icmp .ne 12, 3) := by decide +kernel
theorem d_Model_access_61 : decode cc_Model_access 61 = .ok (.aload_n 0, 1) := by decide +kernel
theorem d_Model_access_62 : decode cc_Model_access 62 = .ok (.ldc 121, 2) := by decide +kernel
theorem d_Model_access_64 : decode cc_Model_access 64 = .ok (.invokevirtual 122, 3) := by decide +kernel
theorem d_Model_access_67 : decode cc_Model_access 67 = .ok (.ifCond .ne 7, 3) := by decide +kernel
theorem d_Model_access_70 : decode cc_Model_access 70 = .ok (.iconst 1, 1) := by decide +kernel
theorem d_Model_access_71 : decode cc_Model_access 71 = .ok (.goto 4, 3) := by decide +kernel
theorem d_Model_access_74 : decode cc_Model_access 74 = .ok (.iconst 0, 1) := by decide +kernel
theorem d_Model_access_75 : decode cc_Model_access 75 = .ok (.istore_n 3, 1) := by decide +kernel
theorem d_Model_access_76 : decode cc_Model_access 76 = .ok (.aload_n 0, 1) := by decide +kernel
theorem d_Model_access_77 : decode cc_Model_access 77 = .ok (.getfield 19, 3) := by decide +kernel
theorem d_Model_access_80 : decode cc_Model_access 80 = .ok (.iconst 3, 1) := by decide +kernel
theorem d_Model_access_81 : decode cc_Model_access 81 = .ok (.if_icmp .ne 11, 3) := by decide +kernel
theorem d_Model_access_84 : decode cc_Model_access 84 = .ok (.iload_n 3, 1) := by decide +kernel
theorem d_Model_access_85 : decode cc_Model_access 85 = .ok (.ifCond .eq 7, 3) := by decide +kernel
theorem d_Model_access_88 : decode cc_Model_access 88 = .ok (.iconst 0, 1) := by decide +kernel
theorem d_Model_access_89 : decode cc_Model_access 89 = .ok (.goto 5, 3) := by decide +kernel
theorem d_Model_access_92 : decode cc_Model_access 92 = .ok (.bipush 22, 2) := by decide +kernel
theorem d_Model_access_94 : decode cc_Model_access 94 = .ok (.ireturn, 1) := by decide +kernel
abbrev y_Model_isAddress : MethodName := ⟨"TrapDeskModel", "isAddress", "(I)Z"⟩
abbrev cc_Model_isAddress : ByteArray := prog_9_method_16_code
abbrev ws_Model_isAddress : List Cond := Cond.code y_Model_isAddress cc_Model_isAddress 1 (some .boolean) :: gtb
theorem d_Model_isAddress_0 : decode cc_Model_isAddress 0 = .ok (.iload_n 0, 1) := by decide +kernel
theorem d_Model_isAddress_1 : decode cc_Model_isAddress 1 = .ok (.ifCond .eq 55, 3) := by decide +kernel
theorem d_Model_isAddress_4 : decode cc_Model_isAddress 4 = .ok (.iload_n 0, 1) := by decide +kernel
theorem d_Model_isAddress_5 : decode cc_Model_isAddress 5 = .ok (.iconst 1, 1) := by decide +kernel
theorem d_Model_isAddress_6 : decode cc_Model_isAddress 6 = .ok (.if_icmp .eq 50, 3) := by decide +kernel
theorem d_Model_isAddress_9 : decode cc_Model_isAddress 9 = .ok (.iload_n 0, 1) := by decide +kernel
theorem d_Model_isAddress_10 : decode cc_Model_isAddress 10 = .ok (.iconst 3, 1) := by decide +kernel
theorem d_Model_isAddress_11 : decode cc_Model_isAddress 11 = .ok (.if_icmp .lt 9, 3) := by decide +kernel
theorem d_Model_isAddress_14 : decode cc_Model_isAddress 14 = .ok (.iload_n 0, 1) := by decide +kernel
theorem d_Model_isAddress_15 : decode cc_Model_isAddress 15 = .ok (.bipush 7, 2) := by decide +kernel
theorem d_Model_isAddress_17 : decode cc_Model_isAddress 17 = .ok (.if_icmp .le 39, 3) := by decide +kernel
theorem d_Model_isAddress_20 : decode cc_Model_isAddress 20 = .ok (.iload_n 0, 1) := by decide +kernel
theorem d_Model_isAddress_21 : decode cc_Model_isAddress 21 = .ok (.bipush 12, 2) := by decide +kernel
theorem d_Model_isAddress_23 : decode cc_Model_isAddress 23 = .ok (.if_icmp .eq 33, 3) := by decide +kernel
theorem d_Model_isAddress_26 : decode cc_Model_isAddress 26 = .ok (.iload_n 0, 1) := by decide +kernel
theorem d_Model_isAddress_27 : decode cc_Model_isAddress 27 = .ok (.bipush 13, 2) := by decide +kernel
theorem d_Model_isAddress_29 : decode cc_Model_isAddress 29 = .ok (.if_icmp .eq 27, 3) := by decide +kernel
theorem d_Model_isAddress_32 : decode cc_Model_isAddress 32 = .ok (.iload_n 0, 1) := by decide +kernel
theorem d_Model_isAddress_33 : decode cc_Model_isAddress 33 = .ok (.bipush 15, 2) := by decide +kernel
theorem d_Model_isAddress_35 : decode cc_Model_isAddress 35 = .ok (.if_icmp .eq 21, 3) := by decide +kernel
theorem d_Model_isAddress_38 : decode cc_Model_isAddress 38 = .ok (.iload_n 0, 1) := by decide +kernel
theorem d_Model_isAddress_39 : decode cc_Model_isAddress 39 = .ok (.bipush 20, 2) := by decide +kernel
theorem d_Model_isAddress_41 : decode cc_Model_isAddress 41 = .ok (.if_icmp .eq 15, 3) := by decide +kernel
theorem d_Model_isAddress_44 : decode cc_Model_isAddress 44 = .ok (.iload_n 0, 1) := by decide +kernel
theorem d_Model_isAddress_45 : decode cc_Model_isAddress 45 = .ok (.bipush 21, 2) := by decide +kernel
theorem d_Model_isAddress_47 : decode cc_Model_isAddress 47 = .ok (.if_icmp .eq 9, 3) := by decide +kernel
theorem d_Model_isAddress_50 : decode cc_Model_isAddress 50 = .ok (.iload_n 0, 1) := by decide +kernel
theorem d_Model_isAddress_51 : decode cc_Model_isAddress 51 = .ok (.bipush 23, 2) := by decide +kernel
theorem d_Model_isAddress_53 : decode cc_Model_isAddress 53 = .ok (.if_icmp .ne 7, 3) := by decide +kernel
theorem d_Model_isAddress_56 : decode cc_Model_isAddress 56 = .ok (.iconst 1, 1) := by decide +kernel
theorem d_Model_isAddress_57 : decode cc_Model_isAddress 57 = .ok (.goto 4, 3) := by decide +kernel
theorem d_Model_isAddress_60 : decode cc_Model_isAddress 60 = .ok (.iconst 0, 1) := by decide +kernel
theorem d_Model_isAddress_61 : decode cc_Model_isAddress 61 = .ok (.ireturn, 1) := by decide +kernel
abbrev y_Model_isVirtual : MethodName := ⟨"TrapDeskModel", "isVirtual", "()Z"⟩
abbrev cc_Model_isVirtual : ByteArray := prog_9_method_17_code
abbrev ws_Model_isVirtual : List Cond := Cond.code y_Model_isVirtual cc_Model_isVirtual 1 (some .boolean) :: gtb
theorem d_Model_isVirtual_0 : decode cc_Model_isVirtual 0 = .ok (.aload_n 0, 1) := by decide +kernel
theorem d_Model_isVirtual_1 : decode cc_Model_isVirtual 1 = .ok (.getfield 19, 3) := by decide +kernel
theorem d_Model_isVirtual_4 : decode cc_Model_isVirtual 4 = .ok (.iconst 2, 1) := by decide +kernel
theorem d_Model_isVirtual_5 : decode cc_Model_isVirtual 5 = .ok (.if_icmp .lt 7, 3) := by decide +kernel
theorem d_Model_isVirtual_8 : decode cc_Model_isVirtual 8 = .ok (.iconst 1, 1) := by decide +kernel
theorem d_Model_isVirtual_9 : decode cc_Model_isVirtual 9 = .ok (.goto 4, 3) := by decide +kernel
theorem d_Model_isVirtual_12 : decode cc_Model_isVirtual 12 = .ok (.iconst 0, 1) := by decide +kernel
theorem d_Model_isVirtual_13 : decode cc_Model_isVirtual 13 = .ok (.ireturn, 1) := by decide +kernel
abbrev y_Model_leave : MethodName := ⟨"TrapDeskModel", "leave", "(III)V"⟩
abbrev cc_Model_leave : ByteArray := prog_9_method_18_code
abbrev ws_Model_leave : List Cond := Cond.code y_Model_leave cc_Model_leave 7 none :: gtb
theorem d_Model_leave_0 : decode cc_Model_leave 0 = .ok (.aload_n 0, 1) := by decide +kernel
theorem d_Model_leave_1 : decode cc_Model_leave 1 = .ok (.getfield 13, 3) := by decide +kernel
theorem d_Model_leave_4 : decode cc_Model_leave 4 = .ok (.iload_n 1, 1) := by decide +kernel
theorem d_Model_leave_5 : decode cc_Model_leave 5 = .ok (.bipush 65, 2) := by decide +kernel
theorem d_Model_leave_7 : decode cc_Model_leave 7 = .ok (.iadd, 1) := by decide +kernel
theorem d_Model_leave_8 : decode cc_Model_leave 8 = .ok (.aload_n 0, 1) := by decide +kernel
theorem d_Model_leave_9 : decode cc_Model_leave 9 = .ok (.getfield 23, 3) := by decide +kernel
theorem d_Model_leave_12 : decode cc_Model_leave 12 = .ok (.iastore, 1) := by decide +kernel
theorem d_Model_leave_13 : decode cc_Model_leave 13 = .ok (.aload_n 0, 1) := by decide +kernel
theorem d_Model_leave_14 : decode cc_Model_leave 14 = .ok (.getfield 13, 3) := by decide +kernel
theorem d_Model_leave_17 : decode cc_Model_leave 17 = .ok (.iload_n 1, 1) := by decide +kernel
theorem d_Model_leave_18 : decode cc_Model_leave 18 = .ok (.bipush 66, 2) := by decide +kernel
theorem d_Model_leave_20 : decode cc_Model_leave 20 = .ok (.iadd, 1) := by decide +kernel
theorem d_Model_leave_21 : decode cc_Model_leave 21 = .ok (.iload_n 2, 1) := by decide +kernel
theorem d_Model_leave_22 : decode cc_Model_leave 22 = .ok (.iastore, 1) := by decide +kernel
theorem d_Model_leave_23 : decode cc_Model_leave 23 = .ok (.aload_n 0, 1) := by decide +kernel
theorem d_Model_leave_24 : decode cc_Model_leave 24 = .ok (.getfield 13, 3) := by decide +kernel
theorem d_Model_leave_27 : decode cc_Model_leave 27 = .ok (.iload_n 1, 1) := by decide +kernel
theorem d_Model_leave_28 : decode cc_Model_leave 28 = .ok (.bipush 67, 2) := by decide +kernel
theorem d_Model_leave_30 : decode cc_Model_leave 30 = .ok (.iadd, 1) := by decide +kernel
theorem d_Model_leave_31 : decode cc_Model_leave 31 = .ok (.iload_n 3, 1) := by decide +kernel
theorem d_Model_leave_32 : decode cc_Model_leave 32 = .ok (.iastore, 1) := by decide +kernel
theorem d_Model_leave_33 : decode cc_Model_leave 33 = .ok (.aload_n 0, 1) := by decide +kernel
theorem d_Model_leave_34 : decode cc_Model_leave 34 = .ok (.getfield 13, 3) := by decide +kernel
theorem d_Model_leave_37 : decode cc_Model_leave 37 = .ok (.iload_n 1, 1) := by decide +kernel
theorem d_Model_leave_38 : decode cc_Model_leave 38 = .ok (.iconst 0, 1) := by decide +kernel
theorem d_Model_leave_39 : decode cc_Model_leave 39 = .ok (.iadd, 1) := by decide +kernel
theorem d_Model_leave_40 : decode cc_Model_leave 40 = .ok (.iaload, 1) := by decide +kernel
theorem d_Model_leave_41 : decode cc_Model_leave 41 = .ok (.istore 4, 2) := by decide +kernel
theorem d_Model_leave_43 : decode cc_Model_leave 43 = .ok (.aload_n 0, 1) := by decide +kernel
theorem d_Model_leave_44 : decode cc_Model_leave 44 = .ok (.getfield 19, 3) := by decide +kernel
theorem d_Model_leave_47 : decode cc_Model_leave 47 = .ok (.iconst 1, 1) := by decide +kernel
theorem d_Model_leave_48 : decode cc_Model_leave 48 = .ok (.if_icmp .eq 11, 3) := by decide +kernel
theorem d_Model_leave_51 : decode cc_Model_leave 51 = .ok (.aload_n 0, 1) := by decide +kernel
theorem d_Model_leave_52 : decode cc_Model_leave 52 = .ok (.getfield 19, 3) := by decide +kernel
theorem d_Model_leave_55 : decode cc_Model_leave 55 = .ok (.iconst 3, 1) := by decide +kernel
theorem d_Model_leave_56 : decode cc_Model_leave 56 = .ok (.if_icmp .ne 7, 3) := by decide +kernel
theorem d_Model_leave_59 : decode cc_Model_leave 59 = .ok (.iconst 1, 1) := by decide +kernel
theorem d_Model_leave_60 : decode cc_Model_leave 60 = .ok (.goto 4, 3) := by decide +kernel
theorem d_Model_leave_63 : decode cc_Model_leave 63 = .ok (.iconst 0, 1) := by decide +kernel
theorem d_Model_leave_64 : decode cc_Model_leave 64 = .ok (.istore 5, 2) := by decide +kernel
theorem d_Model_leave_66 : decode cc_Model_leave 66 = .ok (.iload 4, 2) := by decide +kernel
theorem d_Model_leave_68 : decode cc_Model_leave 68 = .ok (.sipush (-291), 3) := by decide +kernel
theorem d_Model_leave_71 : decode cc_Model_leave 71 = .ok (.iand, 1) := by decide +kernel
theorem d_Model_leave_72 : decode cc_Model_leave 72 = .ok (.iload 4, 2) := by decide +kernel
theorem d_Model_leave_74 : decode cc_Model_leave 74 = .ok (.iconst 2, 1) := by decide +kernel
theorem d_Model_leave_75 : decode cc_Model_leave 75 = .ok (.iand, 1) := by decide +kernel
theorem d_Model_leave_76 : decode cc_Model_leave 76 = .ok (.iconst 4, 1) := by decide +kernel
theorem d_Model_leave_77 : decode cc_Model_leave 77 = .ok (.ishl, 1) := by decide +kernel
theorem d_Model_leave_78 : decode cc_Model_leave 78 = .ok (.ior, 1) := by decide +kernel
theorem d_Model_leave_79 : decode cc_Model_leave 79 = .ok (.iload 5, 2) := by decide +kernel
theorem d_Model_leave_81 : decode cc_Model_leave 81 = .ok (.ifCond .eq 9, 3) := by decide +kernel
theorem d_Model_leave_84 : decode cc_Model_leave 84 = .ok (.sipush 256, 3) := by decide +kernel
theorem d_Model_leave_87 : decode cc_Model_leave 87 = .ok (.goto 4, 3) := by decide +kernel
theorem d_Model_leave_90 : decode cc_Model_leave 90 = .ok (.iconst 0, 1) := by decide +kernel
theorem d_Model_leave_91 : decode cc_Model_leave 91 = .ok (.ior, 1) := by decide +kernel
theorem d_Model_leave_92 : decode cc_Model_leave 92 = .ok (.istore 4, 2) := by decide +kernel
theorem d_Model_leave_94 : decode cc_Model_leave 94 = .ok (.aload_n 0, 1) := by decide +kernel
theorem d_Model_leave_95 : decode cc_Model_leave 95 = .ok (.getfield 13, 3) := by decide +kernel
theorem d_Model_leave_98 : decode cc_Model_leave 98 = .ok (.iload_n 1, 1) := by decide +kernel
theorem d_Model_leave_99 : decode cc_Model_leave 99 = .ok (.iconst 0, 1) := by decide +kernel
theorem d_Model_leave_100 : decode cc_Model_leave 100 = .ok (.iadd, 1) := by decide +kernel
theorem d_Model_leave_101 : decode cc_Model_leave 101 = .ok (.iload 4, 2) := by decide +kernel
theorem d_Model_leave_103 : decode cc_Model_leave 103 = .ok (.iastore, 1) := by decide +kernel
theorem d_Model_leave_104 : decode cc_Model_leave 104 = .ok (.aload_n 0, 1) := by decide +kernel
theorem d_Model_leave_105 : decode cc_Model_leave 105 = .ok (.getfield 13, 3) := by decide +kernel
theorem d_Model_leave_108 : decode cc_Model_leave 108 = .ok (.iload_n 1, 1) := by decide +kernel
theorem d_Model_leave_109 : decode cc_Model_leave 109 = .ok (.iconst 5, 1) := by decide +kernel
theorem d_Model_leave_110 : decode cc_Model_leave 110 = .ok (.iadd, 1) := by decide +kernel
theorem d_Model_leave_111 : decode cc_Model_leave 111 = .ok (.iaload, 1) := by decide +kernel
theorem d_Model_leave_112 : decode cc_Model_leave 112 = .ok (.istore 6, 2) := by decide +kernel
theorem d_Model_leave_114 : decode cc_Model_leave 114 = .ok (.aload_n 0, 1) := by decide +kernel
theorem d_Model_leave_115 : decode cc_Model_leave 115 = .ok (.iload 6, 2) := by decide +kernel
theorem d_Model_leave_117 : decode cc_Model_leave 117 = .ok (.bipush (-4), 2) := by decide +kernel
theorem d_Model_leave_119 : decode cc_Model_leave 119 = .ok (.iand, 1) := by decide +kernel
theorem d_Model_leave_120 : decode cc_Model_leave 120 = .ok (.putfield 23, 3) := by decide +kernel
theorem d_Model_leave_123 : decode cc_Model_leave 123 = .ok (.iload_n 2, 1) := by decide +kernel
theorem d_Model_leave_124 : decode cc_Model_leave 124 = .ok (.ifCond .ge 26, 3) := by decide +kernel
theorem d_Model_leave_127 : decode cc_Model_leave 127 = .ok (.iload 6, 2) := by decide +kernel
theorem d_Model_leave_129 : decode cc_Model_leave 129 = .ok (.iconst 1, 1) := by decide +kernel
theorem d_Model_leave_130 : decode cc_Model_leave 130 = .ok (.iand, 1) := by decide +kernel
theorem d_Model_leave_131 : decode cc_Model_leave 131 = .ok (.iconst 1, 1) := by decide +kernel
theorem d_Model_leave_132 : decode cc_Model_leave 132 = .ok (.if_icmp .ne 18, 3) := by decide +kernel
theorem d_Model_leave_135 : decode cc_Model_leave 135 = .ok (.aload_n 0, 1) := by decide +kernel
theorem d_Model_leave_136 : decode cc_Model_leave 136 = .ok (.dup, 1) := by decide +kernel
theorem d_Model_leave_137 : decode cc_Model_leave 137 = .ok (.getfield 23, 3) := by decide +kernel
theorem d_Model_leave_140 : decode cc_Model_leave 140 = .ok (.iconst 4, 1) := by decide +kernel
theorem d_Model_leave_141 : decode cc_Model_leave 141 = .ok (.iload_n 2, 1) := by decide +kernel
theorem d_Model_leave_142 : decode cc_Model_leave 142 = .ok (.ldc 125, 2) := by decide +kernel
theorem d_Model_leave_144 : decode cc_Model_leave 144 = .ok (.iand, 1) := by decide +kernel
theorem d_Model_leave_145 : decode cc_Model_leave 145 = .ok (.imul, 1) := by decide +kernel
theorem d_Model_leave_146 : decode cc_Model_leave 146 = .ok (.iadd, 1) := by decide +kernel
theorem d_Model_leave_147 : decode cc_Model_leave 147 = .ok (.putfield 23, 3) := by decide +kernel
theorem d_Model_leave_150 : decode cc_Model_leave 150 = .ok (.return_, 1) := by decide +kernel
abbrev y_Model_toS : MethodName := ⟨"TrapDeskModel", "toS", "(IIZIZ)V"⟩
abbrev cc_Model_toS : ByteArray := prog_9_method_19_code
abbrev ws_Model_toS : List Cond := Cond.code y_Model_toS cc_Model_toS 9 none :: gtb
theorem d_Model_toS_0 : decode cc_Model_toS 0 = .ok (.iload_n 1, 1) := by decide +kernel
theorem d_Model_toS_1 : decode cc_Model_toS 1 = .ok (.ifCond .lt 14, 3) := by decide +kernel
theorem d_Model_toS_4 : decode cc_Model_toS 4 = .ok (.iload_n 1, 1) := by decide +kernel
theorem d_Model_toS_5 : decode cc_Model_toS 5 = .ok (.invokestatic 126, 3) := by decide +kernel
theorem d_Model_toS_8 : decode cc_Model_toS 8 = .ok (.ifCond .eq 7, 3) := by decide +kernel
theorem d_Model_toS_11 : decode cc_Model_toS 11 = .ok (.iconst 1, 1) := by decide +kernel
theorem d_Model_toS_12 : decode cc_Model_toS 12 = .ok (.goto 4, 3) := by decide +kernel
theorem d_Model_toS_15 : decode cc_Model_toS 15 = .ok (.iconst 0, 1) := by decide +kernel
theorem d_Model_toS_16 : decode cc_Model_toS 16 = .ok (.istore 6, 2) := by decide +kernel
theorem d_Model_toS_18 : decode cc_Model_toS 18 = .ok (.iload 6, 2) := by decide +kernel
theorem d_Model_toS_20 : decode cc_Model_toS 20 = .ok (.ifCond .eq 18, 3) := by decide +kernel
theorem d_Model_toS_23 : decode cc_Model_toS 23 = .ok (.aload_n 0, 1) := by decide +kernel
theorem d_Model_toS_24 : decode cc_Model_toS 24 = .ok (.invokevirtual 129, 3) := by decide +kernel
theorem d_Model_toS_27 : decode cc_Model_toS 27 = .ok (.ifCond .ne 7, 3) := by decide +kernel
theorem d_Model_toS_30 : decode cc_Model_toS 30 = .ok (.iload_n 3, 1) := by decide +kernel
theorem d_Model_toS_31 : decode cc_Model_toS 31 = .ok (.ifCond .eq 7, 3) := by decide +kernel
theorem d_Model_toS_34 : decode cc_Model_toS 34 = .ok (.iconst 1, 1) := by decide +kernel
theorem d_Model_toS_35 : decode cc_Model_toS 35 = .ok (.goto 4, 3) := by decide +kernel
theorem d_Model_toS_38 : decode cc_Model_toS 38 = .ok (.iconst 0, 1) := by decide +kernel
theorem d_Model_toS_39 : decode cc_Model_toS 39 = .ok (.istore 7, 2) := by decide +kernel
theorem d_Model_toS_41 : decode cc_Model_toS 41 = .ok (.iload_n 1, 1) := by decide +kernel
theorem d_Model_toS_42 : decode cc_Model_toS 42 = .ok (.bipush 20, 2) := by decide +kernel
theorem d_Model_toS_44 : decode cc_Model_toS 44 = .ok (.if_icmp .eq 15, 3) := by decide +kernel
theorem d_Model_toS_47 : decode cc_Model_toS 47 = .ok (.iload_n 1, 1) := by decide +kernel
theorem d_Model_toS_48 : decode cc_Model_toS 48 = .ok (.bipush 21, 2) := by decide +kernel
theorem d_Model_toS_50 : decode cc_Model_toS 50 = .ok (.if_icmp .eq 9, 3) := by decide +kernel
theorem d_Model_toS_53 : decode cc_Model_toS 53 = .ok (.iload_n 1, 1) := by decide +kernel
theorem d_Model_toS_54 : decode cc_Model_toS 54 = .ok (.bipush 23, 2) := by decide +kernel
theorem d_Model_toS_56 : decode cc_Model_toS 56 = .ok (.if_icmp .ne 7, 3) := by decide +kernel
theorem d_Model_toS_59 : decode cc_Model_toS 59 = .ok (.iconst 1, 1) := by decide +kernel
theorem d_Model_toS_60 : decode cc_Model_toS 60 = .ok (.goto 4, 3) := by decide +kernel
theorem d_Model_toS_63 : decode cc_Model_toS 63 = .ok (.iconst 0, 1) := by decide +kernel
theorem d_Model_toS_64 : decode cc_Model_toS 64 = .ok (.istore 8, 2) := by decide +kernel
theorem d_Model_toS_66 : decode cc_Model_toS 66 = .ok (.aload_n 0, 1) := by decide +kernel
theorem d_Model_toS_67 : decode cc_Model_toS 67 = .ok (.iconst 0, 1) := by decide +kernel
theorem d_Model_toS_68 : decode cc_Model_toS 68 = .ok (.iload_n 1, 1) := by decide +kernel
theorem d_Model_toS_69 : decode cc_Model_toS 69 = .ok (.iload_n 2, 1) := by decide +kernel
theorem d_Model_toS_70 : decode cc_Model_toS 70 = .ok (.invokevirtual 133, 3) := by decide +kernel
theorem d_Model_toS_73 : decode cc_Model_toS 73 = .ok (.aload_n 0, 1) := by decide +kernel
theorem d_Model_toS_74 : decode cc_Model_toS 74 = .ok (.aload_n 0, 1) := by decide +kernel
theorem d_Model_toS_75 : decode cc_Model_toS 75 = .ok (.getfield 63, 3) := by decide +kernel
theorem d_Model_toS_78 : decode cc_Model_toS 78 = .ok (.sipush (-193), 3) := by decide +kernel
theorem d_Model_toS_81 : decode cc_Model_toS 81 = .ok (.iand, 1) := by decide +kernel
theorem d_Model_toS_82 : decode cc_Model_toS 82 = .ok (.iload 7, 2) := by decide +kernel
theorem d_Model_toS_84 : decode cc_Model_toS 84 = .ok (.ifCond .eq 8, 3) := by decide +kernel
theorem d_Model_toS_87 : decode cc_Model_toS 87 = .ok (.bipush 64, 2) := by decide +kernel
theorem d_Model_toS_89 : decode cc_Model_toS 89 = .ok (.goto 4, 3) := by decide +kernel
theorem d_Model_toS_92 : decode cc_Model_toS 92 = .ok (.iconst 0, 1) := by decide +kernel
theorem d_Model_toS_93 : decode cc_Model_toS 93 = .ok (.ior, 1) := by decide +kernel
theorem d_Model_toS_94 : decode cc_Model_toS 94 = .ok (.putfield 63, 3) := by decide +kernel
theorem d_Model_toS_97 : decode cc_Model_toS 97 = .ok (.aload_n 0, 1) := by decide +kernel
theorem d_Model_toS_98 : decode cc_Model_toS 98 = .ok (.invokevirtual 129, 3) := by decide +kernel
theorem d_Model_toS_101 : decode cc_Model_toS 101 = .ok (.ifCond .eq 35, 3) := by decide +kernel
theorem d_Model_toS_104 : decode cc_Model_toS 104 = .ok (.aload_n 0, 1) := by decide +kernel
theorem d_Model_toS_105 : decode cc_Model_toS 105 = .ok (.aload_n 0, 1) := by decide +kernel
theorem d_Model_toS_106 : decode cc_Model_toS 106 = .ok (.getfield 63, 3) := by decide +kernel
theorem d_Model_toS_109 : decode cc_Model_toS 109 = .ok (.sipush (-257), 3) := by decide +kernel
theorem d_Model_toS_112 : decode cc_Model_toS 112 = .ok (.iand, 1) := by decide +kernel
theorem d_Model_toS_113 : decode cc_Model_toS 113 = .ok (.sipush 128, 3) := by decide +kernel
theorem d_Model_toS_116 : decode cc_Model_toS 116 = .ok (.ior, 1) := by decide +kernel
theorem d_Model_toS_117 : decode cc_Model_toS 117 = .ok (.aload_n 0, 1) := by decide +kernel
theorem d_Model_toS_118 : decode cc_Model_toS 118 = .ok (.getfield 19, 3) := by decide +kernel
theorem d_Model_toS_121 : decode cc_Model_toS 121 = .ok (.iconst 3, 1) := by decide +kernel
theorem d_Model_toS_122 : decode cc_Model_toS 122 = .ok (.if_icmp .ne 9, 3) := by decide +kernel
theorem d_Model_toS_125 : decode cc_Model_toS 125 = .ok (.sipush 256, 3) := by decide +kernel
theorem d_Model_toS_128 : decode cc_Model_toS 128 = .ok (.goto 4, 3) := by decide +kernel
theorem d_Model_toS_131 : decode cc_Model_toS 131 = .ok (.iconst 0, 1) := by decide +kernel
theorem d_Model_toS_132 : decode cc_Model_toS 132 = .ok (.ior, 1) := by decide +kernel
theorem d_Model_toS_133 : decode cc_Model_toS 133 = .ok (.putfield 63, 3) := by decide +kernel
theorem d_Model_toS_136 : decode cc_Model_toS 136 = .ok (.aload_n 0, 1) := by decide +kernel
theorem d_Model_toS_137 : decode cc_Model_toS 137 = .ok (.iload 8, 2) := by decide +kernel
theorem d_Model_toS_139 : decode cc_Model_toS 139 = .ok (.ifCond .eq 8, 3) := by decide +kernel
theorem d_Model_toS_142 : decode cc_Model_toS 142 = .ok (.iload 4, 2) := by decide +kernel
theorem d_Model_toS_144 : decode cc_Model_toS 144 = .ok (.goto 4, 3) := by decide +kernel
theorem d_Model_toS_147 : decode cc_Model_toS 147 = .ok (.iconst 0, 1) := by decide +kernel
theorem d_Model_toS_148 : decode cc_Model_toS 148 = .ok (.putfield 75, 3) := by decide +kernel
theorem d_Model_toS_151 : decode cc_Model_toS 151 = .ok (.aload_n 0, 1) := by decide +kernel
theorem d_Model_toS_152 : decode cc_Model_toS 152 = .ok (.iload 8, 2) := by decide +kernel
theorem d_Model_toS_154 : decode cc_Model_toS 154 = .ok (.ifCond .eq 14, 3) := by decide +kernel
theorem d_Model_toS_157 : decode cc_Model_toS 157 = .ok (.iload 5, 2) := by decide +kernel
theorem d_Model_toS_159 : decode cc_Model_toS 159 = .ok (.ifCond .eq 9, 3) := by decide +kernel
theorem d_Model_toS_162 : decode cc_Model_toS 162 = .ok (.sipush 8192, 3) := by decide +kernel
theorem d_Model_toS_165 : decode cc_Model_toS 165 = .ok (.goto 4, 3) := by decide +kernel
theorem d_Model_toS_168 : decode cc_Model_toS 168 = .ok (.iconst 0, 1) := by decide +kernel
theorem d_Model_toS_169 : decode cc_Model_toS 169 = .ok (.putfield 81, 3) := by decide +kernel
theorem d_Model_toS_172 : decode cc_Model_toS 172 = .ok (.aload_n 0, 1) := by decide +kernel
theorem d_Model_toS_173 : decode cc_Model_toS 173 = .ok (.iconst 1, 1) := by decide +kernel
theorem d_Model_toS_174 : decode cc_Model_toS 174 = .ok (.putfield 19, 3) := by decide +kernel
theorem d_Model_toS_177 : decode cc_Model_toS 177 = .ok (.aload_n 0, 1) := by decide +kernel
theorem d_Model_toS_178 : decode cc_Model_toS 178 = .ok (.dup, 1) := by decide +kernel
theorem d_Model_toS_179 : decode cc_Model_toS 179 = .ok (.getfield 54, 3) := by decide +kernel
theorem d_Model_toS_182 : decode cc_Model_toS 182 = .ok (.iconst 1, 1) := by decide +kernel
theorem d_Model_toS_183 : decode cc_Model_toS 183 = .ok (.iadd, 1) := by decide +kernel
theorem d_Model_toS_184 : decode cc_Model_toS 184 = .ok (.putfield 54, 3) := by decide +kernel
theorem d_Model_toS_187 : decode cc_Model_toS 187 = .ok (.return_, 1) := by decide +kernel
abbrev y_Model_toVs : MethodName := ⟨"TrapDeskModel", "toVs", "(II)V"⟩
abbrev cc_Model_toVs : ByteArray := prog_9_method_20_code
abbrev ws_Model_toVs : List Cond := Cond.code y_Model_toVs cc_Model_toVs 3 none :: gtb
theorem d_Model_toVs_0 : decode cc_Model_toVs 0 = .ok (.aload_n 0, 1) := by decide +kernel
theorem d_Model_toVs_1 : decode cc_Model_toVs 1 = .ok (.sipush 256, 3) := by decide +kernel
theorem d_Model_toVs_4 : decode cc_Model_toVs 4 = .ok (.iload_n 1, 1) := by decide +kernel
theorem d_Model_toVs_5 : decode cc_Model_toVs 5 = .ok (.iload_n 2, 1) := by decide +kernel
theorem d_Model_toVs_6 : decode cc_Model_toVs 6 = .ok (.invokevirtual 133, 3) := by decide +kernel
theorem d_Model_toVs_9 : decode cc_Model_toVs 9 = .ok (.aload_n 0, 1) := by decide +kernel
theorem d_Model_toVs_10 : decode cc_Model_toVs 10 = .ok (.iconst 3, 1) := by decide +kernel
theorem d_Model_toVs_11 : decode cc_Model_toVs 11 = .ok (.putfield 19, 3) := by decide +kernel
theorem d_Model_toVs_14 : decode cc_Model_toVs 14 = .ok (.aload_n 0, 1) := by decide +kernel
theorem d_Model_toVs_15 : decode cc_Model_toVs 15 = .ok (.dup, 1) := by decide +kernel
theorem d_Model_toVs_16 : decode cc_Model_toVs 16 = .ok (.getfield 57, 3) := by decide +kernel
theorem d_Model_toVs_19 : decode cc_Model_toVs 19 = .ok (.iconst 1, 1) := by decide +kernel
theorem d_Model_toVs_20 : decode cc_Model_toVs 20 = .ok (.iadd, 1) := by decide +kernel
theorem d_Model_toVs_21 : decode cc_Model_toVs 21 = .ok (.putfield 57, 3) := by decide +kernel
theorem d_Model_toVs_24 : decode cc_Model_toVs 24 = .ok (.return_, 1) := by decide +kernel
abbrev y_Model_trap : MethodName := ⟨"TrapDeskModel", "trap", "(IIZIZ)V"⟩
abbrev cc_Model_trap : ByteArray := prog_9_method_21_code
abbrev ws_Model_trap : List Cond := Cond.code y_Model_trap cc_Model_trap 6 none :: gtb
theorem d_Model_trap_0 : decode cc_Model_trap 0 = .ok (.aload_n 0, 1) := by decide +kernel
theorem d_Model_trap_1 : decode cc_Model_trap 1 = .ok (.invokevirtual 129, 3) := by decide +kernel
theorem d_Model_trap_4 : decode cc_Model_trap 4 = .ok (.ifCond .eq 24, 3) := by decide +kernel
theorem d_Model_trap_7 : decode cc_Model_trap 7 = .ok (.aload_n 0, 1) := by decide +kernel
theorem d_Model_trap_8 : decode cc_Model_trap 8 = .ok (.getfield 66, 3) := by decide +kernel
theorem d_Model_trap_11 : decode cc_Model_trap 11 = .ok (.iload_n 1, 1) := by decide +kernel
theorem d_Model_trap_12 : decode cc_Model_trap 12 = .ok (.iushr, 1) := by decide +kernel
theorem d_Model_trap_13 : decode cc_Model_trap 13 = .ok (.iconst 1, 1) := by decide +kernel
theorem d_Model_trap_14 : decode cc_Model_trap 14 = .ok (.iand, 1) := by decide +kernel
theorem d_Model_trap_15 : decode cc_Model_trap 15 = .ok (.iconst 1, 1) := by decide +kernel
theorem d_Model_trap_16 : decode cc_Model_trap 16 = .ok (.if_icmp .ne 12, 3) := by decide +kernel
theorem d_Model_trap_19 : decode cc_Model_trap 19 = .ok (.aload_n 0, 1) := by decide +kernel
theorem d_Model_trap_20 : decode cc_Model_trap 20 = .ok (.iload_n 1, 1) := by decide +kernel
theorem d_Model_trap_21 : decode cc_Model_trap 21 = .ok (.iload_n 2, 1) := by decide +kernel
theorem d_Model_trap_22 : decode cc_Model_trap 22 = .ok (.invokevirtual 137, 3) := by decide +kernel
theorem d_Model_trap_25 : decode cc_Model_trap 25 = .ok (.goto 14, 3) := by decide +kernel
theorem d_Model_trap_28 : decode cc_Model_trap 28 = .ok (.aload_n 0, 1) := by decide +kernel
theorem d_Model_trap_29 : decode cc_Model_trap 29 = .ok (.iload_n 1, 1) := by decide +kernel
theorem d_Model_trap_30 : decode cc_Model_trap 30 = .ok (.iload_n 2, 1) := by decide +kernel
theorem d_Model_trap_31 : decode cc_Model_trap 31 = .ok (.iload_n 3, 1) := by decide +kernel
theorem d_Model_trap_32 : decode cc_Model_trap 32 = .ok (.iload 4, 2) := by decide +kernel
theorem d_Model_trap_34 : decode cc_Model_trap 34 = .ok (.iload 5, 2) := by decide +kernel
theorem d_Model_trap_36 : decode cc_Model_trap 36 = .ok (.invokevirtual 140, 3) := by decide +kernel
theorem d_Model_trap_39 : decode cc_Model_trap 39 = .ok (.return_, 1) := by decide +kernel
abbrev y_Model_fail : MethodName := ⟨"TrapDeskModel", "fail", "(IIZJZ)I"⟩
abbrev cc_Model_fail : ByteArray := prog_9_method_22_code
abbrev ws_Model_fail : List Cond := Cond.code y_Model_fail cc_Model_fail 8 (some .int) :: gtb
theorem d_Model_fail_0 : decode cc_Model_fail 0 = .ok (.iload_n 1, 1) := by decide +kernel
theorem d_Model_fail_1 : decode cc_Model_fail 1 = .ok (.invokestatic 126, 3) := by decide +kernel
theorem d_Model_fail_4 : decode cc_Model_fail 4 = .ok (.ifCond .eq 12, 3) := by decide +kernel
theorem d_Model_fail_7 : decode cc_Model_fail 7 = .ok (.iload_n 1, 1) := by decide +kernel
theorem d_Model_fail_8 : decode cc_Model_fail 8 = .ok (.iconst 3, 1) := by decide +kernel
theorem d_Model_fail_9 : decode cc_Model_fail 9 = .ok (.if_icmp .eq 7, 3) := by decide +kernel
theorem d_Model_fail_12 : decode cc_Model_fail 12 = .ok (.iconst 1, 1) := by decide +kernel
theorem d_Model_fail_13 : decode cc_Model_fail 13 = .ok (.goto 4, 3) := by decide +kernel
theorem d_Model_fail_16 : decode cc_Model_fail 16 = .ok (.iconst 0, 1) := by decide +kernel
theorem d_Model_fail_17 : decode cc_Model_fail 17 = .ok (.istore 7, 2) := by decide +kernel
theorem d_Model_fail_19 : decode cc_Model_fail 19 = .ok (.iload 7, 2) := by decide +kernel
theorem d_Model_fail_21 : decode cc_Model_fail 21 = .ok (.ifCond .eq 19, 3) := by decide +kernel
theorem d_Model_fail_24 : decode cc_Model_fail 24 = .ok (.lload 4, 2) := by decide +kernel
theorem d_Model_fail_26 : decode cc_Model_fail 26 = .ok (.lconst 0, 1) := by decide +kernel
theorem d_Model_fail_27 : decode cc_Model_fail 27 = .ok (.lcmp, 1) := by decide +kernel
theorem d_Model_fail_28 : decode cc_Model_fail 28 = .ok (.ifCond .lt 12, 3) := by decide +kernel
theorem d_Model_fail_31 : decode cc_Model_fail 31 = .ok (.lload 4, 2) := by decide +kernel
theorem d_Model_fail_33 : decode cc_Model_fail 33 = .ok (.ldc2_w 144, 3) := by decide +kernel
theorem d_Model_fail_36 : decode cc_Model_fail 36 = .ok (.lcmp, 1) := by decide +kernel
theorem d_Model_fail_37 : decode cc_Model_fail 37 = .ok (.ifCond .lt 5, 3) := by decide +kernel
theorem d_Model_fail_40 : decode cc_Model_fail 40 = .ok (.iconst (-1), 1) := by decide +kernel
theorem d_Model_fail_41 : decode cc_Model_fail 41 = .ok (.ireturn, 1) := by decide +kernel
theorem d_Model_fail_42 : decode cc_Model_fail 42 = .ok (.aload_n 0, 1) := by decide +kernel
theorem d_Model_fail_43 : decode cc_Model_fail 43 = .ok (.getfield 51, 3) := by decide +kernel
theorem d_Model_fail_46 : decode cc_Model_fail 46 = .ok (.ifCond .eq 6, 3) := by decide +kernel
theorem d_Model_fail_49 : decode cc_Model_fail 49 = .ok (.bipush (-3), 2) := by decide +kernel
theorem d_Model_fail_51 : decode cc_Model_fail 51 = .ok (.ireturn, 1) := by decide +kernel
theorem d_Model_fail_52 : decode cc_Model_fail 52 = .ok (.aload_n 0, 1) := by decide +kernel
theorem d_Model_fail_53 : decode cc_Model_fail 53 = .ok (.iload_n 1, 1) := by decide +kernel
theorem d_Model_fail_54 : decode cc_Model_fail 54 = .ok (.iload_n 2, 1) := by decide +kernel
theorem d_Model_fail_55 : decode cc_Model_fail 55 = .ok (.iload_n 3, 1) := by decide +kernel
theorem d_Model_fail_56 : decode cc_Model_fail 56 = .ok (.lload 4, 2) := by decide +kernel
theorem d_Model_fail_58 : decode cc_Model_fail 58 = .ok (.iconst 2, 1) := by decide +kernel
theorem d_Model_fail_59 : decode cc_Model_fail 59 = .ok (.lshr, 1) := by decide +kernel
theorem d_Model_fail_60 : decode cc_Model_fail 60 = .ok (.l2i, 1) := by decide +kernel
theorem d_Model_fail_61 : decode cc_Model_fail 61 = .ok (.iload 6, 2) := by decide +kernel
theorem d_Model_fail_63 : decode cc_Model_fail 63 = .ok (.invokevirtual 146, 3) := by decide +kernel
theorem d_Model_fail_66 : decode cc_Model_fail 66 = .ok (.aload_n 0, 1) := by decide +kernel
theorem d_Model_fail_67 : decode cc_Model_fail 67 = .ok (.getfield 19, 3) := by decide +kernel
theorem d_Model_fail_70 : decode cc_Model_fail 70 = .ok (.ireturn, 1) := by decide +kernel
abbrev y_Model_first : MethodName := ⟨"TrapDeskModel", "first", "(IIII)I"⟩
abbrev cc_Model_first : ByteArray := prog_9_method_23_code
abbrev ws_Model_first : List Cond := Cond.code y_Model_first cc_Model_first 4 (some .int) :: gtb
theorem d_Model_first_0 : decode cc_Model_first 0 = .ok (.iload_n 0, 1) := by decide +kernel
theorem d_Model_first_1 : decode cc_Model_first 1 = .ok (.iload_n 1, 1) := by decide +kernel
theorem d_Model_first_2 : decode cc_Model_first 2 = .ok (.ishr, 1) := by decide +kernel
theorem d_Model_first_3 : decode cc_Model_first 3 = .ok (.iconst 1, 1) := by decide +kernel
theorem d_Model_first_4 : decode cc_Model_first 4 = .ok (.iand, 1) := by decide +kernel
theorem d_Model_first_5 : decode cc_Model_first 5 = .ok (.iconst 1, 1) := by decide +kernel
theorem d_Model_first_6 : decode cc_Model_first 6 = .ok (.if_icmp .ne 7, 3) := by decide +kernel
theorem d_Model_first_9 : decode cc_Model_first 9 = .ok (.iload_n 1, 1) := by decide +kernel
theorem d_Model_first_10 : decode cc_Model_first 10 = .ok (.goto 30, 3) := by decide +kernel
theorem d_Model_first_13 : decode cc_Model_first 13 = .ok (.iload_n 0, 1) := by decide +kernel
theorem d_Model_first_14 : decode cc_Model_first 14 = .ok (.iload_n 2, 1) := by decide +kernel
theorem d_Model_first_15 : decode cc_Model_first 15 = .ok (.ishr, 1) := by decide +kernel
theorem d_Model_first_16 : decode cc_Model_first 16 = .ok (.iconst 1, 1) := by decide +kernel
theorem d_Model_first_17 : decode cc_Model_first 17 = .ok (.iand, 1) := by decide +kernel
theorem d_Model_first_18 : decode cc_Model_first 18 = .ok (.iconst 1, 1) := by decide +kernel
theorem d_Model_first_19 : decode cc_Model_first 19 = .ok (.if_icmp .ne 7, 3) := by decide +kernel
theorem d_Model_first_22 : decode cc_Model_first 22 = .ok (.iload_n 2, 1) := by decide +kernel
theorem d_Model_first_23 : decode cc_Model_first 23 = .ok (.goto 17, 3) := by decide +kernel
theorem d_Model_first_26 : decode cc_Model_first 26 = .ok (.iload_n 0, 1) := by decide +kernel
theorem d_Model_first_27 : decode cc_Model_first 27 = .ok (.iload_n 3, 1) := by decide +kernel
theorem d_Model_first_28 : decode cc_Model_first 28 = .ok (.ishr, 1) := by decide +kernel
theorem d_Model_first_29 : decode cc_Model_first 29 = .ok (.iconst 1, 1) := by decide +kernel
theorem d_Model_first_30 : decode cc_Model_first 30 = .ok (.iand, 1) := by decide +kernel
theorem d_Model_first_31 : decode cc_Model_first 31 = .ok (.iconst 1, 1) := by decide +kernel
theorem d_Model_first_32 : decode cc_Model_first 32 = .ok (.if_icmp .ne 7, 3) := by decide +kernel
theorem d_Model_first_35 : decode cc_Model_first 35 = .ok (.iload_n 3, 1) := by decide +kernel
theorem d_Model_first_36 : decode cc_Model_first 36 = .ok (.goto 4, 3) := by decide +kernel
theorem d_Model_first_39 : decode cc_Model_first 39 = .ok (.iconst (-1), 1) := by decide +kernel
theorem d_Model_first_40 : decode cc_Model_first 40 = .ok (.ireturn, 1) := by decide +kernel
abbrev y_Model_interrupt : MethodName := ⟨"TrapDeskModel", "interrupt", "()I"⟩
abbrev cc_Model_interrupt : ByteArray := prog_9_method_24_code
abbrev ws_Model_interrupt : List Cond := Cond.code y_Model_interrupt cc_Model_interrupt 5 (some .int) :: gtb
theorem d_Model_interrupt_0 : decode cc_Model_interrupt 0 = .ok (.aload_n 0, 1) := by decide +kernel
theorem d_Model_interrupt_1 : decode cc_Model_interrupt 1 = .ok (.getfield 51, 3) := by decide +kernel
theorem d_Model_interrupt_4 : decode cc_Model_interrupt 4 = .ok (.ifCond .eq 6, 3) := by decide +kernel
theorem d_Model_interrupt_7 : decode cc_Model_interrupt 7 = .ok (.bipush (-3), 2) := by decide +kernel
theorem d_Model_interrupt_9 : decode cc_Model_interrupt 9 = .ok (.ireturn, 1) := by decide +kernel
theorem d_Model_interrupt_10 : decode cc_Model_interrupt 10 = .ok (.aload_n 0, 1) := by decide +kernel
theorem d_Model_interrupt_11 : decode cc_Model_interrupt 11 = .ok (.invokevirtual 97, 3) := by decide +kernel
theorem d_Model_interrupt_14 : decode cc_Model_interrupt 14 = .ok (.aload_n 0, 1) := by decide +kernel
theorem d_Model_interrupt_15 : decode cc_Model_interrupt 15 = .ok (.getfield 13, 3) := by decide +kernel
theorem d_Model_interrupt_18 : decode cc_Model_interrupt 18 = .ok (.iconst 4, 1) := by decide +kernel
theorem d_Model_interrupt_19 : decode cc_Model_interrupt 19 = .ok (.iaload, 1) := by decide +kernel
theorem d_Model_interrupt_20 : decode cc_Model_interrupt 20 = .ok (.iand, 1) := by decide +kernel
theorem d_Model_interrupt_21 : decode cc_Model_interrupt 21 = .ok (.bipush 9, 2) := by decide +kernel
theorem d_Model_interrupt_23 : decode cc_Model_interrupt 23 = .ok (.iconst 1, 1) := by decide +kernel
theorem d_Model_interrupt_24 : decode cc_Model_interrupt 24 = .ok (.iconst 5, 1) := by decide +kernel
theorem d_Model_interrupt_25 : decode cc_Model_interrupt 25 = .ok (.invokestatic 149, 3) := by decide +kernel
theorem d_Model_interrupt_28 : decode cc_Model_interrupt 28 = .ok (.istore_n 1, 1) := by decide +kernel
theorem d_Model_interrupt_29 : decode cc_Model_interrupt 29 = .ok (.aload_n 0, 1) := by decide +kernel
theorem d_Model_interrupt_30 : decode cc_Model_interrupt 30 = .ok (.getfield 78, 3) := by decide +kernel
theorem d_Model_interrupt_33 : decode cc_Model_interrupt 33 = .ok (.aload_n 0, 1) := by decide +kernel
theorem d_Model_interrupt_34 : decode cc_Model_interrupt 34 = .ok (.getfield 72, 3) := by decide +kernel
theorem d_Model_interrupt_37 : decode cc_Model_interrupt 37 = .ok (.iand, 1) := by decide +kernel
theorem d_Model_interrupt_38 : decode cc_Model_interrupt 38 = .ok (.aload_n 0, 1) := by decide +kernel
theorem d_Model_interrupt_39 : decode cc_Model_interrupt 39 = .ok (.getfield 69, 3) := by decide +kernel
theorem d_Model_interrupt_42 : decode cc_Model_interrupt 42 = .ok (.iconst (-1), 1) := by decide +kernel
theorem d_Model_interrupt_43 : decode cc_Model_interrupt 43 = .ok (.ixor, 1) := by decide +kernel
theorem d_Model_interrupt_44 : decode cc_Model_interrupt 44 = .ok (.iand, 1) := by decide +kernel
theorem d_Model_interrupt_45 : decode cc_Model_interrupt 45 = .ok (.bipush 10, 2) := by decide +kernel
theorem d_Model_interrupt_47 : decode cc_Model_interrupt 47 = .ok (.iconst 2, 1) := by decide +kernel
theorem d_Model_interrupt_48 : decode cc_Model_interrupt 48 = .ok (.bipush 6, 2) := by decide +kernel
theorem d_Model_interrupt_50 : decode cc_Model_interrupt 50 = .ok (.invokestatic 149, 3) := by decide +kernel
theorem d_Model_interrupt_53 : decode cc_Model_interrupt 53 = .ok (.istore_n 2, 1) := by decide +kernel
theorem d_Model_interrupt_54 : decode cc_Model_interrupt 54 = .ok (.iload_n 1, 1) := by decide +kernel
theorem d_Model_interrupt_55 : decode cc_Model_interrupt 55 = .ok (.ifCond .lt 7, 3) := by decide +kernel
theorem d_Model_interrupt_58 : decode cc_Model_interrupt 58 = .ok (.iload_n 1, 1) := by decide +kernel
theorem d_Model_interrupt_59 : decode cc_Model_interrupt 59 = .ok (.goto 4, 3) := by decide +kernel
theorem d_Model_interrupt_62 : decode cc_Model_interrupt 62 = .ok (.iload_n 2, 1) := by decide +kernel
theorem d_Model_interrupt_63 : decode cc_Model_interrupt 63 = .ok (.istore_n 3, 1) := by decide +kernel
theorem d_Model_interrupt_64 : decode cc_Model_interrupt 64 = .ok (.iload_n 3, 1) := by decide +kernel
theorem d_Model_interrupt_65 : decode cc_Model_interrupt 65 = .ok (.ifCond .lt 46, 3) := by decide +kernel
theorem d_Model_interrupt_68 : decode cc_Model_interrupt 68 = .ok (.aload_n 0, 1) := by decide +kernel
theorem d_Model_interrupt_69 : decode cc_Model_interrupt 69 = .ok (.getfield 19, 3) := by decide +kernel
theorem d_Model_interrupt_72 : decode cc_Model_interrupt 72 = .ok (.iconst 1, 1) := by decide +kernel
theorem d_Model_interrupt_73 : decode cc_Model_interrupt 73 = .ok (.if_icmp .ne 14, 3) := by decide +kernel
theorem d_Model_interrupt_76 : decode cc_Model_interrupt 76 = .ok (.aload_n 0, 1) := by decide +kernel
theorem d_Model_interrupt_77 : decode cc_Model_interrupt 77 = .ok (.getfield 13, 3) := by decide +kernel
theorem d_Model_interrupt_80 : decode cc_Model_interrupt 80 = .ok (.iconst 0, 1) := by decide +kernel
theorem d_Model_interrupt_81 : decode cc_Model_interrupt 81 = .ok (.iaload, 1) := by decide +kernel
theorem d_Model_interrupt_82 : decode cc_Model_interrupt 82 = .ok (.iconst 2, 1) := by decide +kernel
theorem d_Model_interrupt_83 : decode cc_Model_interrupt 83 = .ok (.iand, 1) := by decide +kernel
theorem d_Model_interrupt_84 : decode cc_Model_interrupt 84 = .ok (.ifCond .eq 27, 3) := by decide +kernel
theorem d_Model_interrupt_87 : decode cc_Model_interrupt 87 = .ok (.aload_n 0, 1) := by decide +kernel
theorem d_Model_interrupt_88 : decode cc_Model_interrupt 88 = .ok (.ldc 153, 2) := by decide +kernel
theorem d_Model_interrupt_90 : decode cc_Model_interrupt 90 = .ok (.iload_n 3, 1) := by decide +kernel
theorem d_Model_interrupt_91 : decode cc_Model_interrupt 91 = .ok (.ior, 1) := by decide +kernel
theorem d_Model_interrupt_92 : decode cc_Model_interrupt 92 = .ok (.iconst 0, 1) := by decide +kernel
theorem d_Model_interrupt_93 : decode cc_Model_interrupt 93 = .ok (.iconst 0, 1) := by decide +kernel
theorem d_Model_interrupt_94 : decode cc_Model_interrupt 94 = .ok (.iconst 0, 1) := by decide +kernel
theorem d_Model_interrupt_95 : decode cc_Model_interrupt 95 = .ok (.iconst 0, 1) := by decide +kernel
theorem d_Model_interrupt_96 : decode cc_Model_interrupt 96 = .ok (.invokevirtual 140, 3) := by decide +kernel
theorem d_Model_interrupt_99 : decode cc_Model_interrupt 99 = .ok (.aload_n 0, 1) := by decide +kernel
theorem d_Model_interrupt_100 : decode cc_Model_interrupt 100 = .ok (.dup, 1) := by decide +kernel
theorem d_Model_interrupt_101 : decode cc_Model_interrupt 101 = .ok (.getfield 60, 3) := by decide +kernel
theorem d_Model_interrupt_104 : decode cc_Model_interrupt 104 = .ok (.iconst 1, 1) := by decide +kernel
theorem d_Model_interrupt_105 : decode cc_Model_interrupt 105 = .ok (.iadd, 1) := by decide +kernel
theorem d_Model_interrupt_106 : decode cc_Model_interrupt 106 = .ok (.putfield 60, 3) := by decide +kernel
theorem d_Model_interrupt_109 : decode cc_Model_interrupt 109 = .ok (.iload_n 3, 1) := by decide +kernel
theorem d_Model_interrupt_110 : decode cc_Model_interrupt 110 = .ok (.ireturn, 1) := by decide +kernel
theorem d_Model_interrupt_111 : decode cc_Model_interrupt 111 = .ok (.aload_n 0, 1) := by decide +kernel
theorem d_Model_interrupt_112 : decode cc_Model_interrupt 112 = .ok (.getfield 78, 3) := by decide +kernel
theorem d_Model_interrupt_115 : decode cc_Model_interrupt 115 = .ok (.aload_n 0, 1) := by decide +kernel
theorem d_Model_interrupt_116 : decode cc_Model_interrupt 116 = .ok (.getfield 72, 3) := by decide +kernel
theorem d_Model_interrupt_119 : decode cc_Model_interrupt 119 = .ok (.iand, 1) := by decide +kernel
theorem d_Model_interrupt_120 : decode cc_Model_interrupt 120 = .ok (.aload_n 0, 1) := by decide +kernel
theorem d_Model_interrupt_121 : decode cc_Model_interrupt 121 = .ok (.getfield 69, 3) := by decide +kernel
theorem d_Model_interrupt_124 : decode cc_Model_interrupt 124 = .ok (.iand, 1) := by decide +kernel
theorem d_Model_interrupt_125 : decode cc_Model_interrupt 125 = .ok (.bipush 10, 2) := by decide +kernel
theorem d_Model_interrupt_127 : decode cc_Model_interrupt 127 = .ok (.iconst 2, 1) := by decide +kernel
theorem d_Model_interrupt_128 : decode cc_Model_interrupt 128 = .ok (.bipush 6, 2) := by decide +kernel
theorem d_Model_interrupt_130 : decode cc_Model_interrupt 130 = .ok (.invokestatic 149, 3) := by decide +kernel
theorem d_Model_interrupt_133 : decode cc_Model_interrupt 133 = .ok (.istore 4, 2) := by decide +kernel
theorem d_Model_interrupt_135 : decode cc_Model_interrupt 135 = .ok (.iload 4, 2) := by decide +kernel
theorem d_Model_interrupt_137 : decode cc_Model_interrupt 137 = .ok (.ifCond .lt 62, 3) := by decide +kernel
theorem d_Model_interrupt_140 : decode cc_Model_interrupt 140 = .ok (.aload_n 0, 1) := by decide +kernel
theorem d_Model_interrupt_141 : decode cc_Model_interrupt 141 = .ok (.getfield 19, 3) := by decide +kernel
theorem d_Model_interrupt_144 : decode cc_Model_interrupt 144 = .ok (.iconst 2, 1) := by decide +kernel
theorem d_Model_interrupt_145 : decode cc_Model_interrupt 145 = .ok (.if_icmp .eq 24, 3) := by decide +kernel
theorem d_Model_interrupt_148 : decode cc_Model_interrupt 148 = .ok (.aload_n 0, 1) := by decide +kernel
theorem d_Model_interrupt_149 : decode cc_Model_interrupt 149 = .ok (.getfield 19, 3) := by decide +kernel
theorem d_Model_interrupt_152 : decode cc_Model_interrupt 152 = .ok (.iconst 3, 1) := by decide +kernel
theorem d_Model_interrupt_153 : decode cc_Model_interrupt 153 = .ok (.if_icmp .ne 46, 3) := by decide +kernel
theorem d_Model_interrupt_156 : decode cc_Model_interrupt 156 = .ok (.aload_n 0, 1) := by decide +kernel
theorem d_Model_interrupt_157 : decode cc_Model_interrupt 157 = .ok (.getfield 13, 3) := by decide +kernel
theorem d_Model_interrupt_160 : decode cc_Model_interrupt 160 = .ok (.sipush 256, 3) := by decide +kernel
theorem d_Model_interrupt_163 : decode cc_Model_interrupt 163 = .ok (.iaload, 1) := by decide +kernel
theorem d_Model_interrupt_164 : decode cc_Model_interrupt 164 = .ok (.iconst 2, 1) := by decide +kernel
theorem d_Model_interrupt_165 : decode cc_Model_interrupt 165 = .ok (.iand, 1) := by decide +kernel
theorem d_Model_interrupt_166 : decode cc_Model_interrupt 166 = .ok (.ifCond .eq 33, 3) := by decide +kernel
theorem d_Model_interrupt_169 : decode cc_Model_interrupt 169 = .ok (.aload_n 0, 1) := by decide +kernel
theorem d_Model_interrupt_170 : decode cc_Model_interrupt 170 = .ok (.ldc 153, 2) := by decide +kernel
theorem d_Model_interrupt_172 : decode cc_Model_interrupt 172 = .ok (.iload 4, 2) := by decide +kernel
theorem d_Model_interrupt_174 : decode cc_Model_interrupt 174 = .ok (.iconst 1, 1) := by decide +kernel
theorem d_Model_interrupt_175 : decode cc_Model_interrupt 175 = .ok (.isub, 1) := by decide +kernel
theorem d_Model_interrupt_176 : decode cc_Model_interrupt 176 = .ok (.ior, 1) := by decide +kernel
theorem d_Model_interrupt_177 : decode cc_Model_interrupt 177 = .ok (.iconst 0, 1) := by decide +kernel
theorem d_Model_interrupt_178 : decode cc_Model_interrupt 178 = .ok (.invokevirtual 137, 3) := by decide +kernel
theorem d_Model_interrupt_181 : decode cc_Model_interrupt 181 = .ok (.aload_n 0, 1) := by decide +kernel
theorem d_Model_interrupt_182 : decode cc_Model_interrupt 182 = .ok (.dup, 1) := by decide +kernel
theorem d_Model_interrupt_183 : decode cc_Model_interrupt 183 = .ok (.getfield 60, 3) := by decide +kernel
theorem d_Model_interrupt_186 : decode cc_Model_interrupt 186 = .ok (.iconst 1, 1) := by decide +kernel
theorem d_Model_interrupt_187 : decode cc_Model_interrupt 187 = .ok (.iadd, 1) := by decide +kernel
theorem d_Model_interrupt_188 : decode cc_Model_interrupt 188 = .ok (.putfield 60, 3) := by decide +kernel
theorem d_Model_interrupt_191 : decode cc_Model_interrupt 191 = .ok (.bipush 100, 2) := by decide +kernel
theorem d_Model_interrupt_193 : decode cc_Model_interrupt 193 = .ok (.iload 4, 2) := by decide +kernel
theorem d_Model_interrupt_195 : decode cc_Model_interrupt 195 = .ok (.iadd, 1) := by decide +kernel
theorem d_Model_interrupt_196 : decode cc_Model_interrupt 196 = .ok (.iconst 1, 1) := by decide +kernel
theorem d_Model_interrupt_197 : decode cc_Model_interrupt 197 = .ok (.isub, 1) := by decide +kernel
theorem d_Model_interrupt_198 : decode cc_Model_interrupt 198 = .ok (.ireturn, 1) := by decide +kernel
theorem d_Model_interrupt_199 : decode cc_Model_interrupt 199 = .ok (.iconst (-1), 1) := by decide +kernel
theorem d_Model_interrupt_200 : decode cc_Model_interrupt 200 = .ok (.ireturn, 1) := by decide +kernel
abbrev y_Model_x : MethodName := ⟨"TrapDeskModel", "x", "(I)I"⟩
abbrev cc_Model_x : ByteArray := prog_9_method_25_code
abbrev ws_Model_x : List Cond := Cond.code y_Model_x cc_Model_x 2 (some .int) :: gtb
theorem d_Model_x_0 : decode cc_Model_x 0 = .ok (.iload_n 1, 1) := by decide +kernel
theorem d_Model_x_1 : decode cc_Model_x 1 = .ok (.bipush 10, 2) := by decide +kernel
theorem d_Model_x_3 : decode cc_Model_x 3 = .ok (.if_icmp .ne 10, 3) := by decide +kernel
theorem d_Model_x_6 : decode cc_Model_x 6 = .ok (.aload_n 0, 1) := by decide +kernel
theorem d_Model_x_7 : decode cc_Model_x 7 = .ok (.getfield 39, 3) := by decide +kernel
theorem d_Model_x_10 : decode cc_Model_x 10 = .ok (.goto 30, 3) := by decide +kernel
theorem d_Model_x_13 : decode cc_Model_x 13 = .ok (.iload_n 1, 1) := by decide +kernel
theorem d_Model_x_14 : decode cc_Model_x 14 = .ok (.bipush 11, 2) := by decide +kernel
theorem d_Model_x_16 : decode cc_Model_x 16 = .ok (.if_icmp .ne 10, 3) := by decide +kernel
theorem d_Model_x_19 : decode cc_Model_x 19 = .ok (.aload_n 0, 1) := by decide +kernel
theorem d_Model_x_20 : decode cc_Model_x 20 = .ok (.getfield 42, 3) := by decide +kernel
theorem d_Model_x_23 : decode cc_Model_x 23 = .ok (.goto 17, 3) := by decide +kernel
theorem d_Model_x_26 : decode cc_Model_x 26 = .ok (.iload_n 1, 1) := by decide +kernel
theorem d_Model_x_27 : decode cc_Model_x 27 = .ok (.bipush 17, 2) := by decide +kernel
theorem d_Model_x_29 : decode cc_Model_x 29 = .ok (.if_icmp .ne 10, 3) := by decide +kernel
theorem d_Model_x_32 : decode cc_Model_x 32 = .ok (.aload_n 0, 1) := by decide +kernel
theorem d_Model_x_33 : decode cc_Model_x 33 = .ok (.getfield 45, 3) := by decide +kernel
theorem d_Model_x_36 : decode cc_Model_x 36 = .ok (.goto 4, 3) := by decide +kernel
theorem d_Model_x_39 : decode cc_Model_x 39 = .ok (.iconst 0, 1) := by decide +kernel
theorem d_Model_x_40 : decode cc_Model_x 40 = .ok (.ireturn, 1) := by decide +kernel
abbrev y_Model_setX : MethodName := ⟨"TrapDeskModel", "setX", "(II)V"⟩
abbrev cc_Model_setX : ByteArray := prog_9_method_26_code
abbrev ws_Model_setX : List Cond := Cond.code y_Model_setX cc_Model_setX 3 none :: gtb
theorem d_Model_setX_0 : decode cc_Model_setX 0 = .ok (.aload_n 0, 1) := by decide +kernel
theorem d_Model_setX_1 : decode cc_Model_setX 1 = .ok (.iload_n 1, 1) := by decide +kernel
theorem d_Model_setX_2 : decode cc_Model_setX 2 = .ok (.bipush 10, 2) := by decide +kernel
theorem d_Model_setX_4 : decode cc_Model_setX 4 = .ok (.if_icmp .ne 7, 3) := by decide +kernel
theorem d_Model_setX_7 : decode cc_Model_setX 7 = .ok (.iload_n 2, 1) := by decide +kernel
theorem d_Model_setX_8 : decode cc_Model_setX 8 = .ok (.goto 7, 3) := by decide +kernel
theorem d_Model_setX_11 : decode cc_Model_setX 11 = .ok (.aload_n 0, 1) := by decide +kernel
theorem d_Model_setX_12 : decode cc_Model_setX 12 = .ok (.getfield 39, 3) := by decide +kernel
theorem d_Model_setX_15 : decode cc_Model_setX 15 = .ok (.putfield 39, 3) := by decide +kernel
theorem d_Model_setX_18 : decode cc_Model_setX 18 = .ok (.aload_n 0, 1) := by decide +kernel
theorem d_Model_setX_19 : decode cc_Model_setX 19 = .ok (.iload_n 1, 1) := by decide +kernel
theorem d_Model_setX_20 : decode cc_Model_setX 20 = .ok (.bipush 11, 2) := by decide +kernel
theorem d_Model_setX_22 : decode cc_Model_setX 22 = .ok (.if_icmp .ne 7, 3) := by decide +kernel
theorem d_Model_setX_25 : decode cc_Model_setX 25 = .ok (.iload_n 2, 1) := by decide +kernel
theorem d_Model_setX_26 : decode cc_Model_setX 26 = .ok (.goto 7, 3) := by decide +kernel
theorem d_Model_setX_29 : decode cc_Model_setX 29 = .ok (.aload_n 0, 1) := by decide +kernel
theorem d_Model_setX_30 : decode cc_Model_setX 30 = .ok (.getfield 42, 3) := by decide +kernel
theorem d_Model_setX_33 : decode cc_Model_setX 33 = .ok (.putfield 42, 3) := by decide +kernel
theorem d_Model_setX_36 : decode cc_Model_setX 36 = .ok (.aload_n 0, 1) := by decide +kernel
theorem d_Model_setX_37 : decode cc_Model_setX 37 = .ok (.iload_n 1, 1) := by decide +kernel
theorem d_Model_setX_38 : decode cc_Model_setX 38 = .ok (.bipush 17, 2) := by decide +kernel
theorem d_Model_setX_40 : decode cc_Model_setX 40 = .ok (.if_icmp .ne 7, 3) := by decide +kernel
theorem d_Model_setX_43 : decode cc_Model_setX 43 = .ok (.iload_n 2, 1) := by decide +kernel
theorem d_Model_setX_44 : decode cc_Model_setX 44 = .ok (.goto 7, 3) := by decide +kernel
theorem d_Model_setX_47 : decode cc_Model_setX 47 = .ok (.aload_n 0, 1) := by decide +kernel
theorem d_Model_setX_48 : decode cc_Model_setX 48 = .ok (.getfield 45, 3) := by decide +kernel
theorem d_Model_setX_51 : decode cc_Model_setX 51 = .ok (.putfield 45, 3) := by decide +kernel
theorem d_Model_setX_54 : decode cc_Model_setX 54 = .ok (.return_, 1) := by decide +kernel
abbrev y_Model_control : MethodName := ⟨"TrapDeskModel", "control", "(IIII)I"⟩
abbrev cc_Model_control : ByteArray := prog_9_method_27_code
abbrev ws_Model_control : List Cond := Cond.code y_Model_control cc_Model_control 11 (some .int) :: gtb
theorem d_Model_control_0 : decode cc_Model_control 0 = .ok (.iload_n 1, 1) := by decide +kernel
theorem d_Model_control_1 : decode cc_Model_control 1 = .ok (.iconst 1, 1) := by decide +kernel
theorem d_Model_control_2 : decode cc_Model_control 2 = .ok (.if_icmp .eq 12, 3) := by decide +kernel
theorem d_Model_control_5 : decode cc_Model_control 5 = .ok (.iload_n 1, 1) := by decide +kernel
theorem d_Model_control_6 : decode cc_Model_control 6 = .ok (.iconst 5, 1) := by decide +kernel
theorem d_Model_control_7 : decode cc_Model_control 7 = .ok (.if_icmp .eq 7, 3) := by decide +kernel
theorem d_Model_control_10 : decode cc_Model_control 10 = .ok (.iload_n 3, 1) := by decide +kernel
theorem d_Model_control_11 : decode cc_Model_control 11 = .ok (.ifCond .eq 7, 3) := by decide +kernel
theorem d_Model_control_14 : decode cc_Model_control 14 = .ok (.iconst 1, 1) := by decide +kernel
theorem d_Model_control_15 : decode cc_Model_control 15 = .ok (.goto 4, 3) := by decide +kernel
theorem d_Model_control_18 : decode cc_Model_control 18 = .ok (.iconst 0, 1) := by decide +kernel
theorem d_Model_control_19 : decode cc_Model_control 19 = .ok (.istore 5, 2) := by decide +kernel
theorem d_Model_control_21 : decode cc_Model_control 21 = .ok (.aload_n 0, 1) := by decide +kernel
theorem d_Model_control_22 : decode cc_Model_control 22 = .ok (.iload 4, 2) := by decide +kernel
theorem d_Model_control_24 : decode cc_Model_control 24 = .ok (.iload 5, 2) := by decide +kernel
theorem d_Model_control_26 : decode cc_Model_control 26 = .ok (.invokevirtual 154, 3) := by decide +kernel
theorem d_Model_control_29 : decode cc_Model_control 29 = .ok (.istore 6, 2) := by decide +kernel
theorem d_Model_control_31 : decode cc_Model_control 31 = .ok (.iload 6, 2) := by decide +kernel
theorem d_Model_control_33 : decode cc_Model_control 33 = .ok (.ifCond .le 6, 3) := by decide +kernel
theorem d_Model_control_36 : decode cc_Model_control 36 = .ok (.iload 6, 2) := by decide +kernel
theorem d_Model_control_38 : decode cc_Model_control 38 = .ok (.ireturn, 1) := by decide +kernel
theorem d_Model_control_39 : decode cc_Model_control 39 = .ok (.aload_n 0, 1) := by decide +kernel
theorem d_Model_control_40 : decode cc_Model_control 40 = .ok (.getfield 19, 3) := by decide +kernel
theorem d_Model_control_43 : decode cc_Model_control 43 = .ok (.iconst 3, 1) := by decide +kernel
theorem d_Model_control_44 : decode cc_Model_control 44 = .ok (.if_icmp .ne 21, 3) := by decide +kernel
theorem d_Model_control_47 : decode cc_Model_control 47 = .ok (.iload 4, 2) := by decide +kernel
theorem d_Model_control_49 : decode cc_Model_control 49 = .ok (.bipush 8, 2) := by decide +kernel
theorem d_Model_control_51 : decode cc_Model_control 51 = .ok (.ishr, 1) := by decide +kernel
theorem d_Model_control_52 : decode cc_Model_control 52 = .ok (.iconst 1, 1) := by decide +kernel
theorem d_Model_control_53 : decode cc_Model_control 53 = .ok (.if_icmp .ne 12, 3) := by decide +kernel
theorem d_Model_control_56 : decode cc_Model_control 56 = .ok (.iload 4, 2) := by decide +kernel
theorem d_Model_control_58 : decode cc_Model_control 58 = .ok (.sipush 256, 3) := by decide +kernel
theorem d_Model_control_61 : decode cc_Model_control 61 = .ok (.iadd, 1) := by decide +kernel
theorem d_Model_control_62 : decode cc_Model_control 62 = .ok (.goto 5, 3) := by decide +kernel
theorem d_Model_control_65 : decode cc_Model_control 65 = .ok (.iload 4, 2) := by decide +kernel
theorem d_Model_control_67 : decode cc_Model_control 67 = .ok (.istore 7, 2) := by decide +kernel
theorem d_Model_control_69 : decode cc_Model_control 69 = .ok (.iload_n 1, 1) := by decide +kernel
theorem d_Model_control_70 : decode cc_Model_control 70 = .ok (.iconst 4, 1) := by decide +kernel
theorem d_Model_control_71 : decode cc_Model_control 71 = .ok (.if_icmp .le 7, 3) := by decide +kernel
theorem d_Model_control_74 : decode cc_Model_control 74 = .ok (.iload_n 3, 1) := by decide +kernel
theorem d_Model_control_75 : decode cc_Model_control 75 = .ok (.goto 8, 3) := by decide +kernel
theorem d_Model_control_78 : decode cc_Model_control 78 = .ok (.aload_n 0, 1) := by decide +kernel
theorem d_Model_control_79 : decode cc_Model_control 79 = .ok (.iload_n 3, 1) := by decide +kernel
theorem d_Model_control_80 : decode cc_Model_control 80 = .ok (.invokevirtual 158, 3) := by decide +kernel
theorem d_Model_control_83 : decode cc_Model_control 83 = .ok (.istore 8, 2) := by decide +kernel
theorem d_Model_control_85 : decode cc_Model_control 85 = .ok (.aload_n 0, 1) := by decide +kernel
theorem d_Model_control_86 : decode cc_Model_control 86 = .ok (.iload 7, 2) := by decide +kernel
theorem d_Model_control_88 : decode cc_Model_control 88 = .ok (.invokevirtual 117, 3) := by decide +kernel
theorem d_Model_control_91 : decode cc_Model_control 91 = .ok (.istore 9, 2) := by decide +kernel
theorem d_Model_control_93 : decode cc_Model_control 93 = .ok (.iload 5, 2) := by decide +kernel
theorem d_Model_control_95 : decode cc_Model_control 95 = .ok (.ifCond .eq 46, 3) := by decide +kernel
theorem d_Model_control_98 : decode cc_Model_control 98 = .ok (.iload_n 1, 1) := by decide +kernel
theorem d_Model_control_99 : decode cc_Model_control 99 = .ok (.iconst 4, 1) := by decide +kernel
theorem d_Model_control_100 : decode cc_Model_control 100 = .ok (.irem, 1) := by decide +kernel
theorem d_Model_control_101 : decode cc_Model_control 101 = .ok (.istore 10, 2) := by decide +kernel
theorem d_Model_control_103 : decode cc_Model_control 103 = .ok (.aload_n 0, 1) := by decide +kernel
theorem d_Model_control_104 : decode cc_Model_control 104 = .ok (.iload 7, 2) := by decide +kernel
theorem d_Model_control_106 : decode cc_Model_control 106 = .ok (.iload 10, 2) := by decide +kernel
theorem d_Model_control_108 : decode cc_Model_control 108 = .ok (.iconst 1, 1) := by decide +kernel
theorem d_Model_control_109 : decode cc_Model_control 109 = .ok (.if_icmp .ne 8, 3) := by decide +kernel
theorem d_Model_control_112 : decode cc_Model_control 112 = .ok (.iload 8, 2) := by decide +kernel
theorem d_Model_control_114 : decode cc_Model_control 114 = .ok (.goto 24, 3) := by decide +kernel
theorem d_Model_control_117 : decode cc_Model_control 117 = .ok (.iload 10, 2) := by decide +kernel
theorem d_Model_control_119 : decode cc_Model_control 119 = .ok (.iconst 2, 1) := by decide +kernel
theorem d_Model_control_120 : decode cc_Model_control 120 = .ok (.if_icmp .ne 11, 3) := by decide +kernel
theorem d_Model_control_123 : decode cc_Model_control 123 = .ok (.iload 9, 2) := by decide +kernel
theorem d_Model_control_125 : decode cc_Model_control 125 = .ok (.iload 8, 2) := by decide +kernel
theorem d_Model_control_127 : decode cc_Model_control 127 = .ok (.ior, 1) := by decide +kernel
theorem d_Model_control_128 : decode cc_Model_control 128 = .ok (.goto 10, 3) := by decide +kernel
theorem d_Model_control_131 : decode cc_Model_control 131 = .ok (.iload 9, 2) := by decide +kernel
theorem d_Model_control_133 : decode cc_Model_control 133 = .ok (.iload 8, 2) := by decide +kernel
theorem d_Model_control_135 : decode cc_Model_control 135 = .ok (.iconst (-1), 1) := by decide +kernel
theorem d_Model_control_136 : decode cc_Model_control 136 = .ok (.ixor, 1) := by decide +kernel
theorem d_Model_control_137 : decode cc_Model_control 137 = .ok (.iand, 1) := by decide +kernel
theorem d_Model_control_138 : decode cc_Model_control 138 = .ok (.invokevirtual 113, 3) := by decide +kernel
theorem d_Model_control_141 : decode cc_Model_control 141 = .ok (.aload_n 0, 1) := by decide +kernel
theorem d_Model_control_142 : decode cc_Model_control 142 = .ok (.iload_n 2, 1) := by decide +kernel
theorem d_Model_control_143 : decode cc_Model_control 143 = .ok (.iload 9, 2) := by decide +kernel
theorem d_Model_control_145 : decode cc_Model_control 145 = .ok (.invokevirtual 161, 3) := by decide +kernel
theorem d_Model_control_148 : decode cc_Model_control 148 = .ok (.iconst 0, 1) := by decide +kernel
theorem d_Model_control_149 : decode cc_Model_control 149 = .ok (.ireturn, 1) := by decide +kernel
abbrev y_Model_firmware : MethodName := ⟨"TrapDeskModel", "firmware", "()V"⟩
abbrev cc_Model_firmware : ByteArray := prog_9_method_28_code
abbrev ws_Model_firmware : List Cond := Cond.code y_Model_firmware cc_Model_firmware 3 none :: gtb
theorem d_Model_firmware_0 : decode cc_Model_firmware 0 = .ok (.aload_n 0, 1) := by decide +kernel
theorem d_Model_firmware_1 : decode cc_Model_firmware 1 = .ok (.getfield 45, 3) := by decide +kernel
theorem d_Model_firmware_4 : decode cc_Model_firmware 4 = .ok (.lookupswitch 138 #[(0, 36), (1, 80), (8, 125)], 36) := by decide +kernel
theorem d_Model_firmware_40 : decode cc_Model_firmware 40 = .ok (.aload_n 0, 1) := by decide +kernel
theorem d_Model_firmware_41 : decode cc_Model_firmware 41 = .ok (.getfield 39, 3) := by decide +kernel
theorem d_Model_firmware_44 : decode cc_Model_firmware 44 = .ok (.i2l, 1) := by decide +kernel
theorem d_Model_firmware_45 : decode cc_Model_firmware 45 = .ok (.ldc2_w 164, 3) := by decide +kernel
theorem d_Model_firmware_48 : decode cc_Model_firmware 48 = .ok (.land, 1) := by decide +kernel
theorem d_Model_firmware_49 : decode cc_Model_firmware 49 = .ok (.aload_n 0, 1) := by decide +kernel
theorem d_Model_firmware_50 : decode cc_Model_firmware 50 = .ok (.getfield 42, 3) := by decide +kernel
theorem d_Model_firmware_53 : decode cc_Model_firmware 53 = .ok (.i2l, 1) := by decide +kernel
theorem d_Model_firmware_54 : decode cc_Model_firmware 54 = .ok (.bipush 32, 2) := by decide +kernel
theorem d_Model_firmware_56 : decode cc_Model_firmware 56 = .ok (.lshl, 1) := by decide +kernel
theorem d_Model_firmware_57 : decode cc_Model_firmware 57 = .ok (.lor, 1) := by decide +kernel
theorem d_Model_firmware_58 : decode cc_Model_firmware 58 = .ok (.lstore_n 1, 1) := by decide +kernel
theorem d_Model_firmware_59 : decode cc_Model_firmware 59 = .ok (.aload_n 0, 1) := by decide +kernel
theorem d_Model_firmware_60 : decode cc_Model_firmware 60 = .ok (.lload_n 1, 1) := by decide +kernel
theorem d_Model_firmware_61 : decode cc_Model_firmware 61 = .ok (.lconst 0, 1) := by decide +kernel
theorem d_Model_firmware_62 : decode cc_Model_firmware 62 = .ok (.lcmp, 1) := by decide +kernel
theorem d_Model_firmware_63 : decode cc_Model_firmware 63 = .ok (.ifCond .ge 9, 3) := by decide +kernel
theorem d_Model_firmware_66 : decode cc_Model_firmware 66 = .ok (.ldc2_w 30, 3) := by decide +kernel
theorem d_Model_firmware_69 : decode cc_Model_firmware 69 = .ok (.goto 4, 3) := by decide +kernel
theorem d_Model_firmware_72 : decode cc_Model_firmware 72 = .ok (.lload_n 1, 1) := by decide +kernel
theorem d_Model_firmware_73 : decode cc_Model_firmware 73 = .ok (.putfield 32, 3) := by decide +kernel
theorem d_Model_firmware_76 : decode cc_Model_firmware 76 = .ok (.aload_n 0, 1) := by decide +kernel
theorem d_Model_firmware_77 : decode cc_Model_firmware 77 = .ok (.iconst 0, 1) := by decide +kernel
theorem d_Model_firmware_78 : decode cc_Model_firmware 78 = .ok (.putfield 39, 3) := by decide +kernel
theorem d_Model_firmware_81 : decode cc_Model_firmware 81 = .ok (.goto 67, 3) := by decide +kernel
theorem d_Model_firmware_84 : decode cc_Model_firmware 84 = .ok (.aload_n 0, 1) := by decide +kernel
theorem d_Model_firmware_85 : decode cc_Model_firmware 85 = .ok (.getfield 48, 3) := by decide +kernel
theorem d_Model_firmware_88 : decode cc_Model_firmware 88 = .ok (.sipush 256, 3) := by decide +kernel
theorem d_Model_firmware_91 : decode cc_Model_firmware 91 = .ok (.if_icmp .ge 30, 3) := by decide +kernel
theorem d_Model_firmware_94 : decode cc_Model_firmware 94 = .ok (.aload_n 0, 1) := by decide +kernel
theorem d_Model_firmware_95 : decode cc_Model_firmware 95 = .ok (.getfield 7, 3) := by decide +kernel
theorem d_Model_firmware_98 : decode cc_Model_firmware 98 = .ok (.aload_n 0, 1) := by decide +kernel
theorem d_Model_firmware_99 : decode cc_Model_firmware 99 = .ok (.getfield 48, 3) := by decide +kernel
theorem d_Model_firmware_102 : decode cc_Model_firmware 102 = .ok (.aload_n 0, 1) := by decide +kernel
theorem d_Model_firmware_103 : decode cc_Model_firmware 103 = .ok (.getfield 39, 3) := by decide +kernel
theorem d_Model_firmware_106 : decode cc_Model_firmware 106 = .ok (.sipush 255, 3) := by decide +kernel
theorem d_Model_firmware_109 : decode cc_Model_firmware 109 = .ok (.iand, 1) := by decide +kernel
theorem d_Model_firmware_110 : decode cc_Model_firmware 110 = .ok (.iastore, 1) := by decide +kernel
theorem d_Model_firmware_111 : decode cc_Model_firmware 111 = .ok (.aload_n 0, 1) := by decide +kernel
theorem d_Model_firmware_112 : decode cc_Model_firmware 112 = .ok (.dup, 1) := by decide +kernel
theorem d_Model_firmware_113 : decode cc_Model_firmware 113 = .ok (.getfield 48, 3) := by decide +kernel
theorem d_Model_firmware_116 : decode cc_Model_firmware 116 = .ok (.iconst 1, 1) := by decide +kernel
theorem d_Model_firmware_117 : decode cc_Model_firmware 117 = .ok (.iadd, 1) := by decide +kernel
theorem d_Model_firmware_118 : decode cc_Model_firmware 118 = .ok (.putfield 48, 3) := by decide +kernel
theorem d_Model_firmware_121 : decode cc_Model_firmware 121 = .ok (.aload_n 0, 1) := by decide +kernel
theorem d_Model_firmware_122 : decode cc_Model_firmware 122 = .ok (.iconst 0, 1) := by decide +kernel
theorem d_Model_firmware_123 : decode cc_Model_firmware 123 = .ok (.putfield 39, 3) := by decide +kernel
theorem d_Model_firmware_126 : decode cc_Model_firmware 126 = .ok (.goto 22, 3) := by decide +kernel
theorem d_Model_firmware_129 : decode cc_Model_firmware 129 = .ok (.aload_n 0, 1) := by decide +kernel
theorem d_Model_firmware_130 : decode cc_Model_firmware 130 = .ok (.iconst 1, 1) := by decide +kernel
theorem d_Model_firmware_131 : decode cc_Model_firmware 131 = .ok (.putfield 51, 3) := by decide +kernel
theorem d_Model_firmware_134 : decode cc_Model_firmware 134 = .ok (.aload_n 0, 1) := by decide +kernel
theorem d_Model_firmware_135 : decode cc_Model_firmware 135 = .ok (.iconst 0, 1) := by decide +kernel
theorem d_Model_firmware_136 : decode cc_Model_firmware 136 = .ok (.putfield 39, 3) := by decide +kernel
theorem d_Model_firmware_139 : decode cc_Model_firmware 139 = .ok (.goto 9, 3) := by decide +kernel
theorem d_Model_firmware_142 : decode cc_Model_firmware 142 = .ok (.aload_n 0, 1) := by decide +kernel
theorem d_Model_firmware_143 : decode cc_Model_firmware 143 = .ok (.bipush (-2), 2) := by decide +kernel
theorem d_Model_firmware_145 : decode cc_Model_firmware 145 = .ok (.putfield 39, 3) := by decide +kernel
theorem d_Model_firmware_148 : decode cc_Model_firmware 148 = .ok (.return_, 1) := by decide +kernel
abbrev y_Model_call : MethodName := ⟨"TrapDeskModel", "call", "()I"⟩
abbrev cc_Model_call : ByteArray := prog_9_method_29_code
abbrev ws_Model_call : List Cond := Cond.code y_Model_call cc_Model_call 1 (some .int) :: gtb
theorem d_Model_call_0 : decode cc_Model_call 0 = .ok (.aload_n 0, 1) := by decide +kernel
theorem d_Model_call_1 : decode cc_Model_call 1 = .ok (.getfield 19, 3) := by decide +kernel
theorem d_Model_call_4 : decode cc_Model_call 4 = .ok (.iconst 1, 1) := by decide +kernel
theorem d_Model_call_5 : decode cc_Model_call 5 = .ok (.if_icmp .ne 9, 3) := by decide +kernel
theorem d_Model_call_8 : decode cc_Model_call 8 = .ok (.aload_n 0, 1) := by decide +kernel
theorem d_Model_call_9 : decode cc_Model_call 9 = .ok (.invokevirtual 166, 3) := by decide +kernel
theorem d_Model_call_12 : decode cc_Model_call 12 = .ok (.iconst 0, 1) := by decide +kernel
theorem d_Model_call_13 : decode cc_Model_call 13 = .ok (.ireturn, 1) := by decide +kernel
theorem d_Model_call_14 : decode cc_Model_call 14 = .ok (.aload_n 0, 1) := by decide +kernel
theorem d_Model_call_15 : decode cc_Model_call 15 = .ok (.getfield 19, 3) := by decide +kernel
theorem d_Model_call_18 : decode cc_Model_call 18 = .ok (.iconst 3, 1) := by decide +kernel
theorem d_Model_call_19 : decode cc_Model_call 19 = .ok (.if_icmp .ne 8, 3) := by decide +kernel
theorem d_Model_call_22 : decode cc_Model_call 22 = .ok (.bipush 10, 2) := by decide +kernel
theorem d_Model_call_24 : decode cc_Model_call 24 = .ok (.goto 5, 3) := by decide +kernel
theorem d_Model_call_27 : decode cc_Model_call 27 = .ok (.bipush 8, 2) := by decide +kernel
theorem d_Model_call_29 : decode cc_Model_call 29 = .ok (.ireturn, 1) := by decide +kernel
abbrev y_Model_back : MethodName := ⟨"TrapDeskModel", "back", "(IZ)V"⟩
abbrev cc_Model_back : ByteArray := prog_9_method_30_code
abbrev ws_Model_back : List Cond := Cond.code y_Model_back cc_Model_back 4 none :: gtb
theorem d_Model_back_0 : decode cc_Model_back 0 = .ok (.aload_n 0, 1) := by decide +kernel
theorem d_Model_back_1 : decode cc_Model_back 1 = .ok (.getfield 13, 3) := by decide +kernel
theorem d_Model_back_4 : decode cc_Model_back 4 = .ok (.iload_n 1, 1) := by decide +kernel
theorem d_Model_back_5 : decode cc_Model_back 5 = .ok (.iconst 0, 1) := by decide +kernel
theorem d_Model_back_6 : decode cc_Model_back 6 = .ok (.iadd, 1) := by decide +kernel
theorem d_Model_back_7 : decode cc_Model_back 7 = .ok (.iaload, 1) := by decide +kernel
theorem d_Model_back_8 : decode cc_Model_back 8 = .ok (.istore_n 3, 1) := by decide +kernel
theorem d_Model_back_9 : decode cc_Model_back 9 = .ok (.aload_n 0, 1) := by decide +kernel
theorem d_Model_back_10 : decode cc_Model_back 10 = .ok (.aload_n 0, 1) := by decide +kernel
theorem d_Model_back_11 : decode cc_Model_back 11 = .ok (.getfield 13, 3) := by decide +kernel
theorem d_Model_back_14 : decode cc_Model_back 14 = .ok (.iload_n 1, 1) := by decide +kernel
theorem d_Model_back_15 : decode cc_Model_back 15 = .ok (.bipush 65, 2) := by decide +kernel
theorem d_Model_back_17 : decode cc_Model_back 17 = .ok (.iadd, 1) := by decide +kernel
theorem d_Model_back_18 : decode cc_Model_back 18 = .ok (.iaload, 1) := by decide +kernel
theorem d_Model_back_19 : decode cc_Model_back 19 = .ok (.iconst 4, 1) := by decide +kernel
theorem d_Model_back_20 : decode cc_Model_back 20 = .ok (.isub, 1) := by decide +kernel
theorem d_Model_back_21 : decode cc_Model_back 21 = .ok (.putfield 23, 3) := by decide +kernel
theorem d_Model_back_24 : decode cc_Model_back 24 = .ok (.aload_n 0, 1) := by decide +kernel
theorem d_Model_back_25 : decode cc_Model_back 25 = .ok (.iload_n 3, 1) := by decide +kernel
theorem d_Model_back_26 : decode cc_Model_back 26 = .ok (.bipush 8, 2) := by decide +kernel
theorem d_Model_back_28 : decode cc_Model_back 28 = .ok (.ishr, 1) := by decide +kernel
theorem d_Model_back_29 : decode cc_Model_back 29 = .ok (.iconst 1, 1) := by decide +kernel
theorem d_Model_back_30 : decode cc_Model_back 30 = .ok (.iand, 1) := by decide +kernel
theorem d_Model_back_31 : decode cc_Model_back 31 = .ok (.iload_n 2, 1) := by decide +kernel
theorem d_Model_back_32 : decode cc_Model_back 32 = .ok (.ifCond .eq 7, 3) := by decide +kernel
theorem d_Model_back_35 : decode cc_Model_back 35 = .ok (.iconst 2, 1) := by decide +kernel
theorem d_Model_back_36 : decode cc_Model_back 36 = .ok (.goto 4, 3) := by decide +kernel
theorem d_Model_back_39 : decode cc_Model_back 39 = .ok (.iconst 0, 1) := by decide +kernel
theorem d_Model_back_40 : decode cc_Model_back 40 = .ok (.iadd, 1) := by decide +kernel
theorem d_Model_back_41 : decode cc_Model_back 41 = .ok (.putfield 19, 3) := by decide +kernel
theorem d_Model_back_44 : decode cc_Model_back 44 = .ok (.aload_n 0, 1) := by decide +kernel
theorem d_Model_back_45 : decode cc_Model_back 45 = .ok (.getfield 13, 3) := by decide +kernel
theorem d_Model_back_48 : decode cc_Model_back 48 = .ok (.iload_n 1, 1) := by decide +kernel
theorem d_Model_back_49 : decode cc_Model_back 49 = .ok (.iconst 0, 1) := by decide +kernel
theorem d_Model_back_50 : decode cc_Model_back 50 = .ok (.iadd, 1) := by decide +kernel
theorem d_Model_back_51 : decode cc_Model_back 51 = .ok (.iload_n 3, 1) := by decide +kernel
theorem d_Model_back_52 : decode cc_Model_back 52 = .ok (.sipush (-259), 3) := by decide +kernel
theorem d_Model_back_55 : decode cc_Model_back 55 = .ok (.iand, 1) := by decide +kernel
theorem d_Model_back_56 : decode cc_Model_back 56 = .ok (.iload_n 3, 1) := by decide +kernel
theorem d_Model_back_57 : decode cc_Model_back 57 = .ok (.iconst 4, 1) := by decide +kernel
theorem d_Model_back_58 : decode cc_Model_back 58 = .ok (.ishr, 1) := by decide +kernel
theorem d_Model_back_59 : decode cc_Model_back 59 = .ok (.iconst 2, 1) := by decide +kernel
theorem d_Model_back_60 : decode cc_Model_back 60 = .ok (.iand, 1) := by decide +kernel
theorem d_Model_back_61 : decode cc_Model_back 61 = .ok (.ior, 1) := by decide +kernel
theorem d_Model_back_62 : decode cc_Model_back 62 = .ok (.bipush 32, 2) := by decide +kernel
theorem d_Model_back_64 : decode cc_Model_back 64 = .ok (.ior, 1) := by decide +kernel
theorem d_Model_back_65 : decode cc_Model_back 65 = .ok (.iastore, 1) := by decide +kernel
theorem d_Model_back_66 : decode cc_Model_back 66 = .ok (.return_, 1) := by decide +kernel
abbrev y_Model_sret : MethodName := ⟨"TrapDeskModel", "sret", "()I"⟩
abbrev cc_Model_sret : ByteArray := prog_9_method_31_code
abbrev ws_Model_sret : List Cond := Cond.code y_Model_sret cc_Model_sret 1 (some .int) :: gtb
theorem d_Model_sret_0 : decode cc_Model_sret 0 = .ok (.aload_n 0, 1) := by decide +kernel
theorem d_Model_sret_1 : decode cc_Model_sret 1 = .ok (.getfield 19, 3) := by decide +kernel
theorem d_Model_sret_4 : decode cc_Model_sret 4 = .ok (.ifCond .ne 5, 3) := by decide +kernel
theorem d_Model_sret_7 : decode cc_Model_sret 7 = .ok (.iconst 2, 1) := by decide +kernel
theorem d_Model_sret_8 : decode cc_Model_sret 8 = .ok (.ireturn, 1) := by decide +kernel
theorem d_Model_sret_9 : decode cc_Model_sret 9 = .ok (.aload_n 0, 1) := by decide +kernel
theorem d_Model_sret_10 : decode cc_Model_sret 10 = .ok (.getfield 19, 3) := by decide +kernel
theorem d_Model_sret_13 : decode cc_Model_sret 13 = .ok (.iconst 2, 1) := by decide +kernel
theorem d_Model_sret_14 : decode cc_Model_sret 14 = .ok (.if_icmp .eq 20, 3) := by decide +kernel
theorem d_Model_sret_17 : decode cc_Model_sret 17 = .ok (.aload_n 0, 1) := by decide +kernel
theorem d_Model_sret_18 : decode cc_Model_sret 18 = .ok (.getfield 19, 3) := by decide +kernel
theorem d_Model_sret_21 : decode cc_Model_sret 21 = .ok (.iconst 3, 1) := by decide +kernel
theorem d_Model_sret_22 : decode cc_Model_sret 22 = .ok (.if_icmp .ne 15, 3) := by decide +kernel
theorem d_Model_sret_25 : decode cc_Model_sret 25 = .ok (.aload_n 0, 1) := by decide +kernel
theorem d_Model_sret_26 : decode cc_Model_sret 26 = .ok (.ldc 169, 2) := by decide +kernel
theorem d_Model_sret_28 : decode cc_Model_sret 28 = .ok (.invokevirtual 122, 3) := by decide +kernel
theorem d_Model_sret_31 : decode cc_Model_sret 31 = .ok (.ifCond .eq 6, 3) := by decide +kernel
theorem d_Model_sret_34 : decode cc_Model_sret 34 = .ok (.bipush 22, 2) := by decide +kernel
theorem d_Model_sret_36 : decode cc_Model_sret 36 = .ok (.ireturn, 1) := by decide +kernel
theorem d_Model_sret_37 : decode cc_Model_sret 37 = .ok (.aload_n 0, 1) := by decide +kernel
theorem d_Model_sret_38 : decode cc_Model_sret 38 = .ok (.getfield 19, 3) := by decide +kernel
theorem d_Model_sret_41 : decode cc_Model_sret 41 = .ok (.iconst 1, 1) := by decide +kernel
theorem d_Model_sret_42 : decode cc_Model_sret 42 = .ok (.if_icmp .ne 30, 3) := by decide +kernel
theorem d_Model_sret_45 : decode cc_Model_sret 45 = .ok (.aload_n 0, 1) := by decide +kernel
theorem d_Model_sret_46 : decode cc_Model_sret 46 = .ok (.iconst 0, 1) := by decide +kernel
theorem d_Model_sret_47 : decode cc_Model_sret 47 = .ok (.aload_n 0, 1) := by decide +kernel
theorem d_Model_sret_48 : decode cc_Model_sret 48 = .ok (.sipush 128, 3) := by decide +kernel
theorem d_Model_sret_51 : decode cc_Model_sret 51 = .ok (.invokevirtual 122, 3) := by decide +kernel
theorem d_Model_sret_54 : decode cc_Model_sret 54 = .ok (.invokevirtual 170, 3) := by decide +kernel
theorem d_Model_sret_57 : decode cc_Model_sret 57 = .ok (.aload_n 0, 1) := by decide +kernel
theorem d_Model_sret_58 : decode cc_Model_sret 58 = .ok (.aload_n 0, 1) := by decide +kernel
theorem d_Model_sret_59 : decode cc_Model_sret 59 = .ok (.getfield 63, 3) := by decide +kernel
theorem d_Model_sret_62 : decode cc_Model_sret 62 = .ok (.sipush (-129), 3) := by decide +kernel
theorem d_Model_sret_65 : decode cc_Model_sret 65 = .ok (.iand, 1) := by decide +kernel
theorem d_Model_sret_66 : decode cc_Model_sret 66 = .ok (.putfield 63, 3) := by decide +kernel
theorem d_Model_sret_69 : decode cc_Model_sret 69 = .ok (.goto 11, 3) := by decide +kernel
theorem d_Model_sret_72 : decode cc_Model_sret 72 = .ok (.aload_n 0, 1) := by decide +kernel
theorem d_Model_sret_73 : decode cc_Model_sret 73 = .ok (.sipush 256, 3) := by decide +kernel
theorem d_Model_sret_76 : decode cc_Model_sret 76 = .ok (.iconst 1, 1) := by decide +kernel
theorem d_Model_sret_77 : decode cc_Model_sret 77 = .ok (.invokevirtual 170, 3) := by decide +kernel
theorem d_Model_sret_80 : decode cc_Model_sret 80 = .ok (.iconst 0, 1) := by decide +kernel
theorem d_Model_sret_81 : decode cc_Model_sret 81 = .ok (.ireturn, 1) := by decide +kernel
abbrev y_Model_allowed : MethodName := ⟨"TrapDeskModel", "allowed", "(I)I"⟩
abbrev cc_Model_allowed : ByteArray := prog_9_method_32_code
abbrev ws_Model_allowed : List Cond := Cond.code y_Model_allowed cc_Model_allowed 2 (some .int) :: gtb
theorem d_Model_allowed_0 : decode cc_Model_allowed 0 = .ok (.aload_n 0, 1) := by decide +kernel
theorem d_Model_allowed_1 : decode cc_Model_allowed 1 = .ok (.getfield 19, 3) := by decide +kernel
theorem d_Model_allowed_4 : decode cc_Model_allowed 4 = .ok (.ifCond .ne 5, 3) := by decide +kernel
theorem d_Model_allowed_7 : decode cc_Model_allowed 7 = .ok (.iconst 2, 1) := by decide +kernel
theorem d_Model_allowed_8 : decode cc_Model_allowed 8 = .ok (.ireturn, 1) := by decide +kernel
theorem d_Model_allowed_9 : decode cc_Model_allowed 9 = .ok (.aload_n 0, 1) := by decide +kernel
theorem d_Model_allowed_10 : decode cc_Model_allowed 10 = .ok (.getfield 19, 3) := by decide +kernel
theorem d_Model_allowed_13 : decode cc_Model_allowed 13 = .ok (.iconst 1, 1) := by decide +kernel
theorem d_Model_allowed_14 : decode cc_Model_allowed 14 = .ok (.if_icmp .eq 19, 3) := by decide +kernel
theorem d_Model_allowed_17 : decode cc_Model_allowed 17 = .ok (.aload_n 0, 1) := by decide +kernel
theorem d_Model_allowed_18 : decode cc_Model_allowed 18 = .ok (.getfield 19, 3) := by decide +kernel
theorem d_Model_allowed_21 : decode cc_Model_allowed 21 = .ok (.iconst 3, 1) := by decide +kernel
theorem d_Model_allowed_22 : decode cc_Model_allowed 22 = .ok (.if_icmp .ne 15, 3) := by decide +kernel
theorem d_Model_allowed_25 : decode cc_Model_allowed 25 = .ok (.aload_n 0, 1) := by decide +kernel
theorem d_Model_allowed_26 : decode cc_Model_allowed 26 = .ok (.iload_n 1, 1) := by decide +kernel
theorem d_Model_allowed_27 : decode cc_Model_allowed 27 = .ok (.invokevirtual 122, 3) := by decide +kernel
theorem d_Model_allowed_30 : decode cc_Model_allowed 30 = .ok (.ifCond .ne 7, 3) := by decide +kernel
theorem d_Model_allowed_33 : decode cc_Model_allowed 33 = .ok (.iconst 0, 1) := by decide +kernel
theorem d_Model_allowed_34 : decode cc_Model_allowed 34 = .ok (.goto 5, 3) := by decide +kernel
theorem d_Model_allowed_37 : decode cc_Model_allowed 37 = .ok (.bipush 22, 2) := by decide +kernel
theorem d_Model_allowed_39 : decode cc_Model_allowed 39 = .ok (.ireturn, 1) := by decide +kernel
abbrev y_Model_system : MethodName := ⟨"TrapDeskModel", "system", "(III)I"⟩
abbrev cc_Model_system : ByteArray := prog_9_method_33_code
abbrev ws_Model_system : List Cond := Cond.code y_Model_system cc_Model_system 4 (some .int) :: gtb
theorem d_Model_system_0 : decode cc_Model_system 0 = .ok (.iload_n 2, 1) := by decide +kernel
theorem d_Model_system_1 : decode cc_Model_system 1 = .ok (.bipush 9, 2) := by decide +kernel
theorem d_Model_system_3 : decode cc_Model_system 3 = .ok (.if_icmp .ne 10, 3) := by decide +kernel
theorem d_Model_system_6 : decode cc_Model_system 6 = .ok (.aload_n 0, 1) := by decide +kernel
theorem d_Model_system_7 : decode cc_Model_system 7 = .ok (.ldc 121, 2) := by decide +kernel
theorem d_Model_system_9 : decode cc_Model_system 9 = .ok (.invokevirtual 174, 3) := by decide +kernel
theorem d_Model_system_12 : decode cc_Model_system 12 = .ok (.ireturn, 1) := by decide +kernel
theorem d_Model_system_13 : decode cc_Model_system 13 = .ok (.iload_n 2, 1) := by decide +kernel
theorem d_Model_system_14 : decode cc_Model_system 14 = .ok (.bipush 17, 2) := by decide +kernel
theorem d_Model_system_16 : decode cc_Model_system 16 = .ok (.if_icmp .eq 9, 3) := by decide +kernel
theorem d_Model_system_19 : decode cc_Model_system 19 = .ok (.iload_n 2, 1) := by decide +kernel
theorem d_Model_system_20 : decode cc_Model_system 20 = .ok (.bipush 49, 2) := by decide +kernel
theorem d_Model_system_22 : decode cc_Model_system 22 = .ok (.if_icmp .ne 29, 3) := by decide +kernel
theorem d_Model_system_25 : decode cc_Model_system 25 = .ok (.aload_n 0, 1) := by decide +kernel
theorem d_Model_system_26 : decode cc_Model_system 26 = .ok (.getfield 19, 3) := by decide +kernel
theorem d_Model_system_29 : decode cc_Model_system 29 = .ok (.ifCond .ne 7, 3) := by decide +kernel
theorem d_Model_system_32 : decode cc_Model_system 32 = .ok (.iconst 2, 1) := by decide +kernel
theorem d_Model_system_33 : decode cc_Model_system 33 = .ok (.goto 17, 3) := by decide +kernel
theorem d_Model_system_36 : decode cc_Model_system 36 = .ok (.aload_n 0, 1) := by decide +kernel
theorem d_Model_system_37 : decode cc_Model_system 37 = .ok (.getfield 19, 3) := by decide +kernel
theorem d_Model_system_40 : decode cc_Model_system 40 = .ok (.iconst 1, 1) := by decide +kernel
theorem d_Model_system_41 : decode cc_Model_system 41 = .ok (.if_icmp .ne 7, 3) := by decide +kernel
theorem d_Model_system_44 : decode cc_Model_system 44 = .ok (.iconst 0, 1) := by decide +kernel
theorem d_Model_system_45 : decode cc_Model_system 45 = .ok (.goto 5, 3) := by decide +kernel
theorem d_Model_system_48 : decode cc_Model_system 48 = .ok (.bipush 22, 2) := by decide +kernel
theorem d_Model_system_50 : decode cc_Model_system 50 = .ok (.ireturn, 1) := by decide +kernel
theorem d_Model_system_51 : decode cc_Model_system 51 = .ok (.iload_n 1, 1) := by decide +kernel
theorem d_Model_system_52 : decode cc_Model_system 52 = .ok (.ifCond .eq 5, 3) := by decide +kernel
theorem d_Model_system_55 : decode cc_Model_system 55 = .ok (.iconst 2, 1) := by decide +kernel
theorem d_Model_system_56 : decode cc_Model_system 56 = .ok (.ireturn, 1) := by decide +kernel
theorem d_Model_system_57 : decode cc_Model_system 57 = .ok (.iload_n 3, 1) := by decide +kernel
theorem d_Model_system_58 : decode cc_Model_system 58 = .ok (.lookupswitch 61 #[(0, 42), (1, 47), (258, 49), (261, 54)], 42) := by decide +kernel
theorem d_Model_system_100 : decode cc_Model_system 100 = .ok (.aload_n 0, 1) := by decide +kernel
theorem d_Model_system_101 : decode cc_Model_system 101 = .ok (.invokevirtual 177, 3) := by decide +kernel
theorem d_Model_system_104 : decode cc_Model_system 104 = .ok (.ireturn, 1) := by decide +kernel
theorem d_Model_system_105 : decode cc_Model_system 105 = .ok (.iconst 3, 1) := by decide +kernel
theorem d_Model_system_106 : decode cc_Model_system 106 = .ok (.ireturn, 1) := by decide +kernel
theorem d_Model_system_107 : decode cc_Model_system 107 = .ok (.aload_n 0, 1) := by decide +kernel
theorem d_Model_system_108 : decode cc_Model_system 108 = .ok (.invokevirtual 180, 3) := by decide +kernel
theorem d_Model_system_111 : decode cc_Model_system 111 = .ok (.ireturn, 1) := by decide +kernel
theorem d_Model_system_112 : decode cc_Model_system 112 = .ok (.aload_n 0, 1) := by decide +kernel
theorem d_Model_system_113 : decode cc_Model_system 113 = .ok (.ldc 183, 2) := by decide +kernel
theorem d_Model_system_115 : decode cc_Model_system 115 = .ok (.invokevirtual 174, 3) := by decide +kernel
theorem d_Model_system_118 : decode cc_Model_system 118 = .ok (.ireturn, 1) := by decide +kernel
theorem d_Model_system_119 : decode cc_Model_system 119 = .ok (.iconst 2, 1) := by decide +kernel
theorem d_Model_system_120 : decode cc_Model_system 120 = .ok (.ireturn, 1) := by decide +kernel
abbrev y_Model_isFar : MethodName := ⟨"TrapDeskModel", "isFar", "(III)Z"⟩
abbrev cc_Model_isFar : ByteArray := prog_9_method_34_code
abbrev ws_Model_isFar : List Cond := Cond.code y_Model_isFar cc_Model_isFar 4 (some .boolean) :: gtb
theorem d_Model_isFar_0 : decode cc_Model_isFar 0 = .ok (.iload_n 1, 1) := by decide +kernel
theorem d_Model_isFar_1 : decode cc_Model_isFar 1 = .ok (.ifCond .ne 21, 3) := by decide +kernel
theorem d_Model_isFar_4 : decode cc_Model_isFar 4 = .ok (.iload_n 2, 1) := by decide +kernel
theorem d_Model_isFar_5 : decode cc_Model_isFar 5 = .ok (.bipush 48, 2) := by decide +kernel
theorem d_Model_isFar_7 : decode cc_Model_isFar 7 = .ok (.if_icmp .eq 49, 3) := by decide +kernel
theorem d_Model_isFar_10 : decode cc_Model_isFar 10 = .ok (.iload_n 2, 1) := by decide +kernel
theorem d_Model_isFar_11 : decode cc_Model_isFar 11 = .ok (.bipush 50, 2) := by decide +kernel
theorem d_Model_isFar_13 : decode cc_Model_isFar 13 = .ok (.if_icmp .eq 43, 3) := by decide +kernel
theorem d_Model_isFar_16 : decode cc_Model_isFar 16 = .ok (.iload_n 2, 1) := by decide +kernel
theorem d_Model_isFar_17 : decode cc_Model_isFar 17 = .ok (.bipush 52, 2) := by decide +kernel
theorem d_Model_isFar_19 : decode cc_Model_isFar 19 = .ok (.if_icmp .eq 37, 3) := by decide +kernel
theorem d_Model_isFar_22 : decode cc_Model_isFar 22 = .ok (.iload_n 1, 1) := by decide +kernel
theorem d_Model_isFar_23 : decode cc_Model_isFar 23 = .ok (.iconst 1, 1) := by decide +kernel
theorem d_Model_isFar_24 : decode cc_Model_isFar 24 = .ok (.if_icmp .ne 15, 3) := by decide +kernel
theorem d_Model_isFar_27 : decode cc_Model_isFar 27 = .ok (.iload_n 2, 1) := by decide +kernel
theorem d_Model_isFar_28 : decode cc_Model_isFar 28 = .ok (.bipush 48, 2) := by decide +kernel
theorem d_Model_isFar_30 : decode cc_Model_isFar 30 = .ok (.if_icmp .eq 26, 3) := by decide +kernel
theorem d_Model_isFar_33 : decode cc_Model_isFar 33 = .ok (.iload_n 2, 1) := by decide +kernel
theorem d_Model_isFar_34 : decode cc_Model_isFar 34 = .ok (.bipush 50, 2) := by decide +kernel
theorem d_Model_isFar_36 : decode cc_Model_isFar 36 = .ok (.if_icmp .eq 20, 3) := by decide +kernel
theorem d_Model_isFar_39 : decode cc_Model_isFar 39 = .ok (.iload_n 1, 1) := by decide +kernel
theorem d_Model_isFar_40 : decode cc_Model_isFar 40 = .ok (.iconst 3, 1) := by decide +kernel
theorem d_Model_isFar_41 : decode cc_Model_isFar 41 = .ok (.if_icmp .ne 19, 3) := by decide +kernel
theorem d_Model_isFar_44 : decode cc_Model_isFar 44 = .ok (.iload_n 2, 1) := by decide +kernel
theorem d_Model_isFar_45 : decode cc_Model_isFar 45 = .ok (.bipush 50, 2) := by decide +kernel
theorem d_Model_isFar_47 : decode cc_Model_isFar 47 = .ok (.if_icmp .eq 9, 3) := by decide +kernel
theorem d_Model_isFar_50 : decode cc_Model_isFar 50 = .ok (.iload_n 2, 1) := by decide +kernel
theorem d_Model_isFar_51 : decode cc_Model_isFar 51 = .ok (.bipush 52, 2) := by decide +kernel
theorem d_Model_isFar_53 : decode cc_Model_isFar 53 = .ok (.if_icmp .ne 7, 3) := by decide +kernel
theorem d_Model_isFar_56 : decode cc_Model_isFar 56 = .ok (.iconst 1, 1) := by decide +kernel
theorem d_Model_isFar_57 : decode cc_Model_isFar 57 = .ok (.goto 4, 3) := by decide +kernel
theorem d_Model_isFar_60 : decode cc_Model_isFar 60 = .ok (.iconst 0, 1) := by decide +kernel
theorem d_Model_isFar_61 : decode cc_Model_isFar 61 = .ok (.istore_n 3, 1) := by decide +kernel
theorem d_Model_isFar_62 : decode cc_Model_isFar 62 = .ok (.iload_n 3, 1) := by decide +kernel
theorem d_Model_isFar_63 : decode cc_Model_isFar 63 = .ok (.ifCond .ne 25, 3) := by decide +kernel
theorem d_Model_isFar_66 : decode cc_Model_isFar 66 = .ok (.iload_n 0, 1) := by decide +kernel
theorem d_Model_isFar_67 : decode cc_Model_isFar 67 = .ok (.ifCond .ne 25, 3) := by decide +kernel
theorem d_Model_isFar_70 : decode cc_Model_isFar 70 = .ok (.iload_n 2, 1) := by decide +kernel
theorem d_Model_isFar_71 : decode cc_Model_isFar 71 = .ok (.bipush 49, 2) := by decide +kernel
theorem d_Model_isFar_73 : decode cc_Model_isFar 73 = .ok (.if_icmp .eq 15, 3) := by decide +kernel
theorem d_Model_isFar_76 : decode cc_Model_isFar 76 = .ok (.iload_n 2, 1) := by decide +kernel
theorem d_Model_isFar_77 : decode cc_Model_isFar 77 = .ok (.bipush 51, 2) := by decide +kernel
theorem d_Model_isFar_79 : decode cc_Model_isFar 79 = .ok (.if_icmp .eq 9, 3) := by decide +kernel
theorem d_Model_isFar_82 : decode cc_Model_isFar 82 = .ok (.iload_n 2, 1) := by decide +kernel
theorem d_Model_isFar_83 : decode cc_Model_isFar 83 = .ok (.bipush 53, 2) := by decide +kernel
theorem d_Model_isFar_85 : decode cc_Model_isFar 85 = .ok (.if_icmp .ne 7, 3) := by decide +kernel
theorem d_Model_isFar_88 : decode cc_Model_isFar 88 = .ok (.iconst 1, 1) := by decide +kernel
theorem d_Model_isFar_89 : decode cc_Model_isFar 89 = .ok (.goto 4, 3) := by decide +kernel
theorem d_Model_isFar_92 : decode cc_Model_isFar 92 = .ok (.iconst 0, 1) := by decide +kernel
theorem d_Model_isFar_93 : decode cc_Model_isFar 93 = .ok (.ireturn, 1) := by decide +kernel
abbrev y_Model_doWord : MethodName := ⟨"TrapDeskModel", "doWord", "(I)I"⟩
abbrev cc_Model_doWord : ByteArray := prog_9_method_35_code
abbrev ws_Model_doWord : List Cond := Cond.code y_Model_doWord cc_Model_doWord 9 (some .int) :: gtb
theorem d_Model_doWord_0 : decode cc_Model_doWord 0 = .ok (.aload_n 0, 1) := by decide +kernel
theorem d_Model_doWord_1 : decode cc_Model_doWord 1 = .ok (.getfield 51, 3) := by decide +kernel
theorem d_Model_doWord_4 : decode cc_Model_doWord 4 = .ok (.ifCond .eq 6, 3) := by decide +kernel
theorem d_Model_doWord_7 : decode cc_Model_doWord 7 = .ok (.bipush (-3), 2) := by decide +kernel
theorem d_Model_doWord_9 : decode cc_Model_doWord 9 = .ok (.ireturn, 1) := by decide +kernel
theorem d_Model_doWord_10 : decode cc_Model_doWord 10 = .ok (.iload_n 1, 1) := by decide +kernel
theorem d_Model_doWord_11 : decode cc_Model_doWord 11 = .ok (.bipush 7, 2) := by decide +kernel
theorem d_Model_doWord_13 : decode cc_Model_doWord 13 = .ok (.ishr, 1) := by decide +kernel
theorem d_Model_doWord_14 : decode cc_Model_doWord 14 = .ok (.bipush 31, 2) := by decide +kernel
theorem d_Model_doWord_16 : decode cc_Model_doWord 16 = .ok (.iand, 1) := by decide +kernel
theorem d_Model_doWord_17 : decode cc_Model_doWord 17 = .ok (.istore_n 2, 1) := by decide +kernel
theorem d_Model_doWord_18 : decode cc_Model_doWord 18 = .ok (.iload_n 1, 1) := by decide +kernel
theorem d_Model_doWord_19 : decode cc_Model_doWord 19 = .ok (.bipush 12, 2) := by decide +kernel
theorem d_Model_doWord_21 : decode cc_Model_doWord 21 = .ok (.ishr, 1) := by decide +kernel
theorem d_Model_doWord_22 : decode cc_Model_doWord 22 = .ok (.bipush 7, 2) := by decide +kernel
theorem d_Model_doWord_24 : decode cc_Model_doWord 24 = .ok (.iand, 1) := by decide +kernel
theorem d_Model_doWord_25 : decode cc_Model_doWord 25 = .ok (.istore_n 3, 1) := by decide +kernel
theorem d_Model_doWord_26 : decode cc_Model_doWord 26 = .ok (.iload_n 1, 1) := by decide +kernel
theorem d_Model_doWord_27 : decode cc_Model_doWord 27 = .ok (.bipush 15, 2) := by decide +kernel
theorem d_Model_doWord_29 : decode cc_Model_doWord 29 = .ok (.ishr, 1) := by decide +kernel
theorem d_Model_doWord_30 : decode cc_Model_doWord 30 = .ok (.bipush 31, 2) := by decide +kernel
theorem d_Model_doWord_32 : decode cc_Model_doWord 32 = .ok (.iand, 1) := by decide +kernel
theorem d_Model_doWord_33 : decode cc_Model_doWord 33 = .ok (.istore 4, 2) := by decide +kernel
theorem d_Model_doWord_35 : decode cc_Model_doWord 35 = .ok (.iload_n 1, 1) := by decide +kernel
theorem d_Model_doWord_36 : decode cc_Model_doWord 36 = .ok (.bipush 20, 2) := by decide +kernel
theorem d_Model_doWord_38 : decode cc_Model_doWord 38 = .ok (.ishr, 1) := by decide +kernel
theorem d_Model_doWord_39 : decode cc_Model_doWord 39 = .ok (.bipush 31, 2) := by decide +kernel
theorem d_Model_doWord_41 : decode cc_Model_doWord 41 = .ok (.iand, 1) := by decide +kernel
theorem d_Model_doWord_42 : decode cc_Model_doWord 42 = .ok (.istore 5, 2) := by decide +kernel
theorem d_Model_doWord_44 : decode cc_Model_doWord 44 = .ok (.iload_n 1, 1) := by decide +kernel
theorem d_Model_doWord_45 : decode cc_Model_doWord 45 = .ok (.bipush 25, 2) := by decide +kernel
theorem d_Model_doWord_47 : decode cc_Model_doWord 47 = .ok (.iushr, 1) := by decide +kernel
theorem d_Model_doWord_48 : decode cc_Model_doWord 48 = .ok (.istore 6, 2) := by decide +kernel
theorem d_Model_doWord_50 : decode cc_Model_doWord 50 = .ok (.iload_n 1, 1) := by decide +kernel
theorem d_Model_doWord_51 : decode cc_Model_doWord 51 = .ok (.bipush 20, 2) := by decide +kernel
theorem d_Model_doWord_53 : decode cc_Model_doWord 53 = .ok (.iushr, 1) := by decide +kernel
theorem d_Model_doWord_54 : decode cc_Model_doWord 54 = .ok (.istore 7, 2) := by decide +kernel
theorem d_Model_doWord_56 : decode cc_Model_doWord 56 = .ok (.iconst 2, 1) := by decide +kernel
theorem d_Model_doWord_57 : decode cc_Model_doWord 57 = .ok (.istore 8, 2) := by decide +kernel
theorem d_Model_doWord_59 : decode cc_Model_doWord 59 = .ok (.iload_n 1, 1) := by decide +kernel
theorem d_Model_doWord_60 : decode cc_Model_doWord 60 = .ok (.bipush 127, 2) := by decide +kernel
theorem d_Model_doWord_62 : decode cc_Model_doWord 62 = .ok (.iand, 1) := by decide +kernel
theorem d_Model_doWord_63 : decode cc_Model_doWord 63 = .ok (.bipush 115, 2) := by decide +kernel
theorem d_Model_doWord_65 : decode cc_Model_doWord 65 = .ok (.if_icmp .ne 105, 3) := by decide +kernel
theorem d_Model_doWord_68 : decode cc_Model_doWord 68 = .ok (.iload_n 3, 1) := by decide +kernel
theorem d_Model_doWord_69 : decode cc_Model_doWord 69 = .ok (.iconst 4, 1) := by decide +kernel
theorem d_Model_doWord_70 : decode cc_Model_doWord 70 = .ok (.if_icmp .ne 59, 3) := by decide +kernel
theorem d_Model_doWord_73 : decode cc_Model_doWord 73 = .ok (.iload_n 2, 1) := by decide +kernel
theorem d_Model_doWord_74 : decode cc_Model_doWord 74 = .ok (.iload 5, 2) := by decide +kernel
theorem d_Model_doWord_76 : decode cc_Model_doWord 76 = .ok (.iload 6, 2) := by decide +kernel
theorem d_Model_doWord_78 : decode cc_Model_doWord 78 = .ok (.invokestatic 184, 3) := by decide +kernel
theorem d_Model_doWord_81 : decode cc_Model_doWord 81 = .ok (.ifCond .eq 48, 3) := by decide +kernel
theorem d_Model_doWord_84 : decode cc_Model_doWord 84 = .ok (.aload_n 0, 1) := by decide +kernel
theorem d_Model_doWord_85 : decode cc_Model_doWord 85 = .ok (.getfield 19, 3) := by decide +kernel
theorem d_Model_doWord_88 : decode cc_Model_doWord 88 = .ok (.iconst 2, 1) := by decide +kernel
theorem d_Model_doWord_89 : decode cc_Model_doWord 89 = .ok (.if_icmp .lt 8, 3) := by decide +kernel
theorem d_Model_doWord_92 : decode cc_Model_doWord 92 = .ok (.bipush 22, 2) := by decide +kernel
theorem d_Model_doWord_94 : decode cc_Model_doWord 94 = .ok (.goto 25, 3) := by decide +kernel
theorem d_Model_doWord_97 : decode cc_Model_doWord 97 = .ok (.aload_n 0, 1) := by decide +kernel
theorem d_Model_doWord_98 : decode cc_Model_doWord 98 = .ok (.getfield 19, 3) := by decide +kernel
theorem d_Model_doWord_101 : decode cc_Model_doWord 101 = .ok (.ifCond .ne 17, 3) := by decide +kernel
theorem d_Model_doWord_104 : decode cc_Model_doWord 104 = .ok (.aload_n 0, 1) := by decide +kernel
theorem d_Model_doWord_105 : decode cc_Model_doWord 105 = .ok (.sipush 512, 3) := by decide +kernel
theorem d_Model_doWord_108 : decode cc_Model_doWord 108 = .ok (.invokevirtual 122, 3) := by decide +kernel
theorem d_Model_doWord_111 : decode cc_Model_doWord 111 = .ok (.ifCond .ne 7, 3) := by decide +kernel
theorem d_Model_doWord_114 : decode cc_Model_doWord 114 = .ok (.iconst 2, 1) := by decide +kernel
theorem d_Model_doWord_115 : decode cc_Model_doWord 115 = .ok (.goto 4, 3) := by decide +kernel
theorem d_Model_doWord_118 : decode cc_Model_doWord 118 = .ok (.iconst 0, 1) := by decide +kernel
theorem d_Model_doWord_119 : decode cc_Model_doWord 119 = .ok (.istore 8, 2) := by decide +kernel
theorem d_Model_doWord_121 : decode cc_Model_doWord 121 = .ok (.iload 8, 2) := by decide +kernel
theorem d_Model_doWord_123 : decode cc_Model_doWord 123 = .ok (.ifCond .ne 47, 3) := by decide +kernel
theorem d_Model_doWord_126 : decode cc_Model_doWord 126 = .ok (.bipush (-2), 2) := by decide +kernel
theorem d_Model_doWord_128 : decode cc_Model_doWord 128 = .ok (.ireturn, 1) := by decide +kernel
theorem d_Model_doWord_129 : decode cc_Model_doWord 129 = .ok (.iload_n 3, 1) := by decide +kernel
theorem d_Model_doWord_130 : decode cc_Model_doWord 130 = .ok (.ifCond .ne 22, 3) := by decide +kernel
theorem d_Model_doWord_133 : decode cc_Model_doWord 133 = .ok (.iload_n 2, 1) := by decide +kernel
theorem d_Model_doWord_134 : decode cc_Model_doWord 134 = .ok (.ifCond .ne 18, 3) := by decide +kernel
theorem d_Model_doWord_137 : decode cc_Model_doWord 137 = .ok (.aload_n 0, 1) := by decide +kernel
theorem d_Model_doWord_138 : decode cc_Model_doWord 138 = .ok (.iload 4, 2) := by decide +kernel
theorem d_Model_doWord_140 : decode cc_Model_doWord 140 = .ok (.iload 6, 2) := by decide +kernel
theorem d_Model_doWord_142 : decode cc_Model_doWord 142 = .ok (.iload 7, 2) := by decide +kernel
theorem d_Model_doWord_144 : decode cc_Model_doWord 144 = .ok (.invokevirtual 188, 3) := by decide +kernel
theorem d_Model_doWord_147 : decode cc_Model_doWord 147 = .ok (.istore 8, 2) := by decide +kernel
theorem d_Model_doWord_149 : decode cc_Model_doWord 149 = .ok (.goto 21, 3) := by decide +kernel
theorem d_Model_doWord_152 : decode cc_Model_doWord 152 = .ok (.iload_n 3, 1) := by decide +kernel
theorem d_Model_doWord_153 : decode cc_Model_doWord 153 = .ok (.iconst 4, 1) := by decide +kernel
theorem d_Model_doWord_154 : decode cc_Model_doWord 154 = .ok (.irem, 1) := by decide +kernel
theorem d_Model_doWord_155 : decode cc_Model_doWord 155 = .ok (.ifCond .eq 15, 3) := by decide +kernel
theorem d_Model_doWord_158 : decode cc_Model_doWord 158 = .ok (.aload_n 0, 1) := by decide +kernel
theorem d_Model_doWord_159 : decode cc_Model_doWord 159 = .ok (.iload_n 3, 1) := by decide +kernel
theorem d_Model_doWord_160 : decode cc_Model_doWord 160 = .ok (.iload_n 2, 1) := by decide +kernel
theorem d_Model_doWord_161 : decode cc_Model_doWord 161 = .ok (.iload 4, 2) := by decide +kernel
theorem d_Model_doWord_163 : decode cc_Model_doWord 163 = .ok (.iload 7, 2) := by decide +kernel
theorem d_Model_doWord_165 : decode cc_Model_doWord 165 = .ok (.invokevirtual 192, 3) := by decide +kernel
theorem d_Model_doWord_168 : decode cc_Model_doWord 168 = .ok (.istore 8, 2) := by decide +kernel
theorem d_Model_doWord_170 : decode cc_Model_doWord 170 = .ok (.iload 8, 2) := by decide +kernel
theorem d_Model_doWord_172 : decode cc_Model_doWord 172 = .ok (.ifCond .le 46, 3) := by decide +kernel
theorem d_Model_doWord_175 : decode cc_Model_doWord 175 = .ok (.aload_n 0, 1) := by decide +kernel
theorem d_Model_doWord_176 : decode cc_Model_doWord 176 = .ok (.iload 8, 2) := by decide +kernel
theorem d_Model_doWord_178 : decode cc_Model_doWord 178 = .ok (.iload 8, 2) := by decide +kernel
theorem d_Model_doWord_180 : decode cc_Model_doWord 180 = .ok (.iconst 2, 1) := by decide +kernel
theorem d_Model_doWord_181 : decode cc_Model_doWord 181 = .ok (.if_icmp .eq 10, 3) := by decide +kernel
theorem d_Model_doWord_184 : decode cc_Model_doWord 184 = .ok (.iload 8, 2) := by decide +kernel
theorem d_Model_doWord_186 : decode cc_Model_doWord 186 = .ok (.bipush 22, 2) := by decide +kernel
theorem d_Model_doWord_188 : decode cc_Model_doWord 188 = .ok (.if_icmp .ne 7, 3) := by decide +kernel
theorem d_Model_doWord_191 : decode cc_Model_doWord 191 = .ok (.iload_n 1, 1) := by decide +kernel
theorem d_Model_doWord_192 : decode cc_Model_doWord 192 = .ok (.goto 17, 3) := by decide +kernel
theorem d_Model_doWord_195 : decode cc_Model_doWord 195 = .ok (.iload 8, 2) := by decide +kernel
theorem d_Model_doWord_197 : decode cc_Model_doWord 197 = .ok (.iconst 3, 1) := by decide +kernel
theorem d_Model_doWord_198 : decode cc_Model_doWord 198 = .ok (.if_icmp .ne 10, 3) := by decide +kernel
theorem d_Model_doWord_201 : decode cc_Model_doWord 201 = .ok (.aload_n 0, 1) := by decide +kernel
theorem d_Model_doWord_202 : decode cc_Model_doWord 202 = .ok (.getfield 23, 3) := by decide +kernel
theorem d_Model_doWord_205 : decode cc_Model_doWord 205 = .ok (.goto 4, 3) := by decide +kernel
theorem d_Model_doWord_208 : decode cc_Model_doWord 208 = .ok (.iconst 0, 1) := by decide +kernel
theorem d_Model_doWord_209 : decode cc_Model_doWord 209 = .ok (.iconst 0, 1) := by decide +kernel
theorem d_Model_doWord_210 : decode cc_Model_doWord 210 = .ok (.iconst 0, 1) := by decide +kernel
theorem d_Model_doWord_211 : decode cc_Model_doWord 211 = .ok (.iconst 0, 1) := by decide +kernel
theorem d_Model_doWord_212 : decode cc_Model_doWord 212 = .ok (.invokevirtual 146, 3) := by decide +kernel
theorem d_Model_doWord_215 : decode cc_Model_doWord 215 = .ok (.iload 8, 2) := by decide +kernel
theorem d_Model_doWord_217 : decode cc_Model_doWord 217 = .ok (.ireturn, 1) := by decide +kernel
theorem d_Model_doWord_218 : decode cc_Model_doWord 218 = .ok (.aload_n 0, 1) := by decide +kernel
theorem d_Model_doWord_219 : decode cc_Model_doWord 219 = .ok (.dup, 1) := by decide +kernel
theorem d_Model_doWord_220 : decode cc_Model_doWord 220 = .ok (.getfield 23, 3) := by decide +kernel
theorem d_Model_doWord_223 : decode cc_Model_doWord 223 = .ok (.iconst 4, 1) := by decide +kernel
theorem d_Model_doWord_224 : decode cc_Model_doWord 224 = .ok (.iadd, 1) := by decide +kernel
theorem d_Model_doWord_225 : decode cc_Model_doWord 225 = .ok (.putfield 23, 3) := by decide +kernel
theorem d_Model_doWord_228 : decode cc_Model_doWord 228 = .ok (.iconst (-1), 1) := by decide +kernel
theorem d_Model_doWord_229 : decode cc_Model_doWord 229 = .ok (.ireturn, 1) := by decide +kernel
abbrev y_Model_mode : MethodName := ⟨"TrapDeskModel", "mode", "(I)I"⟩
abbrev cc_Model_mode : ByteArray := prog_9_method_36_code
abbrev ws_Model_mode : List Cond := Cond.code y_Model_mode cc_Model_mode 3 (some .int) :: gtb
theorem d_Model_mode_0 : decode cc_Model_mode 0 = .ok (.iload_n 1, 1) := by decide +kernel
theorem d_Model_mode_1 : decode cc_Model_mode 1 = .ok (.ifCond .lt 8, 3) := by decide +kernel
theorem d_Model_mode_4 : decode cc_Model_mode 4 = .ok (.iload_n 1, 1) := by decide +kernel
theorem d_Model_mode_5 : decode cc_Model_mode 5 = .ok (.iconst 3, 1) := by decide +kernel
theorem d_Model_mode_6 : decode cc_Model_mode 6 = .ok (.if_icmp .le 5, 3) := by decide +kernel
theorem d_Model_mode_9 : decode cc_Model_mode 9 = .ok (.iconst (-1), 1) := by decide +kernel
theorem d_Model_mode_10 : decode cc_Model_mode 10 = .ok (.ireturn, 1) := by decide +kernel
theorem d_Model_mode_11 : decode cc_Model_mode 11 = .ok (.aload_n 0, 1) := by decide +kernel
theorem d_Model_mode_12 : decode cc_Model_mode 12 = .ok (.getfield 19, 3) := by decide +kernel
theorem d_Model_mode_15 : decode cc_Model_mode 15 = .ok (.istore_n 2, 1) := by decide +kernel
theorem d_Model_mode_16 : decode cc_Model_mode 16 = .ok (.aload_n 0, 1) := by decide +kernel
theorem d_Model_mode_17 : decode cc_Model_mode 17 = .ok (.iload_n 1, 1) := by decide +kernel
theorem d_Model_mode_18 : decode cc_Model_mode 18 = .ok (.putfield 19, 3) := by decide +kernel
theorem d_Model_mode_21 : decode cc_Model_mode 21 = .ok (.iload_n 2, 1) := by decide +kernel
theorem d_Model_mode_22 : decode cc_Model_mode 22 = .ok (.ireturn, 1) := by decide +kernel
abbrev y_Model_go : MethodName := ⟨"TrapDeskModel", "go", "(I)I"⟩
abbrev cc_Model_go : ByteArray := prog_9_method_37_code
abbrev ws_Model_go : List Cond := Cond.code y_Model_go cc_Model_go 2 (some .int) :: gtb
theorem d_Model_go_0 : decode cc_Model_go 0 = .ok (.iload_n 1, 1) := by decide +kernel
theorem d_Model_go_1 : decode cc_Model_go 1 = .ok (.iconst 4, 1) := by decide +kernel
theorem d_Model_go_2 : decode cc_Model_go 2 = .ok (.irem, 1) := by decide +kernel
theorem d_Model_go_3 : decode cc_Model_go 3 = .ok (.ifCond .eq 5, 3) := by decide +kernel
theorem d_Model_go_6 : decode cc_Model_go 6 = .ok (.iconst (-1), 1) := by decide +kernel
theorem d_Model_go_7 : decode cc_Model_go 7 = .ok (.ireturn, 1) := by decide +kernel
theorem d_Model_go_8 : decode cc_Model_go 8 = .ok (.aload_n 0, 1) := by decide +kernel
theorem d_Model_go_9 : decode cc_Model_go 9 = .ok (.iload_n 1, 1) := by decide +kernel
theorem d_Model_go_10 : decode cc_Model_go 10 = .ok (.putfield 23, 3) := by decide +kernel
theorem d_Model_go_13 : decode cc_Model_go 13 = .ok (.iconst 0, 1) := by decide +kernel
theorem d_Model_go_14 : decode cc_Model_go 14 = .ok (.ireturn, 1) := by decide +kernel
abbrev y_Model_time : MethodName := ⟨"TrapDeskModel", "time", "(J)J"⟩
abbrev cc_Model_time : ByteArray := prog_9_method_38_code
abbrev ws_Model_time : List Cond := Cond.code y_Model_time cc_Model_time 5 (some .long) :: gtb
theorem d_Model_time_0 : decode cc_Model_time 0 = .ok (.lload_n 1, 1) := by decide +kernel
theorem d_Model_time_1 : decode cc_Model_time 1 = .ok (.lconst 0, 1) := by decide +kernel
theorem d_Model_time_2 : decode cc_Model_time 2 = .ok (.lcmp, 1) := by decide +kernel
theorem d_Model_time_3 : decode cc_Model_time 3 = .ok (.ifCond .ge 7, 3) := by decide +kernel
theorem d_Model_time_6 : decode cc_Model_time 6 = .ok (.ldc2_w 195, 3) := by decide +kernel
theorem d_Model_time_9 : decode cc_Model_time 9 = .ok (.lreturn, 1) := by decide +kernel
theorem d_Model_time_10 : decode cc_Model_time 10 = .ok (.aload_n 0, 1) := by decide +kernel
theorem d_Model_time_11 : decode cc_Model_time 11 = .ok (.getfield 26, 3) := by decide +kernel
theorem d_Model_time_14 : decode cc_Model_time 14 = .ok (.lstore_n 3, 1) := by decide +kernel
theorem d_Model_time_15 : decode cc_Model_time 15 = .ok (.aload_n 0, 1) := by decide +kernel
theorem d_Model_time_16 : decode cc_Model_time 16 = .ok (.lload_n 1, 1) := by decide +kernel
theorem d_Model_time_17 : decode cc_Model_time 17 = .ok (.putfield 26, 3) := by decide +kernel
theorem d_Model_time_20 : decode cc_Model_time 20 = .ok (.lload_n 3, 1) := by decide +kernel
theorem d_Model_time_21 : decode cc_Model_time 21 = .ok (.lreturn, 1) := by decide +kernel
abbrev y_Model_line : MethodName := ⟨"TrapDeskModel", "line", "(Z)Z"⟩
abbrev cc_Model_line : ByteArray := prog_9_method_39_code
abbrev ws_Model_line : List Cond := Cond.code y_Model_line cc_Model_line 3 (some .boolean) :: gtb
theorem d_Model_line_0 : decode cc_Model_line 0 = .ok (.aload_n 0, 1) := by decide +kernel
theorem d_Model_line_1 : decode cc_Model_line 1 = .ok (.getfield 35, 3) := by decide +kernel
theorem d_Model_line_4 : decode cc_Model_line 4 = .ok (.istore_n 2, 1) := by decide +kernel
theorem d_Model_line_5 : decode cc_Model_line 5 = .ok (.aload_n 0, 1) := by decide +kernel
theorem d_Model_line_6 : decode cc_Model_line 6 = .ok (.iload_n 1, 1) := by decide +kernel
theorem d_Model_line_7 : decode cc_Model_line 7 = .ok (.putfield 35, 3) := by decide +kernel
theorem d_Model_line_10 : decode cc_Model_line 10 = .ok (.iload_n 2, 1) := by decide +kernel
theorem d_Model_line_11 : decode cc_Model_line 11 = .ok (.ireturn, 1) := by decide +kernel
abbrev y_Model_set : MethodName := ⟨"TrapDeskModel", "set", "(II)I"⟩
abbrev cc_Model_set : ByteArray := prog_9_method_40_code
abbrev ws_Model_set : List Cond := Cond.code y_Model_set cc_Model_set 4 (some .int) :: gtb
theorem d_Model_set_0 : decode cc_Model_set 0 = .ok (.aload_n 0, 1) := by decide +kernel
theorem d_Model_set_1 : decode cc_Model_set 1 = .ok (.iload_n 1, 1) := by decide +kernel
theorem d_Model_set_2 : decode cc_Model_set 2 = .ok (.invokevirtual 158, 3) := by decide +kernel
theorem d_Model_set_5 : decode cc_Model_set 5 = .ok (.istore_n 3, 1) := by decide +kernel
theorem d_Model_set_6 : decode cc_Model_set 6 = .ok (.aload_n 0, 1) := by decide +kernel
theorem d_Model_set_7 : decode cc_Model_set 7 = .ok (.iload_n 1, 1) := by decide +kernel
theorem d_Model_set_8 : decode cc_Model_set 8 = .ok (.iload_n 2, 1) := by decide +kernel
theorem d_Model_set_9 : decode cc_Model_set 9 = .ok (.invokevirtual 161, 3) := by decide +kernel
theorem d_Model_set_12 : decode cc_Model_set 12 = .ok (.iload_n 3, 1) := by decide +kernel
theorem d_Model_set_13 : decode cc_Model_set 13 = .ok (.ireturn, 1) := by decide +kernel
abbrev y_Model_register : MethodName := ⟨"TrapDeskModel", "register", "(I)I"⟩
abbrev cc_Model_register : ByteArray := prog_9_method_41_code
abbrev ws_Model_register : List Cond := Cond.code y_Model_register cc_Model_register 2 (some .int) :: gtb
theorem d_Model_register_0 : decode cc_Model_register 0 = .ok (.aload_n 0, 1) := by decide +kernel
theorem d_Model_register_1 : decode cc_Model_register 1 = .ok (.iload_n 1, 1) := by decide +kernel
theorem d_Model_register_2 : decode cc_Model_register 2 = .ok (.invokevirtual 158, 3) := by decide +kernel
theorem d_Model_register_5 : decode cc_Model_register 5 = .ok (.ireturn, 1) := by decide +kernel
abbrev y_Model_count : MethodName := ⟨"TrapDeskModel", "count", "(I)I"⟩
abbrev cc_Model_count : ByteArray := prog_9_method_42_code
abbrev ws_Model_count : List Cond := Cond.code y_Model_count cc_Model_count 2 (some .int) :: gtb
theorem d_Model_count_0 : decode cc_Model_count 0 = .ok (.iload_n 1, 1) := by decide +kernel
theorem d_Model_count_1 : decode cc_Model_count 1 = .ok (.tableswitch 109 0 8 #[51, 56, 61, 66, 71, 76, 81, 94, 100], 51) := by decide +kernel
theorem d_Model_count_52 : decode cc_Model_count 52 = .ok (.aload_n 0, 1) := by decide +kernel
theorem d_Model_count_53 : decode cc_Model_count 53 = .ok (.getfield 19, 3) := by decide +kernel
theorem d_Model_count_56 : decode cc_Model_count 56 = .ok (.ireturn, 1) := by decide +kernel
theorem d_Model_count_57 : decode cc_Model_count 57 = .ok (.aload_n 0, 1) := by decide +kernel
theorem d_Model_count_58 : decode cc_Model_count 58 = .ok (.getfield 23, 3) := by decide +kernel
theorem d_Model_count_61 : decode cc_Model_count 61 = .ok (.ireturn, 1) := by decide +kernel
theorem d_Model_count_62 : decode cc_Model_count 62 = .ok (.aload_n 0, 1) := by decide +kernel
theorem d_Model_count_63 : decode cc_Model_count 63 = .ok (.getfield 54, 3) := by decide +kernel
theorem d_Model_count_66 : decode cc_Model_count 66 = .ok (.ireturn, 1) := by decide +kernel
theorem d_Model_count_67 : decode cc_Model_count 67 = .ok (.aload_n 0, 1) := by decide +kernel
theorem d_Model_count_68 : decode cc_Model_count 68 = .ok (.getfield 57, 3) := by decide +kernel
theorem d_Model_count_71 : decode cc_Model_count 71 = .ok (.ireturn, 1) := by decide +kernel
theorem d_Model_count_72 : decode cc_Model_count 72 = .ok (.aload_n 0, 1) := by decide +kernel
theorem d_Model_count_73 : decode cc_Model_count 73 = .ok (.getfield 60, 3) := by decide +kernel
theorem d_Model_count_76 : decode cc_Model_count 76 = .ok (.ireturn, 1) := by decide +kernel
theorem d_Model_count_77 : decode cc_Model_count 77 = .ok (.aload_n 0, 1) := by decide +kernel
theorem d_Model_count_78 : decode cc_Model_count 78 = .ok (.getfield 48, 3) := by decide +kernel
theorem d_Model_count_81 : decode cc_Model_count 81 = .ok (.ireturn, 1) := by decide +kernel
theorem d_Model_count_82 : decode cc_Model_count 82 = .ok (.aload_n 0, 1) := by decide +kernel
theorem d_Model_count_83 : decode cc_Model_count 83 = .ok (.getfield 51, 3) := by decide +kernel
theorem d_Model_count_86 : decode cc_Model_count 86 = .ok (.ifCond .eq 7, 3) := by decide +kernel
theorem d_Model_count_89 : decode cc_Model_count 89 = .ok (.iconst 1, 1) := by decide +kernel
theorem d_Model_count_90 : decode cc_Model_count 90 = .ok (.goto 4, 3) := by decide +kernel
theorem d_Model_count_93 : decode cc_Model_count 93 = .ok (.iconst 0, 1) := by decide +kernel
theorem d_Model_count_94 : decode cc_Model_count 94 = .ok (.ireturn, 1) := by decide +kernel
theorem d_Model_count_95 : decode cc_Model_count 95 = .ok (.aload_n 0, 1) := by decide +kernel
theorem d_Model_count_96 : decode cc_Model_count 96 = .ok (.getfield 32, 3) := by decide +kernel
theorem d_Model_count_99 : decode cc_Model_count 99 = .ok (.l2i, 1) := by decide +kernel
theorem d_Model_count_100 : decode cc_Model_count 100 = .ok (.ireturn, 1) := by decide +kernel
theorem d_Model_count_101 : decode cc_Model_count 101 = .ok (.aload_n 0, 1) := by decide +kernel
theorem d_Model_count_102 : decode cc_Model_count 102 = .ok (.getfield 32, 3) := by decide +kernel
theorem d_Model_count_105 : decode cc_Model_count 105 = .ok (.bipush 32, 2) := by decide +kernel
theorem d_Model_count_107 : decode cc_Model_count 107 = .ok (.lshr, 1) := by decide +kernel
theorem d_Model_count_108 : decode cc_Model_count 108 = .ok (.l2i, 1) := by decide +kernel
theorem d_Model_count_109 : decode cc_Model_count 109 = .ok (.ireturn, 1) := by decide +kernel
theorem d_Model_count_110 : decode cc_Model_count 110 = .ok (.iconst (-1), 1) := by decide +kernel
theorem d_Model_count_111 : decode cc_Model_count 111 = .ok (.ireturn, 1) := by decide +kernel
abbrev y_Model_console : MethodName := ⟨"TrapDeskModel", "console", "(I)I"⟩
abbrev cc_Model_console : ByteArray := prog_9_method_43_code
abbrev ws_Model_console : List Cond := Cond.code y_Model_console cc_Model_console 2 (some .int) :: gtb
theorem d_Model_console_0 : decode cc_Model_console 0 = .ok (.iload_n 1, 1) := by decide +kernel
theorem d_Model_console_1 : decode cc_Model_console 1 = .ok (.ifCond .lt 20, 3) := by decide +kernel
theorem d_Model_console_4 : decode cc_Model_console 4 = .ok (.iload_n 1, 1) := by decide +kernel
theorem d_Model_console_5 : decode cc_Model_console 5 = .ok (.aload_n 0, 1) := by decide +kernel
theorem d_Model_console_6 : decode cc_Model_console 6 = .ok (.getfield 48, 3) := by decide +kernel
theorem d_Model_console_9 : decode cc_Model_console 9 = .ok (.if_icmp .ge 12, 3) := by decide +kernel
theorem d_Model_console_12 : decode cc_Model_console 12 = .ok (.aload_n 0, 1) := by decide +kernel
theorem d_Model_console_13 : decode cc_Model_console 13 = .ok (.getfield 7, 3) := by decide +kernel
theorem d_Model_console_16 : decode cc_Model_console 16 = .ok (.iload_n 1, 1) := by decide +kernel
theorem d_Model_console_17 : decode cc_Model_console 17 = .ok (.iaload, 1) := by decide +kernel
theorem d_Model_console_18 : decode cc_Model_console 18 = .ok (.goto 4, 3) := by decide +kernel
theorem d_Model_console_21 : decode cc_Model_console 21 = .ok (.iconst (-1), 1) := by decide +kernel
theorem d_Model_console_22 : decode cc_Model_console 22 = .ok (.ireturn, 1) := by decide +kernel
