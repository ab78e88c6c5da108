def k_Model_firmware_j121 (sm : ob) (sp : Nat → Int32) (um : ob) (up : Nat → Int32) : ob × (Nat → Int32) :=
  ((oi um 5 0), up)
def k_Model_firmware_j73 (sm : ob) (sp : Nat → Int32) (v1 : Int64) (t0 : Int64) : ob × (Nat → Int32) :=
  ((oi (ol sm 3 t0) 5 0), sp)
def k_Model_firmware (sm : ob) (sp : Nat → Int32) : ob × (Nat → Int32) :=
  if (sm.1 7) = 0 then (if 0 ≤ (lg_cmp (((sm.1 5).toInt64 &&& 4294967295) ||| (lsh ((sm.1 6).toInt64) 32)) 0) then (k_Model_firmware_j73 sm sp (((sm.1 5).toInt64 &&& 4294967295) ||| (lsh ((sm.1 6).toInt64) 32)) (((sm.1 5).toInt64 &&& 4294967295) ||| (lsh ((sm.1 6).toInt64) 32))) else (k_Model_firmware_j73 sm sp (((sm.1 5).toInt64 &&& 4294967295) ||| (lsh ((sm.1 6).toInt64) 32)) 9223372036854775807)) else if (sm.1 7) = 1 then (if 256 ≤ (sm.1 9) then (k_Model_firmware_j121 sm sp sm sp) else (k_Model_firmware_j121 sm sp (oi sm 9 ((sm.1 9) + 1)) (upd sp (sm.1 9).toNatClampNeg ((sm.1 5) &&& 255)))) else if (sm.1 7) = 8 then ((oi (oz sm 10 true) 5 0), sp) else ((oi sm 5 (-2)), sp)
set_option maxHeartbeats 4000000 in
set_option maxRecDepth 100000 in
theorem c_Model_firmware (l : Launch) (G : gx) (tys : List (ClassId × FieldType)) {cB : ClassId} (ht1 : tys[1]? = some (cB, .int)) (qm qp qk : Nat) (sm : ob) (sp : Nat → Int32) (hq9 : ¬ sm.1 9 < 0) : ct_V l y_Model_firmware ws_Model_firmware ({ frames := 0, cells := 0, slots := 0, locals := 0 }) G tys [.ref qm] [(qm, .inr (6, f_Model qp qk sm)), (qp, .inl (cB, 256, .inl sp))] [(qm, .inr (6, f_Model qp qk ((k_Model_firmware sm sp).1))), (qp, .inl (cB, 256, .inl ((k_Model_firmware sm sp).2)))] := by
  refine ct_hV (cc := cc_Model_firmware) (maxL := 3) (ret := none) (by decide) rfl (Nat.le_of_ble_eq_true rfl) ?_
  intro p e s m below meth c A ls hx hb hr hml hts hown hlocks hP hK hD hA hE hS hl
  have hl : lv_has ls 3 [(0, .ref qm)] := hl
  have hown : s.vm.findClass R_Model = some m.cls := hown
  have J121 : ∀ (um : ob) (up : Nat → Int32) (H : Heap) (locs : List Loc) (ls : Array Slot), k_Model_firmware sm sp = k_Model_firmware_j121 sm sp um up → va_P G.1 vwCl [(qm, .inr (6, f_Model qp qk um)), (qp, .inl (cB, 256, .inl up))] H → va_D A [(qm, .inr (6, f_Model qp qk um)), (qp, .inl (cB, 256, .inl up))] → va_S A s.heap H locs → lv_has ls 3 [(0, .ref qm)] → W p l e ({ frames := 0, cells := 0, slots := 0, locals := 0 }) s m ([.ref qm] : List Value).toArray below meth c H locs 0 0 (MQ below (ct_qv G tys A [(qm, .inr (6, f_Model qp qk ((k_Model_firmware sm sp).1))), (qp, .inl (cB, 256, .inl ((k_Model_firmware sm sp).2)))]) ([.ref qm] : List Value).toArray s 0 0 A) (F0 m 121 ls []) := by
    intro um up H locs ls hj hP hD hS hl
    refine lv_aload_n hx hb d_Model_firmware_121 rfl (lv_at hl 0 rfl) ?_
    refine lv_iconst (v := 0) hx hb d_Model_firmware_122 (by decide) ?_
    refine va_put (D := G.1) (ci := 6) (v := .int 0) (ty := .int) (C := R_Model) (T := T_Model) (N := 23) hx hb hts (fun w h => gd_sub _ (iw_Model w h)) ty_Model tyok_Model nm_Model hown hK hP hD hS 0 rfl rfl 5 (by decide) (hts _ (gd_sub _ q_612)) (fun _ h9 => h9) rfl (by decide +kernel) rfl rfl (Nat.le_of_ble_eq_true rfl) d_Model_firmware_123 (fun H locs hP hD hS => ?_)
    have hP : va_P G.1 vwCl [(qm, .inr (6, f_Model qp qk (oi um 5 0))), (qp, .inl (cB, 256, .inl up))] H := hP
    have hD : va_D A [(qm, .inr (6, f_Model qp qk (oi um 5 0))), (qp, .inl (cB, 256, .inl up))] := hD
    refine lv_goto (tgt := 148) hx hb d_Model_firmware_126 (by decide) ?_
    have hk : k_Model_firmware sm sp = ((oi um 5 0), up) := (hj.trans (by rw [k_Model_firmware_j121]; try rfl))
    exact ct_rv hx hb hr hlocks hP hD hK hS d_Model_firmware_148 (by rw [hk]; first | done | rfl)
  have J73 : ∀ (v1 : Int64) (t0 : Int64) (H : Heap) (locs : List Loc) (ls : Array Slot), k_Model_firmware sm sp = k_Model_firmware_j73 sm sp v1 t0 → va_P G.1 vwCl [(qm, .inr (6, f_Model qp qk sm)), (qp, .inl (cB, 256, .inl sp))] H → va_D A [(qm, .inr (6, f_Model qp qk sm)), (qp, .inl (cB, 256, .inl sp))] → va_S A s.heap H locs → lv_has ls 3 [(0, .ref qm), (1, .long v1)] → W p l e ({ frames := 0, cells := 0, slots := 0, locals := 0 }) s m ([.ref qm] : List Value).toArray below meth c H locs 0 0 (MQ below (ct_qv G tys A [(qm, .inr (6, f_Model qp qk ((k_Model_firmware sm sp).1))), (qp, .inl (cB, 256, .inl ((k_Model_firmware sm sp).2)))]) ([.ref qm] : List Value).toArray s 0 0 A) (F0 m 73 ls [.long t0, .ref qm]) := by
    intro v1 t0 H locs ls hj hP hD hS hl
    refine va_put (D := G.1) (ci := 6) (v := .long t0) (ty := .long) (C := R_Model) (T := T_Model) (N := 23) hx hb hts (fun w h => gd_sub _ (iw_Model w h)) ty_Model tyok_Model nm_Model hown hK hP hD hS 0 rfl rfl 3 (by decide) (hts _ (gd_sub _ q_610)) (fun _ h9 => h9) rfl (by decide +kernel) rfl rfl (Nat.le_of_ble_eq_true rfl) d_Model_firmware_73 (fun H locs hP hD hS => ?_)
    have hP : va_P G.1 vwCl [(qm, .inr (6, f_Model qp qk (ol sm 3 t0))), (qp, .inl (cB, 256, .inl sp))] H := hP
    have hD : va_D A [(qm, .inr (6, f_Model qp qk (ol sm 3 t0))), (qp, .inl (cB, 256, .inl sp))] := hD
    refine lv_aload_n hx hb d_Model_firmware_76 rfl (lv_at hl 0 rfl) ?_
    refine lv_iconst (v := 0) hx hb d_Model_firmware_77 (by decide) ?_
    refine va_put (D := G.1) (ci := 6) (v := .int 0) (ty := .int) (C := R_Model) (T := T_Model) (N := 23) hx hb hts (fun w h => gd_sub _ (iw_Model w h)) ty_Model tyok_Model nm_Model hown hK hP hD hS 0 rfl rfl 5 (by decide) (hts _ (gd_sub _ q_612)) (fun _ h9 => h9) rfl (by decide +kernel) rfl rfl (Nat.le_of_ble_eq_true rfl) d_Model_firmware_78 (fun H locs hP hD hS => ?_)
    have hP : va_P G.1 vwCl [(qm, .inr (6, f_Model qp qk (oi (ol sm 3 t0) 5 0))), (qp, .inl (cB, 256, .inl sp))] H := hP
    have hD : va_D A [(qm, .inr (6, f_Model qp qk (oi (ol sm 3 t0) 5 0))), (qp, .inl (cB, 256, .inl sp))] := hD
    refine lv_goto (tgt := 148) hx hb d_Model_firmware_81 (by decide) ?_
    have hk : k_Model_firmware sm sp = ((oi (ol sm 3 t0) 5 0), sp) := (hj.trans (by rw [k_Model_firmware_j73]; try rfl))
    exact ct_rv hx hb hr hlocks hP hD hK hS d_Model_firmware_148 (by rw [hk]; first | done | rfl)
  obtain ⟨H, eH⟩ : ∃ z, z = s.heap := ⟨_, rfl⟩
  obtain ⟨locs, eL⟩ : ∃ z, z = ([] : List Loc) := ⟨_, rfl⟩
  have hP : va_P G.1 vwCl [(qm, .inr (6, f_Model qp qk sm)), (qp, .inl (cB, 256, .inl sp))] H := by rw [eH]; exact hP
  have hS : va_S A s.heap H locs := by rw [eH, eL]; exact hS
  suffices hW : W p l e ({ frames := 0, cells := 0, slots := 0, locals := 0 }) s m ([.ref qm] : List Value).toArray below meth c H locs 0 0 (MQ below (ct_qv G tys A [(qm, .inr (6, f_Model qp qk ((k_Model_firmware sm sp).1))), (qp, .inl (cB, 256, .inl ((k_Model_firmware sm sp).2)))]) ([.ref qm] : List Value).toArray s 0 0 A) (F0 m 0 ls []) by rw [eH, eL] at hW; exact hW
  refine lv_aload_n hx hb d_Model_firmware_0 rfl (lv_at hl 0 rfl) ?_
  refine va_get (D := G.1) (ci := 6) (v := .int (sm.1 7)) (C := R_Model) (T := T_Model) (N := 23) hx hb hts (fun w h => gd_sub _ (iw_Model w h)) hown hK hP 0 rfl rfl 7 (by decide) (hts _ (gd_sub _ q_614)) (fun _ h9 => h9) rfl d_Model_firmware_1 ?_
  by_cases c_1054 : (sm.1 7) = 0
  · refine lv_lookup (off := 36) (tgt := 40) hx hb d_Model_firmware_4 (by decide) (by rw [c_1054]; decide) (by decide) ?_
    refine lv_aload_n hx hb d_Model_firmware_40 rfl (lv_at hl 0 rfl) ?_
    refine va_get (D := G.1) (ci := 6) (v := .int (sm.1 5)) (C := R_Model) (T := T_Model) (N := 23) hx hb hts (fun w h => gd_sub _ (iw_Model w h)) hown hK hP 0 rfl rfl 5 (by decide) (hts _ (gd_sub _ q_612)) (fun _ h9 => h9) rfl d_Model_firmware_41 ?_
    refine lv_i2l (v := (sm.1 5).toInt64) hx hb d_Model_firmware_44 rfl ?_
    refine lv_ldc2 (v := 4294967295) hx hb hown (hts _ (gd_sub _ q_784)) d_Model_firmware_45 ?_
    refine lv_land hx hb d_Model_firmware_48 ?_
    refine lv_aload_n hx hb d_Model_firmware_49 rfl (lv_at hl 0 rfl) ?_
    refine va_get (D := G.1) (ci := 6) (v := .int (sm.1 6)) (C := R_Model) (T := T_Model) (N := 23) hx hb hts (fun w h => gd_sub _ (iw_Model w h)) hown hK hP 0 rfl rfl 6 (by decide) (hts _ (gd_sub _ q_613)) (fun _ h9 => h9) rfl d_Model_firmware_50 ?_
    refine lv_i2l (v := (sm.1 6).toInt64) hx hb d_Model_firmware_53 rfl ?_
    refine lv_bipush (v := 32) hx hb d_Model_firmware_54 (by decide) ?_
    refine lv_lshl (v := (lsh ((sm.1 6).toInt64) 32)) hx hb d_Model_firmware_56 rfl ?_
    refine lv_lor hx hb d_Model_firmware_57 ?_
    refine lv_lstore_n (lv' := [(1, .long (((sm.1 5).toInt64 &&& 4294967295) ||| (lsh ((sm.1 6).toInt64) 32))), (0, .ref qm)]) hx hb d_Model_firmware_58 rfl hl (by decide) rfl (fun ls hl => ?_)
    refine lv_aload_n hx hb d_Model_firmware_59 rfl (lv_at hl 1 rfl) ?_
    refine lv_lload_n hx hb d_Model_firmware_60 rfl (lv_at hl 0 rfl) ?_
    refine lv_lconst (v := 0) hx hb d_Model_firmware_61 (by decide) ?_
    refine W.lcmp hx hb d_Model_firmware_62 ?_
    refine lv_if_ge (tgt := 72) hx hb d_Model_firmware_63 (by decide) (fun c_1055 => ?_) (fun c_1055 => ?_)
    · refine lv_lload_n hx hb d_Model_firmware_72 rfl (lv_at hl 0 rfl) ?_
      exact J73 (((sm.1 5).toInt64 &&& 4294967295) ||| (lsh ((sm.1 6).toInt64) 32)) (((sm.1 5).toInt64 &&& 4294967295) ||| (lsh ((sm.1 6).toInt64) 32)) H locs ls (by rw [k_Model_firmware]; rw [if_pos c_1054]; rw [if_pos c_1055]; try rfl) hP hD hS (lv_sub hl [1, 0] rfl)
    · refine lv_ldc2 (v := 9223372036854775807) hx hb hown (hts _ (gd_sub _ q_606)) d_Model_firmware_66 ?_
      refine lv_goto (tgt := 73) hx hb d_Model_firmware_69 (by decide) ?_
      exact J73 (((sm.1 5).toInt64 &&& 4294967295) ||| (lsh ((sm.1 6).toInt64) 32)) 9223372036854775807 H locs ls (by rw [k_Model_firmware]; rw [if_pos c_1054]; rw [if_neg c_1055]; try rfl) hP hD hS (lv_sub hl [1, 0] rfl)
  · by_cases c_1056 : (sm.1 7) = 1
    · refine lv_lookup (off := 80) (tgt := 84) hx hb d_Model_firmware_4 (by decide) (by rw [c_1056]; decide) (by decide) ?_
      refine lv_aload_n hx hb d_Model_firmware_84 rfl (lv_at hl 0 rfl) ?_
      refine va_get (D := G.1) (ci := 6) (v := .int (sm.1 9)) (C := R_Model) (T := T_Model) (N := 23) hx hb hts (fun w h => gd_sub _ (iw_Model w h)) hown hK hP 0 rfl rfl 9 (by decide) (hts _ (gd_sub _ q_616)) (fun _ h9 => h9) rfl d_Model_firmware_85 ?_
      refine lv_sipush (v := 256) hx hb d_Model_firmware_88 (by decide) ?_
      refine lv_icmp_ge (tgt := 121) hx hb d_Model_firmware_91 (by decide) (fun c_1057 => ?_) (fun c_1057 => ?_)
      · exact J121 sm sp H locs ls (by rw [k_Model_firmware]; rw [if_neg c_1054]; rw [if_pos c_1056]; rw [if_pos c_1057]; try rfl) hP hD hS (lv_sub hl [0] rfl)
      · refine lv_aload_n hx hb d_Model_firmware_94 rfl (lv_at hl 0 rfl) ?_
        refine va_get (D := G.1) (ci := 6) (v := .ref qp) (C := R_Model) (T := T_Model) (N := 23) hx hb hts (fun w h => gd_sub _ (iw_Model w h)) hown hK hP 0 rfl rfl 8 (by decide) (hts _ (gd_sub _ q_615)) (fun _ h9 => h9) rfl d_Model_firmware_95 ?_
        refine lv_aload_n hx hb d_Model_firmware_98 rfl (lv_at hl 0 rfl) ?_
        refine va_get (D := G.1) (ci := 6) (v := .int (sm.1 9)) (C := R_Model) (T := T_Model) (N := 23) hx hb hts (fun w h => gd_sub _ (iw_Model w h)) hown hK hP 0 rfl rfl 9 (by decide) (hts _ (gd_sub _ q_616)) (fun _ h9 => h9) rfl d_Model_firmware_99 ?_
        refine lv_aload_n hx hb d_Model_firmware_102 rfl (lv_at hl 0 rfl) ?_
        refine va_get (D := G.1) (ci := 6) (v := .int (sm.1 5)) (C := R_Model) (T := T_Model) (N := 23) hx hb hts (fun w h => gd_sub _ (iw_Model w h)) hown hK hP 0 rfl rfl 5 (by decide) (hts _ (gd_sub _ q_612)) (fun _ h9 => h9) rfl d_Model_firmware_103 ?_
        refine lv_sipush (v := 255) hx hb d_Model_firmware_106 (by decide) ?_
        refine lv_iand hx hb d_Model_firmware_109 ?_
        refine va_iast hx hb hK hP hD hS 1 1 rfl ht1 (in256 hq9 c_1057) d_Model_firmware_110 (fun H locs hP hD hS => ?_)
        have hP : va_P G.1 vwCl [(qm, .inr (6, f_Model qp qk sm)), (qp, .inl (cB, 256, .inl (upd sp (sm.1 9).toNatClampNeg ((sm.1 5) &&& 255))))] H := hP
        have hD : va_D A [(qm, .inr (6, f_Model qp qk sm)), (qp, .inl (cB, 256, .inl (upd sp (sm.1 9).toNatClampNeg ((sm.1 5) &&& 255))))] := hD
        refine lv_aload_n hx hb d_Model_firmware_111 rfl (lv_at hl 0 rfl) ?_
        refine lv_dup hx hb d_Model_firmware_112 rfl ?_
        refine va_get (D := G.1) (ci := 6) (v := .int (sm.1 9)) (C := R_Model) (T := T_Model) (N := 23) hx hb hts (fun w h => gd_sub _ (iw_Model w h)) hown hK hP 0 rfl rfl 9 (by decide) (hts _ (gd_sub _ q_616)) (fun _ h9 => h9) rfl d_Model_firmware_113 ?_
        refine lv_iconst (v := 1) hx hb d_Model_firmware_116 (by decide) ?_
        refine lv_iadd hx hb d_Model_firmware_117 ?_
        refine va_put (D := G.1) (ci := 6) (v := .int ((sm.1 9) + 1)) (ty := .int) (C := R_Model) (T := T_Model) (N := 23) hx hb hts (fun w h => gd_sub _ (iw_Model w h)) ty_Model tyok_Model nm_Model hown hK hP hD hS 0 rfl rfl 9 (by decide) (hts _ (gd_sub _ q_616)) (fun _ h9 => h9) rfl (by decide +kernel) rfl rfl (Nat.le_of_ble_eq_true rfl) d_Model_firmware_118 (fun H locs hP hD hS => ?_)
        have hP : va_P G.1 vwCl [(qm, .inr (6, f_Model qp qk (oi sm 9 ((sm.1 9) + 1)))), (qp, .inl (cB, 256, .inl (upd sp (sm.1 9).toNatClampNeg ((sm.1 5) &&& 255))))] H := hP
        have hD : va_D A [(qm, .inr (6, f_Model qp qk (oi sm 9 ((sm.1 9) + 1)))), (qp, .inl (cB, 256, .inl (upd sp (sm.1 9).toNatClampNeg ((sm.1 5) &&& 255))))] := hD
        exact J121 (oi sm 9 ((sm.1 9) + 1)) (upd sp (sm.1 9).toNatClampNeg ((sm.1 5) &&& 255)) H locs ls (by rw [k_Model_firmware]; rw [if_neg c_1054]; rw [if_pos c_1056]; rw [if_neg c_1057]; try rfl) hP hD hS (lv_sub hl [0] rfl)
    · by_cases c_1058 : (sm.1 7) = 8
      · refine lv_lookup (off := 125) (tgt := 129) hx hb d_Model_firmware_4 (by decide) (by rw [c_1058]; decide) (by decide) ?_
        refine lv_aload_n hx hb d_Model_firmware_129 rfl (lv_at hl 0 rfl) ?_
        refine lv_iconst (v := 1) hx hb d_Model_firmware_130 (by decide) ?_
        refine va_put (D := G.1) (ci := 6) (v := .int 1) (ty := .boolean) (C := R_Model) (T := T_Model) (N := 23) hx hb hts (fun w h => gd_sub _ (iw_Model w h)) ty_Model tyok_Model nm_Model hown hK hP hD hS 0 rfl rfl 10 (by decide) (hts _ (gd_sub _ q_617)) (fun _ h9 => h9) rfl (by decide +kernel) rfl rfl (Nat.le_of_ble_eq_true rfl) d_Model_firmware_131 (fun H locs hP hD hS => ?_)
        have hP : va_P G.1 vwCl [(qm, .inr (6, f_Model qp qk (oz sm 10 true))), (qp, .inl (cB, 256, .inl sp))] H := hP
        have hD : va_D A [(qm, .inr (6, f_Model qp qk (oz sm 10 true))), (qp, .inl (cB, 256, .inl sp))] := hD
        refine lv_aload_n hx hb d_Model_firmware_134 rfl (lv_at hl 0 rfl) ?_
        refine lv_iconst (v := 0) hx hb d_Model_firmware_135 (by decide) ?_
        refine va_put (D := G.1) (ci := 6) (v := .int 0) (ty := .int) (C := R_Model) (T := T_Model) (N := 23) hx hb hts (fun w h => gd_sub _ (iw_Model w h)) ty_Model tyok_Model nm_Model hown hK hP hD hS 0 rfl rfl 5 (by decide) (hts _ (gd_sub _ q_612)) (fun _ h9 => h9) rfl (by decide +kernel) rfl rfl (Nat.le_of_ble_eq_true rfl) d_Model_firmware_136 (fun H locs hP hD hS => ?_)
        have hP : va_P G.1 vwCl [(qm, .inr (6, f_Model qp qk (oi (oz sm 10 true) 5 0))), (qp, .inl (cB, 256, .inl sp))] H := hP
        have hD : va_D A [(qm, .inr (6, f_Model qp qk (oi (oz sm 10 true) 5 0))), (qp, .inl (cB, 256, .inl sp))] := hD
        refine lv_goto (tgt := 148) hx hb d_Model_firmware_139 (by decide) ?_
        have hk : k_Model_firmware sm sp = ((oi (oz sm 10 true) 5 0), sp) := (by rw [k_Model_firmware]; rw [if_neg c_1054]; rw [if_neg c_1056]; rw [if_pos c_1058]; try rfl)
        exact ct_rv hx hb hr hlocks hP hD hK hS d_Model_firmware_148 (by rw [hk]; first | done | rfl)
      · refine lv_lookup (off := 138) (tgt := 142) hx hb d_Model_firmware_4 (by decide) ((lv_osw c_1054 (by decide)).trans ((lv_osw c_1056 (by decide)).trans ((lv_osw c_1058 (by decide)).trans rfl))) (by decide) ?_
        refine lv_aload_n hx hb d_Model_firmware_142 rfl (lv_at hl 0 rfl) ?_
        refine lv_bipush (v := (-2)) hx hb d_Model_firmware_143 (by decide) ?_
        refine va_put (D := G.1) (ci := 6) (v := .int (-2)) (ty := .int) (C := R_Model) (T := T_Model) (N := 23) hx hb hts (fun w h => gd_sub _ (iw_Model w h)) ty_Model tyok_Model nm_Model hown hK hP hD hS 0 rfl rfl 5 (by decide) (hts _ (gd_sub _ q_612)) (fun _ h9 => h9) rfl (by decide +kernel) rfl rfl (Nat.le_of_ble_eq_true rfl) d_Model_firmware_145 (fun H locs hP hD hS => ?_)
        have hP : va_P G.1 vwCl [(qm, .inr (6, f_Model qp qk (oi sm 5 (-2)))), (qp, .inl (cB, 256, .inl sp))] H := hP
        have hD : va_D A [(qm, .inr (6, f_Model qp qk (oi sm 5 (-2)))), (qp, .inl (cB, 256, .inl sp))] := hD
        have hk : k_Model_firmware sm sp = ((oi sm 5 (-2)), sp) := (by rw [k_Model_firmware]; rw [if_neg c_1054]; rw [if_neg c_1056]; rw [if_neg c_1058]; try rfl)
        exact ct_rv hx hb hr hlocks hP hD hK hS d_Model_firmware_148 (by rw [hk]; first | done | rfl)
def k_Model_call (sm : ob) (sp : Nat → Int32) : Int32 × ob × (Nat → Int32) :=
  if (sm.1 0) = 1 then (0, ((k_Model_firmware sm sp).1), ((k_Model_firmware sm sp).2)) else (if (sm.1 0) = 3 then (10, sm, sp) else (8, sm, sp))
set_option maxHeartbeats 4000000 in
set_option maxRecDepth 100000 in
theorem c_Model_call (l : Launch) (G : gx) (tys : List (ClassId × FieldType)) {cB : ClassId} (ht1 : tys[1]? = some (cB, .int)) (qm qp qk : Nat) (sm : ob) (sp : Nat → Int32) (hq9 : ¬ sm.1 9 < 0) : ct_I l y_Model_call ws_Model_call ({ frames := 1, cells := 0, slots := 0, locals := 22 }) G tys [.ref qm] [(qm, .inr (6, f_Model qp qk sm)), (qp, .inl (cB, 256, .inl sp))] ((k_Model_call sm sp).1) [(qm, .inr (6, f_Model qp qk ((k_Model_call sm sp).2.1))), (qp, .inl (cB, 256, .inl ((k_Model_call sm sp).2.2)))] := by
  refine ct_hI (cc := cc_Model_call) (maxL := 1) (ret := (some .int)) (by decide) rfl (Nat.le_of_ble_eq_true rfl) ?_
  intro p e s m below meth c A ls hx hb hr hml hts hown hlocks hP hK hD hA hE hS hl
  have hl : lv_has ls 1 [(0, .ref qm)] := hl
  have hown : s.vm.findClass R_Model = some m.cls := hown
  refine lv_aload_n hx hb d_Model_call_0 rfl (lv_at hl 0 rfl) ?_
  refine va_get (D := G.1) (ci := 6) (v := .int (sm.1 0)) (C := R_Model) (T := T_Model) (N := 23) hx hb hts (fun w h => gd_sub _ (iw_Model w h)) hown hK hP 0 rfl rfl 0 (by decide) (hts _ (gd_sub _ q_607)) (fun _ h9 => h9) rfl d_Model_call_1 ?_
  refine lv_iconst (v := 1) hx hb d_Model_call_4 (by decide) ?_
  refine lv_icmp_ne (tgt := 14) hx hb d_Model_call_5 (by decide) (fun c_1063 => ?_) (fun c_1063 => ?_)
  · refine lv_aload_n hx hb d_Model_call_14 rfl (lv_at hl 0 rfl) ?_
    refine va_get (D := G.1) (ci := 6) (v := .int (sm.1 0)) (C := R_Model) (T := T_Model) (N := 23) hx hb hts (fun w h => gd_sub _ (iw_Model w h)) hown hK hP 0 rfl rfl 0 (by decide) (hts _ (gd_sub _ q_607)) (fun _ h9 => h9) rfl d_Model_call_15 ?_
    refine lv_iconst (v := 3) hx hb d_Model_call_18 (by decide) ?_
    refine lv_icmp_ne (tgt := 27) hx hb d_Model_call_19 (by decide) (fun c_1064 => ?_) (fun c_1064 => ?_)
    · refine lv_bipush (v := 8) hx hb d_Model_call_27 (by decide) ?_
      have hk : k_Model_call sm sp = (8, sm, sp) := (by rw [k_Model_call]; rw [if_neg c_1063]; rw [if_neg c_1064]; try rfl)
      exact ct_ri hx hb hr hlocks hP hD hK hS d_Model_call_29 (by rw [hk]; first | done | rfl) (by rw [hk]; first | done | rfl)
    · refine lv_bipush (v := 10) hx hb d_Model_call_22 (by decide) ?_
      refine lv_goto (tgt := 29) hx hb d_Model_call_24 (by decide) ?_
      have hk : k_Model_call sm sp = (10, sm, sp) := (by rw [k_Model_call]; rw [if_neg c_1063]; rw [if_pos c_1064]; try rfl)
      exact ct_ri hx hb hr hlocks hP hD hK hS d_Model_call_29 (by rw [hk]; first | done | rfl) (by rw [hk]; first | done | rfl)
  · refine lv_aload_n hx hb d_Model_call_8 rfl (lv_at hl 0 rfl) ?_
    obtain ⟨sm_1065, esm_1065⟩ : ∃ z, z = (k_Model_firmware sm sp).1 := ⟨_, rfl⟩
    obtain ⟨sp_1066, esp_1066⟩ : ∃ z, z = (k_Model_firmware sm sp).2 := ⟨_, rfl⟩
    have hM := c_Model_firmware l G tys ht1 qm qp qk sm sp hq9
    rw [← esm_1065, ← esp_1066] at hM
    refine ct_cVv (wr := []) (w1 := [(qm, .inr (6, f_Model qp qk sm_1065)), (qp, .inl (cB, 256, .inl sp_1066))]) (w2 := [(qm, .inr (6, f_Model qp qk sm_1065)), (qp, .inl (cB, 256, .inl sp_1066))]) (As := []) (rest := []) (ci := 6) (q0 := 0) ⟨hx, hb, hml, hown, hts⟩ hM (cwV 0 hts (gdV gd_gd q_780 q_782 q_33 q_47 q_783) rfl rfl rfl (by decide +kernel) ⟨Nat.le_of_ble_eq_true rfl, Nat.le_of_ble_eq_true rfl⟩) hE hK hP hD hS hA [0, 1] [] [0, 1] rfl (by decide) rfl (by decide) (by decide) rfl (by decide) rfl rfl rfl hl.1 rfl (Nat.le_of_ble_eq_true rfl) d_Model_call_9 ⟨Nat.zero_le _, Nat.zero_le _⟩ (fun H locs hP hD hS => ?_)
    refine lv_iconst (v := 0) hx hb d_Model_call_12 (by decide) ?_
    have hk : k_Model_call sm sp = (0, sm_1065, sp_1066) := (by rw [k_Model_call]; rw [if_pos c_1063]; try rw [← esm_1065]; try rw [← esp_1066]; try rfl)
    exact ct_ri hx hb hr hlocks hP hD hK hS d_Model_call_13 (by rw [hk]; first | done | rfl) (by rw [hk]; first | done | rfl)
def k_Model_back_256_j40 (sm : ob) (sk : Nat → Int32) (p2 : Bool) (v3 : Int32) (t0 : Int32) (t1 : Int32) (um : ob) : ob × (Nat → Int32) :=
  ((oi um 0 (t1 + t0)), (upd sk 256 (((v3 &&& (-259)) ||| ((v3 >>> ((4 : Int32) &&& 31)) &&& 2)) ||| 32)))
def k_Model_back_256 (sm : ob) (sk : Nat → Int32) (p2 : Bool) : ob × (Nat → Int32) :=
  if (bI p2) = 0 then (k_Model_back_256_j40 sm sk p2 (sk 256) 0 (((sk 256) >>> ((8 : Int32) &&& 31)) &&& 1) (oi sm 1 ((sk 321) - 4))) else (k_Model_back_256_j40 sm sk p2 (sk 256) 2 (((sk 256) >>> ((8 : Int32) &&& 31)) &&& 1) (oi sm 1 ((sk 321) - 4)))
set_option maxHeartbeats 4000000 in
set_option maxRecDepth 100000 in
theorem c_Model_back_256 (l : Launch) (G : gx) (tys : List (ClassId × FieldType)) {cD : ClassId} (ht2 : tys[2]? = some (cD, .int)) (qm qk qp : Nat) (sm : ob) (sk : Nat → Int32) (p2 : Bool) : ct_V l y_Model_back ws_Model_back ({ frames := 0, cells := 0, slots := 0, locals := 0 }) G tys [.ref qm, .int 256, .int (bI p2)] [(qm, .inr (6, f_Model qp qk sm)), (qk, .inl (cD, 512, .inl sk))] [(qm, .inr (6, f_Model qp qk ((k_Model_back_256 sm sk p2).1))), (qk, .inl (cD, 512, .inl ((k_Model_back_256 sm sk p2).2)))] := by
  refine ct_hV (cc := cc_Model_back) (maxL := 4) (ret := none) (by decide) rfl (Nat.le_of_ble_eq_true rfl) ?_
  intro p e s m below meth c A ls hx hb hr hml hts hown hlocks hP hK hD hA hE hS hl
  have hl : lv_has ls 4 [(0, .ref qm), (1, .int 256), (2, .int (bI p2))] := hl
  have hown : s.vm.findClass R_Model = some m.cls := hown
  have J40 : ∀ (v3 : Int32) (t0 : Int32) (t1 : Int32) (um : ob) (H : Heap) (locs : List Loc) (ls : Array Slot), k_Model_back_256 sm sk p2 = k_Model_back_256_j40 sm sk p2 v3 t0 t1 um → va_P G.1 vwCl [(qm, .inr (6, f_Model qp qk um)), (qk, .inl (cD, 512, .inl sk))] H → va_D A [(qm, .inr (6, f_Model qp qk um)), (qk, .inl (cD, 512, .inl sk))] → va_S A s.heap H locs → lv_has ls 4 [(0, .ref qm), (1, .int 256), (2, .int (bI p2)), (3, .int v3)] → W p l e ({ frames := 0, cells := 0, slots := 0, locals := 0 }) s m ([.ref qm, .int 256, .int (bI p2)] : List Value).toArray below meth c H locs 0 0 (MQ below (ct_qv G tys A [(qm, .inr (6, f_Model qp qk ((k_Model_back_256 sm sk p2).1))), (qk, .inl (cD, 512, .inl ((k_Model_back_256 sm sk p2).2)))]) ([.ref qm, .int 256, .int (bI p2)] : List Value).toArray s 0 0 A) (F0 m 40 ls [.int t0, .int t1, .ref qm]) := by
    intro v3 t0 t1 um H locs ls hj hP hD hS hl
    refine lv_iadd hx hb d_Model_back_40 ?_
    refine va_put (D := G.1) (ci := 6) (v := .int (t1 + t0)) (ty := .int) (C := R_Model) (T := T_Model) (N := 23) hx hb hts (fun w h => gd_sub _ (iw_Model w h)) ty_Model tyok_Model nm_Model hown hK hP hD hS 0 rfl rfl 0 (by decide) (hts _ (gd_sub _ q_607)) (fun _ h9 => h9) rfl (by decide +kernel) rfl rfl (Nat.le_of_ble_eq_true rfl) d_Model_back_41 (fun H locs hP hD hS => ?_)
    have hP : va_P G.1 vwCl [(qm, .inr (6, f_Model qp qk (oi um 0 (t1 + t0)))), (qk, .inl (cD, 512, .inl sk))] H := hP
    have hD : va_D A [(qm, .inr (6, f_Model qp qk (oi um 0 (t1 + t0)))), (qk, .inl (cD, 512, .inl sk))] := hD
    refine lv_aload_n hx hb d_Model_back_44 rfl (lv_at hl 0 rfl) ?_
    refine va_get (D := G.1) (ci := 6) (v := .ref qk) (C := R_Model) (T := T_Model) (N := 23) hx hb hts (fun w h => gd_sub _ (iw_Model w h)) hown hK hP 0 rfl rfl 14 (by decide) (hts _ (gd_sub _ q_621)) (fun _ h9 => h9) rfl d_Model_back_45 ?_
    refine lv_iload_n hx hb d_Model_back_48 rfl (lv_at hl 1 rfl) ?_
    refine lv_iconst (v := 0) hx hb d_Model_back_49 (by decide) ?_
    refine lv_iadd hx hb d_Model_back_50 ?_
    refine lv_topi (fun z9 e9 => ?_)
    obtain rfl : z9 = 256 := e9.trans (by decide)
    refine lv_iload_n hx hb d_Model_back_51 rfl (lv_at hl 3 rfl) ?_
    refine lv_sipush (v := (-259)) hx hb d_Model_back_52 (by decide) ?_
    refine lv_iand hx hb d_Model_back_55 ?_
    refine lv_iload_n hx hb d_Model_back_56 rfl (lv_at hl 3 rfl) ?_
    refine lv_iconst (v := 4) hx hb d_Model_back_57 (by decide) ?_
    refine lv_ishr hx hb d_Model_back_58 ?_
    refine lv_iconst (v := 2) hx hb d_Model_back_59 (by decide) ?_
    refine lv_iand hx hb d_Model_back_60 ?_
    refine lv_ior hx hb d_Model_back_61 ?_
    refine lv_bipush (v := 32) hx hb d_Model_back_62 (by decide) ?_
    refine lv_ior hx hb d_Model_back_64 ?_
    refine va_iast hx hb hK hP hD hS 1 2 rfl ht2 (by unfold vp_in; decide) d_Model_back_65 (fun H locs hP hD hS => ?_)
    have hP : va_P G.1 vwCl [(qm, .inr (6, f_Model qp qk (oi um 0 (t1 + t0)))), (qk, .inl (cD, 512, .inl (upd sk 256 (((v3 &&& (-259)) ||| ((v3 >>> ((4 : Int32) &&& 31)) &&& 2)) ||| 32))))] H := hP
    have hD : va_D A [(qm, .inr (6, f_Model qp qk (oi um 0 (t1 + t0)))), (qk, .inl (cD, 512, .inl (upd sk 256 (((v3 &&& (-259)) ||| ((v3 >>> ((4 : Int32) &&& 31)) &&& 2)) ||| 32))))] := hD
    have hk : k_Model_back_256 sm sk p2 = ((oi um 0 (t1 + t0)), (upd sk 256 (((v3 &&& (-259)) ||| ((v3 >>> ((4 : Int32) &&& 31)) &&& 2)) ||| 32))) := (hj.trans (by rw [k_Model_back_256_j40]; try rfl))
    exact ct_rv hx hb hr hlocks hP hD hK hS d_Model_back_66 (by rw [hk]; first | done | rfl)
  obtain ⟨H, eH⟩ : ∃ z, z = s.heap := ⟨_, rfl⟩
  obtain ⟨locs, eL⟩ : ∃ z, z = ([] : List Loc) := ⟨_, rfl⟩
  have hP : va_P G.1 vwCl [(qm, .inr (6, f_Model qp qk sm)), (qk, .inl (cD, 512, .inl sk))] H := by rw [eH]; exact hP
  have hS : va_S A s.heap H locs := by rw [eH, eL]; exact hS
  suffices hW : W p l e ({ frames := 0, cells := 0, slots := 0, locals := 0 }) s m ([.ref qm, .int 256, .int (bI p2)] : List Value).toArray below meth c H locs 0 0 (MQ below (ct_qv G tys A [(qm, .inr (6, f_Model qp qk ((k_Model_back_256 sm sk p2).1))), (qk, .inl (cD, 512, .inl ((k_Model_back_256 sm sk p2).2)))]) ([.ref qm, .int 256, .int (bI p2)] : List Value).toArray s 0 0 A) (F0 m 0 ls []) by rw [eH, eL] at hW; exact hW
  refine lv_aload_n hx hb d_Model_back_0 rfl (lv_at hl 0 rfl) ?_
  refine va_get (D := G.1) (ci := 6) (v := .ref qk) (C := R_Model) (T := T_Model) (N := 23) hx hb hts (fun w h => gd_sub _ (iw_Model w h)) hown hK hP 0 rfl rfl 14 (by decide) (hts _ (gd_sub _ q_621)) (fun _ h9 => h9) rfl d_Model_back_1 ?_
  refine lv_iload_n hx hb d_Model_back_4 rfl (lv_at hl 1 rfl) ?_
  refine lv_iconst (v := 0) hx hb d_Model_back_5 (by decide) ?_
  refine lv_iadd hx hb d_Model_back_6 ?_
  refine lv_topi (fun z9 e9 => ?_)
  obtain rfl : z9 = 256 := e9.trans (by decide)
  refine va_iald hx hb hK hP 1 2 rfl ht2 (by unfold vp_in; decide) d_Model_back_7 ?_
  refine lv_topi (fun z9 e9 => ?_)
  obtain rfl : z9 = (sk 256) := e9
  refine lv_istore_n (lv' := [(3, .int (sk 256)), (0, .ref qm), (1, .int 256), (2, .int (bI p2))]) hx hb d_Model_back_8 rfl hl (by decide) rfl (fun ls hl => ?_)
  refine lv_aload_n hx hb d_Model_back_9 rfl (lv_at hl 1 rfl) ?_
  refine lv_aload_n hx hb d_Model_back_10 rfl (lv_at hl 1 rfl) ?_
  refine va_get (D := G.1) (ci := 6) (v := .ref qk) (C := R_Model) (T := T_Model) (N := 23) hx hb hts (fun w h => gd_sub _ (iw_Model w h)) hown hK hP 0 rfl rfl 14 (by decide) (hts _ (gd_sub _ q_621)) (fun _ h9 => h9) rfl d_Model_back_11 ?_
  refine lv_iload_n hx hb d_Model_back_14 rfl (lv_at hl 2 rfl) ?_
  refine lv_bipush (v := 65) hx hb d_Model_back_15 (by decide) ?_
  refine lv_iadd hx hb d_Model_back_17 ?_
  refine lv_topi (fun z9 e9 => ?_)
  obtain rfl : z9 = 321 := e9.trans (by decide)
  refine va_iald hx hb hK hP 1 2 rfl ht2 (by unfold vp_in; decide) d_Model_back_18 ?_
  refine lv_topi (fun z9 e9 => ?_)
  obtain rfl : z9 = (sk 321) := e9
  refine lv_iconst (v := 4) hx hb d_Model_back_19 (by decide) ?_
  refine lv_isub hx hb d_Model_back_20 ?_
  refine va_put (D := G.1) (ci := 6) (v := .int ((sk 321) - 4)) (ty := .int) (C := R_Model) (T := T_Model) (N := 23) hx hb hts (fun w h => gd_sub _ (iw_Model w h)) ty_Model tyok_Model nm_Model hown hK hP hD hS 0 rfl rfl 1 (by decide) (hts _ (gd_sub _ q_608)) (fun _ h9 => h9) rfl (by decide +kernel) rfl rfl (Nat.le_of_ble_eq_true rfl) d_Model_back_21 (fun H locs hP hD hS => ?_)
  have hP : va_P G.1 vwCl [(qm, .inr (6, f_Model qp qk (oi sm 1 ((sk 321) - 4)))), (qk, .inl (cD, 512, .inl sk))] H := hP
  have hD : va_D A [(qm, .inr (6, f_Model qp qk (oi sm 1 ((sk 321) - 4)))), (qk, .inl (cD, 512, .inl sk))] := hD
  refine lv_aload_n hx hb d_Model_back_24 rfl (lv_at hl 1 rfl) ?_
  refine lv_iload_n hx hb d_Model_back_25 rfl (lv_at hl 0 rfl) ?_
  refine lv_bipush (v := 8) hx hb d_Model_back_26 (by decide) ?_
  refine lv_ishr hx hb d_Model_back_28 ?_
  refine lv_iconst (v := 1) hx hb d_Model_back_29 (by decide) ?_
  refine lv_iand hx hb d_Model_back_30 ?_
  refine lv_iload_n hx hb d_Model_back_31 rfl (lv_at hl 3 rfl) ?_
  refine lv_if_eq (tgt := 39) hx hb d_Model_back_32 (by decide) (fun c_1073 => ?_) (fun c_1073 => ?_)
  · refine lv_iconst (v := 0) hx hb d_Model_back_39 (by decide) ?_
    exact J40 (sk 256) 0 (((sk 256) >>> ((8 : Int32) &&& 31)) &&& 1) (oi sm 1 ((sk 321) - 4)) H locs ls (by rw [k_Model_back_256]; rw [if_pos c_1073]; try rfl) hP hD hS (lv_sub hl [1, 2, 3, 0] rfl)
  · refine lv_iconst (v := 2) hx hb d_Model_back_35 (by decide) ?_
    refine lv_goto (tgt := 40) hx hb d_Model_back_36 (by decide) ?_
    exact J40 (sk 256) 2 (((sk 256) >>> ((8 : Int32) &&& 31)) &&& 1) (oi sm 1 ((sk 321) - 4)) H locs ls (by rw [k_Model_back_256]; rw [if_neg c_1073]; try rfl) hP hD hS (lv_sub hl [1, 2, 3, 0] rfl)
def k_Model_back_0_j40 (sm : ob) (sk : Nat → Int32) (p2 : Bool) (v3 : Int32) (t0 : Int32) (t1 : Int32) (um : ob) : ob × (Nat → Int32) :=
  ((oi um 0 (t1 + t0)), (upd sk 0 (((v3 &&& (-259)) ||| ((v3 >>> ((4 : Int32) &&& 31)) &&& 2)) ||| 32)))
def k_Model_back_0 (sm : ob) (sk : Nat → Int32) (p2 : Bool) : ob × (Nat → Int32) :=
  if (bI p2) = 0 then (k_Model_back_0_j40 sm sk p2 (sk 0) 0 (((sk 0) >>> ((8 : Int32) &&& 31)) &&& 1) (oi sm 1 ((sk 65) - 4))) else (k_Model_back_0_j40 sm sk p2 (sk 0) 2 (((sk 0) >>> ((8 : Int32) &&& 31)) &&& 1) (oi sm 1 ((sk 65) - 4)))
set_option maxHeartbeats 4000000 in
set_option maxRecDepth 100000 in
theorem c_Model_back_0 (l : Launch) (G : gx) (tys : List (ClassId × FieldType)) {cD : ClassId} (ht2 : tys[2]? = some (cD, .int)) (qm qk qp : Nat) (sm : ob) (sk : Nat → Int32) (p2 : Bool) : ct_V l y_Model_back ws_Model_back ({ frames := 0, cells := 0, slots := 0, locals := 0 }) G tys [.ref qm, .int 0, .int (bI p2)] [(qm, .inr (6, f_Model qp qk sm)), (qk, .inl (cD, 512, .inl sk))] [(qm, .inr (6, f_Model qp qk ((k_Model_back_0 sm sk p2).1))), (qk, .inl (cD, 512, .inl ((k_Model_back_0 sm sk p2).2)))] := by
  refine ct_hV (cc := cc_Model_back) (maxL := 4) (ret := none) (by decide) rfl (Nat.le_of_ble_eq_true rfl) ?_
  intro p e s m below meth c A ls hx hb hr hml hts hown hlocks hP hK hD hA hE hS hl
  have hl : lv_has ls 4 [(0, .ref qm), (1, .int 0), (2, .int (bI p2))] := hl
  have hown : s.vm.findClass R_Model = some m.cls := hown
  have J40 : ∀ (v3 : Int32) (t0 : Int32) (t1 : Int32) (um : ob) (H : Heap) (locs : List Loc) (ls : Array Slot), k_Model_back_0 sm sk p2 = k_Model_back_0_j40 sm sk p2 v3 t0 t1 um → va_P G.1 vwCl [(qm, .inr (6, f_Model qp qk um)), (qk, .inl (cD, 512, .inl sk))] H → va_D A [(qm, .inr (6, f_Model qp qk um)), (qk, .inl (cD, 512, .inl sk))] → va_S A s.heap H locs → lv_has ls 4 [(0, .ref qm), (1, .int 0), (2, .int (bI p2)), (3, .int v3)] → W p l e ({ frames := 0, cells := 0, slots := 0, locals := 0 }) s m ([.ref qm, .int 0, .int (bI p2)] : List Value).toArray below meth c H locs 0 0 (MQ below (ct_qv G tys A [(qm, .inr (6, f_Model qp qk ((k_Model_back_0 sm sk p2).1))), (qk, .inl (cD, 512, .inl ((k_Model_back_0 sm sk p2).2)))]) ([.ref qm, .int 0, .int (bI p2)] : List Value).toArray s 0 0 A) (F0 m 40 ls [.int t0, .int t1, .ref qm]) := by
    intro v3 t0 t1 um H locs ls hj hP hD hS hl
    refine lv_iadd hx hb d_Model_back_40 ?_
    refine va_put (D := G.1) (ci := 6) (v := .int (t1 + t0)) (ty := .int) (C := R_Model) (T := T_Model) (N := 23) hx hb hts (fun w h => gd_sub _ (iw_Model w h)) ty_Model tyok_Model nm_Model hown hK hP hD hS 0 rfl rfl 0 (by decide) (hts _ (gd_sub _ q_607)) (fun _ h9 => h9) rfl (by decide +kernel) rfl rfl (Nat.le_of_ble_eq_true rfl) d_Model_back_41 (fun H locs hP hD hS => ?_)
    have hP : va_P G.1 vwCl [(qm, .inr (6, f_Model qp qk (oi um 0 (t1 + t0)))), (qk, .inl (cD, 512, .inl sk))] H := hP
    have hD : va_D A [(qm, .inr (6, f_Model qp qk (oi um 0 (t1 + t0)))), (qk, .inl (cD, 512, .inl sk))] := hD
    refine lv_aload_n hx hb d_Model_back_44 rfl (lv_at hl 0 rfl) ?_
    refine va_get (D := G.1) (ci := 6) (v := .ref qk) (C := R_Model) (T := T_Model) (N := 23) hx hb hts (fun w h => gd_sub _ (iw_Model w h)) hown hK hP 0 rfl rfl 14 (by decide) (hts _ (gd_sub _ q_621)) (fun _ h9 => h9) rfl d_Model_back_45 ?_
    refine lv_iload_n hx hb d_Model_back_48 rfl (lv_at hl 1 rfl) ?_
    refine lv_iconst (v := 0) hx hb d_Model_back_49 (by decide) ?_
    refine lv_iadd hx hb d_Model_back_50 ?_
    refine lv_topi (fun z9 e9 => ?_)
    obtain rfl : z9 = 0 := e9.trans (by decide)
    refine lv_iload_n hx hb d_Model_back_51 rfl (lv_at hl 3 rfl) ?_
    refine lv_sipush (v := (-259)) hx hb d_Model_back_52 (by decide) ?_
    refine lv_iand hx hb d_Model_back_55 ?_
    refine lv_iload_n hx hb d_Model_back_56 rfl (lv_at hl 3 rfl) ?_
    refine lv_iconst (v := 4) hx hb d_Model_back_57 (by decide) ?_
    refine lv_ishr hx hb d_Model_back_58 ?_
    refine lv_iconst (v := 2) hx hb d_Model_back_59 (by decide) ?_
    refine lv_iand hx hb d_Model_back_60 ?_
    refine lv_ior hx hb d_Model_back_61 ?_
    refine lv_bipush (v := 32) hx hb d_Model_back_62 (by decide) ?_
    refine lv_ior hx hb d_Model_back_64 ?_
    refine va_iast hx hb hK hP hD hS 1 2 rfl ht2 (by unfold vp_in; decide) d_Model_back_65 (fun H locs hP hD hS => ?_)
    have hP : va_P G.1 vwCl [(qm, .inr (6, f_Model qp qk (oi um 0 (t1 + t0)))), (qk, .inl (cD, 512, .inl (upd sk 0 (((v3 &&& (-259)) ||| ((v3 >>> ((4 : Int32) &&& 31)) &&& 2)) ||| 32))))] H := hP
    have hD : va_D A [(qm, .inr (6, f_Model qp qk (oi um 0 (t1 + t0)))), (qk, .inl (cD, 512, .inl (upd sk 0 (((v3 &&& (-259)) ||| ((v3 >>> ((4 : Int32) &&& 31)) &&& 2)) ||| 32))))] := hD
    have hk : k_Model_back_0 sm sk p2 = ((oi um 0 (t1 + t0)), (upd sk 0 (((v3 &&& (-259)) ||| ((v3 >>> ((4 : Int32) &&& 31)) &&& 2)) ||| 32))) := (hj.trans (by rw [k_Model_back_0_j40]; try rfl))
    exact ct_rv hx hb hr hlocks hP hD hK hS d_Model_back_66 (by rw [hk]; first | done | rfl)
  obtain ⟨H, eH⟩ : ∃ z, z = s.heap := ⟨_, rfl⟩
  obtain ⟨locs, eL⟩ : ∃ z, z = ([] : List Loc) := ⟨_, rfl⟩
  have hP : va_P G.1 vwCl [(qm, .inr (6, f_Model qp qk sm)), (qk, .inl (cD, 512, .inl sk))] H := by rw [eH]; exact hP
  have hS : va_S A s.heap H locs := by rw [eH, eL]; exact hS
  suffices hW : W p l e ({ frames := 0, cells := 0, slots := 0, locals := 0 }) s m ([.ref qm, .int 0, .int (bI p2)] : List Value).toArray below meth c H locs 0 0 (MQ below (ct_qv G tys A [(qm, .inr (6, f_Model qp qk ((k_Model_back_0 sm sk p2).1))), (qk, .inl (cD, 512, .inl ((k_Model_back_0 sm sk p2).2)))]) ([.ref qm, .int 0, .int (bI p2)] : List Value).toArray s 0 0 A) (F0 m 0 ls []) by rw [eH, eL] at hW; exact hW
  refine lv_aload_n hx hb d_Model_back_0 rfl (lv_at hl 0 rfl) ?_
  refine va_get (D := G.1) (ci := 6) (v := .ref qk) (C := R_Model) (T := T_Model) (N := 23) hx hb hts (fun w h => gd_sub _ (iw_Model w h)) hown hK hP 0 rfl rfl 14 (by decide) (hts _ (gd_sub _ q_621)) (fun _ h9 => h9) rfl d_Model_back_1 ?_
  refine lv_iload_n hx hb d_Model_back_4 rfl (lv_at hl 1 rfl) ?_
  refine lv_iconst (v := 0) hx hb d_Model_back_5 (by decide) ?_
  refine lv_iadd hx hb d_Model_back_6 ?_
  refine lv_topi (fun z9 e9 => ?_)
  obtain rfl : z9 = 0 := e9.trans (by decide)
  refine va_iald hx hb hK hP 1 2 rfl ht2 (by unfold vp_in; decide) d_Model_back_7 ?_
  refine lv_topi (fun z9 e9 => ?_)
  obtain rfl : z9 = (sk 0) := e9
  refine lv_istore_n (lv' := [(3, .int (sk 0)), (0, .ref qm), (1, .int 0), (2, .int (bI p2))]) hx hb d_Model_back_8 rfl hl (by decide) rfl (fun ls hl => ?_)
  refine lv_aload_n hx hb d_Model_back_9 rfl (lv_at hl 1 rfl) ?_
  refine lv_aload_n hx hb d_Model_back_10 rfl (lv_at hl 1 rfl) ?_
  refine va_get (D := G.1) (ci := 6) (v := .ref qk) (C := R_Model) (T := T_Model) (N := 23) hx hb hts (fun w h => gd_sub _ (iw_Model w h)) hown hK hP 0 rfl rfl 14 (by decide) (hts _ (gd_sub _ q_621)) (fun _ h9 => h9) rfl d_Model_back_11 ?_
  refine lv_iload_n hx hb d_Model_back_14 rfl (lv_at hl 2 rfl) ?_
  refine lv_bipush (v := 65) hx hb d_Model_back_15 (by decide) ?_
  refine lv_iadd hx hb d_Model_back_17 ?_
  refine lv_topi (fun z9 e9 => ?_)
  obtain rfl : z9 = 65 := e9.trans (by decide)
  refine va_iald hx hb hK hP 1 2 rfl ht2 (by unfold vp_in; decide) d_Model_back_18 ?_
  refine lv_topi (fun z9 e9 => ?_)
  obtain rfl : z9 = (sk 65) := e9
  refine lv_iconst (v := 4) hx hb d_Model_back_19 (by decide) ?_
  refine lv_isub hx hb d_Model_back_20 ?_
  refine va_put (D := G.1) (ci := 6) (v := .int ((sk 65) - 4)) (ty := .int) (C := R_Model) (T := T_Model) (N := 23) hx hb hts (fun w h => gd_sub _ (iw_Model w h)) ty_Model tyok_Model nm_Model hown hK hP hD hS 0 rfl rfl 1 (by decide) (hts _ (gd_sub _ q_608)) (fun _ h9 => h9) rfl (by decide +kernel) rfl rfl (Nat.le_of_ble_eq_true rfl) d_Model_back_21 (fun H locs hP hD hS => ?_)
  have hP : va_P G.1 vwCl [(qm, .inr (6, f_Model qp qk (oi sm 1 ((sk 65) - 4)))), (qk, .inl (cD, 512, .inl sk))] H := hP
  have hD : va_D A [(qm, .inr (6, f_Model qp qk (oi sm 1 ((sk 65) - 4)))), (qk, .inl (cD, 512, .inl sk))] := hD
  refine lv_aload_n hx hb d_Model_back_24 rfl (lv_at hl 1 rfl) ?_
  refine lv_iload_n hx hb d_Model_back_25 rfl (lv_at hl 0 rfl) ?_
  refine lv_bipush (v := 8) hx hb d_Model_back_26 (by decide) ?_
  refine lv_ishr hx hb d_Model_back_28 ?_
  refine lv_iconst (v := 1) hx hb d_Model_back_29 (by decide) ?_
  refine lv_iand hx hb d_Model_back_30 ?_
  refine lv_iload_n hx hb d_Model_back_31 rfl (lv_at hl 3 rfl) ?_
  refine lv_if_eq (tgt := 39) hx hb d_Model_back_32 (by decide) (fun c_1077 => ?_) (fun c_1077 => ?_)
  · refine lv_iconst (v := 0) hx hb d_Model_back_39 (by decide) ?_
    exact J40 (sk 0) 0 (((sk 0) >>> ((8 : Int32) &&& 31)) &&& 1) (oi sm 1 ((sk 65) - 4)) H locs ls (by rw [k_Model_back_0]; rw [if_pos c_1077]; try rfl) hP hD hS (lv_sub hl [1, 2, 3, 0] rfl)
  · refine lv_iconst (v := 2) hx hb d_Model_back_35 (by decide) ?_
    refine lv_goto (tgt := 40) hx hb d_Model_back_36 (by decide) ?_
    exact J40 (sk 0) 2 (((sk 0) >>> ((8 : Int32) &&& 31)) &&& 1) (oi sm 1 ((sk 65) - 4)) H locs ls (by rw [k_Model_back_0]; rw [if_neg c_1077]; try rfl) hP hD hS (lv_sub hl [1, 2, 3, 0] rfl)
def k_Model_sret_j37 (sm : ob) (sk : Nat → Int32) : Int32 × ob × (Nat → Int32) :=
  if (sm.1 0) = 1 then (0, (oi ((k_Model_back_0 sm sk (k_Model_has sm 128)).1) 15 ((((k_Model_back_0 sm sk (k_Model_has sm 128)).1).1 15) &&& (-129))), ((k_Model_back_0 sm sk (k_Model_has sm 128)).2)) else (0, ((k_Model_back_256 sm sk true).1), ((k_Model_back_256 sm sk true).2))
def k_Model_sret (sm : ob) (sk : Nat → Int32) : Int32 × ob × (Nat → Int32) :=
  if (sm.1 0) = 0 then (2, sm, sk) else (if (sm.1 0) = 2 then (22, sm, sk) else (if (sm.1 0) = 3 then (if (bI (k_Model_has sm 4194304)) = 0 then (k_Model_sret_j37 sm sk) else (22, sm, sk)) else (k_Model_sret_j37 sm sk)))
set_option maxHeartbeats 4000000 in
set_option maxRecDepth 100000 in
theorem c_Model_sret (l : Launch) (G : gx) (tys : List (ClassId × FieldType)) {cD : ClassId} (ht2 : tys[2]? = some (cD, .int)) (qm qk qp : Nat) (sm : ob) (sk : Nat → Int32) : ct_I l y_Model_sret ws_Model_sret ({ frames := 1, cells := 0, slots := 0, locals := 23 }) G tys [.ref qm] [(qm, .inr (6, f_Model qp qk sm)), (qk, .inl (cD, 512, .inl sk))] ((k_Model_sret sm sk).1) [(qm, .inr (6, f_Model qp qk ((k_Model_sret sm sk).2.1))), (qk, .inl (cD, 512, .inl ((k_Model_sret sm sk).2.2)))] := by
  refine ct_hI (cc := cc_Model_sret) (maxL := 1) (ret := (some .int)) (by decide) rfl (Nat.le_of_ble_eq_true rfl) ?_
  intro p e s m below meth c A ls hx hb hr hml hts hown hlocks hP hK hD hA hE hS hl
  have hl : lv_has ls 1 [(0, .ref qm)] := hl
  have hown : s.vm.findClass R_Model = some m.cls := hown
  have J37 : ∀ (H : Heap) (locs : List Loc) (ls : Array Slot), k_Model_sret sm sk = k_Model_sret_j37 sm sk → va_P G.1 vwCl [(qm, .inr (6, f_Model qp qk sm)), (qk, .inl (cD, 512, .inl sk))] H → va_D A [(qm, .inr (6, f_Model qp qk sm)), (qk, .inl (cD, 512, .inl sk))] → va_S A s.heap H locs → lv_has ls 1 [(0, .ref qm)] → W p l e ({ frames := 1, cells := 0, slots := 0, locals := 23 }) s m ([.ref qm] : List Value).toArray below meth c H locs 0 0 (MQ below (ct_qi G tys A ((k_Model_sret sm sk).1) [(qm, .inr (6, f_Model qp qk ((k_Model_sret sm sk).2.1))), (qk, .inl (cD, 512, .inl ((k_Model_sret sm sk).2.2)))]) ([.ref qm] : List Value).toArray s 0 0 A) (F0 m 37 ls []) := by
    intro H locs ls hj hP hD hS hl
    refine lv_aload_n hx hb d_Model_sret_37 rfl (lv_at hl 0 rfl) ?_
    refine va_get (D := G.1) (ci := 6) (v := .int (sm.1 0)) (C := R_Model) (T := T_Model) (N := 23) hx hb hts (fun w h => gd_sub _ (iw_Model w h)) hown hK hP 0 rfl rfl 0 (by decide) (hts _ (gd_sub _ q_607)) (fun _ h9 => h9) rfl d_Model_sret_38 ?_
    refine lv_iconst (v := 1) hx hb d_Model_sret_41 (by decide) ?_
    refine lv_icmp_ne (tgt := 72) hx hb d_Model_sret_42 (by decide) (fun c_1080 => ?_) (fun c_1080 => ?_)
    · refine lv_aload_n hx hb d_Model_sret_72 rfl (lv_at hl 0 rfl) ?_
      refine lv_sipush (v := 256) hx hb d_Model_sret_73 (by decide) ?_
      refine lv_iconst (v := 1) hx hb d_Model_sret_76 (by decide) ?_
      obtain ⟨sm_1081, esm_1081⟩ : ∃ z, z = (k_Model_back_256 sm sk true).1 := ⟨_, rfl⟩
      obtain ⟨sk_1082, esk_1082⟩ : ∃ z, z = (k_Model_back_256 sm sk true).2 := ⟨_, rfl⟩
      have hM := c_Model_back_256 l G tys ht2 qm qk qp sm sk true
      rw [← esm_1081, ← esk_1082] at hM
      refine ct_cVv (wr := []) (w1 := [(qm, .inr (6, f_Model qp qk sm_1081)), (qk, .inl (cD, 512, .inl sk_1082))]) (w2 := [(qm, .inr (6, f_Model qp qk sm_1081)), (qk, .inl (cD, 512, .inl sk_1082))]) (As := [.int 256, .int (bI true)]) (rest := []) (ci := 6) (q0 := 0) ⟨hx, hb, hml, hown, hts⟩ hM (cwV 2 hts (gdV gd_gd q_790 q_792 q_35 q_47 q_793) rfl rfl rfl (by decide +kernel) ⟨Nat.le_of_ble_eq_true rfl, Nat.le_of_ble_eq_true rfl⟩) hE hK hP hD hS hA [0, 1] [] [0, 1] rfl (by decide) rfl (by decide) (by decide) rfl (by decide) rfl rfl rfl hl.1 rfl (Nat.le_of_ble_eq_true rfl) d_Model_sret_77 ⟨Nat.zero_le _, Nat.zero_le _⟩ (fun H locs hP hD hS => ?_)
      refine lv_iconst (v := 0) hx hb d_Model_sret_80 (by decide) ?_
      have hk : k_Model_sret sm sk = (0, sm_1081, sk_1082) := (hj.trans (by rw [k_Model_sret_j37]; rw [if_neg c_1080]; try rw [← esm_1081]; try rw [← esk_1082]; try rfl))
      exact ct_ri hx hb hr hlocks hP hD hK hS d_Model_sret_81 (by rw [hk]; first | done | rfl) (by rw [hk]; first | done | rfl)
    · refine lv_aload_n hx hb d_Model_sret_45 rfl (lv_at hl 0 rfl) ?_
      refine lv_iconst (v := 0) hx hb d_Model_sret_46 (by decide) ?_
      refine lv_aload_n hx hb d_Model_sret_47 rfl (lv_at hl 0 rfl) ?_
      refine lv_sipush (v := 128) hx hb d_Model_sret_48 (by decide) ?_
      refine ct_cVi (wr := [(qk, .inl (cD, 512, .inl sk))]) (w1 := [(qm, .inr (6, f_Model qp qk sm))]) (w2 := [(qm, .inr (6, f_Model qp qk sm)), (qk, .inl (cD, 512, .inl sk))]) (r := (bI (k_Model_has sm 128))) (As := [.int 128]) (rest := [.int 0, .ref qm]) (ci := 6) (q0 := 0) ⟨hx, hb, hml, hown, hts⟩ (c_Model_has l G tys qm qp qk sm 128) (cwV 1 hts (gdV gd_gd q_763 q_765 q_29 q_47 q_766) rfl rfl rfl (by decide +kernel) ⟨Nat.le_of_ble_eq_true rfl, Nat.le_of_ble_eq_true rfl⟩) hE hK hP hD hS hA [0] [1] [1, 0] rfl (by decide) rfl (by decide) (by decide) rfl (by decide) rfl rfl rfl hl.1 rfl (Nat.le_of_ble_eq_true rfl) d_Model_sret_51 ⟨Nat.zero_le _, Nat.zero_le _⟩ (fun H locs hP hD hS => ?_)
      obtain ⟨sm_1083, esm_1083⟩ : ∃ z, z = (k_Model_back_0 sm sk (k_Model_has sm 128)).1 := ⟨_, rfl⟩
      obtain ⟨sk_1084, esk_1084⟩ : ∃ z, z = (k_Model_back_0 sm sk (k_Model_has sm 128)).2 := ⟨_, rfl⟩
      have hM := c_Model_back_0 l G tys ht2 qm qk qp sm sk (k_Model_has sm 128)
      rw [← esm_1083, ← esk_1084] at hM
      refine ct_cVv (wr := []) (w1 := [(qm, .inr (6, f_Model qp qk sm_1083)), (qk, .inl (cD, 512, .inl sk_1084))]) (w2 := [(qm, .inr (6, f_Model qp qk sm_1083)), (qk, .inl (cD, 512, .inl sk_1084))]) (As := [.int 0, .int (bI (k_Model_has sm 128))]) (rest := []) (ci := 6) (q0 := 0) ⟨hx, hb, hml, hown, hts⟩ hM (cwV 2 hts (gdV gd_gd q_790 q_792 q_35 q_47 q_793) rfl rfl rfl (by decide +kernel) ⟨Nat.le_of_ble_eq_true rfl, Nat.le_of_ble_eq_true rfl⟩) hE hK hP hD hS hA [0, 1] [] [0, 1] rfl (by decide) rfl (by decide) (by decide) rfl (by decide) rfl rfl rfl hl.1 rfl (Nat.le_of_ble_eq_true rfl) d_Model_sret_54 ⟨Nat.zero_le _, Nat.zero_le _⟩ (fun H locs hP hD hS => ?_)
      refine lv_aload_n hx hb d_Model_sret_57 rfl (lv_at hl 0 rfl) ?_
      refine lv_aload_n hx hb d_Model_sret_58 rfl (lv_at hl 0 rfl) ?_
      refine va_get (D := G.1) (ci := 6) (v := .int (sm_1083.1 15)) (C := R_Model) (T := T_Model) (N := 23) hx hb hts (fun w h => gd_sub _ (iw_Model w h)) hown hK hP 0 rfl rfl 15 (by decide) (hts _ (gd_sub _ q_622)) (fun _ h9 => h9) rfl d_Model_sret_59 ?_
      refine lv_sipush (v := (-129)) hx hb d_Model_sret_62 (by decide) ?_
      refine lv_iand hx hb d_Model_sret_65 ?_
      refine va_put (D := G.1) (ci := 6) (v := .int ((sm_1083.1 15) &&& (-129))) (ty := .int) (C := R_Model) (T := T_Model) (N := 23) hx hb hts (fun w h => gd_sub _ (iw_Model w h)) ty_Model tyok_Model nm_Model hown hK hP hD hS 0 rfl rfl 15 (by decide) (hts _ (gd_sub _ q_622)) (fun _ h9 => h9) rfl (by decide +kernel) rfl rfl (Nat.le_of_ble_eq_true rfl) d_Model_sret_66 (fun H locs hP hD hS => ?_)
      have hP : va_P G.1 vwCl [(qm, .inr (6, f_Model qp qk (oi sm_1083 15 ((sm_1083.1 15) &&& (-129))))), (qk, .inl (cD, 512, .inl sk_1084))] H := hP
      have hD : va_D A [(qm, .inr (6, f_Model qp qk (oi sm_1083 15 ((sm_1083.1 15) &&& (-129))))), (qk, .inl (cD, 512, .inl sk_1084))] := hD
      refine lv_goto (tgt := 80) hx hb d_Model_sret_69 (by decide) ?_
      refine lv_iconst (v := 0) hx hb d_Model_sret_80 (by decide) ?_
      have hk : k_Model_sret sm sk = (0, (oi sm_1083 15 ((sm_1083.1 15) &&& (-129))), sk_1084) := (hj.trans (by rw [k_Model_sret_j37]; rw [if_pos c_1080]; try rw [← esm_1083]; try rw [← esk_1084]; try rfl))
      exact ct_ri hx hb hr hlocks hP hD hK hS d_Model_sret_81 (by rw [hk]; first | done | rfl) (by rw [hk]; first | done | rfl)
  obtain ⟨H, eH⟩ : ∃ z, z = s.heap := ⟨_, rfl⟩
  obtain ⟨locs, eL⟩ : ∃ z, z = ([] : List Loc) := ⟨_, rfl⟩
  have hP : va_P G.1 vwCl [(qm, .inr (6, f_Model qp qk sm)), (qk, .inl (cD, 512, .inl sk))] H := by rw [eH]; exact hP
  have hS : va_S A s.heap H locs := by rw [eH, eL]; exact hS
  suffices hW : W p l e ({ frames := 1, cells := 0, slots := 0, locals := 23 }) s m ([.ref qm] : List Value).toArray below meth c H locs 0 0 (MQ below (ct_qi G tys A ((k_Model_sret sm sk).1) [(qm, .inr (6, f_Model qp qk ((k_Model_sret sm sk).2.1))), (qk, .inl (cD, 512, .inl ((k_Model_sret sm sk).2.2)))]) ([.ref qm] : List Value).toArray s 0 0 A) (F0 m 0 ls []) by rw [eH, eL] at hW; exact hW
  refine lv_aload_n hx hb d_Model_sret_0 rfl (lv_at hl 0 rfl) ?_
  refine va_get (D := G.1) (ci := 6) (v := .int (sm.1 0)) (C := R_Model) (T := T_Model) (N := 23) hx hb hts (fun w h => gd_sub _ (iw_Model w h)) hown hK hP 0 rfl rfl 0 (by decide) (hts _ (gd_sub _ q_607)) (fun _ h9 => h9) rfl d_Model_sret_1 ?_
  refine lv_if_ne (tgt := 9) hx hb d_Model_sret_4 (by decide) (fun c_1085 => ?_) (fun c_1085 => ?_)
  · refine lv_aload_n hx hb d_Model_sret_9 rfl (lv_at hl 0 rfl) ?_
    refine va_get (D := G.1) (ci := 6) (v := .int (sm.1 0)) (C := R_Model) (T := T_Model) (N := 23) hx hb hts (fun w h => gd_sub _ (iw_Model w h)) hown hK hP 0 rfl rfl 0 (by decide) (hts _ (gd_sub _ q_607)) (fun _ h9 => h9) rfl d_Model_sret_10 ?_
    refine lv_iconst (v := 2) hx hb d_Model_sret_13 (by decide) ?_
    refine lv_icmp_eq (tgt := 34) hx hb d_Model_sret_14 (by decide) (fun c_1086 => ?_) (fun c_1086 => ?_)
    · refine lv_bipush (v := 22) hx hb d_Model_sret_34 (by decide) ?_
      have hk : k_Model_sret sm sk = (22, sm, sk) := (by rw [k_Model_sret]; rw [if_neg c_1085]; rw [if_pos c_1086]; try rfl)
      exact ct_ri hx hb hr hlocks hP hD hK hS d_Model_sret_36 (by rw [hk]; first | done | rfl) (by rw [hk]; first | done | rfl)
    · refine lv_aload_n hx hb d_Model_sret_17 rfl (lv_at hl 0 rfl) ?_
      refine va_get (D := G.1) (ci := 6) (v := .int (sm.1 0)) (C := R_Model) (T := T_Model) (N := 23) hx hb hts (fun w h => gd_sub _ (iw_Model w h)) hown hK hP 0 rfl rfl 0 (by decide) (hts _ (gd_sub _ q_607)) (fun _ h9 => h9) rfl d_Model_sret_18 ?_
      refine lv_iconst (v := 3) hx hb d_Model_sret_21 (by decide) ?_
      refine lv_icmp_ne (tgt := 37) hx hb d_Model_sret_22 (by decide) (fun c_1087 => ?_) (fun c_1087 => ?_)
      · exact J37 H locs ls (by rw [k_Model_sret]; rw [if_neg c_1085]; rw [if_neg c_1086]; rw [if_neg c_1087]; try rfl) hP hD hS (lv_sub hl [0] rfl)
      · refine lv_aload_n hx hb d_Model_sret_25 rfl (lv_at hl 0 rfl) ?_
        refine lv_ldc (v := 4194304) hx hb hown (hts _ (gd_sub _ q_789)) d_Model_sret_26 ?_
        refine ct_cVi (wr := [(qk, .inl (cD, 512, .inl sk))]) (w1 := [(qm, .inr (6, f_Model qp qk sm))]) (w2 := [(qm, .inr (6, f_Model qp qk sm)), (qk, .inl (cD, 512, .inl sk))]) (r := (bI (k_Model_has sm 4194304))) (As := [.int 4194304]) (rest := []) (ci := 6) (q0 := 0) ⟨hx, hb, hml, hown, hts⟩ (c_Model_has l G tys qm qp qk sm 4194304) (cwV 1 hts (gdV gd_gd q_763 q_765 q_29 q_47 q_766) rfl rfl rfl (by decide +kernel) ⟨Nat.le_of_ble_eq_true rfl, Nat.le_of_ble_eq_true rfl⟩) hE hK hP hD hS hA [0] [1] [1, 0] rfl (by decide) rfl (by decide) (by decide) rfl (by decide) rfl rfl rfl hl.1 rfl (Nat.le_of_ble_eq_true rfl) d_Model_sret_28 ⟨Nat.zero_le _, Nat.zero_le _⟩ (fun H locs hP hD hS => ?_)
        refine lv_if_eq (tgt := 37) hx hb d_Model_sret_31 (by decide) (fun c_1088 => ?_) (fun c_1088 => ?_)
        · exact J37 H locs ls (by rw [k_Model_sret]; rw [if_neg c_1085]; rw [if_neg c_1086]; rw [if_pos c_1087]; rw [if_pos c_1088]; try rfl) hP hD hS (lv_sub hl [0] rfl)
        · refine lv_bipush (v := 22) hx hb d_Model_sret_34 (by decide) ?_
          have hk : k_Model_sret sm sk = (22, sm, sk) := (by rw [k_Model_sret]; rw [if_neg c_1085]; rw [if_neg c_1086]; rw [if_pos c_1087]; rw [if_neg c_1088]; try rfl)
          exact ct_ri hx hb hr hlocks hP hD hK hS d_Model_sret_36 (by rw [hk]; first | done | rfl) (by rw [hk]; first | done | rfl)
  · refine lv_iconst (v := 2) hx hb d_Model_sret_7 (by decide) ?_
    have hk : k_Model_sret sm sk = (2, sm, sk) := (by rw [k_Model_sret]; rw [if_pos c_1085]; try rfl)
    exact ct_ri hx hb hr hlocks hP hD hK hS d_Model_sret_8 (by rw [hk]; first | done | rfl) (by rw [hk]; first | done | rfl)
def k_Model_allowed (sm : ob) (p1 : Int32) : Int32 :=
  if (sm.1 0) = 0 then 2 else (if (sm.1 0) = 1 then 0 else (if (sm.1 0) = 3 then (if (bI (k_Model_has sm p1)) = 0 then 0 else 22) else 22))
set_option maxHeartbeats 4000000 in
set_option maxRecDepth 100000 in
theorem c_Model_allowed (l : Launch) (G : gx) (tys : List (ClassId × FieldType)) (qm qp qk : Nat) (sm : ob) (p1 : Int32) : ct_I l y_Model_allowed ws_Model_allowed ({ frames := 1, cells := 0, slots := 0, locals := 21 }) G tys [.ref qm, .int p1] [(qm, .inr (6, f_Model qp qk sm))] (k_Model_allowed sm p1) [(qm, .inr (6, f_Model qp qk sm))] := by
  refine ct_hI (cc := cc_Model_allowed) (maxL := 2) (ret := (some .int)) (by decide) rfl (Nat.le_of_ble_eq_true rfl) ?_
  intro p e s m below meth c A ls hx hb hr hml hts hown hlocks hP hK hD hA hE hS hl
  have hl : lv_has ls 2 [(0, .ref qm), (1, .int p1)] := hl
  have hown : s.vm.findClass R_Model = some m.cls := hown
  refine lv_aload_n hx hb d_Model_allowed_0 rfl (lv_at hl 0 rfl) ?_
  refine va_get (D := G.1) (ci := 6) (v := .int (sm.1 0)) (C := R_Model) (T := T_Model) (N := 23) hx hb hts (fun w h => gd_sub _ (iw_Model w h)) hown hK hP 0 rfl rfl 0 (by decide) (hts _ (gd_sub _ q_607)) (fun _ h9 => h9) rfl d_Model_allowed_1 ?_
  refine lv_if_ne (tgt := 9) hx hb d_Model_allowed_4 (by decide) (fun c_1093 => ?_) (fun c_1093 => ?_)
  · refine lv_aload_n hx hb d_Model_allowed_9 rfl (lv_at hl 0 rfl) ?_
    refine va_get (D := G.1) (ci := 6) (v := .int (sm.1 0)) (C := R_Model) (T := T_Model) (N := 23) hx hb hts (fun w h => gd_sub _ (iw_Model w h)) hown hK hP 0 rfl rfl 0 (by decide) (hts _ (gd_sub _ q_607)) (fun _ h9 => h9) rfl d_Model_allowed_10 ?_
    refine lv_iconst (v := 1) hx hb d_Model_allowed_13 (by decide) ?_
    refine lv_icmp_eq (tgt := 33) hx hb d_Model_allowed_14 (by decide) (fun c_1094 => ?_) (fun c_1094 => ?_)
    · refine lv_iconst (v := 0) hx hb d_Model_allowed_33 (by decide) ?_
      refine lv_goto (tgt := 39) hx hb d_Model_allowed_34 (by decide) ?_
      have hk : k_Model_allowed sm p1 = 0 := (by rw [k_Model_allowed]; rw [if_neg c_1093]; rw [if_pos c_1094]; try rfl)
      exact ct_ri hx hb hr hlocks hP hD hK hS d_Model_allowed_39 (by rw [hk]; first | done | rfl) rfl
    · refine lv_aload_n hx hb d_Model_allowed_17 rfl (lv_at hl 0 rfl) ?_
      refine va_get (D := G.1) (ci := 6) (v := .int (sm.1 0)) (C := R_Model) (T := T_Model) (N := 23) hx hb hts (fun w h => gd_sub _ (iw_Model w h)) hown hK hP 0 rfl rfl 0 (by decide) (hts _ (gd_sub _ q_607)) (fun _ h9 => h9) rfl d_Model_allowed_18 ?_
      refine lv_iconst (v := 3) hx hb d_Model_allowed_21 (by decide) ?_
      refine lv_icmp_ne (tgt := 37) hx hb d_Model_allowed_22 (by decide) (fun c_1095 => ?_) (fun c_1095 => ?_)
      · refine lv_bipush (v := 22) hx hb d_Model_allowed_37 (by decide) ?_
        have hk : k_Model_allowed sm p1 = 22 := (by rw [k_Model_allowed]; rw [if_neg c_1093]; rw [if_neg c_1094]; rw [if_neg c_1095]; try rfl)
        exact ct_ri hx hb hr hlocks hP hD hK hS d_Model_allowed_39 (by rw [hk]; first | done | rfl) rfl
      · refine lv_aload_n hx hb d_Model_allowed_25 rfl (lv_at hl 0 rfl) ?_
        refine lv_iload_n hx hb d_Model_allowed_26 rfl (lv_at hl 1 rfl) ?_
        refine ct_cVi (wr := []) (w1 := [(qm, .inr (6, f_Model qp qk sm))]) (w2 := [(qm, .inr (6, f_Model qp qk sm))]) (r := (bI (k_Model_has sm p1))) (As := [.int p1]) (rest := []) (ci := 6) (q0 := 0) ⟨hx, hb, hml, hown, hts⟩ (c_Model_has l G tys qm qp qk sm p1) (cwV 1 hts (gdV gd_gd q_763 q_765 q_29 q_47 q_766) rfl rfl rfl (by decide +kernel) ⟨Nat.le_of_ble_eq_true rfl, Nat.le_of_ble_eq_true rfl⟩) hE hK hP hD hS hA [0] [] [0] rfl (by decide) rfl (by decide) (by decide) rfl (by decide) rfl rfl rfl hl.1 rfl (Nat.le_of_ble_eq_true rfl) d_Model_allowed_27 ⟨Nat.zero_le _, Nat.zero_le _⟩ (fun H locs hP hD hS => ?_)
        refine lv_if_ne (tgt := 37) hx hb d_Model_allowed_30 (by decide) (fun c_1096 => ?_) (fun c_1096 => ?_)
        · refine lv_bipush (v := 22) hx hb d_Model_allowed_37 (by decide) ?_
          have hk : k_Model_allowed sm p1 = 22 := (by rw [k_Model_allowed]; rw [if_neg c_1093]; rw [if_neg c_1094]; rw [if_pos c_1095]; rw [if_neg c_1096]; try rfl)
          exact ct_ri hx hb hr hlocks hP hD hK hS d_Model_allowed_39 (by rw [hk]; first | done | rfl) rfl
        · refine lv_iconst (v := 0) hx hb d_Model_allowed_33 (by decide) ?_
          refine lv_goto (tgt := 39) hx hb d_Model_allowed_34 (by decide) ?_
          have hk : k_Model_allowed sm p1 = 0 := (by rw [k_Model_allowed]; rw [if_neg c_1093]; rw [if_neg c_1094]; rw [if_pos c_1095]; rw [if_pos c_1096]; try rfl)
          exact ct_ri hx hb hr hlocks hP hD hK hS d_Model_allowed_39 (by rw [hk]; first | done | rfl) rfl
  · refine lv_iconst (v := 2) hx hb d_Model_allowed_7 (by decide) ?_
    have hk : k_Model_allowed sm p1 = 2 := (by rw [k_Model_allowed]; rw [if_pos c_1093]; try rfl)
    exact ct_ri hx hb hr hlocks hP hD hK hS d_Model_allowed_8 (by rw [hk]; first | done | rfl) rfl
