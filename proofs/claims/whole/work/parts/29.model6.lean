def k_Model_system_j25 (sm : ob) (sp : Nat → Int32) (sk : Nat → Int32) (p1 : Int32) (p2 : Int32) (p3 : Int32) : Int32 × ob × (Nat → Int32) × (Nat → Int32) :=
  if (sm.1 0) = 0 then (2, sm, sp, sk) else (if (sm.1 0) = 1 then (0, sm, sp, sk) else (22, sm, sp, sk))
def k_Model_system (sm : ob) (sp : Nat → Int32) (sk : Nat → Int32) (p1 : Int32) (p2 : Int32) (p3 : Int32) : Int32 × ob × (Nat → Int32) × (Nat → Int32) :=
  if p2 = 9 then ((k_Model_allowed sm 1048576), sm, sp, sk) else (if p2 = 17 then (k_Model_system_j25 sm sp sk p1 p2 p3) else (if p2 = 49 then (k_Model_system_j25 sm sp sk p1 p2 p3) else (if p1 = 0 then (if p3 = 0 then (((k_Model_call sm sp).1), ((k_Model_call sm sp).2.1), ((k_Model_call sm sp).2.2), sk) else if p3 = 1 then (3, sm, sp, sk) else if p3 = 258 then (((k_Model_sret sm sk).1), ((k_Model_sret sm sk).2.1), sp, ((k_Model_sret sm sk).2.2)) else if p3 = 261 then ((k_Model_allowed sm 2097152), sm, sp, sk) else (2, sm, sp, sk)) else (2, sm, sp, sk))))
set_option maxHeartbeats 4000000 in
set_option maxRecDepth 100000 in
theorem c_Model_system (l : Launch) (G : gx) (tys : List (ClassId × FieldType)) {cB : ClassId} (ht1 : tys[1]? = some (cB, .int)) {cD : ClassId} (ht2 : tys[2]? = some (cD, .int)) (qm qp qk : Nat) (sm : ob) (sp : Nat → Int32) (sk : Nat → Int32) (p1 : Int32) (p2 : Int32) (p3 : Int32) (hq9 : ¬ sm.1 9 < 0) : ct_I l y_Model_system ws_Model_system ({ frames := 2, cells := 0, slots := 0, locals := 43 }) G tys [.ref qm, .int p1, .int p2, .int p3] [(qm, .inr (6, f_Model qp qk sm)), (qp, .inl (cB, 256, .inl sp)), (qk, .inl (cD, 512, .inl sk))] ((k_Model_system sm sp sk p1 p2 p3).1) [(qm, .inr (6, f_Model qp qk ((k_Model_system sm sp sk p1 p2 p3).2.1))), (qp, .inl (cB, 256, .inl ((k_Model_system sm sp sk p1 p2 p3).2.2.1))), (qk, .inl (cD, 512, .inl ((k_Model_system sm sp sk p1 p2 p3).2.2.2)))] := by
  refine ct_hI (cc := cc_Model_system) (maxL := 4) (ret := (some .int)) (by decide) rfl (Nat.le_of_ble_eq_true rfl) ?_
  intro p e s m below meth c A ls hx hb hr hml hts hown hlocks hP hK hD hA hE hS hl
  have hl : lv_has ls 4 [(0, .ref qm), (1, .int p1), (2, .int p2), (3, .int p3)] := hl
  have hown : s.vm.findClass R_Model = some m.cls := hown
  have J25 : ∀ (H : Heap) (locs : List Loc) (ls : Array Slot), k_Model_system sm sp sk p1 p2 p3 = k_Model_system_j25 sm sp sk p1 p2 p3 → va_P G.1 vwCl [(qm, .inr (6, f_Model qp qk sm)), (qp, .inl (cB, 256, .inl sp)), (qk, .inl (cD, 512, .inl sk))] H → va_D A [(qm, .inr (6, f_Model qp qk sm)), (qp, .inl (cB, 256, .inl sp)), (qk, .inl (cD, 512, .inl sk))] → va_S A s.heap H locs → lv_has ls 4 [(0, .ref qm), (1, .int p1), (2, .int p2), (3, .int p3)] → W p l e ({ frames := 2, cells := 0, slots := 0, locals := 43 }) s m ([.ref qm, .int p1, .int p2, .int p3] : List Value).toArray below meth c H locs 0 0 (MQ below (ct_qi G tys A ((k_Model_system sm sp sk p1 p2 p3).1) [(qm, .inr (6, f_Model qp qk ((k_Model_system sm sp sk p1 p2 p3).2.1))), (qp, .inl (cB, 256, .inl ((k_Model_system sm sp sk p1 p2 p3).2.2.1))), (qk, .inl (cD, 512, .inl ((k_Model_system sm sp sk p1 p2 p3).2.2.2)))]) ([.ref qm, .int p1, .int p2, .int p3] : List Value).toArray s 0 0 A) (F0 m 25 ls []) := by
    intro H locs ls hj hP hD hS hl
    refine lv_aload_n hx hb d_Model_system_25 rfl (lv_at hl 0 rfl) ?_
    refine va_get (D := G.1) (ci := 6) (v := .int (sm.1 0)) (C := R_Model) (T := T_Model) (N := 23) hx hb hts (fun w h => gd_sub _ (iw_Model w h)) hown hK hP 0 rfl rfl 0 (by decide) (hts _ (gd_sub _ q_607)) (fun _ h9 => h9) rfl d_Model_system_26 ?_
    refine lv_if_ne (tgt := 36) hx hb d_Model_system_29 (by decide) (fun c_1113 => ?_) (fun c_1113 => ?_)
    · refine lv_aload_n hx hb d_Model_system_36 rfl (lv_at hl 0 rfl) ?_
      refine va_get (D := G.1) (ci := 6) (v := .int (sm.1 0)) (C := R_Model) (T := T_Model) (N := 23) hx hb hts (fun w h => gd_sub _ (iw_Model w h)) hown hK hP 0 rfl rfl 0 (by decide) (hts _ (gd_sub _ q_607)) (fun _ h9 => h9) rfl d_Model_system_37 ?_
      refine lv_iconst (v := 1) hx hb d_Model_system_40 (by decide) ?_
      refine lv_icmp_ne (tgt := 48) hx hb d_Model_system_41 (by decide) (fun c_1114 => ?_) (fun c_1114 => ?_)
      · refine lv_bipush (v := 22) hx hb d_Model_system_48 (by decide) ?_
        have hk : k_Model_system sm sp sk p1 p2 p3 = (22, sm, sp, sk) := (hj.trans (by rw [k_Model_system_j25]; rw [if_neg c_1113]; rw [if_neg c_1114]; try rfl))
        exact ct_ri hx hb hr hlocks hP hD hK hS d_Model_system_50 (by rw [hk]; first | done | rfl) (by rw [hk]; first | done | rfl)
      · refine lv_iconst (v := 0) hx hb d_Model_system_44 (by decide) ?_
        refine lv_goto (tgt := 50) hx hb d_Model_system_45 (by decide) ?_
        have hk : k_Model_system sm sp sk p1 p2 p3 = (0, sm, sp, sk) := (hj.trans (by rw [k_Model_system_j25]; rw [if_neg c_1113]; rw [if_pos c_1114]; try rfl))
        exact ct_ri hx hb hr hlocks hP hD hK hS d_Model_system_50 (by rw [hk]; first | done | rfl) (by rw [hk]; first | done | rfl)
    · refine lv_iconst (v := 2) hx hb d_Model_system_32 (by decide) ?_
      refine lv_goto (tgt := 50) hx hb d_Model_system_33 (by decide) ?_
      have hk : k_Model_system sm sp sk p1 p2 p3 = (2, sm, sp, sk) := (hj.trans (by rw [k_Model_system_j25]; rw [if_pos c_1113]; try rfl))
      exact ct_ri hx hb hr hlocks hP hD hK hS d_Model_system_50 (by rw [hk]; first | done | rfl) (by rw [hk]; first | done | rfl)
  obtain ⟨H, eH⟩ : ∃ z, z = s.heap := ⟨_, rfl⟩
  obtain ⟨locs, eL⟩ : ∃ z, z = ([] : List Loc) := ⟨_, rfl⟩
  have hP : va_P G.1 vwCl [(qm, .inr (6, f_Model qp qk sm)), (qp, .inl (cB, 256, .inl sp)), (qk, .inl (cD, 512, .inl sk))] H := by rw [eH]; exact hP
  have hS : va_S A s.heap H locs := by rw [eH, eL]; exact hS
  suffices hW : W p l e ({ frames := 2, cells := 0, slots := 0, locals := 43 }) s m ([.ref qm, .int p1, .int p2, .int p3] : List Value).toArray below meth c H locs 0 0 (MQ below (ct_qi G tys A ((k_Model_system sm sp sk p1 p2 p3).1) [(qm, .inr (6, f_Model qp qk ((k_Model_system sm sp sk p1 p2 p3).2.1))), (qp, .inl (cB, 256, .inl ((k_Model_system sm sp sk p1 p2 p3).2.2.1))), (qk, .inl (cD, 512, .inl ((k_Model_system sm sp sk p1 p2 p3).2.2.2)))]) ([.ref qm, .int p1, .int p2, .int p3] : List Value).toArray s 0 0 A) (F0 m 0 ls []) by rw [eH, eL] at hW; exact hW
  refine lv_iload_n hx hb d_Model_system_0 rfl (lv_at hl 2 rfl) ?_
  refine lv_bipush (v := 9) hx hb d_Model_system_1 (by decide) ?_
  refine lv_icmp_ne (tgt := 13) hx hb d_Model_system_3 (by decide) (fun c_1115 => ?_) (fun c_1115 => ?_)
  · refine lv_iload_n hx hb d_Model_system_13 rfl (lv_at hl 2 rfl) ?_
    refine lv_bipush (v := 17) hx hb d_Model_system_14 (by decide) ?_
    refine lv_icmp_eq (tgt := 25) hx hb d_Model_system_16 (by decide) (fun c_1116 => ?_) (fun c_1116 => ?_)
    · exact J25 H locs ls (by rw [k_Model_system]; rw [if_neg c_1115]; rw [if_pos c_1116]; try rfl) hP hD hS (lv_sub hl [0, 1, 2, 3] rfl)
    · refine lv_iload_n hx hb d_Model_system_19 rfl (lv_at hl 2 rfl) ?_
      refine lv_bipush (v := 49) hx hb d_Model_system_20 (by decide) ?_
      refine lv_icmp_ne (tgt := 51) hx hb d_Model_system_22 (by decide) (fun c_1117 => ?_) (fun c_1117 => ?_)
      · refine lv_iload_n hx hb d_Model_system_51 rfl (lv_at hl 1 rfl) ?_
        refine lv_if_eq (tgt := 57) hx hb d_Model_system_52 (by decide) (fun c_1118 => ?_) (fun c_1118 => ?_)
        · refine lv_iload_n hx hb d_Model_system_57 rfl (lv_at hl 3 rfl) ?_
          by_cases c_1119 : p3 = 0
          · refine lv_lookup (off := 42) (tgt := 100) hx hb d_Model_system_58 (by decide) (by rw [c_1119]; decide) (by decide) ?_
            refine lv_aload_n hx hb d_Model_system_100 rfl (lv_at hl 0 rfl) ?_
            obtain ⟨r_1120, er_1120⟩ : ∃ z, z = (k_Model_call sm sp).1 := ⟨_, rfl⟩
            obtain ⟨sm_1121, esm_1121⟩ : ∃ z, z = (k_Model_call sm sp).2.1 := ⟨_, rfl⟩
            obtain ⟨sp_1122, esp_1122⟩ : ∃ z, z = (k_Model_call sm sp).2.2 := ⟨_, rfl⟩
            have hM := c_Model_call l G tys ht1 qm qp qk sm sp hq9
            rw [← er_1120, ← esm_1121, ← esp_1122] at hM
            refine ct_cVi (wr := [(qk, .inl (cD, 512, .inl sk))]) (w1 := [(qm, .inr (6, f_Model qp qk sm_1121)), (qp, .inl (cB, 256, .inl sp_1122))]) (w2 := [(qm, .inr (6, f_Model qp qk sm_1121)), (qp, .inl (cB, 256, .inl sp_1122)), (qk, .inl (cD, 512, .inl sk))]) (r := r_1120) (As := []) (rest := []) (ci := 6) (q0 := 0) ⟨hx, hb, hml, hown, hts⟩ hM (cwV 0 hts (gdV gd_gd q_776 q_778 q_32 q_47 q_779) rfl rfl rfl (by decide +kernel) ⟨Nat.le_of_ble_eq_true rfl, Nat.le_of_ble_eq_true rfl⟩) hE hK hP hD hS hA [0, 1] [2] [1, 2, 0] rfl (by decide) rfl (by decide) (by decide) rfl (by decide) rfl rfl rfl hl.1 rfl (Nat.le_of_ble_eq_true rfl) d_Model_system_101 ⟨Nat.zero_le _, Nat.zero_le _⟩ (fun H locs hP hD hS => ?_)
            have hk : k_Model_system sm sp sk p1 p2 p3 = (r_1120, sm_1121, sp_1122, sk) := (by rw [k_Model_system]; rw [if_neg c_1115]; rw [if_neg c_1116]; rw [if_neg c_1117]; rw [if_pos c_1118]; rw [if_pos c_1119]; try rw [← er_1120]; try rw [← esm_1121]; try rw [← esp_1122]; try rfl)
            exact ct_ri hx hb hr hlocks hP hD hK hS d_Model_system_104 (by rw [hk]; first | done | rfl) (by rw [hk]; first | done | rfl)
          · by_cases c_1123 : p3 = 1
            · refine lv_lookup (off := 47) (tgt := 105) hx hb d_Model_system_58 (by decide) (by rw [c_1123]; decide) (by decide) ?_
              refine lv_iconst (v := 3) hx hb d_Model_system_105 (by decide) ?_
              have hk : k_Model_system sm sp sk p1 p2 p3 = (3, sm, sp, sk) := (by rw [k_Model_system]; rw [if_neg c_1115]; rw [if_neg c_1116]; rw [if_neg c_1117]; rw [if_pos c_1118]; rw [if_neg c_1119]; rw [if_pos c_1123]; try rfl)
              exact ct_ri hx hb hr hlocks hP hD hK hS d_Model_system_106 (by rw [hk]; first | done | rfl) (by rw [hk]; first | done | rfl)
            · by_cases c_1124 : p3 = 258
              · refine lv_lookup (off := 49) (tgt := 107) hx hb d_Model_system_58 (by decide) (by rw [c_1124]; decide) (by decide) ?_
                refine lv_aload_n hx hb d_Model_system_107 rfl (lv_at hl 0 rfl) ?_
                obtain ⟨r_1125, er_1125⟩ : ∃ z, z = (k_Model_sret sm sk).1 := ⟨_, rfl⟩
                obtain ⟨sm_1126, esm_1126⟩ : ∃ z, z = (k_Model_sret sm sk).2.1 := ⟨_, rfl⟩
                obtain ⟨sk_1127, esk_1127⟩ : ∃ z, z = (k_Model_sret sm sk).2.2 := ⟨_, rfl⟩
                have hM := c_Model_sret l G tys ht2 qm qk qp sm sk
                rw [← er_1125, ← esm_1126, ← esk_1127] at hM
                refine ct_cVi (wr := [(qp, .inl (cB, 256, .inl sp))]) (w1 := [(qm, .inr (6, f_Model qp qk sm_1126)), (qk, .inl (cD, 512, .inl sk_1127))]) (w2 := [(qm, .inr (6, f_Model qp qk sm_1126)), (qp, .inl (cB, 256, .inl sp)), (qk, .inl (cD, 512, .inl sk_1127))]) (r := r_1125) (As := []) (rest := []) (ci := 6) (q0 := 0) ⟨hx, hb, hml, hown, hts⟩ hM (cwV 0 hts (gdV gd_gd q_785 q_787 q_34 q_47 q_788) rfl rfl rfl (by decide +kernel) ⟨Nat.le_of_ble_eq_true rfl, Nat.le_of_ble_eq_true rfl⟩) hE hK hP hD hS hA [0, 2] [1] [1, 0, 2] rfl (by decide) rfl (by decide) (by decide) rfl (by decide) rfl rfl rfl hl.1 rfl (Nat.le_of_ble_eq_true rfl) d_Model_system_108 ⟨Nat.zero_le _, Nat.zero_le _⟩ (fun H locs hP hD hS => ?_)
                have hk : k_Model_system sm sp sk p1 p2 p3 = (r_1125, sm_1126, sp, sk_1127) := (by rw [k_Model_system]; rw [if_neg c_1115]; rw [if_neg c_1116]; rw [if_neg c_1117]; rw [if_pos c_1118]; rw [if_neg c_1119]; rw [if_neg c_1123]; rw [if_pos c_1124]; try rw [← er_1125]; try rw [← esm_1126]; try rw [← esk_1127]; try rfl)
                exact ct_ri hx hb hr hlocks hP hD hK hS d_Model_system_111 (by rw [hk]; first | done | rfl) (by rw [hk]; first | done | rfl)
              · by_cases c_1128 : p3 = 261
                · refine lv_lookup (off := 54) (tgt := 112) hx hb d_Model_system_58 (by decide) (by rw [c_1128]; decide) (by decide) ?_
                  refine lv_aload_n hx hb d_Model_system_112 rfl (lv_at hl 0 rfl) ?_
                  refine lv_ldc (v := 2097152) hx hb hown (hts _ (gd_sub _ q_794)) d_Model_system_113 ?_
                  refine ct_cVi (wr := [(qp, .inl (cB, 256, .inl sp)), (qk, .inl (cD, 512, .inl sk))]) (w1 := [(qm, .inr (6, f_Model qp qk sm))]) (w2 := [(qm, .inr (6, f_Model qp qk sm)), (qp, .inl (cB, 256, .inl sp)), (qk, .inl (cD, 512, .inl sk))]) (r := (k_Model_allowed sm 2097152)) (As := [.int 2097152]) (rest := []) (ci := 6) (q0 := 0) ⟨hx, hb, hml, hown, hts⟩ (c_Model_allowed l G tys qm qp qk sm 2097152) (cwV 1 hts (gdV gd_gd q_772 q_774 q_31 q_47 q_775) rfl rfl rfl (by decide +kernel) ⟨Nat.le_of_ble_eq_true rfl, Nat.le_of_ble_eq_true rfl⟩) hE hK hP hD hS hA [0] [1, 2] [2, 0, 1] rfl (by decide) rfl (by decide) (by decide) rfl (by decide) rfl rfl rfl hl.1 rfl (Nat.le_of_ble_eq_true rfl) d_Model_system_115 ⟨Nat.zero_le _, Nat.zero_le _⟩ (fun H locs hP hD hS => ?_)
                  have hk : k_Model_system sm sp sk p1 p2 p3 = ((k_Model_allowed sm 2097152), sm, sp, sk) := (by rw [k_Model_system]; rw [if_neg c_1115]; rw [if_neg c_1116]; rw [if_neg c_1117]; rw [if_pos c_1118]; rw [if_neg c_1119]; rw [if_neg c_1123]; rw [if_neg c_1124]; rw [if_pos c_1128]; try rfl)
                  exact ct_ri hx hb hr hlocks hP hD hK hS d_Model_system_118 (by rw [hk]; first | done | rfl) (by rw [hk]; first | done | rfl)
                · refine lv_lookup (off := 61) (tgt := 119) hx hb d_Model_system_58 (by decide) ((lv_osw c_1119 (by decide)).trans ((lv_osw c_1123 (by decide)).trans ((lv_osw c_1124 (by decide)).trans ((lv_osw c_1128 (by decide)).trans rfl)))) (by decide) ?_
                  refine lv_iconst (v := 2) hx hb d_Model_system_119 (by decide) ?_
                  have hk : k_Model_system sm sp sk p1 p2 p3 = (2, sm, sp, sk) := (by rw [k_Model_system]; rw [if_neg c_1115]; rw [if_neg c_1116]; rw [if_neg c_1117]; rw [if_pos c_1118]; rw [if_neg c_1119]; rw [if_neg c_1123]; rw [if_neg c_1124]; rw [if_neg c_1128]; try rfl)
                  exact ct_ri hx hb hr hlocks hP hD hK hS d_Model_system_120 (by rw [hk]; first | done | rfl) (by rw [hk]; first | done | rfl)
        · refine lv_iconst (v := 2) hx hb d_Model_system_55 (by decide) ?_
          have hk : k_Model_system sm sp sk p1 p2 p3 = (2, sm, sp, sk) := (by rw [k_Model_system]; rw [if_neg c_1115]; rw [if_neg c_1116]; rw [if_neg c_1117]; rw [if_neg c_1118]; try rfl)
          exact ct_ri hx hb hr hlocks hP hD hK hS d_Model_system_56 (by rw [hk]; first | done | rfl) (by rw [hk]; first | done | rfl)
      · exact J25 H locs ls (by rw [k_Model_system]; rw [if_neg c_1115]; rw [if_neg c_1116]; rw [if_pos c_1117]; try rfl) hP hD hS (lv_sub hl [0, 1, 2, 3] rfl)
  · refine lv_aload_n hx hb d_Model_system_6 rfl (lv_at hl 0 rfl) ?_
    refine lv_ldc (v := 1048576) hx hb hown (hts _ (gd_sub _ q_771)) d_Model_system_7 ?_
    refine ct_cVi (wr := [(qp, .inl (cB, 256, .inl sp)), (qk, .inl (cD, 512, .inl sk))]) (w1 := [(qm, .inr (6, f_Model qp qk sm))]) (w2 := [(qm, .inr (6, f_Model qp qk sm)), (qp, .inl (cB, 256, .inl sp)), (qk, .inl (cD, 512, .inl sk))]) (r := (k_Model_allowed sm 1048576)) (As := [.int 1048576]) (rest := []) (ci := 6) (q0 := 0) ⟨hx, hb, hml, hown, hts⟩ (c_Model_allowed l G tys qm qp qk sm 1048576) (cwV 1 hts (gdV gd_gd q_772 q_774 q_31 q_47 q_775) rfl rfl rfl (by decide +kernel) ⟨Nat.le_of_ble_eq_true rfl, Nat.le_of_ble_eq_true rfl⟩) hE hK hP hD hS hA [0] [1, 2] [2, 0, 1] rfl (by decide) rfl (by decide) (by decide) rfl (by decide) rfl rfl rfl hl.1 rfl (Nat.le_of_ble_eq_true rfl) d_Model_system_9 ⟨Nat.zero_le _, Nat.zero_le _⟩ (fun H locs hP hD hS => ?_)
    have hk : k_Model_system sm sp sk p1 p2 p3 = ((k_Model_allowed sm 1048576), sm, sp, sk) := (by rw [k_Model_system]; rw [if_pos c_1115]; try rfl)
    exact ct_ri hx hb hr hlocks hP hD hK hS d_Model_system_12 (by rw [hk]; first | done | rfl) (by rw [hk]; first | done | rfl)
def k_Model_isFar_j61 (p1 : Int32) (p2 : Int32) (p3 : Int32) (t0 : Bool) : Bool :=
  if (bI t0) = 0 then (if p1 = 0 then (if p3 = 49 then true else (if p3 = 51 then true else (if p3 = 53 then true else false))) else false) else true
def k_Model_isFar_j60 (p1 : Int32) (p2 : Int32) (p3 : Int32) : Bool :=
  k_Model_isFar_j61 p1 p2 p3 false
def k_Model_isFar_j56 (p1 : Int32) (p2 : Int32) (p3 : Int32) : Bool :=
  k_Model_isFar_j61 p1 p2 p3 true
def k_Model_isFar_j39 (p1 : Int32) (p2 : Int32) (p3 : Int32) : Bool :=
  if p2 = 3 then (if p3 = 50 then (k_Model_isFar_j56 p1 p2 p3) else (if p3 = 52 then (k_Model_isFar_j56 p1 p2 p3) else (k_Model_isFar_j60 p1 p2 p3))) else (k_Model_isFar_j60 p1 p2 p3)
def k_Model_isFar_j22 (p1 : Int32) (p2 : Int32) (p3 : Int32) : Bool :=
  if p2 = 1 then (if p3 = 48 then (k_Model_isFar_j56 p1 p2 p3) else (if p3 = 50 then (k_Model_isFar_j56 p1 p2 p3) else (k_Model_isFar_j39 p1 p2 p3))) else (k_Model_isFar_j39 p1 p2 p3)
def k_Model_isFar (p1 : Int32) (p2 : Int32) (p3 : Int32) : Bool :=
  if p2 = 0 then (if p3 = 48 then (k_Model_isFar_j56 p1 p2 p3) else (if p3 = 50 then (k_Model_isFar_j56 p1 p2 p3) else (if p3 = 52 then (k_Model_isFar_j56 p1 p2 p3) else (k_Model_isFar_j22 p1 p2 p3)))) else (k_Model_isFar_j22 p1 p2 p3)
set_option maxHeartbeats 4000000 in
set_option maxRecDepth 100000 in
theorem c_Model_isFar (l : Launch) (G : gx) (tys : List (ClassId × FieldType)) (p1 : Int32) (p2 : Int32) (p3 : Int32) : ct_I l y_Model_isFar ws_Model_isFar ({ frames := 0, cells := 0, slots := 0, locals := 0 }) G tys [.int p1, .int p2, .int p3] [] (bI (k_Model_isFar p1 p2 p3)) [] := by
  refine ct_hI (cc := cc_Model_isFar) (maxL := 4) (ret := (some .boolean)) (by decide) rfl (Nat.le_of_ble_eq_true rfl) ?_
  intro p e s m below meth c A ls hx hb hr hml hts hown hlocks hP hK hD hA hE hS hl
  have hl : lv_has ls 4 [(0, .int p1), (1, .int p2), (2, .int p3)] := hl
  have hown : s.vm.findClass R_Model = some m.cls := hown
  have J61 : ∀ (t0 : Bool) (H : Heap) (locs : List Loc) (ls : Array Slot), k_Model_isFar p1 p2 p3 = k_Model_isFar_j61 p1 p2 p3 t0 → va_P G.1 vwCl [] H → va_D A [] → va_S A s.heap H locs → lv_has ls 4 [(0, .int p1), (1, .int p2), (2, .int p3)] → W p l e ({ frames := 0, cells := 0, slots := 0, locals := 0 }) s m ([.int p1, .int p2, .int p3] : List Value).toArray below meth c H locs 0 0 (MQ below (ct_qi G tys A (bI (k_Model_isFar p1 p2 p3)) []) ([.int p1, .int p2, .int p3] : List Value).toArray s 0 0 A) (F0 m 61 ls [.int (bI t0)]) := by
    intro t0 H locs ls hj hP hD hS hl
    refine lv_istore_n (lv' := [(3, .int (bI t0)), (0, .int p1), (1, .int p2), (2, .int p3)]) hx hb d_Model_isFar_61 rfl hl (by decide) rfl (fun ls hl => ?_)
    refine lv_iload_n hx hb d_Model_isFar_62 rfl (lv_at hl 0 rfl) ?_
    refine lv_if_ne (tgt := 88) hx hb d_Model_isFar_63 (by decide) (fun c_1144 => ?_) (fun c_1144 => ?_)
    · refine lv_iconst (v := 1) hx hb d_Model_isFar_88 (by decide) ?_
      refine lv_goto (tgt := 93) hx hb d_Model_isFar_89 (by decide) ?_
      have hk : k_Model_isFar p1 p2 p3 = true := (hj.trans (by rw [k_Model_isFar_j61]; rw [if_neg c_1144]; try rfl))
      exact ct_rz hx hb hr hlocks hP hD hK hS d_Model_isFar_93 rfl (by rw [hk]; first | done | rfl) rfl
    · refine lv_iload_n hx hb d_Model_isFar_66 rfl (lv_at hl 1 rfl) ?_
      refine lv_if_ne (tgt := 92) hx hb d_Model_isFar_67 (by decide) (fun c_1145 => ?_) (fun c_1145 => ?_)
      · refine lv_iconst (v := 0) hx hb d_Model_isFar_92 (by decide) ?_
        have hk : k_Model_isFar p1 p2 p3 = false := (hj.trans (by rw [k_Model_isFar_j61]; rw [if_pos c_1144]; rw [if_neg c_1145]; try rfl))
        exact ct_rz hx hb hr hlocks hP hD hK hS d_Model_isFar_93 rfl (by rw [hk]; first | done | rfl) rfl
      · refine lv_iload_n hx hb d_Model_isFar_70 rfl (lv_at hl 3 rfl) ?_
        refine lv_bipush (v := 49) hx hb d_Model_isFar_71 (by decide) ?_
        refine lv_icmp_eq (tgt := 88) hx hb d_Model_isFar_73 (by decide) (fun c_1146 => ?_) (fun c_1146 => ?_)
        · refine lv_iconst (v := 1) hx hb d_Model_isFar_88 (by decide) ?_
          refine lv_goto (tgt := 93) hx hb d_Model_isFar_89 (by decide) ?_
          have hk : k_Model_isFar p1 p2 p3 = true := (hj.trans (by rw [k_Model_isFar_j61]; rw [if_pos c_1144]; rw [if_pos c_1145]; rw [if_pos c_1146]; try rfl))
          exact ct_rz hx hb hr hlocks hP hD hK hS d_Model_isFar_93 rfl (by rw [hk]; first | done | rfl) rfl
        · refine lv_iload_n hx hb d_Model_isFar_76 rfl (lv_at hl 3 rfl) ?_
          refine lv_bipush (v := 51) hx hb d_Model_isFar_77 (by decide) ?_
          refine lv_icmp_eq (tgt := 88) hx hb d_Model_isFar_79 (by decide) (fun c_1147 => ?_) (fun c_1147 => ?_)
          · refine lv_iconst (v := 1) hx hb d_Model_isFar_88 (by decide) ?_
            refine lv_goto (tgt := 93) hx hb d_Model_isFar_89 (by decide) ?_
            have hk : k_Model_isFar p1 p2 p3 = true := (hj.trans (by rw [k_Model_isFar_j61]; rw [if_pos c_1144]; rw [if_pos c_1145]; rw [if_neg c_1146]; rw [if_pos c_1147]; try rfl))
            exact ct_rz hx hb hr hlocks hP hD hK hS d_Model_isFar_93 rfl (by rw [hk]; first | done | rfl) rfl
          · refine lv_iload_n hx hb d_Model_isFar_82 rfl (lv_at hl 3 rfl) ?_
            refine lv_bipush (v := 53) hx hb d_Model_isFar_83 (by decide) ?_
            refine lv_icmp_ne (tgt := 92) hx hb d_Model_isFar_85 (by decide) (fun c_1148 => ?_) (fun c_1148 => ?_)
            · refine lv_iconst (v := 0) hx hb d_Model_isFar_92 (by decide) ?_
              have hk : k_Model_isFar p1 p2 p3 = false := (hj.trans (by rw [k_Model_isFar_j61]; rw [if_pos c_1144]; rw [if_pos c_1145]; rw [if_neg c_1146]; rw [if_neg c_1147]; rw [if_neg c_1148]; try rfl))
              exact ct_rz hx hb hr hlocks hP hD hK hS d_Model_isFar_93 rfl (by rw [hk]; first | done | rfl) rfl
            · refine lv_iconst (v := 1) hx hb d_Model_isFar_88 (by decide) ?_
              refine lv_goto (tgt := 93) hx hb d_Model_isFar_89 (by decide) ?_
              have hk : k_Model_isFar p1 p2 p3 = true := (hj.trans (by rw [k_Model_isFar_j61]; rw [if_pos c_1144]; rw [if_pos c_1145]; rw [if_neg c_1146]; rw [if_neg c_1147]; rw [if_pos c_1148]; try rfl))
              exact ct_rz hx hb hr hlocks hP hD hK hS d_Model_isFar_93 rfl (by rw [hk]; first | done | rfl) rfl
  have J60 : ∀ (H : Heap) (locs : List Loc) (ls : Array Slot), k_Model_isFar p1 p2 p3 = k_Model_isFar_j60 p1 p2 p3 → va_P G.1 vwCl [] H → va_D A [] → va_S A s.heap H locs → lv_has ls 4 [(0, .int p1), (1, .int p2), (2, .int p3)] → W p l e ({ frames := 0, cells := 0, slots := 0, locals := 0 }) s m ([.int p1, .int p2, .int p3] : List Value).toArray below meth c H locs 0 0 (MQ below (ct_qi G tys A (bI (k_Model_isFar p1 p2 p3)) []) ([.int p1, .int p2, .int p3] : List Value).toArray s 0 0 A) (F0 m 60 ls []) := by
    intro H locs ls hj hP hD hS hl
    refine lv_iconst (v := 0) hx hb d_Model_isFar_60 (by decide) ?_
    exact J61 false H locs ls (hj.trans (by rw [k_Model_isFar_j60]; try rfl)) hP hD hS (lv_sub hl [0, 1, 2] rfl)
  have J56 : ∀ (H : Heap) (locs : List Loc) (ls : Array Slot), k_Model_isFar p1 p2 p3 = k_Model_isFar_j56 p1 p2 p3 → va_P G.1 vwCl [] H → va_D A [] → va_S A s.heap H locs → lv_has ls 4 [(0, .int p1), (1, .int p2), (2, .int p3)] → W p l e ({ frames := 0, cells := 0, slots := 0, locals := 0 }) s m ([.int p1, .int p2, .int p3] : List Value).toArray below meth c H locs 0 0 (MQ below (ct_qi G tys A (bI (k_Model_isFar p1 p2 p3)) []) ([.int p1, .int p2, .int p3] : List Value).toArray s 0 0 A) (F0 m 56 ls []) := by
    intro H locs ls hj hP hD hS hl
    refine lv_iconst (v := 1) hx hb d_Model_isFar_56 (by decide) ?_
    refine lv_goto (tgt := 61) hx hb d_Model_isFar_57 (by decide) ?_
    exact J61 true H locs ls (hj.trans (by rw [k_Model_isFar_j56]; try rfl)) hP hD hS (lv_sub hl [0, 1, 2] rfl)
  have J39 : ∀ (H : Heap) (locs : List Loc) (ls : Array Slot), k_Model_isFar p1 p2 p3 = k_Model_isFar_j39 p1 p2 p3 → va_P G.1 vwCl [] H → va_D A [] → va_S A s.heap H locs → lv_has ls 4 [(0, .int p1), (1, .int p2), (2, .int p3)] → W p l e ({ frames := 0, cells := 0, slots := 0, locals := 0 }) s m ([.int p1, .int p2, .int p3] : List Value).toArray below meth c H locs 0 0 (MQ below (ct_qi G tys A (bI (k_Model_isFar p1 p2 p3)) []) ([.int p1, .int p2, .int p3] : List Value).toArray s 0 0 A) (F0 m 39 ls []) := by
    intro H locs ls hj hP hD hS hl
    refine lv_iload_n hx hb d_Model_isFar_39 rfl (lv_at hl 1 rfl) ?_
    refine lv_iconst (v := 3) hx hb d_Model_isFar_40 (by decide) ?_
    refine lv_icmp_ne (tgt := 60) hx hb d_Model_isFar_41 (by decide) (fun c_1149 => ?_) (fun c_1149 => ?_)
    · exact J60 H locs ls (hj.trans (by rw [k_Model_isFar_j39]; rw [if_neg c_1149]; try rfl)) hP hD hS (lv_sub hl [0, 1, 2] rfl)
    · refine lv_iload_n hx hb d_Model_isFar_44 rfl (lv_at hl 2 rfl) ?_
      refine lv_bipush (v := 50) hx hb d_Model_isFar_45 (by decide) ?_
      refine lv_icmp_eq (tgt := 56) hx hb d_Model_isFar_47 (by decide) (fun c_1150 => ?_) (fun c_1150 => ?_)
      · exact J56 H locs ls (hj.trans (by rw [k_Model_isFar_j39]; rw [if_pos c_1149]; rw [if_pos c_1150]; try rfl)) hP hD hS (lv_sub hl [0, 1, 2] rfl)
      · refine lv_iload_n hx hb d_Model_isFar_50 rfl (lv_at hl 2 rfl) ?_
        refine lv_bipush (v := 52) hx hb d_Model_isFar_51 (by decide) ?_
        refine lv_icmp_ne (tgt := 60) hx hb d_Model_isFar_53 (by decide) (fun c_1151 => ?_) (fun c_1151 => ?_)
        · exact J60 H locs ls (hj.trans (by rw [k_Model_isFar_j39]; rw [if_pos c_1149]; rw [if_neg c_1150]; rw [if_neg c_1151]; try rfl)) hP hD hS (lv_sub hl [0, 1, 2] rfl)
        · exact J56 H locs ls (hj.trans (by rw [k_Model_isFar_j39]; rw [if_pos c_1149]; rw [if_neg c_1150]; rw [if_pos c_1151]; try rfl)) hP hD hS (lv_sub hl [0, 1, 2] rfl)
  have J22 : ∀ (H : Heap) (locs : List Loc) (ls : Array Slot), k_Model_isFar p1 p2 p3 = k_Model_isFar_j22 p1 p2 p3 → va_P G.1 vwCl [] H → va_D A [] → va_S A s.heap H locs → lv_has ls 4 [(0, .int p1), (1, .int p2), (2, .int p3)] → W p l e ({ frames := 0, cells := 0, slots := 0, locals := 0 }) s m ([.int p1, .int p2, .int p3] : List Value).toArray below meth c H locs 0 0 (MQ below (ct_qi G tys A (bI (k_Model_isFar p1 p2 p3)) []) ([.int p1, .int p2, .int p3] : List Value).toArray s 0 0 A) (F0 m 22 ls []) := by
    intro H locs ls hj hP hD hS hl
    refine lv_iload_n hx hb d_Model_isFar_22 rfl (lv_at hl 1 rfl) ?_
    refine lv_iconst (v := 1) hx hb d_Model_isFar_23 (by decide) ?_
    refine lv_icmp_ne (tgt := 39) hx hb d_Model_isFar_24 (by decide) (fun c_1152 => ?_) (fun c_1152 => ?_)
    · exact J39 H locs ls (hj.trans (by rw [k_Model_isFar_j22]; rw [if_neg c_1152]; try rfl)) hP hD hS (lv_sub hl [0, 1, 2] rfl)
    · refine lv_iload_n hx hb d_Model_isFar_27 rfl (lv_at hl 2 rfl) ?_
      refine lv_bipush (v := 48) hx hb d_Model_isFar_28 (by decide) ?_
      refine lv_icmp_eq (tgt := 56) hx hb d_Model_isFar_30 (by decide) (fun c_1153 => ?_) (fun c_1153 => ?_)
      · exact J56 H locs ls (hj.trans (by rw [k_Model_isFar_j22]; rw [if_pos c_1152]; rw [if_pos c_1153]; try rfl)) hP hD hS (lv_sub hl [0, 1, 2] rfl)
      · refine lv_iload_n hx hb d_Model_isFar_33 rfl (lv_at hl 2 rfl) ?_
        refine lv_bipush (v := 50) hx hb d_Model_isFar_34 (by decide) ?_
        refine lv_icmp_eq (tgt := 56) hx hb d_Model_isFar_36 (by decide) (fun c_1154 => ?_) (fun c_1154 => ?_)
        · exact J56 H locs ls (hj.trans (by rw [k_Model_isFar_j22]; rw [if_pos c_1152]; rw [if_neg c_1153]; rw [if_pos c_1154]; try rfl)) hP hD hS (lv_sub hl [0, 1, 2] rfl)
        · exact J39 H locs ls (hj.trans (by rw [k_Model_isFar_j22]; rw [if_pos c_1152]; rw [if_neg c_1153]; rw [if_neg c_1154]; try rfl)) hP hD hS (lv_sub hl [0, 1, 2] rfl)
  obtain ⟨H, eH⟩ : ∃ z, z = s.heap := ⟨_, rfl⟩
  obtain ⟨locs, eL⟩ : ∃ z, z = ([] : List Loc) := ⟨_, rfl⟩
  have hP : va_P G.1 vwCl [] H := by rw [eH]; exact hP
  have hS : va_S A s.heap H locs := by rw [eH, eL]; exact hS
  suffices hW : W p l e ({ frames := 0, cells := 0, slots := 0, locals := 0 }) s m ([.int p1, .int p2, .int p3] : List Value).toArray below meth c H locs 0 0 (MQ below (ct_qi G tys A (bI (k_Model_isFar p1 p2 p3)) []) ([.int p1, .int p2, .int p3] : List Value).toArray s 0 0 A) (F0 m 0 ls []) by rw [eH, eL] at hW; exact hW
  refine lv_iload_n hx hb d_Model_isFar_0 rfl (lv_at hl 1 rfl) ?_
  refine lv_if_ne (tgt := 22) hx hb d_Model_isFar_1 (by decide) (fun c_1155 => ?_) (fun c_1155 => ?_)
  · exact J22 H locs ls (by rw [k_Model_isFar]; rw [if_neg c_1155]; try rfl) hP hD hS (lv_sub hl [0, 1, 2] rfl)
  · refine lv_iload_n hx hb d_Model_isFar_4 rfl (lv_at hl 2 rfl) ?_
    refine lv_bipush (v := 48) hx hb d_Model_isFar_5 (by decide) ?_
    refine lv_icmp_eq (tgt := 56) hx hb d_Model_isFar_7 (by decide) (fun c_1156 => ?_) (fun c_1156 => ?_)
    · exact J56 H locs ls (by rw [k_Model_isFar]; rw [if_pos c_1155]; rw [if_pos c_1156]; try rfl) hP hD hS (lv_sub hl [0, 1, 2] rfl)
    · refine lv_iload_n hx hb d_Model_isFar_10 rfl (lv_at hl 2 rfl) ?_
      refine lv_bipush (v := 50) hx hb d_Model_isFar_11 (by decide) ?_
      refine lv_icmp_eq (tgt := 56) hx hb d_Model_isFar_13 (by decide) (fun c_1157 => ?_) (fun c_1157 => ?_)
      · exact J56 H locs ls (by rw [k_Model_isFar]; rw [if_pos c_1155]; rw [if_neg c_1156]; rw [if_pos c_1157]; try rfl) hP hD hS (lv_sub hl [0, 1, 2] rfl)
      · refine lv_iload_n hx hb d_Model_isFar_16 rfl (lv_at hl 2 rfl) ?_
        refine lv_bipush (v := 52) hx hb d_Model_isFar_17 (by decide) ?_
        refine lv_icmp_eq (tgt := 56) hx hb d_Model_isFar_19 (by decide) (fun c_1158 => ?_) (fun c_1158 => ?_)
        · exact J56 H locs ls (by rw [k_Model_isFar]; rw [if_pos c_1155]; rw [if_neg c_1156]; rw [if_neg c_1157]; rw [if_pos c_1158]; try rfl) hP hD hS (lv_sub hl [0, 1, 2] rfl)
        · exact J22 H locs ls (by rw [k_Model_isFar]; rw [if_pos c_1155]; rw [if_neg c_1156]; rw [if_neg c_1157]; rw [if_neg c_1158]; try rfl) hP hD hS (lv_sub hl [0, 1, 2] rfl)
def k_Model_doWord_j209 (sm : ob) (sp : Nat → Int32) (sk : Nat → Int32) (p1 : Int32) (v2 : Int32) (v3 : Int32) (v4 : Int32) (v5 : Int32) (v6 : Int32) (v7 : Int32) (v8 : Int32) (t0 : Int32) (t1 : Int32) (um : ob) (up : Nat → Int32) (uk : Nat → Int32) : Int32 × ob × (Nat → Int32) × (Nat → Int32) :=
  (v8, ((k_Model_trap um uk t1 t0 false 0 false).1), up, ((k_Model_trap um uk t1 t0 false 0 false).2))
def k_Model_doWord_j191 (sm : ob) (sp : Nat → Int32) (sk : Nat → Int32) (p1 : Int32) (v2 : Int32) (v3 : Int32) (v4 : Int32) (v5 : Int32) (v6 : Int32) (v7 : Int32) (v8 : Int32) (t0 : Int32) (um : ob) (up : Nat → Int32) (uk : Nat → Int32) : Int32 × ob × (Nat → Int32) × (Nat → Int32) :=
  k_Model_doWord_j209 sm sp sk p1 v2 v3 v4 v5 v6 v7 v8 p1 t0 um up uk
def k_Model_doWord_j170 (sm : ob) (sp : Nat → Int32) (sk : Nat → Int32) (p1 : Int32) (v2 : Int32) (v3 : Int32) (v4 : Int32) (v5 : Int32) (v6 : Int32) (v7 : Int32) (v8 : Int32) (um : ob) (up : Nat → Int32) (uk : Nat → Int32) : Int32 × ob × (Nat → Int32) × (Nat → Int32) :=
  if v8 ≤ 0 then ((-1), (oi um 1 ((um.1 1) + 4)), up, uk) else (if v8 = 2 then (k_Model_doWord_j191 sm sp sk p1 v2 v3 v4 v5 v6 v7 v8 v8 um up uk) else (if v8 = 22 then (k_Model_doWord_j191 sm sp sk p1 v2 v3 v4 v5 v6 v7 v8 v8 um up uk) else (if v8 = 3 then (k_Model_doWord_j209 sm sp sk p1 v2 v3 v4 v5 v6 v7 v8 (um.1 1) v8 um up uk) else (k_Model_doWord_j209 sm sp sk p1 v2 v3 v4 v5 v6 v7 v8 0 v8 um up uk))))
def k_Model_doWord_j152 (sm : ob) (sp : Nat → Int32) (sk : Nat → Int32) (p1 : Int32) (v2 : Int32) (v3 : Int32) (v4 : Int32) (v5 : Int32) (v6 : Int32) (v7 : Int32) : Int32 × ob × (Nat → Int32) × (Nat → Int32) :=
  if (v3 - v3 / 4 * 4) = 0 then (k_Model_doWord_j170 sm sp sk p1 v2 v3 v4 v5 v6 v7 2 sm sp sk) else (k_Model_doWord_j170 sm sp sk p1 v2 v3 v4 v5 v6 v7 ((k_Model_control sm sk v3 v2 v4 v7).1) ((k_Model_control sm sk v3 v2 v4 v7).2.1) sp ((k_Model_control sm sk v3 v2 v4 v7).2.2))
def k_Model_doWord_j129 (sm : ob) (sp : Nat → Int32) (sk : Nat → Int32) (p1 : Int32) (v2 : Int32) (v3 : Int32) (v4 : Int32) (v5 : Int32) (v6 : Int32) (v7 : Int32) : Int32 × ob × (Nat → Int32) × (Nat → Int32) :=
  if v3 = 0 then (if v2 = 0 then (k_Model_doWord_j170 sm sp sk p1 v2 v3 v4 v5 v6 v7 ((k_Model_system sm sp sk v4 v6 v7).1) ((k_Model_system sm sp sk v4 v6 v7).2.1) ((k_Model_system sm sp sk v4 v6 v7).2.2.1) ((k_Model_system sm sp sk v4 v6 v7).2.2.2)) else (k_Model_doWord_j152 sm sp sk p1 v2 v3 v4 v5 v6 v7)) else (k_Model_doWord_j152 sm sp sk p1 v2 v3 v4 v5 v6 v7)
def k_Model_doWord_j119 (sm : ob) (sp : Nat → Int32) (sk : Nat → Int32) (p1 : Int32) (v2 : Int32) (v3 : Int32) (v4 : Int32) (v5 : Int32) (v6 : Int32) (v7 : Int32) (t0 : Int32) : Int32 × ob × (Nat → Int32) × (Nat → Int32) :=
  if t0 = 0 then ((-2), sm, sp, sk) else (k_Model_doWord_j170 sm sp sk p1 v2 v3 v4 v5 v6 v7 t0 sm sp sk)
def k_Model_doWord_j118 (sm : ob) (sp : Nat → Int32) (sk : Nat → Int32) (p1 : Int32) (v2 : Int32) (v3 : Int32) (v4 : Int32) (v5 : Int32) (v6 : Int32) (v7 : Int32) : Int32 × ob × (Nat → Int32) × (Nat → Int32) :=
  k_Model_doWord_j119 sm sp sk p1 v2 v3 v4 v5 v6 v7 0
def k_Model_doWord (sm : ob) (sp : Nat → Int32) (sk : Nat → Int32) (p1 : Int32) : Int32 × ob × (Nat → Int32) × (Nat → Int32) :=
  if (bI (sm.2.2 10)) = 0 then (if (p1 &&& 127) = 115 then (if ((p1 >>> ((12 : Int32) &&& 31)) &&& 7) = 4 then (if (bI (k_Model_isFar ((p1 >>> ((7 : Int32) &&& 31)) &&& 31) ((p1 >>> ((20 : Int32) &&& 31)) &&& 31) (ush p1 25))) = 0 then (k_Model_doWord_j129 sm sp sk p1 ((p1 >>> ((7 : Int32) &&& 31)) &&& 31) ((p1 >>> ((12 : Int32) &&& 31)) &&& 7) ((p1 >>> ((15 : Int32) &&& 31)) &&& 31) ((p1 >>> ((20 : Int32) &&& 31)) &&& 31) (ush p1 25) (ush p1 20)) else (if (sm.1 0) < 2 then (if (sm.1 0) = 0 then (if (bI (k_Model_has sm 512)) = 0 then (k_Model_doWord_j119 sm sp sk p1 ((p1 >>> ((7 : Int32) &&& 31)) &&& 31) ((p1 >>> ((12 : Int32) &&& 31)) &&& 7) ((p1 >>> ((15 : Int32) &&& 31)) &&& 31) ((p1 >>> ((20 : Int32) &&& 31)) &&& 31) (ush p1 25) (ush p1 20) 2) else (k_Model_doWord_j118 sm sp sk p1 ((p1 >>> ((7 : Int32) &&& 31)) &&& 31) ((p1 >>> ((12 : Int32) &&& 31)) &&& 7) ((p1 >>> ((15 : Int32) &&& 31)) &&& 31) ((p1 >>> ((20 : Int32) &&& 31)) &&& 31) (ush p1 25) (ush p1 20))) else (k_Model_doWord_j118 sm sp sk p1 ((p1 >>> ((7 : Int32) &&& 31)) &&& 31) ((p1 >>> ((12 : Int32) &&& 31)) &&& 7) ((p1 >>> ((15 : Int32) &&& 31)) &&& 31) ((p1 >>> ((20 : Int32) &&& 31)) &&& 31) (ush p1 25) (ush p1 20))) else (k_Model_doWord_j119 sm sp sk p1 ((p1 >>> ((7 : Int32) &&& 31)) &&& 31) ((p1 >>> ((12 : Int32) &&& 31)) &&& 7) ((p1 >>> ((15 : Int32) &&& 31)) &&& 31) ((p1 >>> ((20 : Int32) &&& 31)) &&& 31) (ush p1 25) (ush p1 20) 22))) else (k_Model_doWord_j129 sm sp sk p1 ((p1 >>> ((7 : Int32) &&& 31)) &&& 31) ((p1 >>> ((12 : Int32) &&& 31)) &&& 7) ((p1 >>> ((15 : Int32) &&& 31)) &&& 31) ((p1 >>> ((20 : Int32) &&& 31)) &&& 31) (ush p1 25) (ush p1 20))) else (k_Model_doWord_j170 sm sp sk p1 ((p1 >>> ((7 : Int32) &&& 31)) &&& 31) ((p1 >>> ((12 : Int32) &&& 31)) &&& 7) ((p1 >>> ((15 : Int32) &&& 31)) &&& 31) ((p1 >>> ((20 : Int32) &&& 31)) &&& 31) (ush p1 25) (ush p1 20) 2 sm sp sk)) else ((-3), sm, sp, sk)
set_option maxHeartbeats 4000000 in
set_option maxRecDepth 100000 in
theorem c_Model_doWord (l : Launch) (G : gx) (tys : List (ClassId × FieldType)) {cB : ClassId} (ht1 : tys[1]? = some (cB, .int)) {cD : ClassId} (ht2 : tys[2]? = some (cD, .int)) (qm qp qk : Nat) (sm : ob) (sp : Nat → Int32) (sk : Nat → Int32) (p1 : Int32) (hq9 : ¬ sm.1 9 < 0) : ct_I l y_Model_doWord ws_Model_doWord ({ frames := 4, cells := 0, slots := 0, locals := 94 }) G tys [.ref qm, .int p1] [(qm, .inr (6, f_Model qp qk sm)), (qp, .inl (cB, 256, .inl sp)), (qk, .inl (cD, 512, .inl sk))] ((k_Model_doWord sm sp sk p1).1) [(qm, .inr (6, f_Model qp qk ((k_Model_doWord sm sp sk p1).2.1))), (qp, .inl (cB, 256, .inl ((k_Model_doWord sm sp sk p1).2.2.1))), (qk, .inl (cD, 512, .inl ((k_Model_doWord sm sp sk p1).2.2.2)))] := by
  refine ct_hI (cc := cc_Model_doWord) (maxL := 9) (ret := (some .int)) (by decide) rfl (Nat.le_of_ble_eq_true rfl) ?_
  intro p e s m below meth c A ls hx hb hr hml hts hown hlocks hP hK hD hA hE hS hl
  have hl : lv_has ls 9 [(0, .ref qm), (1, .int p1)] := hl
  have hown : s.vm.findClass R_Model = some m.cls := hown
  have J209 : ∀ (v2 : Int32) (v3 : Int32) (v4 : Int32) (v5 : Int32) (v6 : Int32) (v7 : Int32) (v8 : Int32) (t0 : Int32) (t1 : Int32) (um : ob) (up : Nat → Int32) (uk : Nat → Int32) (H : Heap) (locs : List Loc) (ls : Array Slot), k_Model_doWord sm sp sk p1 = k_Model_doWord_j209 sm sp sk p1 v2 v3 v4 v5 v6 v7 v8 t0 t1 um up uk → va_P G.1 vwCl [(qm, .inr (6, f_Model qp qk um)), (qp, .inl (cB, 256, .inl up)), (qk, .inl (cD, 512, .inl uk))] H → va_D A [(qm, .inr (6, f_Model qp qk um)), (qp, .inl (cB, 256, .inl up)), (qk, .inl (cD, 512, .inl uk))] → va_S A s.heap H locs → lv_has ls 9 [(0, .ref qm), (1, .int p1), (2, .int v2), (3, .int v3), (4, .int v4), (5, .int v5), (6, .int v6), (7, .int v7), (8, .int v8)] → W p l e ({ frames := 4, cells := 0, slots := 0, locals := 94 }) s m ([.ref qm, .int p1] : List Value).toArray below meth c H locs 0 0 (MQ below (ct_qi G tys A ((k_Model_doWord sm sp sk p1).1) [(qm, .inr (6, f_Model qp qk ((k_Model_doWord sm sp sk p1).2.1))), (qp, .inl (cB, 256, .inl ((k_Model_doWord sm sp sk p1).2.2.1))), (qk, .inl (cD, 512, .inl ((k_Model_doWord sm sp sk p1).2.2.2)))]) ([.ref qm, .int p1] : List Value).toArray s 0 0 A) (F0 m 209 ls [.int t0, .int t1, .ref qm]) := by
    intro v2 v3 v4 v5 v6 v7 v8 t0 t1 um up uk H locs ls hj hP hD hS hl
    refine lv_iconst (v := 0) hx hb d_Model_doWord_209 (by decide) ?_
    refine lv_iconst (v := 0) hx hb d_Model_doWord_210 (by decide) ?_
    refine lv_iconst (v := 0) hx hb d_Model_doWord_211 (by decide) ?_
    obtain ⟨sm_1183, esm_1183⟩ : ∃ z, z = (k_Model_trap um uk t1 t0 false 0 false).1 := ⟨_, rfl⟩
    obtain ⟨sk_1184, esk_1184⟩ : ∃ z, z = (k_Model_trap um uk t1 t0 false 0 false).2 := ⟨_, rfl⟩
    have hM := c_Model_trap l G tys ht2 qm qk qp um uk t1 t0 false 0 false
    rw [← esm_1183, ← esk_1184] at hM
    refine ct_cVv (wr := [(qp, .inl (cB, 256, .inl up))]) (w1 := [(qm, .inr (6, f_Model qp qk sm_1183)), (qk, .inl (cD, 512, .inl sk_1184))]) (w2 := [(qm, .inr (6, f_Model qp qk sm_1183)), (qp, .inl (cB, 256, .inl up)), (qk, .inl (cD, 512, .inl sk_1184))]) (As := [.int t1, .int t0, .int (bI false), .int 0, .int (bI false)]) (rest := []) (ci := 6) (q0 := 0) ⟨hx, hb, hml, hown, hts⟩ hM (cwV 5 hts (gdV gd_gd q_727 q_729 q_24 q_47 q_730) rfl rfl rfl (by decide +kernel) ⟨Nat.le_of_ble_eq_true rfl, Nat.le_of_ble_eq_true rfl⟩) hE hK hP hD hS hA [0, 2] [1] [1, 0, 2] rfl (by decide) rfl (by decide) (by decide) rfl (by decide) rfl rfl rfl hl.1 rfl (Nat.le_of_ble_eq_true rfl) d_Model_doWord_212 ⟨Nat.zero_le _, Nat.zero_le _⟩ (fun H locs hP hD hS => ?_)
    refine lv_iload hx hb d_Model_doWord_215 (lv_at hl 8 rfl) ?_
    have hk : k_Model_doWord sm sp sk p1 = (v8, sm_1183, up, sk_1184) := (hj.trans (by rw [k_Model_doWord_j209]; try rw [← esm_1183]; try rw [← esk_1184]; try rfl))
    exact ct_ri hx hb hr hlocks hP hD hK hS d_Model_doWord_217 (by rw [hk]; first | done | rfl) (by rw [hk]; first | done | rfl)
  have J191 : ∀ (v2 : Int32) (v3 : Int32) (v4 : Int32) (v5 : Int32) (v6 : Int32) (v7 : Int32) (v8 : Int32) (t0 : Int32) (um : ob) (up : Nat → Int32) (uk : Nat → Int32) (H : Heap) (locs : List Loc) (ls : Array Slot), k_Model_doWord sm sp sk p1 = k_Model_doWord_j191 sm sp sk p1 v2 v3 v4 v5 v6 v7 v8 t0 um up uk → va_P G.1 vwCl [(qm, .inr (6, f_Model qp qk um)), (qp, .inl (cB, 256, .inl up)), (qk, .inl (cD, 512, .inl uk))] H → va_D A [(qm, .inr (6, f_Model qp qk um)), (qp, .inl (cB, 256, .inl up)), (qk, .inl (cD, 512, .inl uk))] → va_S A s.heap H locs → lv_has ls 9 [(0, .ref qm), (1, .int p1), (2, .int v2), (3, .int v3), (4, .int v4), (5, .int v5), (6, .int v6), (7, .int v7), (8, .int v8)] → W p l e ({ frames := 4, cells := 0, slots := 0, locals := 94 }) s m ([.ref qm, .int p1] : List Value).toArray below meth c H locs 0 0 (MQ below (ct_qi G tys A ((k_Model_doWord sm sp sk p1).1) [(qm, .inr (6, f_Model qp qk ((k_Model_doWord sm sp sk p1).2.1))), (qp, .inl (cB, 256, .inl ((k_Model_doWord sm sp sk p1).2.2.1))), (qk, .inl (cD, 512, .inl ((k_Model_doWord sm sp sk p1).2.2.2)))]) ([.ref qm, .int p1] : List Value).toArray s 0 0 A) (F0 m 191 ls [.int t0, .ref qm]) := by
    intro v2 v3 v4 v5 v6 v7 v8 t0 um up uk H locs ls hj hP hD hS hl
    refine lv_iload_n hx hb d_Model_doWord_191 rfl (lv_at hl 1 rfl) ?_
    refine lv_goto (tgt := 209) hx hb d_Model_doWord_192 (by decide) ?_
    exact J209 v2 v3 v4 v5 v6 v7 v8 p1 t0 um up uk H locs ls (hj.trans (by rw [k_Model_doWord_j191]; try rfl)) hP hD hS (lv_sub hl [0, 1, 2, 3, 4, 5, 6, 7, 8] rfl)
  have J170 : ∀ (v2 : Int32) (v3 : Int32) (v4 : Int32) (v5 : Int32) (v6 : Int32) (v7 : Int32) (v8 : Int32) (um : ob) (up : Nat → Int32) (uk : Nat → Int32) (H : Heap) (locs : List Loc) (ls : Array Slot), k_Model_doWord sm sp sk p1 = k_Model_doWord_j170 sm sp sk p1 v2 v3 v4 v5 v6 v7 v8 um up uk → va_P G.1 vwCl [(qm, .inr (6, f_Model qp qk um)), (qp, .inl (cB, 256, .inl up)), (qk, .inl (cD, 512, .inl uk))] H → va_D A [(qm, .inr (6, f_Model qp qk um)), (qp, .inl (cB, 256, .inl up)), (qk, .inl (cD, 512, .inl uk))] → va_S A s.heap H locs → lv_has ls 9 [(0, .ref qm), (1, .int p1), (2, .int v2), (3, .int v3), (4, .int v4), (5, .int v5), (6, .int v6), (7, .int v7), (8, .int v8)] → W p l e ({ frames := 4, cells := 0, slots := 0, locals := 94 }) s m ([.ref qm, .int p1] : List Value).toArray below meth c H locs 0 0 (MQ below (ct_qi G tys A ((k_Model_doWord sm sp sk p1).1) [(qm, .inr (6, f_Model qp qk ((k_Model_doWord sm sp sk p1).2.1))), (qp, .inl (cB, 256, .inl ((k_Model_doWord sm sp sk p1).2.2.1))), (qk, .inl (cD, 512, .inl ((k_Model_doWord sm sp sk p1).2.2.2)))]) ([.ref qm, .int p1] : List Value).toArray s 0 0 A) (F0 m 170 ls []) := by
    intro v2 v3 v4 v5 v6 v7 v8 um up uk H locs ls hj hP hD hS hl
    refine lv_iload hx hb d_Model_doWord_170 (lv_at hl 8 rfl) ?_
    refine lv_if_le (tgt := 218) hx hb d_Model_doWord_172 (by decide) (fun c_1185 => ?_) (fun c_1185 => ?_)
    · refine lv_aload_n hx hb d_Model_doWord_218 rfl (lv_at hl 0 rfl) ?_
      refine lv_dup hx hb d_Model_doWord_219 rfl ?_
      refine va_get (D := G.1) (ci := 6) (v := .int (um.1 1)) (C := R_Model) (T := T_Model) (N := 23) hx hb hts (fun w h => gd_sub _ (iw_Model w h)) hown hK hP 0 rfl rfl 1 (by decide) (hts _ (gd_sub _ q_608)) (fun _ h9 => h9) rfl d_Model_doWord_220 ?_
      refine lv_iconst (v := 4) hx hb d_Model_doWord_223 (by decide) ?_
      refine lv_iadd hx hb d_Model_doWord_224 ?_
      refine va_put (D := G.1) (ci := 6) (v := .int ((um.1 1) + 4)) (ty := .int) (C := R_Model) (T := T_Model) (N := 23) hx hb hts (fun w h => gd_sub _ (iw_Model w h)) ty_Model tyok_Model nm_Model hown hK hP hD hS 0 rfl rfl 1 (by decide) (hts _ (gd_sub _ q_608)) (fun _ h9 => h9) rfl (by decide +kernel) rfl rfl (Nat.le_of_ble_eq_true rfl) d_Model_doWord_225 (fun H locs hP hD hS => ?_)
      have hP : va_P G.1 vwCl [(qm, .inr (6, f_Model qp qk (oi um 1 ((um.1 1) + 4)))), (qp, .inl (cB, 256, .inl up)), (qk, .inl (cD, 512, .inl uk))] H := hP
      have hD : va_D A [(qm, .inr (6, f_Model qp qk (oi um 1 ((um.1 1) + 4)))), (qp, .inl (cB, 256, .inl up)), (qk, .inl (cD, 512, .inl uk))] := hD
      refine lv_iconst (v := (-1)) hx hb d_Model_doWord_228 (by decide) ?_
      have hk : k_Model_doWord sm sp sk p1 = ((-1), (oi um 1 ((um.1 1) + 4)), up, uk) := (hj.trans (by rw [k_Model_doWord_j170]; rw [if_pos c_1185]; try rfl))
      exact ct_ri hx hb hr hlocks hP hD hK hS d_Model_doWord_229 (by rw [hk]; first | done | rfl) (by rw [hk]; first | done | rfl)
    · refine lv_aload_n hx hb d_Model_doWord_175 rfl (lv_at hl 0 rfl) ?_
      refine lv_iload hx hb d_Model_doWord_176 (lv_at hl 8 rfl) ?_
      refine lv_iload hx hb d_Model_doWord_178 (lv_at hl 8 rfl) ?_
      refine lv_iconst (v := 2) hx hb d_Model_doWord_180 (by decide) ?_
      refine lv_icmp_eq (tgt := 191) hx hb d_Model_doWord_181 (by decide) (fun c_1186 => ?_) (fun c_1186 => ?_)
      · exact J191 v2 v3 v4 v5 v6 v7 v8 v8 um up uk H locs ls (hj.trans (by rw [k_Model_doWord_j170]; rw [if_neg c_1185]; rw [if_pos c_1186]; try rfl)) hP hD hS (lv_sub hl [0, 1, 2, 3, 4, 5, 6, 7, 8] rfl)
      · refine lv_iload hx hb d_Model_doWord_184 (lv_at hl 8 rfl) ?_
        refine lv_bipush (v := 22) hx hb d_Model_doWord_186 (by decide) ?_
        refine lv_icmp_ne (tgt := 195) hx hb d_Model_doWord_188 (by decide) (fun c_1187 => ?_) (fun c_1187 => ?_)
        · refine lv_iload hx hb d_Model_doWord_195 (lv_at hl 8 rfl) ?_
          refine lv_iconst (v := 3) hx hb d_Model_doWord_197 (by decide) ?_
          refine lv_icmp_ne (tgt := 208) hx hb d_Model_doWord_198 (by decide) (fun c_1188 => ?_) (fun c_1188 => ?_)
          · refine lv_iconst (v := 0) hx hb d_Model_doWord_208 (by decide) ?_
            exact J209 v2 v3 v4 v5 v6 v7 v8 0 v8 um up uk H locs ls (hj.trans (by rw [k_Model_doWord_j170]; rw [if_neg c_1185]; rw [if_neg c_1186]; rw [if_neg c_1187]; rw [if_neg c_1188]; try rfl)) hP hD hS (lv_sub hl [0, 1, 2, 3, 4, 5, 6, 7, 8] rfl)
          · refine lv_aload_n hx hb d_Model_doWord_201 rfl (lv_at hl 0 rfl) ?_
            refine va_get (D := G.1) (ci := 6) (v := .int (um.1 1)) (C := R_Model) (T := T_Model) (N := 23) hx hb hts (fun w h => gd_sub _ (iw_Model w h)) hown hK hP 0 rfl rfl 1 (by decide) (hts _ (gd_sub _ q_608)) (fun _ h9 => h9) rfl d_Model_doWord_202 ?_
            refine lv_goto (tgt := 209) hx hb d_Model_doWord_205 (by decide) ?_
            exact J209 v2 v3 v4 v5 v6 v7 v8 (um.1 1) v8 um up uk H locs ls (hj.trans (by rw [k_Model_doWord_j170]; rw [if_neg c_1185]; rw [if_neg c_1186]; rw [if_neg c_1187]; rw [if_pos c_1188]; try rfl)) hP hD hS (lv_sub hl [0, 1, 2, 3, 4, 5, 6, 7, 8] rfl)
        · exact J191 v2 v3 v4 v5 v6 v7 v8 v8 um up uk H locs ls (hj.trans (by rw [k_Model_doWord_j170]; rw [if_neg c_1185]; rw [if_neg c_1186]; rw [if_pos c_1187]; try rfl)) hP hD hS (lv_sub hl [0, 1, 2, 3, 4, 5, 6, 7, 8] rfl)
  have J152 : ∀ (v2 : Int32) (v3 : Int32) (v4 : Int32) (v5 : Int32) (v6 : Int32) (v7 : Int32) (H : Heap) (locs : List Loc) (ls : Array Slot), k_Model_doWord sm sp sk p1 = k_Model_doWord_j152 sm sp sk p1 v2 v3 v4 v5 v6 v7 → va_P G.1 vwCl [(qm, .inr (6, f_Model qp qk sm)), (qp, .inl (cB, 256, .inl sp)), (qk, .inl (cD, 512, .inl sk))] H → va_D A [(qm, .inr (6, f_Model qp qk sm)), (qp, .inl (cB, 256, .inl sp)), (qk, .inl (cD, 512, .inl sk))] → va_S A s.heap H locs → lv_has ls 9 [(0, .ref qm), (1, .int p1), (2, .int v2), (3, .int v3), (4, .int v4), (5, .int v5), (6, .int v6), (7, .int v7), (8, .int 2)] → W p l e ({ frames := 4, cells := 0, slots := 0, locals := 94 }) s m ([.ref qm, .int p1] : List Value).toArray below meth c H locs 0 0 (MQ below (ct_qi G tys A ((k_Model_doWord sm sp sk p1).1) [(qm, .inr (6, f_Model qp qk ((k_Model_doWord sm sp sk p1).2.1))), (qp, .inl (cB, 256, .inl ((k_Model_doWord sm sp sk p1).2.2.1))), (qk, .inl (cD, 512, .inl ((k_Model_doWord sm sp sk p1).2.2.2)))]) ([.ref qm, .int p1] : List Value).toArray s 0 0 A) (F0 m 152 ls []) := by
    intro v2 v3 v4 v5 v6 v7 H locs ls hj hP hD hS hl
    refine lv_iload_n hx hb d_Model_doWord_152 rfl (lv_at hl 3 rfl) ?_
    refine lv_iconst (v := 4) hx hb d_Model_doWord_153 (by decide) ?_
    refine lv_irem hx hb d_Model_doWord_154 (by decide) ?_
    refine lv_if_eq (tgt := 170) hx hb d_Model_doWord_155 (by decide) (fun c_1189 => ?_) (fun c_1189 => ?_)
    · exact J170 v2 v3 v4 v5 v6 v7 2 sm sp sk H locs ls (hj.trans (by rw [k_Model_doWord_j152]; rw [if_pos c_1189]; try rfl)) hP hD hS (lv_sub hl [0, 1, 2, 3, 4, 5, 6, 7, 8] rfl)
    · refine lv_aload_n hx hb d_Model_doWord_158 rfl (lv_at hl 0 rfl) ?_
      refine lv_iload_n hx hb d_Model_doWord_159 rfl (lv_at hl 3 rfl) ?_
      refine lv_iload_n hx hb d_Model_doWord_160 rfl (lv_at hl 2 rfl) ?_
      refine lv_iload hx hb d_Model_doWord_161 (lv_at hl 4 rfl) ?_
      refine lv_iload hx hb d_Model_doWord_163 (lv_at hl 7 rfl) ?_
      obtain ⟨r_1190, er_1190⟩ : ∃ z, z = (k_Model_control sm sk v3 v2 v4 v7).1 := ⟨_, rfl⟩
      obtain ⟨sm_1191, esm_1191⟩ : ∃ z, z = (k_Model_control sm sk v3 v2 v4 v7).2.1 := ⟨_, rfl⟩
      obtain ⟨sk_1192, esk_1192⟩ : ∃ z, z = (k_Model_control sm sk v3 v2 v4 v7).2.2 := ⟨_, rfl⟩
      have hM := c_Model_control l G tys ht2 qm qk qp sm sk v3 v2 v4 v7
      rw [← er_1190, ← esm_1191, ← esk_1192] at hM
      refine ct_cVi (wr := [(qp, .inl (cB, 256, .inl sp))]) (w1 := [(qm, .inr (6, f_Model qp qk sm_1191)), (qk, .inl (cD, 512, .inl sk_1192))]) (w2 := [(qm, .inr (6, f_Model qp qk sm_1191)), (qp, .inl (cB, 256, .inl sp)), (qk, .inl (cD, 512, .inl sk_1192))]) (r := r_1190) (As := [.int v3, .int v2, .int v4, .int v7]) (rest := []) (ci := 6) (q0 := 0) ⟨hx, hb, hml, hown, hts⟩ hM (cwV 4 hts (gdV gd_gd q_795 q_797 q_36 q_47 q_798) rfl rfl rfl (by decide +kernel) ⟨Nat.le_of_ble_eq_true rfl, Nat.le_of_ble_eq_true rfl⟩) hE hK hP hD hS hA [0, 2] [1] [1, 0, 2] rfl (by decide) rfl (by decide) (by decide) rfl (by decide) rfl rfl rfl hl.1 rfl (Nat.le_of_ble_eq_true rfl) d_Model_doWord_165 ⟨Nat.zero_le _, Nat.zero_le _⟩ (fun H locs hP hD hS => ?_)
      refine lv_istore (lv' := [(8, .int r_1190), (0, .ref qm), (1, .int p1), (2, .int v2), (3, .int v3), (4, .int v4), (5, .int v5), (6, .int v6), (7, .int v7)]) hx hb d_Model_doWord_168 hl (by decide) rfl (fun ls hl => ?_)
      exact J170 v2 v3 v4 v5 v6 v7 r_1190 sm_1191 sp sk_1192 H locs ls (hj.trans (by rw [k_Model_doWord_j152]; rw [if_neg c_1189]; try rw [← er_1190]; try rw [← esm_1191]; try rw [← esk_1192]; try rfl)) hP hD hS (lv_sub hl [1, 2, 3, 4, 5, 6, 7, 8, 0] rfl)
  have J129 : ∀ (v2 : Int32) (v3 : Int32) (v4 : Int32) (v5 : Int32) (v6 : Int32) (v7 : Int32) (H : Heap) (locs : List Loc) (ls : Array Slot), k_Model_doWord sm sp sk p1 = k_Model_doWord_j129 sm sp sk p1 v2 v3 v4 v5 v6 v7 → va_P G.1 vwCl [(qm, .inr (6, f_Model qp qk sm)), (qp, .inl (cB, 256, .inl sp)), (qk, .inl (cD, 512, .inl sk))] H → va_D A [(qm, .inr (6, f_Model qp qk sm)), (qp, .inl (cB, 256, .inl sp)), (qk, .inl (cD, 512, .inl sk))] → va_S A s.heap H locs → lv_has ls 9 [(0, .ref qm), (1, .int p1), (2, .int v2), (3, .int v3), (4, .int v4), (5, .int v5), (6, .int v6), (7, .int v7), (8, .int 2)] → W p l e ({ frames := 4, cells := 0, slots := 0, locals := 94 }) s m ([.ref qm, .int p1] : List Value).toArray below meth c H locs 0 0 (MQ below (ct_qi G tys A ((k_Model_doWord sm sp sk p1).1) [(qm, .inr (6, f_Model qp qk ((k_Model_doWord sm sp sk p1).2.1))), (qp, .inl (cB, 256, .inl ((k_Model_doWord sm sp sk p1).2.2.1))), (qk, .inl (cD, 512, .inl ((k_Model_doWord sm sp sk p1).2.2.2)))]) ([.ref qm, .int p1] : List Value).toArray s 0 0 A) (F0 m 129 ls []) := by
    intro v2 v3 v4 v5 v6 v7 H locs ls hj hP hD hS hl
    refine lv_iload_n hx hb d_Model_doWord_129 rfl (lv_at hl 3 rfl) ?_
    refine lv_if_ne (tgt := 152) hx hb d_Model_doWord_130 (by decide) (fun c_1193 => ?_) (fun c_1193 => ?_)
    · exact J152 v2 v3 v4 v5 v6 v7 H locs ls (hj.trans (by rw [k_Model_doWord_j129]; rw [if_neg c_1193]; try rfl)) hP hD hS (lv_sub hl [0, 1, 2, 3, 4, 5, 6, 7, 8] rfl)
    · refine lv_iload_n hx hb d_Model_doWord_133 rfl (lv_at hl 2 rfl) ?_
      refine lv_if_ne (tgt := 152) hx hb d_Model_doWord_134 (by decide) (fun c_1194 => ?_) (fun c_1194 => ?_)
      · exact J152 v2 v3 v4 v5 v6 v7 H locs ls (hj.trans (by rw [k_Model_doWord_j129]; rw [if_pos c_1193]; rw [if_neg c_1194]; try rfl)) hP hD hS (lv_sub hl [0, 1, 2, 3, 4, 5, 6, 7, 8] rfl)
      · refine lv_aload_n hx hb d_Model_doWord_137 rfl (lv_at hl 0 rfl) ?_
        refine lv_iload hx hb d_Model_doWord_138 (lv_at hl 4 rfl) ?_
        refine lv_iload hx hb d_Model_doWord_140 (lv_at hl 6 rfl) ?_
        refine lv_iload hx hb d_Model_doWord_142 (lv_at hl 7 rfl) ?_
        obtain ⟨r_1195, er_1195⟩ : ∃ z, z = (k_Model_system sm sp sk v4 v6 v7).1 := ⟨_, rfl⟩
        obtain ⟨sm_1196, esm_1196⟩ : ∃ z, z = (k_Model_system sm sp sk v4 v6 v7).2.1 := ⟨_, rfl⟩
        obtain ⟨sp_1197, esp_1197⟩ : ∃ z, z = (k_Model_system sm sp sk v4 v6 v7).2.2.1 := ⟨_, rfl⟩
        obtain ⟨sk_1198, esk_1198⟩ : ∃ z, z = (k_Model_system sm sp sk v4 v6 v7).2.2.2 := ⟨_, rfl⟩
        have hM := c_Model_system l G tys ht1 ht2 qm qp qk sm sp sk v4 v6 v7 hq9
        rw [← er_1195, ← esm_1196, ← esp_1197, ← esk_1198] at hM
        refine ct_cVi (wr := []) (w1 := [(qm, .inr (6, f_Model qp qk sm_1196)), (qp, .inl (cB, 256, .inl sp_1197)), (qk, .inl (cD, 512, .inl sk_1198))]) (w2 := [(qm, .inr (6, f_Model qp qk sm_1196)), (qp, .inl (cB, 256, .inl sp_1197)), (qk, .inl (cD, 512, .inl sk_1198))]) (r := r_1195) (As := [.int v4, .int v6, .int v7]) (rest := []) (ci := 6) (q0 := 0) ⟨hx, hb, hml, hown, hts⟩ hM (cwV 3 hts (gdV gd_gd q_767 q_769 q_30 q_47 q_770) rfl rfl rfl (by decide +kernel) ⟨Nat.le_of_ble_eq_true rfl, Nat.le_of_ble_eq_true rfl⟩) hE hK hP hD hS hA [0, 1, 2] [] [0, 1, 2] rfl (by decide) rfl (by decide) (by decide) rfl (by decide) rfl rfl rfl hl.1 rfl (Nat.le_of_ble_eq_true rfl) d_Model_doWord_144 ⟨Nat.zero_le _, Nat.zero_le _⟩ (fun H locs hP hD hS => ?_)
        refine lv_istore (lv' := [(8, .int r_1195), (0, .ref qm), (1, .int p1), (2, .int v2), (3, .int v3), (4, .int v4), (5, .int v5), (6, .int v6), (7, .int v7)]) hx hb d_Model_doWord_147 hl (by decide) rfl (fun ls hl => ?_)
        refine lv_goto (tgt := 170) hx hb d_Model_doWord_149 (by decide) ?_
        exact J170 v2 v3 v4 v5 v6 v7 r_1195 sm_1196 sp_1197 sk_1198 H locs ls (hj.trans (by rw [k_Model_doWord_j129]; rw [if_pos c_1193]; rw [if_pos c_1194]; try rw [← er_1195]; try rw [← esm_1196]; try rw [← esp_1197]; try rw [← esk_1198]; try rfl)) hP hD hS (lv_sub hl [1, 2, 3, 4, 5, 6, 7, 8, 0] rfl)
  have J119 : ∀ (v2 : Int32) (v3 : Int32) (v4 : Int32) (v5 : Int32) (v6 : Int32) (v7 : Int32) (t0 : Int32) (H : Heap) (locs : List Loc) (ls : Array Slot), k_Model_doWord sm sp sk p1 = k_Model_doWord_j119 sm sp sk p1 v2 v3 v4 v5 v6 v7 t0 → va_P G.1 vwCl [(qm, .inr (6, f_Model qp qk sm)), (qp, .inl (cB, 256, .inl sp)), (qk, .inl (cD, 512, .inl sk))] H → va_D A [(qm, .inr (6, f_Model qp qk sm)), (qp, .inl (cB, 256, .inl sp)), (qk, .inl (cD, 512, .inl sk))] → va_S A s.heap H locs → lv_has ls 9 [(0, .ref qm), (1, .int p1), (2, .int v2), (3, .int v3), (4, .int v4), (5, .int v5), (6, .int v6), (7, .int v7), (8, .int 2)] → W p l e ({ frames := 4, cells := 0, slots := 0, locals := 94 }) s m ([.ref qm, .int p1] : List Value).toArray below meth c H locs 0 0 (MQ below (ct_qi G tys A ((k_Model_doWord sm sp sk p1).1) [(qm, .inr (6, f_Model qp qk ((k_Model_doWord sm sp sk p1).2.1))), (qp, .inl (cB, 256, .inl ((k_Model_doWord sm sp sk p1).2.2.1))), (qk, .inl (cD, 512, .inl ((k_Model_doWord sm sp sk p1).2.2.2)))]) ([.ref qm, .int p1] : List Value).toArray s 0 0 A) (F0 m 119 ls [.int t0]) := by
    intro v2 v3 v4 v5 v6 v7 t0 H locs ls hj hP hD hS hl
    refine lv_istore (lv' := [(8, .int t0), (0, .ref qm), (1, .int p1), (2, .int v2), (3, .int v3), (4, .int v4), (5, .int v5), (6, .int v6), (7, .int v7)]) hx hb d_Model_doWord_119 hl (by decide) rfl (fun ls hl => ?_)
    refine lv_iload hx hb d_Model_doWord_121 (lv_at hl 0 rfl) ?_
    refine lv_if_ne (tgt := 170) hx hb d_Model_doWord_123 (by decide) (fun c_1199 => ?_) (fun c_1199 => ?_)
    · exact J170 v2 v3 v4 v5 v6 v7 t0 sm sp sk H locs ls (hj.trans (by rw [k_Model_doWord_j119]; rw [if_neg c_1199]; try rfl)) hP hD hS (lv_sub hl [1, 2, 3, 4, 5, 6, 7, 8, 0] rfl)
    · refine lv_bipush (v := (-2)) hx hb d_Model_doWord_126 (by decide) ?_
      have hk : k_Model_doWord sm sp sk p1 = ((-2), sm, sp, sk) := (hj.trans (by rw [k_Model_doWord_j119]; rw [if_pos c_1199]; try rfl))
      exact ct_ri hx hb hr hlocks hP hD hK hS d_Model_doWord_128 (by rw [hk]; first | done | rfl) (by rw [hk]; first | done | rfl)
  have J118 : ∀ (v2 : Int32) (v3 : Int32) (v4 : Int32) (v5 : Int32) (v6 : Int32) (v7 : Int32) (H : Heap) (locs : List Loc) (ls : Array Slot), k_Model_doWord sm sp sk p1 = k_Model_doWord_j118 sm sp sk p1 v2 v3 v4 v5 v6 v7 → va_P G.1 vwCl [(qm, .inr (6, f_Model qp qk sm)), (qp, .inl (cB, 256, .inl sp)), (qk, .inl (cD, 512, .inl sk))] H → va_D A [(qm, .inr (6, f_Model qp qk sm)), (qp, .inl (cB, 256, .inl sp)), (qk, .inl (cD, 512, .inl sk))] → va_S A s.heap H locs → lv_has ls 9 [(0, .ref qm), (1, .int p1), (2, .int v2), (3, .int v3), (4, .int v4), (5, .int v5), (6, .int v6), (7, .int v7), (8, .int 2)] → W p l e ({ frames := 4, cells := 0, slots := 0, locals := 94 }) s m ([.ref qm, .int p1] : List Value).toArray below meth c H locs 0 0 (MQ below (ct_qi G tys A ((k_Model_doWord sm sp sk p1).1) [(qm, .inr (6, f_Model qp qk ((k_Model_doWord sm sp sk p1).2.1))), (qp, .inl (cB, 256, .inl ((k_Model_doWord sm sp sk p1).2.2.1))), (qk, .inl (cD, 512, .inl ((k_Model_doWord sm sp sk p1).2.2.2)))]) ([.ref qm, .int p1] : List Value).toArray s 0 0 A) (F0 m 118 ls []) := by
    intro v2 v3 v4 v5 v6 v7 H locs ls hj hP hD hS hl
    refine lv_iconst (v := 0) hx hb d_Model_doWord_118 (by decide) ?_
    exact J119 v2 v3 v4 v5 v6 v7 0 H locs ls (hj.trans (by rw [k_Model_doWord_j118]; try rfl)) hP hD hS (lv_sub hl [0, 1, 2, 3, 4, 5, 6, 7, 8] rfl)
  obtain ⟨H, eH⟩ : ∃ z, z = s.heap := ⟨_, rfl⟩
  obtain ⟨locs, eL⟩ : ∃ z, z = ([] : List Loc) := ⟨_, rfl⟩
  have hP : va_P G.1 vwCl [(qm, .inr (6, f_Model qp qk sm)), (qp, .inl (cB, 256, .inl sp)), (qk, .inl (cD, 512, .inl sk))] H := by rw [eH]; exact hP
  have hS : va_S A s.heap H locs := by rw [eH, eL]; exact hS
  suffices hW : W p l e ({ frames := 4, cells := 0, slots := 0, locals := 94 }) s m ([.ref qm, .int p1] : List Value).toArray below meth c H locs 0 0 (MQ below (ct_qi G tys A ((k_Model_doWord sm sp sk p1).1) [(qm, .inr (6, f_Model qp qk ((k_Model_doWord sm sp sk p1).2.1))), (qp, .inl (cB, 256, .inl ((k_Model_doWord sm sp sk p1).2.2.1))), (qk, .inl (cD, 512, .inl ((k_Model_doWord sm sp sk p1).2.2.2)))]) ([.ref qm, .int p1] : List Value).toArray s 0 0 A) (F0 m 0 ls []) by rw [eH, eL] at hW; exact hW
  refine lv_aload_n hx hb d_Model_doWord_0 rfl (lv_at hl 0 rfl) ?_
  refine va_get (D := G.1) (ci := 6) (v := .int (bI (sm.2.2 10))) (C := R_Model) (T := T_Model) (N := 23) hx hb hts (fun w h => gd_sub _ (iw_Model w h)) hown hK hP 0 rfl rfl 10 (by decide) (hts _ (gd_sub _ q_617)) (fun _ h9 => h9) rfl d_Model_doWord_1 ?_
  refine lv_if_eq (tgt := 10) hx hb d_Model_doWord_4 (by decide) (fun c_1200 => ?_) (fun c_1200 => ?_)
  · refine lv_iload_n hx hb d_Model_doWord_10 rfl (lv_at hl 1 rfl) ?_
    refine lv_bipush (v := 7) hx hb d_Model_doWord_11 (by decide) ?_
    refine lv_ishr hx hb d_Model_doWord_13 ?_
    refine lv_bipush (v := 31) hx hb d_Model_doWord_14 (by decide) ?_
    refine lv_iand hx hb d_Model_doWord_16 ?_
    refine lv_istore_n (lv' := [(2, .int ((p1 >>> ((7 : Int32) &&& 31)) &&& 31)), (0, .ref qm), (1, .int p1)]) hx hb d_Model_doWord_17 rfl hl (by decide) rfl (fun ls hl => ?_)
    refine lv_iload_n hx hb d_Model_doWord_18 rfl (lv_at hl 2 rfl) ?_
    refine lv_bipush (v := 12) hx hb d_Model_doWord_19 (by decide) ?_
    refine lv_ishr hx hb d_Model_doWord_21 ?_
    refine lv_bipush (v := 7) hx hb d_Model_doWord_22 (by decide) ?_
    refine lv_iand hx hb d_Model_doWord_24 ?_
    refine lv_istore_n (lv' := [(3, .int ((p1 >>> ((12 : Int32) &&& 31)) &&& 7)), (2, .int ((p1 >>> ((7 : Int32) &&& 31)) &&& 31)), (0, .ref qm), (1, .int p1)]) hx hb d_Model_doWord_25 rfl hl (by decide) rfl (fun ls hl => ?_)
    refine lv_iload_n hx hb d_Model_doWord_26 rfl (lv_at hl 3 rfl) ?_
    refine lv_bipush (v := 15) hx hb d_Model_doWord_27 (by decide) ?_
    refine lv_ishr hx hb d_Model_doWord_29 ?_
    refine lv_bipush (v := 31) hx hb d_Model_doWord_30 (by decide) ?_
    refine lv_iand hx hb d_Model_doWord_32 ?_
    refine lv_istore (lv' := [(4, .int ((p1 >>> ((15 : Int32) &&& 31)) &&& 31)), (3, .int ((p1 >>> ((12 : Int32) &&& 31)) &&& 7)), (2, .int ((p1 >>> ((7 : Int32) &&& 31)) &&& 31)), (0, .ref qm), (1, .int p1)]) hx hb d_Model_doWord_33 hl (by decide) rfl (fun ls hl => ?_)
    refine lv_iload_n hx hb d_Model_doWord_35 rfl (lv_at hl 4 rfl) ?_
    refine lv_bipush (v := 20) hx hb d_Model_doWord_36 (by decide) ?_
    refine lv_ishr hx hb d_Model_doWord_38 ?_
    refine lv_bipush (v := 31) hx hb d_Model_doWord_39 (by decide) ?_
    refine lv_iand hx hb d_Model_doWord_41 ?_
    refine lv_istore (lv' := [(5, .int ((p1 >>> ((20 : Int32) &&& 31)) &&& 31)), (4, .int ((p1 >>> ((15 : Int32) &&& 31)) &&& 31)), (3, .int ((p1 >>> ((12 : Int32) &&& 31)) &&& 7)), (2, .int ((p1 >>> ((7 : Int32) &&& 31)) &&& 31)), (0, .ref qm), (1, .int p1)]) hx hb d_Model_doWord_42 hl (by decide) rfl (fun ls hl => ?_)
    refine lv_iload_n hx hb d_Model_doWord_44 rfl (lv_at hl 5 rfl) ?_
    refine lv_bipush (v := 25) hx hb d_Model_doWord_45 (by decide) ?_
    refine lv_iushr (v := (ush p1 25)) hx hb d_Model_doWord_47 rfl ?_
    refine lv_istore (lv' := [(6, .int (ush p1 25)), (5, .int ((p1 >>> ((20 : Int32) &&& 31)) &&& 31)), (4, .int ((p1 >>> ((15 : Int32) &&& 31)) &&& 31)), (3, .int ((p1 >>> ((12 : Int32) &&& 31)) &&& 7)), (2, .int ((p1 >>> ((7 : Int32) &&& 31)) &&& 31)), (0, .ref qm), (1, .int p1)]) hx hb d_Model_doWord_48 hl (by decide) rfl (fun ls hl => ?_)
    refine lv_iload_n hx hb d_Model_doWord_50 rfl (lv_at hl 6 rfl) ?_
    refine lv_bipush (v := 20) hx hb d_Model_doWord_51 (by decide) ?_
    refine lv_iushr (v := (ush p1 20)) hx hb d_Model_doWord_53 rfl ?_
    refine lv_istore (lv' := [(7, .int (ush p1 20)), (6, .int (ush p1 25)), (5, .int ((p1 >>> ((20 : Int32) &&& 31)) &&& 31)), (4, .int ((p1 >>> ((15 : Int32) &&& 31)) &&& 31)), (3, .int ((p1 >>> ((12 : Int32) &&& 31)) &&& 7)), (2, .int ((p1 >>> ((7 : Int32) &&& 31)) &&& 31)), (0, .ref qm), (1, .int p1)]) hx hb d_Model_doWord_54 hl (by decide) rfl (fun ls hl => ?_)
    refine lv_iconst (v := 2) hx hb d_Model_doWord_56 (by decide) ?_
    refine lv_istore (lv' := [(8, .int 2), (7, .int (ush p1 20)), (6, .int (ush p1 25)), (5, .int ((p1 >>> ((20 : Int32) &&& 31)) &&& 31)), (4, .int ((p1 >>> ((15 : Int32) &&& 31)) &&& 31)), (3, .int ((p1 >>> ((12 : Int32) &&& 31)) &&& 7)), (2, .int ((p1 >>> ((7 : Int32) &&& 31)) &&& 31)), (0, .ref qm), (1, .int p1)]) hx hb d_Model_doWord_57 hl (by decide) rfl (fun ls hl => ?_)
    refine lv_iload_n hx hb d_Model_doWord_59 rfl (lv_at hl 8 rfl) ?_
    refine lv_bipush (v := 127) hx hb d_Model_doWord_60 (by decide) ?_
    refine lv_iand hx hb d_Model_doWord_62 ?_
    refine lv_bipush (v := 115) hx hb d_Model_doWord_63 (by decide) ?_
    refine lv_icmp_ne (tgt := 170) hx hb d_Model_doWord_65 (by decide) (fun c_1201 => ?_) (fun c_1201 => ?_)
    · exact J170 ((p1 >>> ((7 : Int32) &&& 31)) &&& 31) ((p1 >>> ((12 : Int32) &&& 31)) &&& 7) ((p1 >>> ((15 : Int32) &&& 31)) &&& 31) ((p1 >>> ((20 : Int32) &&& 31)) &&& 31) (ush p1 25) (ush p1 20) 2 sm sp sk H locs ls (by rw [k_Model_doWord]; rw [if_pos c_1200]; rw [if_neg c_1201]; try rfl) hP hD hS (lv_sub hl [7, 8, 6, 5, 4, 3, 2, 1, 0] rfl)
    · refine lv_iload_n hx hb d_Model_doWord_68 rfl (lv_at hl 5 rfl) ?_
      refine lv_iconst (v := 4) hx hb d_Model_doWord_69 (by decide) ?_
      refine lv_icmp_ne (tgt := 129) hx hb d_Model_doWord_70 (by decide) (fun c_1202 => ?_) (fun c_1202 => ?_)
      · exact J129 ((p1 >>> ((7 : Int32) &&& 31)) &&& 31) ((p1 >>> ((12 : Int32) &&& 31)) &&& 7) ((p1 >>> ((15 : Int32) &&& 31)) &&& 31) ((p1 >>> ((20 : Int32) &&& 31)) &&& 31) (ush p1 25) (ush p1 20) H locs ls (by rw [k_Model_doWord]; rw [if_pos c_1200]; rw [if_pos c_1201]; rw [if_neg c_1202]; try rfl) hP hD hS (lv_sub hl [7, 8, 6, 5, 4, 3, 2, 1, 0] rfl)
      · refine lv_iload_n hx hb d_Model_doWord_73 rfl (lv_at hl 6 rfl) ?_
        refine lv_iload hx hb d_Model_doWord_74 (lv_at hl 3 rfl) ?_
        refine lv_iload hx hb d_Model_doWord_76 (lv_at hl 2 rfl) ?_
        refine ct_cSi (wr := [(qm, .inr (6, f_Model qp qk sm)), (qp, .inl (cB, 256, .inl sp)), (qk, .inl (cD, 512, .inl sk))]) (w1 := []) (w2 := [(qm, .inr (6, f_Model qp qk sm)), (qp, .inl (cB, 256, .inl sp)), (qk, .inl (cD, 512, .inl sk))]) (r := (bI (k_Model_isFar ((p1 >>> ((7 : Int32) &&& 31)) &&& 31) ((p1 >>> ((20 : Int32) &&& 31)) &&& 31) (ush p1 25)))) (As := [.int ((p1 >>> ((7 : Int32) &&& 31)) &&& 31), .int ((p1 >>> ((20 : Int32) &&& 31)) &&& 31), .int (ush p1 25)]) (rest := []) ⟨hx, hb, hml, hown, hts⟩ (c_Model_isFar l G tys ((p1 >>> ((7 : Int32) &&& 31)) &&& 31) ((p1 >>> ((20 : Int32) &&& 31)) &&& 31) (ush p1 25)) (va_cwS 3 hts (gdS gd_gd q_760 q_761 q_47 q_762) rfl rfl rfl (by decide +kernel) ⟨Nat.le_of_ble_eq_true rfl, Nat.le_of_ble_eq_true rfl⟩) hE hK hP hD hS hA [] [0, 1, 2] [0, 1, 2] rfl (by decide) rfl (by decide) (by decide) rfl (by decide) rfl hl.1 rfl (Nat.le_of_ble_eq_true rfl) d_Model_doWord_78 ⟨Nat.zero_le _, Nat.zero_le _⟩ (fun H locs hP hD hS => ?_)
        refine lv_if_eq (tgt := 129) hx hb d_Model_doWord_81 (by decide) (fun c_1203 => ?_) (fun c_1203 => ?_)
        · exact J129 ((p1 >>> ((7 : Int32) &&& 31)) &&& 31) ((p1 >>> ((12 : Int32) &&& 31)) &&& 7) ((p1 >>> ((15 : Int32) &&& 31)) &&& 31) ((p1 >>> ((20 : Int32) &&& 31)) &&& 31) (ush p1 25) (ush p1 20) H locs ls (by rw [k_Model_doWord]; rw [if_pos c_1200]; rw [if_pos c_1201]; rw [if_pos c_1202]; rw [if_pos c_1203]; try rfl) hP hD hS (lv_sub hl [7, 8, 6, 5, 4, 3, 2, 1, 0] rfl)
        · refine lv_aload_n hx hb d_Model_doWord_84 rfl (lv_at hl 7 rfl) ?_
          refine va_get (D := G.1) (ci := 6) (v := .int (sm.1 0)) (C := R_Model) (T := T_Model) (N := 23) hx hb hts (fun w h => gd_sub _ (iw_Model w h)) hown hK hP 0 rfl rfl 0 (by decide) (hts _ (gd_sub _ q_607)) (fun _ h9 => h9) rfl d_Model_doWord_85 ?_
          refine lv_iconst (v := 2) hx hb d_Model_doWord_88 (by decide) ?_
          refine lv_icmp_lt (tgt := 97) hx hb d_Model_doWord_89 (by decide) (fun c_1204 => ?_) (fun c_1204 => ?_)
          · refine lv_aload_n hx hb d_Model_doWord_97 rfl (lv_at hl 7 rfl) ?_
            refine va_get (D := G.1) (ci := 6) (v := .int (sm.1 0)) (C := R_Model) (T := T_Model) (N := 23) hx hb hts (fun w h => gd_sub _ (iw_Model w h)) hown hK hP 0 rfl rfl 0 (by decide) (hts _ (gd_sub _ q_607)) (fun _ h9 => h9) rfl d_Model_doWord_98 ?_
            refine lv_if_ne (tgt := 118) hx hb d_Model_doWord_101 (by decide) (fun c_1205 => ?_) (fun c_1205 => ?_)
            · exact J118 ((p1 >>> ((7 : Int32) &&& 31)) &&& 31) ((p1 >>> ((12 : Int32) &&& 31)) &&& 7) ((p1 >>> ((15 : Int32) &&& 31)) &&& 31) ((p1 >>> ((20 : Int32) &&& 31)) &&& 31) (ush p1 25) (ush p1 20) H locs ls (by rw [k_Model_doWord]; rw [if_pos c_1200]; rw [if_pos c_1201]; rw [if_pos c_1202]; rw [if_neg c_1203]; rw [if_pos c_1204]; rw [if_neg c_1205]; try rfl) hP hD hS (lv_sub hl [7, 8, 6, 5, 4, 3, 2, 1, 0] rfl)
            · refine lv_aload_n hx hb d_Model_doWord_104 rfl (lv_at hl 7 rfl) ?_
              refine lv_sipush (v := 512) hx hb d_Model_doWord_105 (by decide) ?_
              refine ct_cVi (wr := [(qp, .inl (cB, 256, .inl sp)), (qk, .inl (cD, 512, .inl sk))]) (w1 := [(qm, .inr (6, f_Model qp qk sm))]) (w2 := [(qm, .inr (6, f_Model qp qk sm)), (qp, .inl (cB, 256, .inl sp)), (qk, .inl (cD, 512, .inl sk))]) (r := (bI (k_Model_has sm 512))) (As := [.int 512]) (rest := []) (ci := 6) (q0 := 0) ⟨hx, hb, hml, hown, hts⟩ (c_Model_has l G tys qm qp qk sm 512) (cwV 1 hts (gdV gd_gd q_763 q_765 q_29 q_47 q_766) rfl rfl rfl (by decide +kernel) ⟨Nat.le_of_ble_eq_true rfl, Nat.le_of_ble_eq_true rfl⟩) hE hK hP hD hS hA [0] [1, 2] [2, 0, 1] rfl (by decide) rfl (by decide) (by decide) rfl (by decide) rfl rfl rfl hl.1 rfl (Nat.le_of_ble_eq_true rfl) d_Model_doWord_108 ⟨Nat.zero_le _, Nat.zero_le _⟩ (fun H locs hP hD hS => ?_)
              refine lv_if_ne (tgt := 118) hx hb d_Model_doWord_111 (by decide) (fun c_1206 => ?_) (fun c_1206 => ?_)
              · exact J118 ((p1 >>> ((7 : Int32) &&& 31)) &&& 31) ((p1 >>> ((12 : Int32) &&& 31)) &&& 7) ((p1 >>> ((15 : Int32) &&& 31)) &&& 31) ((p1 >>> ((20 : Int32) &&& 31)) &&& 31) (ush p1 25) (ush p1 20) H locs ls (by rw [k_Model_doWord]; rw [if_pos c_1200]; rw [if_pos c_1201]; rw [if_pos c_1202]; rw [if_neg c_1203]; rw [if_pos c_1204]; rw [if_pos c_1205]; rw [if_neg c_1206]; try rfl) hP hD hS (lv_sub hl [7, 8, 6, 5, 4, 3, 2, 1, 0] rfl)
              · refine lv_iconst (v := 2) hx hb d_Model_doWord_114 (by decide) ?_
                refine lv_goto (tgt := 119) hx hb d_Model_doWord_115 (by decide) ?_
                exact J119 ((p1 >>> ((7 : Int32) &&& 31)) &&& 31) ((p1 >>> ((12 : Int32) &&& 31)) &&& 7) ((p1 >>> ((15 : Int32) &&& 31)) &&& 31) ((p1 >>> ((20 : Int32) &&& 31)) &&& 31) (ush p1 25) (ush p1 20) 2 H locs ls (by rw [k_Model_doWord]; rw [if_pos c_1200]; rw [if_pos c_1201]; rw [if_pos c_1202]; rw [if_neg c_1203]; rw [if_pos c_1204]; rw [if_pos c_1205]; rw [if_pos c_1206]; try rfl) hP hD hS (lv_sub hl [7, 8, 6, 5, 4, 3, 2, 1, 0] rfl)
          · refine lv_bipush (v := 22) hx hb d_Model_doWord_92 (by decide) ?_
            refine lv_goto (tgt := 119) hx hb d_Model_doWord_94 (by decide) ?_
            exact J119 ((p1 >>> ((7 : Int32) &&& 31)) &&& 31) ((p1 >>> ((12 : Int32) &&& 31)) &&& 7) ((p1 >>> ((15 : Int32) &&& 31)) &&& 31) ((p1 >>> ((20 : Int32) &&& 31)) &&& 31) (ush p1 25) (ush p1 20) 22 H locs ls (by rw [k_Model_doWord]; rw [if_pos c_1200]; rw [if_pos c_1201]; rw [if_pos c_1202]; rw [if_neg c_1203]; rw [if_neg c_1204]; try rfl) hP hD hS (lv_sub hl [7, 8, 6, 5, 4, 3, 2, 1, 0] rfl)
  · refine lv_bipush (v := (-3)) hx hb d_Model_doWord_7 (by decide) ?_
    have hk : k_Model_doWord sm sp sk p1 = ((-3), sm, sp, sk) := (by rw [k_Model_doWord]; rw [if_neg c_1200]; try rfl)
    exact ct_ri hx hb hr hlocks hP hD hK hS d_Model_doWord_9 (by rw [hk]; first | done | rfl) (by rw [hk]; first | done | rfl)
