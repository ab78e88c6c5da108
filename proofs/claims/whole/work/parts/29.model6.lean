def k_Model_sret_j37 (sm : ob) (sk : Nat → Int32) : Int32 × ob × (Nat → Int32) :=
  if (sm.1 0) = 1 then (0, (oi ((k_Model_back_0 sm sk (k_Model_has sm 128)).1) 15 ((((k_Model_back_0 sm sk (k_Model_has sm 128)).1).1 15) &&& (-129))), ((k_Model_back_0 sm sk (k_Model_has sm 128)).2)) else (0, ((k_Model_back_256 sm sk true).1), ((k_Model_back_256 sm sk true).2))
def k_Model_sret (sm : ob) (sk : Nat → Int32) : Int32 × ob × (Nat → Int32) :=
  if (sm.1 0) = 0 then (2, sm, sk) else (if (sm.1 0) = 2 then (22, sm, sk) else (if (sm.1 0) = 3 then (if (bI (k_Model_has sm 4194304)) = 0 then (k_Model_sret_j37 sm sk) else (22, sm, sk)) else (k_Model_sret_j37 sm sk)))
set_option maxHeartbeats 4000000 in
set_option maxRecDepth 100000 in
theorem c_Model_sret (l : Launch) (G : gx) (tys : List (ClassId × FieldType)) {cD : ClassId} (ht2 : tys[2]? = some (cD, .int)) (qm qk qp : Nat) (sm : ob) (sk : Nat → Int32) : ct_I l y_Model_sret ws_Model_sret ({ frames := 1, cells := 0, slots := 0, locals := 23 }) G tys [.ref qm] [(qm, .inr (6, f_Model qp qk sm)), (qk, .inl (cD, 512, .inl sk))] ((k_Model_sret sm sk).1) [(qm, .inr (6, f_Model qp qk ((k_Model_sret sm sk).2.1))), (qk, .inl (cD, 512, .inl ((k_Model_sret sm sk).2.2)))] := by
  refine ct_hI (cc := cc_Model_sret) (maxL := 1) (ret := (some .int)) (by decide) rfl (Nat.le_of_ble_eq_true rfl) ?_
  intro p e s m below meth c A ls hx hb hr hml hts hown hlocks hP hK hD hA hE hS hl
  have hl : lv_has ls 1 [(0, .ref qm)] := hl
  have hown : s.vm.findClass R_Model = some m.cls := hown
  have J37 : ∀ (H : Heap) (locs : List Loc) (ls : Array Slot), k_Model_sret sm sk = k_Model_sret_j37 sm sk → va_P G.1 vwCl [(qm, .inr (6, f_Model qp qk sm)), (qk, .inl (cD, 512, .inl sk))] H → va_D A [(qm, .inr (6, f_Model qp qk sm)), (qk, .inl (cD, 512, .inl sk))] → va_S A s.heap H locs → lv_has ls 1 [(0, .ref qm)] → W p l e ({ frames := 1, cells := 0, slots := 0, locals := 23 }) s m ([.ref qm] : List Value).toArray below meth c H locs 0 0 (MQ below (ct_qi G tys A ((k_Model_sret sm sk).1) [(qm, .inr (6, f_Model qp qk ((k_Model_sret sm sk).2.1))), (qk, .inl (cD, 512, .inl ((k_Model_sret sm sk).2.2)))]) ([.ref qm] : List Value).toArray s 0 0 A) (F0 m 37 ls []) := by
    intro H locs ls hj hP hD hS hl
    refine lv_aload_n hx hb d_Model_sret_37 rfl (lv_at hl 0 rfl) ?_
    refine va_get (D := G.1) (ci := 6) (v := .int (sm.1 0)) (C := R_Model) (T := T_Model) (N := 23) hx hb hts (fun w h => gd_sub _ (iw_Model w h)) hown hK hP 0 rfl rfl 0 (by decide) (hts _ (gd_sub _ q_607)) (fun _ h9 => h9) rfl d_Model_sret_38 ?_
    refine lv_iconst (v := 1) hx hb d_Model_sret_41 (by decide) ?_
    refine lv_icmp_ne (tgt := 72) hx hb d_Model_sret_42 (by decide) (fun c_1080 => ?_) (fun c_1080 => ?_)
    · refine lv_aload_n hx hb d_Model_sret_72 rfl (lv_at hl 0 rfl) ?_
      refine lv_sipush (v := 256) hx hb d_Model_sret_73 (by decide) ?_
      refine lv_iconst (v := 1) hx hb d_Model_sret_76 (by decide) ?_
      obtain ⟨sm_1081, esm_1081⟩ : ∃ z, z = (k_Model_back_256 sm sk true).1 := ⟨_, rfl⟩
      obtain ⟨sk_1082, esk_1082⟩ : ∃ z, z = (k_Model_back_256 sm sk true).2 := ⟨_, rfl⟩
      have hM := c_Model_back_256 l G tys ht2 qm qk qp sm sk true
      rw [← esm_1081, ← esk_1082] at hM
      refine ct_cVv (wr := []) (w1 := [(qm, .inr (6, f_Model qp qk sm_1081)), (qk, .inl (cD, 512, .inl sk_1082))]) (w2 := [(qm, .inr (6, f_Model qp qk sm_1081)), (qk, .inl (cD, 512, .inl sk_1082))]) (As := [.int 256, .int (bI true)]) (rest := []) (ci := 6) (q0 := 0) ⟨hx, hb, hml, hown, hts⟩ hM (cwV 2 hts (gdV gd_gd q_790 q_792 q_35 q_47 q_793) rfl rfl rfl (by decide +kernel) ⟨Nat.le_of_ble_eq_true rfl, Nat.le_of_ble_eq_true rfl⟩) hE hK hP hD hS hA [0, 1] [] [0, 1] rfl (by decide) rfl (by decide) (by decide) rfl (by decide) rfl rfl rfl hl.1 rfl (Nat.le_of_ble_eq_true rfl) d_Model_sret_77 ⟨Nat.zero_le _, Nat.zero_le _⟩ (fun H locs hP hD hS => ?_)
      refine lv_iconst (v := 0) hx hb d_Model_sret_80 (by decide) ?_
      have hk : k_Model_sret sm sk = (0, sm_1081, sk_1082) := (hj.trans (by rw [k_Model_sret_j37]; rw [if_neg c_1080]; try rw [← esm_1081]; try rw [← esk_1082]; try rfl))
      exact ct_ri hx hb hr hlocks hP hD hK hS d_Model_sret_81 (by rw [hk]; first | done | rfl) (by rw [hk]; first | done | rfl)
    · refine lv_aload_n hx hb d_Model_sret_45 rfl (lv_at hl 0 rfl) ?_
      refine lv_iconst (v := 0) hx hb d_Model_sret_46 (by decide) ?_
      refine lv_aload_n hx hb d_Model_sret_47 rfl (lv_at hl 0 rfl) ?_
      refine lv_sipush (v := 128) hx hb d_Model_sret_48 (by decide) ?_
      refine ct_cVi (wr := [(qk, .inl (cD, 512, .inl sk))]) (w1 := [(qm, .inr (6, f_Model qp qk sm))]) (w2 := [(qm, .inr (6, f_Model qp qk sm)), (qk, .inl (cD, 512, .inl sk))]) (r := (bI (k_Model_has sm 128))) (As := [.int 128]) (rest := [.int 0, .ref qm]) (ci := 6) (q0 := 0) ⟨hx, hb, hml, hown, hts⟩ (c_Model_has l G tys qm qp qk sm 128) (cwV 1 hts (gdV gd_gd q_763 q_765 q_29 q_47 q_766) rfl rfl rfl (by decide +kernel) ⟨Nat.le_of_ble_eq_true rfl, Nat.le_of_ble_eq_true rfl⟩) hE hK hP hD hS hA [0] [1] [1, 0] rfl (by decide) rfl (by decide) (by decide) rfl (by decide) rfl rfl rfl hl.1 rfl (Nat.le_of_ble_eq_true rfl) d_Model_sret_51 ⟨Nat.zero_le _, Nat.zero_le _⟩ (fun H locs hP hD hS => ?_)
      obtain ⟨sm_1083, esm_1083⟩ : ∃ z, z = (k_Model_back_0 sm sk (k_Model_has sm 128)).1 := ⟨_, rfl⟩
      obtain ⟨sk_1084, esk_1084⟩ : ∃ z, z = (k_Model_back_0 sm sk (k_Model_has sm 128)).2 := ⟨_, rfl⟩
      have hM := c_Model_back_0 l G tys ht2 qm qk qp sm sk (k_Model_has sm 128)
      rw [← esm_1083, ← esk_1084] at hM
      refine ct_cVv (wr := []) (w1 := [(qm, .inr (6, f_Model qp qk sm_1083)), (qk, .inl (cD, 512, .inl sk_1084))]) (w2 := [(qm, .inr (6, f_Model qp qk sm_1083)), (qk, .inl (cD, 512, .inl sk_1084))]) (As := [.int 0, .int (bI (k_Model_has sm 128))]) (rest := []) (ci := 6) (q0 := 0) ⟨hx, hb, hml, hown, hts⟩ hM (cwV 2 hts (gdV gd_gd q_790 q_792 q_35 q_47 q_793) rfl rfl rfl (by decide +kernel) ⟨Nat.le_of_ble_eq_true rfl, Nat.le_of_ble_eq_true rfl⟩) hE hK hP hD hS hA [0, 1] [] [0, 1] rfl (by decide) rfl (by decide) (by decide) rfl (by decide) rfl rfl rfl hl.1 rfl (Nat.le_of_ble_eq_true rfl) d_Model_sret_54 ⟨Nat.zero_le _, Nat.zero_le _⟩ (fun H locs hP hD hS => ?_)
      refine lv_aload_n hx hb d_Model_sret_57 rfl (lv_at hl 0 rfl) ?_
      refine lv_aload_n hx hb d_Model_sret_58 rfl (lv_at hl 0 rfl) ?_
      refine va_get (D := G.1) (ci := 6) (v := .int (sm_1083.1 15)) (C := R_Model) (T := T_Model) (N := 23) hx hb hts (fun w h => gd_sub _ (iw_Model w h)) hown hK hP 0 rfl rfl 15 (by decide) (hts _ (gd_sub _ q_622)) (fun _ h9 => h9) rfl d_Model_sret_59 ?_
      refine lv_sipush (v := (-129)) hx hb d_Model_sret_62 (by decide) ?_
      refine lv_iand hx hb d_Model_sret_65 ?_
      refine va_put (D := G.1) (ci := 6) (v := .int ((sm_1083.1 15) &&& (-129))) (ty := .int) (C := R_Model) (T := T_Model) (N := 23) hx hb hts (fun w h => gd_sub _ (iw_Model w h)) ty_Model tyok_Model nm_Model hown hK hP hD hS 0 rfl rfl 15 (by decide) (hts _ (gd_sub _ q_622)) (fun _ h9 => h9) rfl (by decide +kernel) rfl rfl (Nat.le_of_ble_eq_true rfl) d_Model_sret_66 (fun H locs hP hD hS => ?_)
      have hP : va_P G.1 vwCl [(qm, .inr (6, f_Model qp qk (oi sm_1083 15 ((sm_1083.1 15) &&& (-129))))), (qk, .inl (cD, 512, .inl sk_1084))] H := hP
      have hD : va_D A [(qm, .inr (6, f_Model qp qk (oi sm_1083 15 ((sm_1083.1 15) &&& (-129))))), (qk, .inl (cD, 512, .inl sk_1084))] := hD
      refine lv_goto (tgt := 80) hx hb d_Model_sret_69 (by decide) ?_
      refine lv_iconst (v := 0) hx hb d_Model_sret_80 (by decide) ?_
      have hk : k_Model_sret sm sk = (0, (oi sm_1083 15 ((sm_1083.1 15) &&& (-129))), sk_1084) := (hj.trans (by rw [k_Model_sret_j37]; rw [if_pos c_1080]; try rw [← esm_1083]; try rw [← esk_1084]; try rfl))
      exact ct_ri hx hb hr hlocks hP hD hK hS d_Model_sret_81 (by rw [hk]; first | done | rfl) (by rw [hk]; first | done | rfl)
  obtain ⟨H, eH⟩ : ∃ z, z = s.heap := ⟨_, rfl⟩
  obtain ⟨locs, eL⟩ : ∃ z, z = ([] : List Loc) := ⟨_, rfl⟩
  have hP : va_P G.1 vwCl [(qm, .inr (6, f_Model qp qk sm)), (qk, .inl (cD, 512, .inl sk))] H := by rw [eH]; exact hP
  have hS : va_S A s.heap H locs := by rw [eH, eL]; exact hS
  suffices hW : W p l e ({ frames := 1, cells := 0, slots := 0, locals := 23 }) s m ([.ref qm] : List Value).toArray below meth c H locs 0 0 (MQ below (ct_qi G tys A ((k_Model_sret sm sk).1) [(qm, .inr (6, f_Model qp qk ((k_Model_sret sm sk).2.1))), (qk, .inl (cD, 512, .inl ((k_Model_sret sm sk).2.2)))]) ([.ref qm] : List Value).toArray s 0 0 A) (F0 m 0 ls []) by rw [eH, eL] at hW; exact hW
  refine lv_aload_n hx hb d_Model_sret_0 rfl (lv_at hl 0 rfl) ?_
  refine va_get (D := G.1) (ci := 6) (v := .int (sm.1 0)) (C := R_Model) (T := T_Model) (N := 23) hx hb hts (fun w h => gd_sub _ (iw_Model w h)) hown hK hP 0 rfl rfl 0 (by decide) (hts _ (gd_sub _ q_607)) (fun _ h9 => h9) rfl d_Model_sret_1 ?_
  refine lv_if_ne (tgt := 9) hx hb d_Model_sret_4 (by decide) (fun c_1085 => ?_) (fun c_1085 => ?_)
  · refine lv_aload_n hx hb d_Model_sret_9 rfl (lv_at hl 0 rfl) ?_
    refine va_get (D := G.1) (ci := 6) (v := .int (sm.1 0)) (C := R_Model) (T := T_Model) (N := 23) hx hb hts (fun w h => gd_sub _ (iw_Model w h)) hown hK hP 0 rfl rfl 0 (by decide) (hts _ (gd_sub _ q_607)) (fun _ h9 => h9) rfl d_Model_sret_10 ?_
    refine lv_iconst (v := 2) hx hb d_Model_sret_13 (by decide) ?_
    refine lv_icmp_eq (tgt := 34) hx hb d_Model_sret_14 (by decide) (fun c_1086 => ?_) (fun c_1086 => ?_)
    · refine lv_bipush (v := 22) hx hb d_Model_sret_34 (by decide) ?_
      have hk : k_Model_sret sm sk = (22, sm, sk) := (by rw [k_Model_sret]; rw [if_neg c_1085]; rw [if_pos c_1086]; try rfl)
      exact ct_ri hx hb hr hlocks hP hD hK hS d_Model_sret_36 (by rw [hk]; first | done | rfl) (by rw [hk]; first | done | rfl)
    · refine lv_aload_n hx hb d_Model_sret_17 rfl (lv_at hl 0 rfl) ?_
      refine va_get (D := G.1) (ci := 6) (v := .int (sm.1 0)) (C := R_Model) (T := T_Model) (N := 23) hx hb hts (fun w h => gd_sub _ (iw_Model w h)) hown hK hP 0 rfl rfl 0 (by decide) (hts _ (gd_sub _ q_607)) (fun _ h9 => h9) rfl d_Model_sret_18 ?_
      refine lv_iconst (v := 3) hx hb d_Model_sret_21 (by decide) ?_
      refine lv_icmp_ne (tgt := 37) hx hb d_Model_sret_22 (by decide) (fun c_1087 => ?_) (fun c_1087 => ?_)
      · exact J37 H locs ls (by rw [k_Model_sret]; rw [if_neg c_1085]; rw [if_neg c_1086]; rw [if_neg c_1087]; try rfl) hP hD hS (lv_sub hl [0] rfl)
      · refine lv_aload_n hx hb d_Model_sret_25 rfl (lv_at hl 0 rfl) ?_
        refine lv_ldc (v := 4194304) hx hb hown (hts _ (gd_sub _ q_789)) d_Model_sret_26 ?_
        refine ct_cVi (wr := [(qk, .inl (cD, 512, .inl sk))]) (w1 := [(qm, .inr (6, f_Model qp qk sm))]) (w2 := [(qm, .inr (6, f_Model qp qk sm)), (qk, .inl (cD, 512, .inl sk))]) (r := (bI (k_Model_has sm 4194304))) (As := [.int 4194304]) (rest := []) (ci := 6) (q0 := 0) ⟨hx, hb, hml, hown, hts⟩ (c_Model_has l G tys qm qp qk sm 4194304) (cwV 1 hts (gdV gd_gd q_763 q_765 q_29 q_47 q_766) rfl rfl rfl (by decide +kernel) ⟨Nat.le_of_ble_eq_true rfl, Nat.le_of_ble_eq_true rfl⟩) hE hK hP hD hS hA [0] [1] [1, 0] rfl (by decide) rfl (by decide) (by decide) rfl (by decide) rfl rfl rfl hl.1 rfl (Nat.le_of_ble_eq_true rfl) d_Model_sret_28 ⟨Nat.zero_le _, Nat.zero_le _⟩ (fun H locs hP hD hS => ?_)
        refine lv_if_eq (tgt := 37) hx hb d_Model_sret_31 (by decide) (fun c_1088 => ?_) (fun c_1088 => ?_)
        · exact J37 H locs ls (by rw [k_Model_sret]; rw [if_neg c_1085]; rw [if_neg c_1086]; rw [if_pos c_1087]; rw [if_pos c_1088]; try rfl) hP hD hS (lv_sub hl [0] rfl)
        · refine lv_bipush (v := 22) hx hb d_Model_sret_34 (by decide) ?_
          have hk : k_Model_sret sm sk = (22, sm, sk) := (by rw [k_Model_sret]; rw [if_neg c_1085]; rw [if_neg c_1086]; rw [if_pos c_1087]; rw [if_neg c_1088]; try rfl)
          exact ct_ri hx hb hr hlocks hP hD hK hS d_Model_sret_36 (by rw [hk]; first | done | rfl) (by rw [hk]; first | done | rfl)
  · refine lv_iconst (v := 2) hx hb d_Model_sret_7 (by decide) ?_
    have hk : k_Model_sret sm sk = (2, sm, sk) := (by rw [k_Model_sret]; rw [if_pos c_1085]; try rfl)
    exact ct_ri hx hb hr hlocks hP hD hK hS d_Model_sret_8 (by rw [hk]; first | done | rfl) (by rw [hk]; first | done | rfl)
def k_Model_allowed (sm : ob) (p1 : Int32) : Int32 :=
  if (sm.1 0) = 0 then 2 else (if (sm.1 0) = 1 then 0 else (if (sm.1 0) = 3 then (if (bI (k_Model_has sm p1)) = 0 then 0 else 22) else 22))
set_option maxHeartbeats 4000000 in
set_option maxRecDepth 100000 in
theorem c_Model_allowed (l : Launch) (G : gx) (tys : List (ClassId × FieldType)) (qm qp qk : Nat) (sm : ob) (p1 : Int32) : ct_I l y_Model_allowed ws_Model_allowed ({ frames := 1, cells := 0, slots := 0, locals := 21 }) G tys [.ref qm, .int p1] [(qm, .inr (6, f_Model qp qk sm))] (k_Model_allowed sm p1) [(qm, .inr (6, f_Model qp qk sm))] := by
  refine ct_hI (cc := cc_Model_allowed) (maxL := 2) (ret := (some .int)) (by decide) rfl (Nat.le_of_ble_eq_true rfl) ?_
  intro p e s m below meth c A ls hx hb hr hml hts hown hlocks hP hK hD hA hE hS hl
  have hl : lv_has ls 2 [(0, .ref qm), (1, .int p1)] := hl
  have hown : s.vm.findClass R_Model = some m.cls := hown
  refine lv_aload_n hx hb d_Model_allowed_0 rfl (lv_at hl 0 rfl) ?_
  refine va_get (D := G.1) (ci := 6) (v := .int (sm.1 0)) (C := R_Model) (T := T_Model) (N := 23) hx hb hts (fun w h => gd_sub _ (iw_Model w h)) hown hK hP 0 rfl rfl 0 (by decide) (hts _ (gd_sub _ q_607)) (fun _ h9 => h9) rfl d_Model_allowed_1 ?_
  refine lv_if_ne (tgt := 9) hx hb d_Model_allowed_4 (by decide) (fun c_1093 => ?_) (fun c_1093 => ?_)
  · refine lv_aload_n hx hb d_Model_allowed_9 rfl (lv_at hl 0 rfl) ?_
    refine va_get (D := G.1) (ci := 6) (v := .int (sm.1 0)) (C := R_Model) (T := T_Model) (N := 23) hx hb hts (fun w h => gd_sub _ (iw_Model w h)) hown hK hP 0 rfl rfl 0 (by decide) (hts _ (gd_sub _ q_607)) (fun _ h9 => h9) rfl d_Model_allowed_10 ?_
    refine lv_iconst (v := 1) hx hb d_Model_allowed_13 (by decide) ?_
    refine lv_icmp_eq (tgt := 33) hx hb d_Model_allowed_14 (by decide) (fun c_1094 => ?_) (fun c_1094 => ?_)
    · refine lv_iconst (v := 0) hx hb d_Model_allowed_33 (by decide) ?_
      refine lv_goto (tgt := 39) hx hb d_Model_allowed_34 (by decide) ?_
      have hk : k_Model_allowed sm p1 = 0 := (by rw [k_Model_allowed]; rw [if_neg c_1093]; rw [if_pos c_1094]; try rfl)
      exact ct_ri hx hb hr hlocks hP hD hK hS d_Model_allowed_39 (by rw [hk]; first | done | rfl) rfl
    · refine lv_aload_n hx hb d_Model_allowed_17 rfl (lv_at hl 0 rfl) ?_
      refine va_get (D := G.1) (ci := 6) (v := .int (sm.1 0)) (C := R_Model) (T := T_Model) (N := 23) hx hb hts (fun w h => gd_sub _ (iw_Model w h)) hown hK hP 0 rfl rfl 0 (by decide) (hts _ (gd_sub _ q_607)) (fun _ h9 => h9) rfl d_Model_allowed_18 ?_
      refine lv_iconst (v := 3) hx hb d_Model_allowed_21 (by decide) ?_
      refine lv_icmp_ne (tgt := 37) hx hb d_Model_allowed_22 (by decide) (fun c_1095 => ?_) (fun c_1095 => ?_)
      · refine lv_bipush (v := 22) hx hb d_Model_allowed_37 (by decide) ?_
        have hk : k_Model_allowed sm p1 = 22 := (by rw [k_Model_allowed]; rw [if_neg c_1093]; rw [if_neg c_1094]; rw [if_neg c_1095]; try rfl)
        exact ct_ri hx hb hr hlocks hP hD hK hS d_Model_allowed_39 (by rw [hk]; first | done | rfl) rfl
      · refine lv_aload_n hx hb d_Model_allowed_25 rfl (lv_at hl 0 rfl) ?_
        refine lv_iload_n hx hb d_Model_allowed_26 rfl (lv_at hl 1 rfl) ?_
        refine ct_cVi (wr := []) (w1 := [(qm, .inr (6, f_Model qp qk sm))]) (w2 := [(qm, .inr (6, f_Model qp qk sm))]) (r := (bI (k_Model_has sm p1))) (As := [.int p1]) (rest := []) (ci := 6) (q0 := 0) ⟨hx, hb, hml, hown, hts⟩ (c_Model_has l G tys qm qp qk sm p1) (cwV 1 hts (gdV gd_gd q_763 q_765 q_29 q_47 q_766) rfl rfl rfl (by decide +kernel) ⟨Nat.le_of_ble_eq_true rfl, Nat.le_of_ble_eq_true rfl⟩) hE hK hP hD hS hA [0] [] [0] rfl (by decide) rfl (by decide) (by decide) rfl (by decide) rfl rfl rfl hl.1 rfl (Nat.le_of_ble_eq_true rfl) d_Model_allowed_27 ⟨Nat.zero_le _, Nat.zero_le _⟩ (fun H locs hP hD hS => ?_)
        refine lv_if_ne (tgt := 37) hx hb d_Model_allowed_30 (by decide) (fun c_1096 => ?_) (fun c_1096 => ?_)
        · refine lv_bipush (v := 22) hx hb d_Model_allowed_37 (by decide) ?_
          have hk : k_Model_allowed sm p1 = 22 := (by rw [k_Model_allowed]; rw [if_neg c_1093]; rw [if_neg c_1094]; rw [if_pos c_1095]; rw [if_neg c_1096]; try rfl)
          exact ct_ri hx hb hr hlocks hP hD hK hS d_Model_allowed_39 (by rw [hk]; first | done | rfl) rfl
        · refine lv_iconst (v := 0) hx hb d_Model_allowed_33 (by decide) ?_
          refine lv_goto (tgt := 39) hx hb d_Model_allowed_34 (by decide) ?_
          have hk : k_Model_allowed sm p1 = 0 := (by rw [k_Model_allowed]; rw [if_neg c_1093]; rw [if_neg c_1094]; rw [if_pos c_1095]; rw [if_pos c_1096]; try rfl)
          exact ct_ri hx hb hr hlocks hP hD hK hS d_Model_allowed_39 (by rw [hk]; first | done | rfl) rfl
  · refine lv_iconst (v := 2) hx hb d_Model_allowed_7 (by decide) ?_
    have hk : k_Model_allowed sm p1 = 2 := (by rw [k_Model_allowed]; rw [if_pos c_1093]; try rfl)
    exact ct_ri hx hb hr hlocks hP hD hK hS d_Model_allowed_8 (by rw [hk]; first | done | rfl) rfl
def k_Model_system_j25 (sm : ob) (sp : Nat → Int32) (sk : Nat → Int32) (p1 : Int32) (p2 : Int32) (p3 : Int32) : Int32 × ob × (Nat → Int32) × (Nat → Int32) :=
  if (sm.1 0) = 0 then (2, sm, sp, sk) else (if (sm.1 0) = 1 then (0, sm, sp, sk) else (22, sm, sp, sk))
def k_Model_system (sm : ob) (sp : Nat → Int32) (sk : Nat → Int32) (p1 : Int32) (p2 : Int32) (p3 : Int32) : Int32 × ob × (Nat → Int32) × (Nat → Int32) :=
  if p2 = 9 then ((k_Model_allowed sm 1048576), sm, sp, sk) else (if p2 = 17 then (k_Model_system_j25 sm sp sk p1 p2 p3) else (if p2 = 49 then (k_Model_system_j25 sm sp sk p1 p2 p3) else (if p1 = 0 then (if p3 = 0 then (((k_Model_call sm sp).1), ((k_Model_call sm sp).2.1), ((k_Model_call sm sp).2.2), sk) else if p3 = 1 then (3, sm, sp, sk) else if p3 = 258 then (((k_Model_sret sm sk).1), ((k_Model_sret sm sk).2.1), sp, ((k_Model_sret sm sk).2.2)) else if p3 = 261 then ((k_Model_allowed sm 2097152), sm, sp, sk) else (2, sm, sp, sk)) else (2, sm, sp, sk))))
set_option maxHeartbeats 4000000 in
set_option maxRecDepth 100000 in
theorem c_Model_system (l : Launch) (G : gx) (tys : List (ClassId × FieldType)) {cB : ClassId} (ht1 : tys[1]? = some (cB, .int)) {cD : ClassId} (ht2 : tys[2]? = some (cD, .int)) (qm qp qk : Nat) (sm : ob) (sp : Nat → Int32) (sk : Nat → Int32) (p1 : Int32) (p2 : Int32) (p3 : Int32) (hq9 : ¬ sm.1 9 < 0) : ct_I l y_Model_system ws_Model_system ({ frames := 2, cells := 0, slots := 0, locals := 43 }) G tys [.ref qm, .int p1, .int p2, .int p3] [(qm, .inr (6, f_Model qp qk sm)), (qp, .inl (cB, 256, .inl sp)), (qk, .inl (cD, 512, .inl sk))] ((k_Model_system sm sp sk p1 p2 p3).1) [(qm, .inr (6, f_Model qp qk ((k_Model_system sm sp sk p1 p2 p3).2.1))), (qp, .inl (cB, 256, .inl ((k_Model_system sm sp sk p1 p2 p3).2.2.1))), (qk, .inl (cD, 512, .inl ((k_Model_system sm sp sk p1 p2 p3).2.2.2)))] := by
  refine ct_hI (cc := cc_Model_system) (maxL := 4) (ret := (some .int)) (by decide) rfl (Nat.le_of_ble_eq_true rfl) ?_
  intro p e s m below meth c A ls hx hb hr hml hts hown hlocks hP hK hD hA hE hS hl
  have hl : lv_has ls 4 [(0, .ref qm), (1, .int p1), (2, .int p2), (3, .int p3)] := hl
  have hown : s.vm.findClass R_Model = some m.cls := hown
  have J25 : ∀ (H : Heap) (locs : List Loc) (ls : Array Slot), k_Model_system sm sp sk p1 p2 p3 = k_Model_system_j25 sm sp sk p1 p2 p3 → va_P G.1 vwCl [(qm, .inr (6, f_Model qp qk sm)), (qp, .inl (cB, 256, .inl sp)), (qk, .inl (cD, 512, .inl sk))] H → va_D A [(qm, .inr (6, f_Model qp qk sm)), (qp, .inl (cB, 256, .inl sp)), (qk, .inl (cD, 512, .inl sk))] → va_S A s.heap H locs → lv_has ls 4 [(0, .ref qm), (1, .int p1), (2, .int p2), (3, .int p3)] → W p l e ({ frames := 2, cells := 0, slots := 0, locals := 43 }) s m ([.ref qm, .int p1, .int p2, .int p3] : List Value).toArray below meth c H locs 0 0 (MQ below (ct_qi G tys A ((k_Model_system sm sp sk p1 p2 p3).1) [(qm, .inr (6, f_Model qp qk ((k_Model_system sm sp sk p1 p2 p3).2.1))), (qp, .inl (cB, 256, .inl ((k_Model_system sm sp sk p1 p2 p3).2.2.1))), (qk, .inl (cD, 512, .inl ((k_Model_system sm sp sk p1 p2 p3).2.2.2)))]) ([.ref qm, .int p1, .int p2, .int p3] : List Value).toArray s 0 0 A) (F0 m 25 ls []) := by
    intro H locs ls hj hP hD hS hl
    refine lv_aload_n hx hb d_Model_system_25 rfl (lv_at hl 0 rfl) ?_
    refine va_get (D := G.1) (ci := 6) (v := .int (sm.1 0)) (C := R_Model) (T := T_Model) (N := 23) hx hb hts (fun w h => gd_sub _ (iw_Model w h)) hown hK hP 0 rfl rfl 0 (by decide) (hts _ (gd_sub _ q_607)) (fun _ h9 => h9) rfl d_Model_system_26 ?_
    refine lv_if_ne (tgt := 36) hx hb d_Model_system_29 (by decide) (fun c_1113 => ?_) (fun c_1113 => ?_)
    · refine lv_aload_n hx hb d_Model_system_36 rfl (lv_at hl 0 rfl) ?_
      refine va_get (D := G.1) (ci := 6) (v := .int (sm.1 0)) (C := R_Model) (T := T_Model) (N := 23) hx hb hts (fun w h => gd_sub _ (iw_Model w h)) hown hK hP 0 rfl rfl 0 (by decide) (hts _ (gd_sub _ q_607)) (fun _ h9 => h9) rfl d_Model_system_37 ?_
      refine lv_iconst (v := 1) hx hb d_Model_system_40 (by decide) ?_
      refine lv_icmp_ne (tgt := 48) hx hb d_Model_system_41 (by decide) (fun c_1114 => ?_) (fun c_1114 => ?_)
      · refine lv_bipush (v := 22) hx hb d_Model_system_48 (by decide) ?_
        have hk : k_Model_system sm sp sk p1 p2 p3 = (22, sm, sp, sk) := (hj.trans (by rw [k_Model_system_j25]; rw [if_neg c_1113]; rw [if_neg c_1114]; try rfl))
        exact ct_ri hx hb hr hlocks hP hD hK hS d_Model_system_50 (by rw [hk]; first | done | rfl) (by rw [hk]; first | done | rfl)
      · refine lv_iconst (v := 0) hx hb d_Model_system_44 (by decide) ?_
        refine lv_goto (tgt := 50) hx hb d_Model_system_45 (by decide) ?_
        have hk : k_Model_system sm sp sk p1 p2 p3 = (0, sm, sp, sk) := (hj.trans (by rw [k_Model_system_j25]; rw [if_neg c_1113]; rw [if_pos c_1114]; try rfl))
        exact ct_ri hx hb hr hlocks hP hD hK hS d_Model_system_50 (by rw [hk]; first | done | rfl) (by rw [hk]; first | done | rfl)
    · refine lv_iconst (v := 2) hx hb d_Model_system_32 (by decide) ?_
      refine lv_goto (tgt := 50) hx hb d_Model_system_33 (by decide) ?_
      have hk : k_Model_system sm sp sk p1 p2 p3 = (2, sm, sp, sk) := (hj.trans (by rw [k_Model_system_j25]; rw [if_pos c_1113]; try rfl))
      exact ct_ri hx hb hr hlocks hP hD hK hS d_Model_system_50 (by rw [hk]; first | done | rfl) (by rw [hk]; first | done | rfl)
  obtain ⟨H, eH⟩ : ∃ z, z = s.heap := ⟨_, rfl⟩
  obtain ⟨locs, eL⟩ : ∃ z, z = ([] : List Loc) := ⟨_, rfl⟩
  have hP : va_P G.1 vwCl [(qm, .inr (6, f_Model qp qk sm)), (qp, .inl (cB, 256, .inl sp)), (qk, .inl (cD, 512, .inl sk))] H := by rw [eH]; exact hP
  have hS : va_S A s.heap H locs := by rw [eH, eL]; exact hS
  suffices hW : W p l e ({ frames := 2, cells := 0, slots := 0, locals := 43 }) s m ([.ref qm, .int p1, .int p2, .int p3] : List Value).toArray below meth c H locs 0 0 (MQ below (ct_qi G tys A ((k_Model_system sm sp sk p1 p2 p3).1) [(qm, .inr (6, f_Model qp qk ((k_Model_system sm sp sk p1 p2 p3).2.1))), (qp, .inl (cB, 256, .inl ((k_Model_system sm sp sk p1 p2 p3).2.2.1))), (qk, .inl (cD, 512, .inl ((k_Model_system sm sp sk p1 p2 p3).2.2.2)))]) ([.ref qm, .int p1, .int p2, .int p3] : List Value).toArray s 0 0 A) (F0 m 0 ls []) by rw [eH, eL] at hW; exact hW
  refine lv_iload_n hx hb d_Model_system_0 rfl (lv_at hl 2 rfl) ?_
  refine lv_bipush (v := 9) hx hb d_Model_system_1 (by decide) ?_
  refine lv_icmp_ne (tgt := 13) hx hb d_Model_system_3 (by decide) (fun c_1115 => ?_) (fun c_1115 => ?_)
  · refine lv_iload_n hx hb d_Model_system_13 rfl (lv_at hl 2 rfl) ?_
    refine lv_bipush (v := 17) hx hb d_Model_system_14 (by decide) ?_
    refine lv_icmp_eq (tgt := 25) hx hb d_Model_system_16 (by decide) (fun c_1116 => ?_) (fun c_1116 => ?_)
    · exact J25 H locs ls (by rw [k_Model_system]; rw [if_neg c_1115]; rw [if_pos c_1116]; try rfl) hP hD hS (lv_sub hl [0, 1, 2, 3] rfl)
    · refine lv_iload_n hx hb d_Model_system_19 rfl (lv_at hl 2 rfl) ?_
      refine lv_bipush (v := 49) hx hb d_Model_system_20 (by decide) ?_
      refine lv_icmp_ne (tgt := 51) hx hb d_Model_system_22 (by decide) (fun c_1117 => ?_) (fun c_1117 => ?_)
      · refine lv_iload_n hx hb d_Model_system_51 rfl (lv_at hl 1 rfl) ?_
        refine lv_if_eq (tgt := 57) hx hb d_Model_system_52 (by decide) (fun c_1118 => ?_) (fun c_1118 => ?_)
        · refine lv_iload_n hx hb d_Model_system_57 rfl (lv_at hl 3 rfl) ?_
          by_cases c_1119 : p3 = 0
          · refine lv_lookup (off := 42) (tgt := 100) hx hb d_Model_system_58 (by decide) (by rw [c_1119]; decide) (by decide) ?_
            refine lv_aload_n hx hb d_Model_system_100 rfl (lv_at hl 0 rfl) ?_
            obtain ⟨r_1120, er_1120⟩ : ∃ z, z = (k_Model_call sm sp).1 := ⟨_, rfl⟩
            obtain ⟨sm_1121, esm_1121⟩ : ∃ z, z = (k_Model_call sm sp).2.1 := ⟨_, rfl⟩
            obtain ⟨sp_1122, esp_1122⟩ : ∃ z, z = (k_Model_call sm sp).2.2 := ⟨_, rfl⟩
            have hM := c_Model_call l G tys ht1 qm qp qk sm sp hq9
            rw [← er_1120, ← esm_1121, ← esp_1122] at hM
            refine ct_cVi (wr := [(qk, .inl (cD, 512, .inl sk))]) (w1 := [(qm, .inr (6, f_Model qp qk sm_1121)), (qp, .inl (cB, 256, .inl sp_1122))]) (w2 := [(qm, .inr (6, f_Model qp qk sm_1121)), (qp, .inl (cB, 256, .inl sp_1122)), (qk, .inl (cD, 512, .inl sk))]) (r := r_1120) (As := []) (rest := []) (ci := 6) (q0 := 0) ⟨hx, hb, hml, hown, hts⟩ hM (cwV 0 hts (gdV gd_gd q_776 q_778 q_32 q_47 q_779) rfl rfl rfl (by decide +kernel) ⟨Nat.le_of_ble_eq_true rfl, Nat.le_of_ble_eq_true rfl⟩) hE hK hP hD hS hA [0, 1] [2] [1, 2, 0] rfl (by decide) rfl (by decide) (by decide) rfl (by decide) rfl rfl rfl hl.1 rfl (Nat.le_of_ble_eq_true rfl) d_Model_system_101 ⟨Nat.zero_le _, Nat.zero_le _⟩ (fun H locs hP hD hS => ?_)
            have hk : k_Model_system sm sp sk p1 p2 p3 = (r_1120, sm_1121, sp_1122, sk) := (by rw [k_Model_system]; rw [if_neg c_1115]; rw [if_neg c_1116]; rw [if_neg c_1117]; rw [if_pos c_1118]; rw [if_pos c_1119]; try rw [← er_1120]; try rw [← esm_1121]; try rw [← esp_1122]; try rfl)
            exact ct_ri hx hb hr hlocks hP hD hK hS d_Model_system_104 (by rw [hk]; first | done | rfl) (by rw [hk]; first | done | rfl)
          · by_cases c_1123 : p3 = 1
            · refine lv_lookup (off := 47) (tgt := 105) hx hb d_Model_system_58 (by decide) (by rw [c_1123]; decide) (by decide) ?_
              refine lv_iconst (v := 3) hx hb d_Model_system_105 (by decide) ?_
              have hk : k_Model_system sm sp sk p1 p2 p3 = (3, sm, sp, sk) := (by rw [k_Model_system]; rw [if_neg c_1115]; rw [if_neg c_1116]; rw [if_neg c_1117]; rw [if_pos c_1118]; rw [if_neg c_1119]; rw [if_pos c_1123]; try rfl)
              exact ct_ri hx hb hr hlocks hP hD hK hS d_Model_system_106 (by rw [hk]; first | done | rfl) (by rw [hk]; first | done | rfl)
            · by_cases c_1124 : p3 = 258
              · refine lv_lookup (off := 49) (tgt := 107) hx hb d_Model_system_58 (by decide) (by rw [c_1124]; decide) (by decide) ?_
                refine lv_aload_n hx hb d_Model_system_107 rfl (lv_at hl 0 rfl) ?_
                obtain ⟨r_1125, er_1125⟩ : ∃ z, z = (k_Model_sret sm sk).1 := ⟨_, rfl⟩
                obtain ⟨sm_1126, esm_1126⟩ : ∃ z, z = (k_Model_sret sm sk).2.1 := ⟨_, rfl⟩
                obtain ⟨sk_1127, esk_1127⟩ : ∃ z, z = (k_Model_sret sm sk).2.2 := ⟨_, rfl⟩
                have hM := c_Model_sret l G tys ht2 qm qk qp sm sk
                rw [← er_1125, ← esm_1126, ← esk_1127] at hM
                refine ct_cVi (wr := [(qp, .inl (cB, 256, .inl sp))]) (w1 := [(qm, .inr (6, f_Model qp qk sm_1126)), (qk, .inl (cD, 512, .inl sk_1127))]) (w2 := [(qm, .inr (6, f_Model qp qk sm_1126)), (qp, .inl (cB, 256, .inl sp)), (qk, .inl (cD, 512, .inl sk_1127))]) (r := r_1125) (As := []) (rest := []) (ci := 6) (q0 := 0) ⟨hx, hb, hml, hown, hts⟩ hM (cwV 0 hts (gdV gd_gd q_785 q_787 q_34 q_47 q_788) rfl rfl rfl (by decide +kernel) ⟨Nat.le_of_ble_eq_true rfl, Nat.le_of_ble_eq_true rfl⟩) hE hK hP hD hS hA [0, 2] [1] [1, 0, 2] rfl (by decide) rfl (by decide) (by decide) rfl (by decide) rfl rfl rfl hl.1 rfl (Nat.le_of_ble_eq_true rfl) d_Model_system_108 ⟨Nat.zero_le _, Nat.zero_le _⟩ (fun H locs hP hD hS => ?_)
                have hk : k_Model_system sm sp sk p1 p2 p3 = (r_1125, sm_1126, sp, sk_1127) := (by rw [k_Model_system]; rw [if_neg c_1115]; rw [if_neg c_1116]; rw [if_neg c_1117]; rw [if_pos c_1118]; rw [if_neg c_1119]; rw [if_neg c_1123]; rw [if_pos c_1124]; try rw [← er_1125]; try rw [← esm_1126]; try rw [← esk_1127]; try rfl)
                exact ct_ri hx hb hr hlocks hP hD hK hS d_Model_system_111 (by rw [hk]; first | done | rfl) (by rw [hk]; first | done | rfl)
              · by_cases c_1128 : p3 = 261
                · refine lv_lookup (off := 54) (tgt := 112) hx hb d_Model_system_58 (by decide) (by rw [c_1128]; decide) (by decide) ?_
                  refine lv_aload_n hx hb d_Model_system_112 rfl (lv_at hl 0 rfl) ?_
                  refine lv_ldc (v := 2097152) hx hb hown (hts _ (gd_sub _ q_794)) d_Model_system_113 ?_
                  refine ct_cVi (wr := [(qp, .inl (cB, 256, .inl sp)), (qk, .inl (cD, 512, .inl sk))]) (w1 := [(qm, .inr (6, f_Model qp qk sm))]) (w2 := [(qm, .inr (6, f_Model qp qk sm)), (qp, .inl (cB, 256, .inl sp)), (qk, .inl (cD, 512, .inl sk))]) (r := (k_Model_allowed sm 2097152)) (As := [.int 2097152]) (rest := []) (ci := 6) (q0 := 0) ⟨hx, hb, hml, hown, hts⟩ (c_Model_allowed l G tys qm qp qk sm 2097152) (cwV 1 hts (gdV gd_gd q_772 q_774 q_31 q_47 q_775) rfl rfl rfl (by decide +kernel) ⟨Nat.le_of_ble_eq_true rfl, Nat.le_of_ble_eq_true rfl⟩) hE hK hP hD hS hA [0] [1, 2] [2, 0, 1] rfl (by decide) rfl (by decide) (by decide) rfl (by decide) rfl rfl rfl hl.1 rfl (Nat.le_of_ble_eq_true rfl) d_Model_system_115 ⟨Nat.zero_le _, Nat.zero_le _⟩ (fun H locs hP hD hS => ?_)
                  have hk : k_Model_system sm sp sk p1 p2 p3 = ((k_Model_allowed sm 2097152), sm, sp, sk) := (by rw [k_Model_system]; rw [if_neg c_1115]; rw [if_neg c_1116]; rw [if_neg c_1117]; rw [if_pos c_1118]; rw [if_neg c_1119]; rw [if_neg c_1123]; rw [if_neg c_1124]; rw [if_pos c_1128]; try rfl)
                  exact ct_ri hx hb hr hlocks hP hD hK hS d_Model_system_118 (by rw [hk]; first | done | rfl) (by rw [hk]; first | done | rfl)
                · refine lv_lookup (off := 61) (tgt := 119) hx hb d_Model_system_58 (by decide) ((lv_osw c_1119 (by decide)).trans ((lv_osw c_1123 (by decide)).trans ((lv_osw c_1124 (by decide)).trans ((lv_osw c_1128 (by decide)).trans rfl)))) (by decide) ?_
                  refine lv_iconst (v := 2) hx hb d_Model_system_119 (by decide) ?_
                  have hk : k_Model_system sm sp sk p1 p2 p3 = (2, sm, sp, sk) := (by rw [k_Model_system]; rw [if_neg c_1115]; rw [if_neg c_1116]; rw [if_neg c_1117]; rw [if_pos c_1118]; rw [if_neg c_1119]; rw [if_neg c_1123]; rw [if_neg c_1124]; rw [if_neg c_1128]; try rfl)
                  exact ct_ri hx hb hr hlocks hP hD hK hS d_Model_system_120 (by rw [hk]; first | done | rfl) (by rw [hk]; first | done | rfl)
        · refine lv_iconst (v := 2) hx hb d_Model_system_55 (by decide) ?_
          have hk : k_Model_system sm sp sk p1 p2 p3 = (2, sm, sp, sk) := (by rw [k_Model_system]; rw [if_neg c_1115]; rw [if_neg c_1116]; rw [if_neg c_1117]; rw [if_neg c_1118]; try rfl)
          exact ct_ri hx hb hr hlocks hP hD hK hS d_Model_system_56 (by rw [hk]; first | done | rfl) (by rw [hk]; first | done | rfl)
      · exact J25 H locs ls (by rw [k_Model_system]; rw [if_neg c_1115]; rw [if_neg c_1116]; rw [if_pos c_1117]; try rfl) hP hD hS (lv_sub hl [0, 1, 2, 3] rfl)
  · refine lv_aload_n hx hb d_Model_system_6 rfl (lv_at hl 0 rfl) ?_
    refine lv_ldc (v := 1048576) hx hb hown (hts _ (gd_sub _ q_771)) d_Model_system_7 ?_
    refine ct_cVi (wr := [(qp, .inl (cB, 256, .inl sp)), (qk, .inl (cD, 512, .inl sk))]) (w1 := [(qm, .inr (6, f_Model qp qk sm))]) (w2 := [(qm, .inr (6, f_Model qp qk sm)), (qp, .inl (cB, 256, .inl sp)), (qk, .inl (cD, 512, .inl sk))]) (r := (k_Model_allowed sm 1048576)) (As := [.int 1048576]) (rest := []) (ci := 6) (q0 := 0) ⟨hx, hb, hml, hown, hts⟩ (c_Model_allowed l G tys qm qp qk sm 1048576) (cwV 1 hts (gdV gd_gd q_772 q_774 q_31 q_47 q_775) rfl rfl rfl (by decide +kernel) ⟨Nat.le_of_ble_eq_true rfl, Nat.le_of_ble_eq_true rfl⟩) hE hK hP hD hS hA [0] [1, 2] [2, 0, 1] rfl (by decide) rfl (by decide) (by decide) rfl (by decide) rfl rfl rfl hl.1 rfl (Nat.le_of_ble_eq_true rfl) d_Model_system_9 ⟨Nat.zero_le _, Nat.zero_le _⟩ (fun H locs hP hD hS => ?_)
    have hk : k_Model_system sm sp sk p1 p2 p3 = ((k_Model_allowed sm 1048576), sm, sp, sk) := (by rw [k_Model_system]; rw [if_pos c_1115]; try rfl)
    exact ct_ri hx hb hr hlocks hP hD hK hS d_Model_system_12 (by rw [hk]; first | done | rfl) (by rw [hk]; first | done | rfl)
def k_Model_isFar_j61 (p1 : Int32) (p2 : Int32) (p3 : Int32) (t0 : Bool) : Bool :=
  if (bI t0) = 0 then (if p1 = 0 then (if p3 = 49 then true else (if p3 = 51 then true else (if p3 = 53 then true else false))) else false) else true
def k_Model_isFar_j60 (p1 : Int32) (p2 : Int32) (p3 : Int32) : Bool :=
  k_Model_isFar_j61 p1 p2 p3 false
def k_Model_isFar_j56 (p1 : Int32) (p2 : Int32) (p3 : Int32) : Bool :=
  k_Model_isFar_j61 p1 p2 p3 true
def k_Model_isFar_j39 (p1 : Int32) (p2 : Int32) (p3 : Int32) : Bool :=
  if p2 = 3 then (if p3 = 50 then (k_Model_isFar_j56 p1 p2 p3) else (if p3 = 52 then (k_Model_isFar_j56 p1 p2 p3) else (k_Model_isFar_j60 p1 p2 p3))) else (k_Model_isFar_j60 p1 p2 p3)
def k_Model_isFar_j22 (p1 : Int32) (p2 : Int32) (p3 : Int32) : Bool :=
  if p2 = 1 then (if p3 = 48 then (k_Model_isFar_j56 p1 p2 p3) else (if p3 = 50 then (k_Model_isFar_j56 p1 p2 p3) else (k_Model_isFar_j39 p1 p2 p3))) else (k_Model_isFar_j39 p1 p2 p3)
def k_Model_isFar (p1 : Int32) (p2 : Int32) (p3 : Int32) : Bool :=
  if p2 = 0 then (if p3 = 48 then (k_Model_isFar_j56 p1 p2 p3) else (if p3 = 50 then (k_Model_isFar_j56 p1 p2 p3) else (if p3 = 52 then (k_Model_isFar_j56 p1 p2 p3) else (k_Model_isFar_j22 p1 p2 p3)))) else (k_Model_isFar_j22 p1 p2 p3)
set_option maxHeartbeats 4000000 in
set_option maxRecDepth 100000 in
theorem c_Model_isFar (l : Launch) (G : gx) (tys : List (ClassId × FieldType)) (p1 : Int32) (p2 : Int32) (p3 : Int32) : ct_I l y_Model_isFar ws_Model_isFar ({ frames := 0, cells := 0, slots := 0, locals := 0 }) G tys [.int p1, .int p2, .int p3] [] (bI (k_Model_isFar p1 p2 p3)) [] := by
  refine ct_hI (cc := cc_Model_isFar) (maxL := 4) (ret := (some .boolean)) (by decide) rfl (Nat.le_of_ble_eq_true rfl) ?_
  intro p e s m below meth c A ls hx hb hr hml hts hown hlocks hP hK hD hA hE hS hl
  have hl : lv_has ls 4 [(0, .int p1), (1, .int p2), (2, .int p3)] := hl
  have hown : s.vm.findClass R_Model = some m.cls := hown
  have J61 : ∀ (t0 : Bool) (H : Heap) (locs : List Loc) (ls : Array Slot), k_Model_isFar p1 p2 p3 = k_Model_isFar_j61 p1 p2 p3 t0 → va_P G.1 vwCl [] H → va_D A [] → va_S A s.heap H locs → lv_has ls 4 [(0, .int p1), (1, .int p2), (2, .int p3)] → W p l e ({ frames := 0, cells := 0, slots := 0, locals := 0 }) s m ([.int p1, .int p2, .int p3] : List Value).toArray below meth c H locs 0 0 (MQ below (ct_qi G tys A (bI (k_Model_isFar p1 p2 p3)) []) ([.int p1, .int p2, .int p3] : List Value).toArray s 0 0 A) (F0 m 61 ls [.int (bI t0)]) := by
    intro t0 H locs ls hj hP hD hS hl
    refine lv_istore_n (lv' := [(3, .int (bI t0)), (0, .int p1), (1, .int p2), (2, .int p3)]) hx hb d_Model_isFar_61 rfl hl (by decide) rfl (fun ls hl => ?_)
    refine lv_iload_n hx hb d_Model_isFar_62 rfl (lv_at hl 0 rfl) ?_
    refine lv_if_ne (tgt := 88) hx hb d_Model_isFar_63 (by decide) (fun c_1144 => ?_) (fun c_1144 => ?_)
    · refine lv_iconst (v := 1) hx hb d_Model_isFar_88 (by decide) ?_
      refine lv_goto (tgt := 93) hx hb d_Model_isFar_89 (by decide) ?_
      have hk : k_Model_isFar p1 p2 p3 = true := (hj.trans (by rw [k_Model_isFar_j61]; rw [if_neg c_1144]; try rfl))
      exact ct_rz hx hb hr hlocks hP hD hK hS d_Model_isFar_93 rfl (by rw [hk]; first | done | rfl) rfl
    · refine lv_iload_n hx hb d_Model_isFar_66 rfl (lv_at hl 1 rfl) ?_
      refine lv_if_ne (tgt := 92) hx hb d_Model_isFar_67 (by decide) (fun c_1145 => ?_) (fun c_1145 => ?_)
      · refine lv_iconst (v := 0) hx hb d_Model_isFar_92 (by decide) ?_
        have hk : k_Model_isFar p1 p2 p3 = false := (hj.trans (by rw [k_Model_isFar_j61]; rw [if_pos c_1144]; rw [if_neg c_1145]; try rfl))
        exact ct_rz hx hb hr hlocks hP hD hK hS d_Model_isFar_93 rfl (by rw [hk]; first | done | rfl) rfl
      · refine lv_iload_n hx hb d_Model_isFar_70 rfl (lv_at hl 3 rfl) ?_
        refine lv_bipush (v := 49) hx hb d_Model_isFar_71 (by decide) ?_
        refine lv_icmp_eq (tgt := 88) hx hb d_Model_isFar_73 (by decide) (fun c_1146 => ?_) (fun c_1146 => ?_)
        · refine lv_iconst (v := 1) hx hb d_Model_isFar_88 (by decide) ?_
          refine lv_goto (tgt := 93) hx hb d_Model_isFar_89 (by decide) ?_
          have hk : k_Model_isFar p1 p2 p3 = true := (hj.trans (by rw [k_Model_isFar_j61]; rw [if_pos c_1144]; rw [if_pos c_1145]; rw [if_pos c_1146]; try rfl))
          exact ct_rz hx hb hr hlocks hP hD hK hS d_Model_isFar_93 rfl (by rw [hk]; first | done | rfl) rfl
        · refine lv_iload_n hx hb d_Model_isFar_76 rfl (lv_at hl 3 rfl) ?_
          refine lv_bipush (v := 51) hx hb d_Model_isFar_77 (by decide) ?_
          refine lv_icmp_eq (tgt := 88) hx hb d_Model_isFar_79 (by decide) (fun c_1147 => ?_) (fun c_1147 => ?_)
          · refine lv_iconst (v := 1) hx hb d_Model_isFar_88 (by decide) ?_
            refine lv_goto (tgt := 93) hx hb d_Model_isFar_89 (by decide) ?_
            have hk : k_Model_isFar p1 p2 p3 = true := (hj.trans (by rw [k_Model_isFar_j61]; rw [if_pos c_1144]; rw [if_pos c_1145]; rw [if_neg c_1146]; rw [if_pos c_1147]; try rfl))
            exact ct_rz hx hb hr hlocks hP hD hK hS d_Model_isFar_93 rfl (by rw [hk]; first | done | rfl) rfl
          · refine lv_iload_n hx hb d_Model_isFar_82 rfl (lv_at hl 3 rfl) ?_
            refine lv_bipush (v := 53) hx hb d_Model_isFar_83 (by decide) ?_
            refine lv_icmp_ne (tgt := 92) hx hb d_Model_isFar_85 (by decide) (fun c_1148 => ?_) (fun c_1148 => ?_)
            · refine lv_iconst (v := 0) hx hb d_Model_isFar_92 (by decide) ?_
              have hk : k_Model_isFar p1 p2 p3 = false := (hj.trans (by rw [k_Model_isFar_j61]; rw [if_pos c_1144]; rw [if_pos c_1145]; rw [if_neg c_1146]; rw [if_neg c_1147]; rw [if_neg c_1148]; try rfl))
              exact ct_rz hx hb hr hlocks hP hD hK hS d_Model_isFar_93 rfl (by rw [hk]; first | done | rfl) rfl
            · refine lv_iconst (v := 1) hx hb d_Model_isFar_88 (by decide) ?_
              refine lv_goto (tgt := 93) hx hb d_Model_isFar_89 (by decide) ?_
              have hk : k_Model_isFar p1 p2 p3 = true := (hj.trans (by rw [k_Model_isFar_j61]; rw [if_pos c_1144]; rw [if_pos c_1145]; rw [if_neg c_1146]; rw [if_neg c_1147]; rw [if_pos c_1148]; try rfl))
              exact ct_rz hx hb hr hlocks hP hD hK hS d_Model_isFar_93 rfl (by rw [hk]; first | done | rfl) rfl
  have J60 : ∀ (H : Heap) (locs : List Loc) (ls : Array Slot), k_Model_isFar p1 p2 p3 = k_Model_isFar_j60 p1 p2 p3 → va_P G.1 vwCl [] H → va_D A [] → va_S A s.heap H locs → lv_has ls 4 [(0, .int p1), (1, .int p2), (2, .int p3)] → W p l e ({ frames := 0, cells := 0, slots := 0, locals := 0 }) s m ([.int p1, .int p2, .int p3] : List Value).toArray below meth c H locs 0 0 (MQ below (ct_qi G tys A (bI (k_Model_isFar p1 p2 p3)) []) ([.int p1, .int p2, .int p3] : List Value).toArray s 0 0 A) (F0 m 60 ls []) := by
    intro H locs ls hj hP hD hS hl
    refine lv_iconst (v := 0) hx hb d_Model_isFar_60 (by decide) ?_
    exact J61 false H locs ls (hj.trans (by rw [k_Model_isFar_j60]; try rfl)) hP hD hS (lv_sub hl [0, 1, 2] rfl)
  have J56 : ∀ (H : Heap) (locs : List Loc) (ls : Array Slot), k_Model_isFar p1 p2 p3 = k_Model_isFar_j56 p1 p2 p3 → va_P G.1 vwCl [] H → va_D A [] → va_S A s.heap H locs → lv_has ls 4 [(0, .int p1), (1, .int p2), (2, .int p3)] → W p l e ({ frames := 0, cells := 0, slots := 0, locals := 0 }) s m ([.int p1, .int p2, .int p3] : List Value).toArray below meth c H locs 0 0 (MQ below (ct_qi G tys A (bI (k_Model_isFar p1 p2 p3)) []) ([.int p1, .int p2, .int p3] : List Value).toArray s 0 0 A) (F0 m 56 ls []) := by
    intro H locs ls hj hP hD hS hl
    refine lv_iconst (v := 1) hx hb d_Model_isFar_56 (by decide) ?_
    refine lv_goto (tgt := 61) hx hb d_Model_isFar_57 (by decide) ?_
    exact J61 true H locs ls (hj.trans (by rw [k_Model_isFar_j56]; try rfl)) hP hD hS (lv_sub hl [0, 1, 2] rfl)
  have J39 : ∀ (H : Heap) (locs : List Loc) (ls : Array Slot), k_Model_isFar p1 p2 p3 = k_Model_isFar_j39 p1 p2 p3 → va_P G.1 vwCl [] H → va_D A [] → va_S A s.heap H locs → lv_has ls 4 [(0, .int p1), (1, .int p2), (2, .int p3)] → W p l e ({ frames := 0, cells := 0, slots := 0, locals := 0 }) s m ([.int p1, .int p2, .int p3] : List Value).toArray below meth c H locs 0 0 (MQ below (ct_qi G tys A (bI (k_Model_isFar p1 p2 p3)) []) ([.int p1, .int p2, .int p3] : List Value).toArray s 0 0 A) (F0 m 39 ls []) := by
    intro H locs ls hj hP hD hS hl
    refine lv_iload_n hx hb d_Model_isFar_39 rfl (lv_at hl 1 rfl) ?_
    refine lv_iconst (v := 3) hx hb d_Model_isFar_40 (by decide) ?_
    refine lv_icmp_ne (tgt := 60) hx hb d_Model_isFar_41 (by decide) (fun c_1149 => ?_) (fun c_1149 => ?_)
    · exact J60 H locs ls (hj.trans (by rw [k_Model_isFar_j39]; rw [if_neg c_1149]; try rfl)) hP hD hS (lv_sub hl [0, 1, 2] rfl)
    · refine lv_iload_n hx hb d_Model_isFar_44 rfl (lv_at hl 2 rfl) ?_
      refine lv_bipush (v := 50) hx hb d_Model_isFar_45 (by decide) ?_
      refine lv_icmp_eq (tgt := 56) hx hb d_Model_isFar_47 (by decide) (fun c_1150 => ?_) (fun c_1150 => ?_)
      · exact J56 H locs ls (hj.trans (by rw [k_Model_isFar_j39]; rw [if_pos c_1149]; rw [if_pos c_1150]; try rfl)) hP hD hS (lv_sub hl [0, 1, 2] rfl)
      · refine lv_iload_n hx hb d_Model_isFar_50 rfl (lv_at hl 2 rfl) ?_
        refine lv_bipush (v := 52) hx hb d_Model_isFar_51 (by decide) ?_
        refine lv_icmp_ne (tgt := 60) hx hb d_Model_isFar_53 (by decide) (fun c_1151 => ?_) (fun c_1151 => ?_)
        · exact J60 H locs ls (hj.trans (by rw [k_Model_isFar_j39]; rw [if_pos c_1149]; rw [if_neg c_1150]; rw [if_neg c_1151]; try rfl)) hP hD hS (lv_sub hl [0, 1, 2] rfl)
        · exact J56 H locs ls (hj.trans (by rw [k_Model_isFar_j39]; rw [if_pos c_1149]; rw [if_neg c_1150]; rw [if_pos c_1151]; try rfl)) hP hD hS (lv_sub hl [0, 1, 2] rfl)
  have J22 : ∀ (H : Heap) (locs : List Loc) (ls : Array Slot), k_Model_isFar p1 p2 p3 = k_Model_isFar_j22 p1 p2 p3 → va_P G.1 vwCl [] H → va_D A [] → va_S A s.heap H locs → lv_has ls 4 [(0, .int p1), (1, .int p2), (2, .int p3)] → W p l e ({ frames := 0, cells := 0, slots := 0, locals := 0 }) s m ([.int p1, .int p2, .int p3] : List Value).toArray below meth c H locs 0 0 (MQ below (ct_qi G tys A (bI (k_Model_isFar p1 p2 p3)) []) ([.int p1, .int p2, .int p3] : List Value).toArray s 0 0 A) (F0 m 22 ls []) := by
    intro H locs ls hj hP hD hS hl
    refine lv_iload_n hx hb d_Model_isFar_22 rfl (lv_at hl 1 rfl) ?_
    refine lv_iconst (v := 1) hx hb d_Model_isFar_23 (by decide) ?_
    refine lv_icmp_ne (tgt := 39) hx hb d_Model_isFar_24 (by decide) (fun c_1152 => ?_) (fun c_1152 => ?_)
    · exact J39 H locs ls (hj.trans (by rw [k_Model_isFar_j22]; rw [if_neg c_1152]; try rfl)) hP hD hS (lv_sub hl [0, 1, 2] rfl)
    · refine lv_iload_n hx hb d_Model_isFar_27 rfl (lv_at hl 2 rfl) ?_
      refine lv_bipush (v := 48) hx hb d_Model_isFar_28 (by decide) ?_
      refine lv_icmp_eq (tgt := 56) hx hb d_Model_isFar_30 (by decide) (fun c_1153 => ?_) (fun c_1153 => ?_)
      · exact J56 H locs ls (hj.trans (by rw [k_Model_isFar_j22]; rw [if_pos c_1152]; rw [if_pos c_1153]; try rfl)) hP hD hS (lv_sub hl [0, 1, 2] rfl)
      · refine lv_iload_n hx hb d_Model_isFar_33 rfl (lv_at hl 2 rfl) ?_
        refine lv_bipush (v := 50) hx hb d_Model_isFar_34 (by decide) ?_
        refine lv_icmp_eq (tgt := 56) hx hb d_Model_isFar_36 (by decide) (fun c_1154 => ?_) (fun c_1154 => ?_)
        · exact J56 H locs ls (hj.trans (by rw [k_Model_isFar_j22]; rw [if_pos c_1152]; rw [if_neg c_1153]; rw [if_pos c_1154]; try rfl)) hP hD hS (lv_sub hl [0, 1, 2] rfl)
        · exact J39 H locs ls (hj.trans (by rw [k_Model_isFar_j22]; rw [if_pos c_1152]; rw [if_neg c_1153]; rw [if_neg c_1154]; try rfl)) hP hD hS (lv_sub hl [0, 1, 2] rfl)
  obtain ⟨H, eH⟩ : ∃ z, z = s.heap := ⟨_, rfl⟩
  obtain ⟨locs, eL⟩ : ∃ z, z = ([] : List Loc) := ⟨_, rfl⟩
  have hP : va_P G.1 vwCl [] H := by rw [eH]; exact hP
  have hS : va_S A s.heap H locs := by rw [eH, eL]; exact hS
  suffices hW : W p l e ({ frames := 0, cells := 0, slots := 0, locals := 0 }) s m ([.int p1, .int p2, .int p3] : List Value).toArray below meth c H locs 0 0 (MQ below (ct_qi G tys A (bI (k_Model_isFar p1 p2 p3)) []) ([.int p1, .int p2, .int p3] : List Value).toArray s 0 0 A) (F0 m 0 ls []) by rw [eH, eL] at hW; exact hW
  refine lv_iload_n hx hb d_Model_isFar_0 rfl (lv_at hl 1 rfl) ?_
  refine lv_if_ne (tgt := 22) hx hb d_Model_isFar_1 (by decide) (fun c_1155 => ?_) (fun c_1155 => ?_)
  · exact J22 H locs ls (by rw [k_Model_isFar]; rw [if_neg c_1155]; try rfl) hP hD hS (lv_sub hl [0, 1, 2] rfl)
  · refine lv_iload_n hx hb d_Model_isFar_4 rfl (lv_at hl 2 rfl) ?_
    refine lv_bipush (v := 48) hx hb d_Model_isFar_5 (by decide) ?_
    refine lv_icmp_eq (tgt := 56) hx hb d_Model_isFar_7 (by decide) (fun c_1156 => ?_) (fun c_1156 => ?_)
    · exact J56 H locs ls (by rw [k_Model_isFar]; rw [if_pos c_1155]; rw [if_pos c_1156]; try rfl) hP hD hS (lv_sub hl [0, 1, 2] rfl)
    · refine lv_iload_n hx hb d_Model_isFar_10 rfl (lv_at hl 2 rfl) ?_
      refine lv_bipush (v := 50) hx hb d_Model_isFar_11 (by decide) ?_
      refine lv_icmp_eq (tgt := 56) hx hb d_Model_isFar_13 (by decide) (fun c_1157 => ?_) (fun c_1157 => ?_)
      · exact J56 H locs ls (by rw [k_Model_isFar]; rw [if_pos c_1155]; rw [if_neg c_1156]; rw [if_pos c_1157]; try rfl) hP hD hS (lv_sub hl [0, 1, 2] rfl)
      · refine lv_iload_n hx hb d_Model_isFar_16 rfl (lv_at hl 2 rfl) ?_
        refine lv_bipush (v := 52) hx hb d_Model_isFar_17 (by decide) ?_
        refine lv_icmp_eq (tgt := 56) hx hb d_Model_isFar_19 (by decide) (fun c_1158 => ?_) (fun c_1158 => ?_)
        · exact J56 H locs ls (by rw [k_Model_isFar]; rw [if_pos c_1155]; rw [if_neg c_1156]; rw [if_neg c_1157]; rw [if_pos c_1158]; try rfl) hP hD hS (lv_sub hl [0, 1, 2] rfl)
        · exact J22 H locs ls (by rw [k_Model_isFar]; rw [if_pos c_1155]; rw [if_neg c_1156]; rw [if_neg c_1157]; rw [if_neg c_1158]; try rfl) hP hD hS (lv_sub hl [0, 1, 2] rfl)
