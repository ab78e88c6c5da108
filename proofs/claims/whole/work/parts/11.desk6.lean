def k_Desk_nothingUnless (sx : ob) (sc : ob) (sy : ob) (p1 : Int32) : Int32 × ob :=
  if (k_Desk_refusalOfSupervisorWord sx sc sy p1) = (-1) then (((k_Desk_goOn sx).1), ((k_Desk_goOn sx).2)) else ((k_Desk_refusalOfSupervisorWord sx sc sy p1), sx)
set_option maxHeartbeats 4000000 in
set_option maxRecDepth 100000 in
theorem c_Desk_nothingUnless (l : Launch) (G : gx) (tys : List (ClassId × FieldType)) (qx qc qy qo qr qhs qgs : Nat) (sx : ob) (sc : ob) (sy : ob) (p1 : Int32) : ct_I l y_Desk_nothingUnless ws_Desk_nothingUnless ({ frames := 2, cells := 0, slots := 0, locals := 42 }) G tys [.ref qx, .int p1] [(qx, .inr (5, f_Desk qc qo qr sx)), (qc, .inr (1, f_Controls qo qhs qgs qy sc)), (qy, .inr (2, f_Hyper sy))] ((k_Desk_nothingUnless sx sc sy p1).1) [(qx, .inr (5, f_Desk qc qo qr ((k_Desk_nothingUnless sx sc sy p1).2))), (qc, .inr (1, f_Controls qo qhs qgs qy sc)), (qy, .inr (2, f_Hyper sy))] := by
  refine ct_hI (cc := cc_Desk_nothingUnless) (maxL := 3) (ret := (some .int)) (by decide) rfl (Nat.le_of_ble_eq_true rfl) ?_
  intro p e s m below meth c A ls hx hb hr hml hts hown hlocks hP hK hD hA hE hS hl
  have hl : lv_has ls 3 [(0, .ref qx), (1, .int p1)] := hl
  have hown : s.vm.findClass R_Desk = some m.cls := hown
  refine lv_aload_n hx hb d_Desk_nothingUnless_0 rfl (lv_at hl 0 rfl) ?_
  refine lv_iload_n hx hb d_Desk_nothingUnless_1 rfl (lv_at hl 1 rfl) ?_
  refine ct_cVi (wr := []) (w1 := [(qx, .inr (5, f_Desk qc qo qr sx)), (qc, .inr (1, f_Controls qo qhs qgs qy sc)), (qy, .inr (2, f_Hyper sy))]) (w2 := [(qx, .inr (5, f_Desk qc qo qr sx)), (qc, .inr (1, f_Controls qo qhs qgs qy sc)), (qy, .inr (2, f_Hyper sy))]) (r := (k_Desk_refusalOfSupervisorWord sx sc sy p1)) (As := [.int p1]) (rest := []) (ci := 5) (q0 := 0) ⟨hx, hb, hml, hown, hts⟩ (c_Desk_refusalOfSupervisorWord l G tys qx qc qy qo qr qhs qgs sx sc sy p1) (cwV 1 hts (gdV gd_gd q_418 q_420 q_3 q_41 q_421) rfl rfl rfl (by decide +kernel) ⟨Nat.le_of_ble_eq_true rfl, Nat.le_of_ble_eq_true rfl⟩) hE hK hP hD hS hA [0, 1, 2] [] [0, 1, 2] rfl (by decide) rfl (by decide) (by decide) rfl (by decide) rfl rfl rfl hl.1 rfl (Nat.le_of_ble_eq_true rfl) d_Desk_nothingUnless_2 ⟨Nat.zero_le _, Nat.zero_le _⟩ (fun H locs hP hD hS => ?_)
  refine lv_istore_n (lv' := [(2, .int (k_Desk_refusalOfSupervisorWord sx sc sy p1)), (0, .ref qx), (1, .int p1)]) hx hb d_Desk_nothingUnless_5 rfl hl (by decide) rfl (fun ls hl => ?_)
  refine lv_iload_n hx hb d_Desk_nothingUnless_6 rfl (lv_at hl 0 rfl) ?_
  refine lv_iconst (v := (-1)) hx hb d_Desk_nothingUnless_7 (by decide) ?_
  refine lv_icmp_ne (tgt := 18) hx hb d_Desk_nothingUnless_8 (by decide) (fun c_347 => ?_) (fun c_347 => ?_)
  · refine lv_iload_n hx hb d_Desk_nothingUnless_18 rfl (lv_at hl 0 rfl) ?_
    have hk : k_Desk_nothingUnless sx sc sy p1 = ((k_Desk_refusalOfSupervisorWord sx sc sy p1), sx) := (by rw [k_Desk_nothingUnless]; rw [if_neg c_347]; try rfl)
    exact ct_ri hx hb hr hlocks hP hD hK hS d_Desk_nothingUnless_19 (by rw [hk]; first | done | rfl) (by rw [hk]; first | done | rfl)
  · refine lv_aload_n hx hb d_Desk_nothingUnless_11 rfl (lv_at hl 1 rfl) ?_
    obtain ⟨r_348, er_348⟩ : ∃ z, z = (k_Desk_goOn sx).1 := ⟨_, rfl⟩
    obtain ⟨sx_349, esx_349⟩ : ∃ z, z = (k_Desk_goOn sx).2 := ⟨_, rfl⟩
    have hM := c_Desk_goOn l G tys qx qc qo qr sx
    rw [← er_348, ← esx_349] at hM
    refine ct_cVi (wr := [(qc, .inr (1, f_Controls qo qhs qgs qy sc)), (qy, .inr (2, f_Hyper sy))]) (w1 := [(qx, .inr (5, f_Desk qc qo qr sx_349))]) (w2 := [(qx, .inr (5, f_Desk qc qo qr sx_349)), (qc, .inr (1, f_Controls qo qhs qgs qy sc)), (qy, .inr (2, f_Hyper sy))]) (r := r_348) (As := []) (rest := []) (ci := 5) (q0 := 0) ⟨hx, hb, hml, hown, hts⟩ hM (cwV 0 hts (gdV gd_gd q_426 q_428 q_4 q_41 q_429) rfl rfl rfl (by decide +kernel) ⟨Nat.le_of_ble_eq_true rfl, Nat.le_of_ble_eq_true rfl⟩) hE hK hP hD hS hA [0] [1, 2] [2, 0, 1] rfl (by decide) rfl (by decide) (by decide) rfl (by decide) rfl rfl rfl hl.1 rfl (Nat.le_of_ble_eq_true rfl) d_Desk_nothingUnless_12 ⟨Nat.zero_le _, Nat.zero_le _⟩ (fun H locs hP hD hS => ?_)
    refine lv_goto (tgt := 19) hx hb d_Desk_nothingUnless_15 (by decide) ?_
    have hk : k_Desk_nothingUnless sx sc sy p1 = (r_348, sx_349) := (by rw [k_Desk_nothingUnless]; rw [if_pos c_347]; try rw [← er_348]; try rw [← esx_349]; try rfl)
    exact ct_ri hx hb hr hlocks hP hD hK hS d_Desk_nothingUnless_19 (by rw [hk]; first | done | rfl) (by rw [hk]; first | done | rfl)
def k_Desk_hypervisorFence (sx : ob) : Int32 × ob :=
  if (bI (k_Desk_isVirtual sx)) = 0 then (if (sx.1 3) = 0 then (2, sx) else (((k_Desk_goOn sx).1), ((k_Desk_goOn sx).2))) else (22, sx)
set_option maxHeartbeats 4000000 in
set_option maxRecDepth 100000 in
theorem c_Desk_hypervisorFence (l : Launch) (G : gx) (tys : List (ClassId × FieldType)) (qx qc qo qr : Nat) (sx : ob) : ct_I l y_Desk_hypervisorFence ws_Desk_hypervisorFence ({ frames := 1, cells := 0, slots := 0, locals := 20 }) G tys [.ref qx] [(qx, .inr (5, f_Desk qc qo qr sx))] ((k_Desk_hypervisorFence sx).1) [(qx, .inr (5, f_Desk qc qo qr ((k_Desk_hypervisorFence sx).2)))] := by
  refine ct_hI (cc := cc_Desk_hypervisorFence) (maxL := 1) (ret := (some .int)) (by decide) rfl (Nat.le_of_ble_eq_true rfl) ?_
  intro p e s m below meth c A ls hx hb hr hml hts hown hlocks hP hK hD hA hE hS hl
  have hl : lv_has ls 1 [(0, .ref qx)] := hl
  have hown : s.vm.findClass R_Desk = some m.cls := hown
  refine lv_aload_n hx hb d_Desk_hypervisorFence_0 rfl (lv_at hl 0 rfl) ?_
  refine ct_cVi (wr := []) (w1 := [(qx, .inr (5, f_Desk qc qo qr sx))]) (w2 := [(qx, .inr (5, f_Desk qc qo qr sx))]) (r := (bI (k_Desk_isVirtual sx))) (As := []) (rest := []) (ci := 5) (q0 := 0) ⟨hx, hb, hml, hown, hts⟩ (c_Desk_isVirtual l G tys qx qc qo qr sx) (cwV 0 hts (gdV gd_gd q_434 q_436 q_6 q_41 q_437) rfl rfl rfl (by decide +kernel) ⟨Nat.le_of_ble_eq_true rfl, Nat.le_of_ble_eq_true rfl⟩) hE hK hP hD hS hA [0] [] [0] rfl (by decide) rfl (by decide) (by decide) rfl (by decide) rfl rfl rfl hl.1 rfl (Nat.le_of_ble_eq_true rfl) d_Desk_hypervisorFence_1 ⟨Nat.zero_le _, Nat.zero_le _⟩ (fun H locs hP hD hS => ?_)
  refine lv_if_eq (tgt := 10) hx hb d_Desk_hypervisorFence_4 (by decide) (fun c_357 => ?_) (fun c_357 => ?_)
  · refine lv_aload_n hx hb d_Desk_hypervisorFence_10 rfl (lv_at hl 0 rfl) ?_
    refine va_get (D := G.1) (ci := 5) (v := .int (sx.1 3)) (C := R_Desk) (T := T_Desk) (N := 8) hx hb hts (fun w h => gd_sub _ (iw_Desk w h)) hown hK hP 0 rfl rfl 3 (by decide) (hts _ (gd_sub _ q_208)) (fun _ h9 => h9) rfl d_Desk_hypervisorFence_11 ?_
    refine lv_if_ne (tgt := 21) hx hb d_Desk_hypervisorFence_14 (by decide) (fun c_358 => ?_) (fun c_358 => ?_)
    · refine lv_aload_n hx hb d_Desk_hypervisorFence_21 rfl (lv_at hl 0 rfl) ?_
      obtain ⟨r_359, er_359⟩ : ∃ z, z = (k_Desk_goOn sx).1 := ⟨_, rfl⟩
      obtain ⟨sx_360, esx_360⟩ : ∃ z, z = (k_Desk_goOn sx).2 := ⟨_, rfl⟩
      have hM := c_Desk_goOn l G tys qx qc qo qr sx
      rw [← er_359, ← esx_360] at hM
      refine ct_cVi (wr := []) (w1 := [(qx, .inr (5, f_Desk qc qo qr sx_360))]) (w2 := [(qx, .inr (5, f_Desk qc qo qr sx_360))]) (r := r_359) (As := []) (rest := []) (ci := 5) (q0 := 0) ⟨hx, hb, hml, hown, hts⟩ hM (cwV 0 hts (gdV gd_gd q_426 q_428 q_4 q_41 q_429) rfl rfl rfl (by decide +kernel) ⟨Nat.le_of_ble_eq_true rfl, Nat.le_of_ble_eq_true rfl⟩) hE hK hP hD hS hA [0] [] [0] rfl (by decide) rfl (by decide) (by decide) rfl (by decide) rfl rfl rfl hl.1 rfl (Nat.le_of_ble_eq_true rfl) d_Desk_hypervisorFence_22 ⟨Nat.zero_le _, Nat.zero_le _⟩ (fun H locs hP hD hS => ?_)
      have hk : k_Desk_hypervisorFence sx = (r_359, sx_360) := (by rw [k_Desk_hypervisorFence]; rw [if_pos c_357]; rw [if_neg c_358]; try rw [← er_359]; try rw [← esx_360]; try rfl)
      exact ct_ri hx hb hr hlocks hP hD hK hS d_Desk_hypervisorFence_25 (by rw [hk]; first | done | rfl) (by rw [hk]; first | done | rfl)
    · refine lv_iconst (v := 2) hx hb d_Desk_hypervisorFence_17 (by decide) ?_
      refine lv_goto (tgt := 25) hx hb d_Desk_hypervisorFence_18 (by decide) ?_
      have hk : k_Desk_hypervisorFence sx = (2, sx) := (by rw [k_Desk_hypervisorFence]; rw [if_pos c_357]; rw [if_pos c_358]; try rfl)
      exact ct_ri hx hb hr hlocks hP hD hK hS d_Desk_hypervisorFence_25 (by rw [hk]; first | done | rfl) (by rw [hk]; first | done | rfl)
  · refine lv_bipush (v := 22) hx hb d_Desk_hypervisorFence_7 (by decide) ?_
    have hk : k_Desk_hypervisorFence sx = (22, sx) := (by rw [k_Desk_hypervisorFence]; rw [if_neg c_357]; try rfl)
    exact ct_ri hx hb hr hlocks hP hD hK hS d_Desk_hypervisorFence_9 (by rw [hk]; first | done | rfl) (by rw [hk]; first | done | rfl)
def k_Outside_setAlarm (so : ob) (p1 : Int32) (p2 : Int32) : ob :=
  if 0 ≤ p2 then (ol so 3 ((lsh p2.toInt64 32) ||| (p1.toInt64 &&& 4294967295))) else (ol so 3 9223372036854775807)
set_option maxHeartbeats 4000000 in
set_option maxRecDepth 100000 in
theorem c_Outside_setAlarm (l : Launch) (G : gx) (tys : List (ClassId × FieldType)) (qo qa : Nat) (so : ob) (p1 : Int32) (p2 : Int32) : ct_V l y_Outside_setAlarm ws_Outside_setAlarm ({ frames := 0, cells := 0, slots := 0, locals := 0 }) G tys [.ref qo, .int p1, .int p2] [(qo, .inr (3, f_Outside qa so))] [(qo, .inr (3, f_Outside qa (k_Outside_setAlarm so p1 p2)))] := by
  refine ct_hV (cc := cc_Outside_setAlarm) (maxL := 3) (ret := none) (by decide) rfl (Nat.le_of_ble_eq_true rfl) ?_
  intro p e s m below meth c A ls hx hb hr hml hts hown hlocks hP hK hD hA hE hS hl
  have hl : lv_has ls 3 [(0, .ref qo), (1, .int p1), (2, .int p2)] := hl
  have hown : s.vm.findClass R_Outside = some m.cls := hown
  refine lv_iload_n hx hb d_Outside_setAlarm_0 rfl (lv_at hl 2 rfl) ?_
  refine lv_if_ge (tgt := 14) hx hb d_Outside_setAlarm_1 (by decide) (fun c_372 => ?_) (fun c_372 => ?_)
  · refine lv_aload_n hx hb d_Outside_setAlarm_14 rfl (lv_at hl 0 rfl) ?_
    refine lv_iload_n hx hb d_Outside_setAlarm_15 rfl (lv_at hl 2 rfl) ?_
    refine lv_i2l (v := p2.toInt64) hx hb d_Outside_setAlarm_16 rfl ?_
    refine lv_bipush (v := 32) hx hb d_Outside_setAlarm_17 (by decide) ?_
    refine lv_lshl (v := (lsh p2.toInt64 32)) hx hb d_Outside_setAlarm_19 rfl ?_
    refine lv_iload_n hx hb d_Outside_setAlarm_20 rfl (lv_at hl 1 rfl) ?_
    refine lv_i2l (v := p1.toInt64) hx hb d_Outside_setAlarm_21 rfl ?_
    refine lv_ldc2 (v := 4294967295) hx hb hown (hts _ (gd_sub _ q_457)) d_Outside_setAlarm_22 ?_
    refine lv_land hx hb d_Outside_setAlarm_25 ?_
    refine lv_lor hx hb d_Outside_setAlarm_26 ?_
    refine va_put (D := G.1) (ci := 3) (v := .long ((lsh p2.toInt64 32) ||| (p1.toInt64 &&& 4294967295))) (ty := .long) (C := R_Outside) (T := T_Outside) (N := 6) hx hb hts (fun w h => gd_sub _ (iw_Outside w h)) ty_Outside tyok_Outside nm_Outside hown hK hP hD hS 0 rfl rfl 3 (by decide) (hts _ (gd_sub _ q_76)) (fun _ h9 => h9) rfl (by decide +kernel) rfl rfl (Nat.le_of_ble_eq_true rfl) d_Outside_setAlarm_27 (fun H locs hP hD hS => ?_)
    have hP : va_P G.1 vwCl [(qo, .inr (3, f_Outside qa (ol so 3 ((lsh p2.toInt64 32) ||| (p1.toInt64 &&& 4294967295)))))] H := hP
    have hD : va_D A [(qo, .inr (3, f_Outside qa (ol so 3 ((lsh p2.toInt64 32) ||| (p1.toInt64 &&& 4294967295)))))] := hD
    have hk : k_Outside_setAlarm so p1 p2 = (ol so 3 ((lsh p2.toInt64 32) ||| (p1.toInt64 &&& 4294967295))) := (by rw [k_Outside_setAlarm]; rw [if_pos c_372]; try rfl)
    exact ct_rv hx hb hr hlocks hP hD hK hS d_Outside_setAlarm_30 (by rw [hk]; first | done | rfl)
  · refine lv_aload_n hx hb d_Outside_setAlarm_4 rfl (lv_at hl 0 rfl) ?_
    refine lv_ldc2 (v := 9223372036854775807) hx hb hown (hts _ (gd_sub _ q_69)) d_Outside_setAlarm_5 ?_
    refine va_put (D := G.1) (ci := 3) (v := .long 9223372036854775807) (ty := .long) (C := R_Outside) (T := T_Outside) (N := 6) hx hb hts (fun w h => gd_sub _ (iw_Outside w h)) ty_Outside tyok_Outside nm_Outside hown hK hP hD hS 0 rfl rfl 3 (by decide) (hts _ (gd_sub _ q_76)) (fun _ h9 => h9) rfl (by decide +kernel) rfl rfl (Nat.le_of_ble_eq_true rfl) d_Outside_setAlarm_8 (fun H locs hP hD hS => ?_)
    have hP : va_P G.1 vwCl [(qo, .inr (3, f_Outside qa (ol so 3 9223372036854775807)))] H := hP
    have hD : va_D A [(qo, .inr (3, f_Outside qa (ol so 3 9223372036854775807)))] := hD
    refine lv_goto (tgt := 30) hx hb d_Outside_setAlarm_11 (by decide) ?_
    have hk : k_Outside_setAlarm so p1 p2 = (ol so 3 9223372036854775807) := (by rw [k_Outside_setAlarm]; rw [if_neg c_372]; try rfl)
    exact ct_rv hx hb hr hlocks hP hD hK hS d_Outside_setAlarm_30 (by rw [hk]; first | done | rfl)
def k_Outside_print (so : ob) (sa : Nat → Int32) (p1 : Int32) : ob × (Nat → Int32) :=
  if 256 ≤ (so.1 1) then (so, sa) else ((oi so 1 ((so.1 1) + 1)), (upd sa (so.1 1).toNatClampNeg (vp_nar .byte p1.toInt8.toInt32)))
set_option maxHeartbeats 4000000 in
set_option maxRecDepth 100000 in
theorem c_Outside_print (l : Launch) (G : gx) (tys : List (ClassId × FieldType)) {cA : ClassId} (ht : tys[0]? = some (cA, .byte)) (qo qa : Nat) (so : ob) (sa : Nat → Int32) (p1 : Int32) (hp9 : ¬ so.1 1 < 0) : ct_V l y_Outside_print ws_Outside_print ({ frames := 0, cells := 0, slots := 0, locals := 0 }) G tys [.ref qo, .int p1] [(qo, .inr (3, f_Outside qa so)), (qa, .inl (cA, 256, .inl sa))] [(qo, .inr (3, f_Outside qa ((k_Outside_print so sa p1).1))), (qa, .inl (cA, 256, .inl ((k_Outside_print so sa p1).2)))] := by
  refine ct_hV (cc := cc_Outside_print) (maxL := 2) (ret := none) (by decide) rfl (Nat.le_of_ble_eq_true rfl) ?_
  intro p e s m below meth c A ls hx hb hr hml hts hown hlocks hP hK hD hA hE hS hl
  have hl : lv_has ls 2 [(0, .ref qo), (1, .int p1)] := hl
  have hown : s.vm.findClass R_Outside = some m.cls := hown
  refine lv_aload_n hx hb d_Outside_print_0 rfl (lv_at hl 0 rfl) ?_
  refine va_get (D := G.1) (ci := 3) (v := .int (so.1 1)) (C := R_Outside) (T := T_Outside) (N := 6) hx hb hts (fun w h => gd_sub _ (iw_Outside w h)) hown hK hP 0 rfl rfl 1 (by decide) (hts _ (gd_sub _ q_71)) (fun _ h9 => h9) rfl d_Outside_print_1 ?_
  refine lv_aload_n hx hb d_Outside_print_4 rfl (lv_at hl 0 rfl) ?_
  refine va_get (D := G.1) (ci := 3) (v := .ref qa) (C := R_Outside) (T := T_Outside) (N := 6) hx hb hts (fun w h => gd_sub _ (iw_Outside w h)) hown hK hP 0 rfl rfl 0 (by decide) (hts _ (gd_sub _ q_70)) (fun _ h9 => h9) rfl d_Outside_print_5 ?_
  refine va_alen (v := 256) hx hb hK hP 1 0 rfl ht rfl d_Outside_print_8 ?_
  refine lv_icmp_ge (tgt := 33) hx hb d_Outside_print_9 (by decide) (fun c_376 => ?_) (fun c_376 => ?_)
  · have hk : k_Outside_print so sa p1 = (so, sa) := (by rw [k_Outside_print]; rw [if_pos c_376]; try rfl)
    exact ct_rv hx hb hr hlocks hP hD hK hS d_Outside_print_33 (by rw [hk]; first | done | rfl)
  · refine lv_aload_n hx hb d_Outside_print_12 rfl (lv_at hl 0 rfl) ?_
    refine va_get (D := G.1) (ci := 3) (v := .ref qa) (C := R_Outside) (T := T_Outside) (N := 6) hx hb hts (fun w h => gd_sub _ (iw_Outside w h)) hown hK hP 0 rfl rfl 0 (by decide) (hts _ (gd_sub _ q_70)) (fun _ h9 => h9) rfl d_Outside_print_13 ?_
    refine lv_aload_n hx hb d_Outside_print_16 rfl (lv_at hl 0 rfl) ?_
    refine va_get (D := G.1) (ci := 3) (v := .int (so.1 1)) (C := R_Outside) (T := T_Outside) (N := 6) hx hb hts (fun w h => gd_sub _ (iw_Outside w h)) hown hK hP 0 rfl rfl 1 (by decide) (hts _ (gd_sub _ q_71)) (fun _ h9 => h9) rfl d_Outside_print_17 ?_
    refine lv_iload_n hx hb d_Outside_print_20 rfl (lv_at hl 1 rfl) ?_
    refine lv_i2b (v := p1.toInt8.toInt32) hx hb d_Outside_print_21 rfl ?_
    refine va_bast hx hb hK hP hD hS 1 0 rfl ht (in256 hp9 c_376) d_Outside_print_22 (fun H locs hP hD hS => ?_)
    have hP : va_P G.1 vwCl [(qo, .inr (3, f_Outside qa so)), (qa, .inl (cA, 256, .inl (upd sa (so.1 1).toNatClampNeg (vp_nar .byte p1.toInt8.toInt32))))] H := hP
    have hD : va_D A [(qo, .inr (3, f_Outside qa so)), (qa, .inl (cA, 256, .inl (upd sa (so.1 1).toNatClampNeg (vp_nar .byte p1.toInt8.toInt32))))] := hD
    refine lv_aload_n hx hb d_Outside_print_23 rfl (lv_at hl 0 rfl) ?_
    refine lv_dup hx hb d_Outside_print_24 rfl ?_
    refine va_get (D := G.1) (ci := 3) (v := .int (so.1 1)) (C := R_Outside) (T := T_Outside) (N := 6) hx hb hts (fun w h => gd_sub _ (iw_Outside w h)) hown hK hP 0 rfl rfl 1 (by decide) (hts _ (gd_sub _ q_71)) (fun _ h9 => h9) rfl d_Outside_print_25 ?_
    refine lv_iconst (v := 1) hx hb d_Outside_print_28 (by decide) ?_
    refine lv_iadd hx hb d_Outside_print_29 ?_
    refine va_put (D := G.1) (ci := 3) (v := .int ((so.1 1) + 1)) (ty := .int) (C := R_Outside) (T := T_Outside) (N := 6) hx hb hts (fun w h => gd_sub _ (iw_Outside w h)) ty_Outside tyok_Outside nm_Outside hown hK hP hD hS 0 rfl rfl 1 (by decide) (hts _ (gd_sub _ q_71)) (fun _ h9 => h9) rfl (by decide +kernel) rfl rfl (Nat.le_of_ble_eq_true rfl) d_Outside_print_30 (fun H locs hP hD hS => ?_)
    have hP : va_P G.1 vwCl [(qo, .inr (3, f_Outside qa (oi so 1 ((so.1 1) + 1)))), (qa, .inl (cA, 256, .inl (upd sa (so.1 1).toNatClampNeg (vp_nar .byte p1.toInt8.toInt32))))] H := hP
    have hD : va_D A [(qo, .inr (3, f_Outside qa (oi so 1 ((so.1 1) + 1)))), (qa, .inl (cA, 256, .inl (upd sa (so.1 1).toNatClampNeg (vp_nar .byte p1.toInt8.toInt32))))] := hD
    have hk : k_Outside_print so sa p1 = ((oi so 1 ((so.1 1) + 1)), (upd sa (so.1 1).toNatClampNeg (vp_nar .byte p1.toInt8.toInt32))) := (by rw [k_Outside_print]; rw [if_neg c_376]; try rfl)
    exact ct_rv hx hb hr hlocks hP hD hK hS d_Outside_print_33 (by rw [hk]; first | done | rfl)
def k_Outside_serve (so : ob) (sa : Nat → Int32) (p1 : Int32) (p2 : Int32) (p3 : Int32) : Int32 × ob × (Nat → Int32) :=
  if p1 = 0 then (0, ((k_Outside_setAlarm so p2 p3)), sa) else if p1 = 1 then (0, ((k_Outside_print so sa p2).1), ((k_Outside_print so sa p2).2)) else if p1 = 8 then (0, (oz so 5 true), sa) else ((-2), so, sa)
set_option maxHeartbeats 4000000 in
set_option maxRecDepth 100000 in
theorem c_Outside_serve (l : Launch) (G : gx) (tys : List (ClassId × FieldType)) {cA : ClassId} (ht : tys[0]? = some (cA, .byte)) (qo qa : Nat) (so : ob) (sa : Nat → Int32) (p1 : Int32) (p2 : Int32) (p3 : Int32) (hp9 : ¬ so.1 1 < 0) : ct_I l y_Outside_serve ws_Outside_serve ({ frames := 1, cells := 0, slots := 0, locals := 22 }) G tys [.ref qo, .int p1, .int p2, .int p3] [(qo, .inr (3, f_Outside qa so)), (qa, .inl (cA, 256, .inl sa))] ((k_Outside_serve so sa p1 p2 p3).1) [(qo, .inr (3, f_Outside qa ((k_Outside_serve so sa p1 p2 p3).2.1))), (qa, .inl (cA, 256, .inl ((k_Outside_serve so sa p1 p2 p3).2.2)))] := by
  refine ct_hI (cc := cc_Outside_serve) (maxL := 4) (ret := (some .int)) (by decide) rfl (Nat.le_of_ble_eq_true rfl) ?_
  intro p e s m below meth c A ls hx hb hr hml hts hown hlocks hP hK hD hA hE hS hl
  have hl : lv_has ls 4 [(0, .ref qo), (1, .int p1), (2, .int p2), (3, .int p3)] := hl
  have hown : s.vm.findClass R_Outside = some m.cls := hown
  refine lv_iload_n hx hb d_Outside_serve_0 rfl (lv_at hl 1 rfl) ?_
  by_cases c_380 : p1 = 0
  · refine lv_lookup (off := 35) (tgt := 36) hx hb d_Outside_serve_1 (by decide) (by rw [c_380]; decide) (by decide) ?_
    refine lv_aload_n hx hb d_Outside_serve_36 rfl (lv_at hl 0 rfl) ?_
    refine lv_iload_n hx hb d_Outside_serve_37 rfl (lv_at hl 2 rfl) ?_
    refine lv_iload_n hx hb d_Outside_serve_38 rfl (lv_at hl 3 rfl) ?_
    obtain ⟨so_381, eso_381⟩ : ∃ z, z = (k_Outside_setAlarm so p2 p3) := ⟨_, rfl⟩
    have hM := c_Outside_setAlarm l G tys qo qa so p2 p3
    rw [← eso_381] at hM
    refine ct_cVv (wr := [(qa, .inl (cA, 256, .inl sa))]) (w1 := [(qo, .inr (3, f_Outside qa so_381))]) (w2 := [(qo, .inr (3, f_Outside qa so_381)), (qa, .inl (cA, 256, .inl sa))]) (As := [.int p2, .int p3]) (rest := []) (ci := 3) (q0 := 0) ⟨hx, hb, hml, hown, hts⟩ hM (cwV 2 hts (gdV gd_gd q_453 q_454 q_455 q_43 q_456) rfl rfl rfl (by decide +kernel) ⟨Nat.le_of_ble_eq_true rfl, Nat.le_of_ble_eq_true rfl⟩) hE hK hP hD hS hA [0] [1] [1, 0] rfl (by decide) rfl (by decide) (by decide) rfl (by decide) rfl rfl rfl hl.1 rfl (Nat.le_of_ble_eq_true rfl) d_Outside_serve_39 ⟨Nat.zero_le _, Nat.zero_le _⟩ (fun H locs hP hD hS => ?_)
    refine lv_iconst (v := 0) hx hb d_Outside_serve_42 (by decide) ?_
    have hk : k_Outside_serve so sa p1 p2 p3 = (0, so_381, sa) := (by rw [k_Outside_serve]; rw [if_pos c_380]; try rw [← eso_381]; try rfl)
    exact ct_ri hx hb hr hlocks hP hD hK hS d_Outside_serve_43 (by rw [hk]; first | done | rfl) (by rw [hk]; first | done | rfl)
  · by_cases c_382 : p1 = 1
    · refine lv_lookup (off := 43) (tgt := 44) hx hb d_Outside_serve_1 (by decide) (by rw [c_382]; decide) (by decide) ?_
      refine lv_aload_n hx hb d_Outside_serve_44 rfl (lv_at hl 0 rfl) ?_
      refine lv_iload_n hx hb d_Outside_serve_45 rfl (lv_at hl 2 rfl) ?_
      obtain ⟨so_383, eso_383⟩ : ∃ z, z = (k_Outside_print so sa p2).1 := ⟨_, rfl⟩
      obtain ⟨sa_384, esa_384⟩ : ∃ z, z = (k_Outside_print so sa p2).2 := ⟨_, rfl⟩
      have hM := c_Outside_print l G tys ht qo qa so sa p2 hp9
      rw [← eso_383, ← esa_384] at hM
      refine ct_cVv (wr := []) (w1 := [(qo, .inr (3, f_Outside qa so_383)), (qa, .inl (cA, 256, .inl sa_384))]) (w2 := [(qo, .inr (3, f_Outside qa so_383)), (qa, .inl (cA, 256, .inl sa_384))]) (As := [.int p2]) (rest := []) (ci := 3) (q0 := 0) ⟨hx, hb, hml, hown, hts⟩ hM (cwV 1 hts (gdV gd_gd q_458 q_459 q_460 q_43 q_461) rfl rfl rfl (by decide +kernel) ⟨Nat.le_of_ble_eq_true rfl, Nat.le_of_ble_eq_true rfl⟩) hE hK hP hD hS hA [0, 1] [] [0, 1] rfl (by decide) rfl (by decide) (by decide) rfl (by decide) rfl rfl rfl hl.1 rfl (Nat.le_of_ble_eq_true rfl) d_Outside_serve_46 ⟨Nat.zero_le _, Nat.zero_le _⟩ (fun H locs hP hD hS => ?_)
      refine lv_iconst (v := 0) hx hb d_Outside_serve_49 (by decide) ?_
      have hk : k_Outside_serve so sa p1 p2 p3 = (0, so_383, sa_384) := (by rw [k_Outside_serve]; rw [if_neg c_380]; rw [if_pos c_382]; try rw [← eso_383]; try rw [← esa_384]; try rfl)
      exact ct_ri hx hb hr hlocks hP hD hK hS d_Outside_serve_50 (by rw [hk]; first | done | rfl) (by rw [hk]; first | done | rfl)
    · by_cases c_385 : p1 = 8
      · refine lv_lookup (off := 50) (tgt := 51) hx hb d_Outside_serve_1 (by decide) (by rw [c_385]; decide) (by decide) ?_
        refine lv_aload_n hx hb d_Outside_serve_51 rfl (lv_at hl 0 rfl) ?_
        refine lv_iconst (v := 1) hx hb d_Outside_serve_52 (by decide) ?_
        refine va_put (D := G.1) (ci := 3) (v := .int 1) (ty := .boolean) (C := R_Outside) (T := T_Outside) (N := 6) hx hb hts (fun w h => gd_sub _ (iw_Outside w h)) ty_Outside tyok_Outside nm_Outside hown hK hP hD hS 0 rfl rfl 5 (by decide) (hts _ (gd_sub _ q_81)) (fun _ h9 => h9) rfl (by decide +kernel) rfl rfl (Nat.le_of_ble_eq_true rfl) d_Outside_serve_53 (fun H locs hP hD hS => ?_)
        have hP : va_P G.1 vwCl [(qo, .inr (3, f_Outside qa (oz so 5 true))), (qa, .inl (cA, 256, .inl sa))] H := hP
        have hD : va_D A [(qo, .inr (3, f_Outside qa (oz so 5 true))), (qa, .inl (cA, 256, .inl sa))] := hD
        refine lv_iconst (v := 0) hx hb d_Outside_serve_56 (by decide) ?_
        have hk : k_Outside_serve so sa p1 p2 p3 = (0, (oz so 5 true), sa) := (by rw [k_Outside_serve]; rw [if_neg c_380]; rw [if_neg c_382]; rw [if_pos c_385]; try rfl)
        exact ct_ri hx hb hr hlocks hP hD hK hS d_Outside_serve_57 (by rw [hk]; first | done | rfl) (by rw [hk]; first | done | rfl)
      · refine lv_lookup (off := 57) (tgt := 58) hx hb d_Outside_serve_1 (by decide) ((lv_osw c_380 (by decide)).trans ((lv_osw c_382 (by decide)).trans ((lv_osw c_385 (by decide)).trans rfl))) (by decide) ?_
        refine lv_bipush (v := (-2)) hx hb d_Outside_serve_58 (by decide) ?_
        have hk : k_Outside_serve so sa p1 p2 p3 = ((-2), so, sa) := (by rw [k_Outside_serve]; rw [if_neg c_380]; rw [if_neg c_382]; rw [if_neg c_385]; try rfl)
        exact ct_ri hx hb hr hlocks hP hD hK hS d_Outside_serve_60 (by rw [hk]; first | done | rfl) (by rw [hk]; first | done | rfl)
def k_Desk_environmentCall (sx : ob) (so : ob) (sa : Nat → Int32) (sr : ob) : Int32 × ob × ob × (Nat → Int32) × ob :=
  if (sx.1 3) = 3 then (10, sx, so, sa, sr) else (if (sx.1 3) = 1 then (((k_Desk_goOn sx).1), ((k_Desk_goOn sx).2), ((k_Outside_serve so sa (sr.1 2) (sr.1 0) (sr.1 1)).2.1), ((k_Outside_serve so sa (sr.1 2) (sr.1 0) (sr.1 1)).2.2), (oi sr 0 ((k_Outside_serve so sa (sr.1 2) (sr.1 0) (sr.1 1)).1))) else (8, sx, so, sa, sr))
set_option maxHeartbeats 4000000 in
set_option maxRecDepth 100000 in
theorem c_Desk_environmentCall (l : Launch) (G : gx) (tys : List (ClassId × FieldType)) {cA : ClassId} (ht : tys[0]? = some (cA, .byte)) (qx qo qa qr qc : Nat) (sx : ob) (so : ob) (sa : Nat → Int32) (sr : ob) (hp9 : ¬ so.1 1 < 0) : ct_I l y_Desk_environmentCall ws_Desk_environmentCall ({ frames := 2, cells := 0, slots := 0, locals := 45 }) G tys [.ref qx] [(qx, .inr (5, f_Desk qc qo qr sx)), (qo, .inr (3, f_Outside qa so)), (qa, .inl (cA, 256, .inl sa)), (qr, .inr (4, f_Registers sr))] ((k_Desk_environmentCall sx so sa sr).1) [(qx, .inr (5, f_Desk qc qo qr ((k_Desk_environmentCall sx so sa sr).2.1))), (qo, .inr (3, f_Outside qa ((k_Desk_environmentCall sx so sa sr).2.2.1))), (qa, .inl (cA, 256, .inl ((k_Desk_environmentCall sx so sa sr).2.2.2.1))), (qr, .inr (4, f_Registers ((k_Desk_environmentCall sx so sa sr).2.2.2.2)))] := by
  refine ct_hI (cc := cc_Desk_environmentCall) (maxL := 2) (ret := (some .int)) (by decide) rfl (Nat.le_of_ble_eq_true rfl) ?_
  intro p e s m below meth c A ls hx hb hr hml hts hown hlocks hP hK hD hA hE hS hl
  have hl : lv_has ls 2 [(0, .ref qx)] := hl
  have hown : s.vm.findClass R_Desk = some m.cls := hown
  refine lv_aload_n hx hb d_Desk_environmentCall_0 rfl (lv_at hl 0 rfl) ?_
  refine va_get (D := G.1) (ci := 5) (v := .int (sx.1 3)) (C := R_Desk) (T := T_Desk) (N := 8) hx hb hts (fun w h => gd_sub _ (iw_Desk w h)) hown hK hP 0 rfl rfl 3 (by decide) (hts _ (gd_sub _ q_208)) (fun _ h9 => h9) rfl d_Desk_environmentCall_1 ?_
  refine lv_iconst (v := 3) hx hb d_Desk_environmentCall_4 (by decide) ?_
  refine lv_icmp_ne (tgt := 11) hx hb d_Desk_environmentCall_5 (by decide) (fun c_391 => ?_) (fun c_391 => ?_)
  · refine lv_aload_n hx hb d_Desk_environmentCall_11 rfl (lv_at hl 0 rfl) ?_
    refine va_get (D := G.1) (ci := 5) (v := .int (sx.1 3)) (C := R_Desk) (T := T_Desk) (N := 8) hx hb hts (fun w h => gd_sub _ (iw_Desk w h)) hown hK hP 0 rfl rfl 3 (by decide) (hts _ (gd_sub _ q_208)) (fun _ h9 => h9) rfl d_Desk_environmentCall_12 ?_
    refine lv_iconst (v := 1) hx hb d_Desk_environmentCall_15 (by decide) ?_
    refine lv_icmp_eq (tgt := 22) hx hb d_Desk_environmentCall_16 (by decide) (fun c_392 => ?_) (fun c_392 => ?_)
    · refine lv_aload_n hx hb d_Desk_environmentCall_22 rfl (lv_at hl 0 rfl) ?_
      refine va_get (D := G.1) (ci := 5) (v := .ref qo) (C := R_Desk) (T := T_Desk) (N := 8) hx hb hts (fun w h => gd_sub _ (iw_Desk w h)) hown hK hP 0 rfl rfl 1 (by decide) (hts _ (gd_sub _ q_206)) (fun _ h9 => h9) rfl d_Desk_environmentCall_23 ?_
      refine lv_aload_n hx hb d_Desk_environmentCall_26 rfl (lv_at hl 0 rfl) ?_
      refine va_get (D := G.1) (ci := 5) (v := .ref qr) (C := R_Desk) (T := T_Desk) (N := 8) hx hb hts (fun w h => gd_sub _ (iw_Desk w h)) hown hK hP 0 rfl rfl 2 (by decide) (hts _ (gd_sub _ q_207)) (fun _ h9 => h9) rfl d_Desk_environmentCall_27 ?_
      refine va_get (D := G.1) (ci := 4) (v := .int (sr.1 2)) (C := R_Registers) (T := T_Registers) (N := 3) hx hb hts (fun w h => gd_sub _ (iw_Registers w h)) hown hK hP 3 rfl rfl 2 (by decide) (hts _ (gd_sub _ q_197)) (fun _ h9 => h9) rfl d_Desk_environmentCall_30 ?_
      refine lv_aload_n hx hb d_Desk_environmentCall_33 rfl (lv_at hl 0 rfl) ?_
      refine va_get (D := G.1) (ci := 5) (v := .ref qr) (C := R_Desk) (T := T_Desk) (N := 8) hx hb hts (fun w h => gd_sub _ (iw_Desk w h)) hown hK hP 0 rfl rfl 2 (by decide) (hts _ (gd_sub _ q_207)) (fun _ h9 => h9) rfl d_Desk_environmentCall_34 ?_
      refine va_get (D := G.1) (ci := 4) (v := .int (sr.1 0)) (C := R_Registers) (T := T_Registers) (N := 3) hx hb hts (fun w h => gd_sub _ (iw_Registers w h)) hown hK hP 3 rfl rfl 0 (by decide) (hts _ (gd_sub _ q_193)) (fun _ h9 => h9) rfl d_Desk_environmentCall_37 ?_
      refine lv_aload_n hx hb d_Desk_environmentCall_40 rfl (lv_at hl 0 rfl) ?_
      refine va_get (D := G.1) (ci := 5) (v := .ref qr) (C := R_Desk) (T := T_Desk) (N := 8) hx hb hts (fun w h => gd_sub _ (iw_Desk w h)) hown hK hP 0 rfl rfl 2 (by decide) (hts _ (gd_sub _ q_207)) (fun _ h9 => h9) rfl d_Desk_environmentCall_41 ?_
      refine va_get (D := G.1) (ci := 4) (v := .int (sr.1 1)) (C := R_Registers) (T := T_Registers) (N := 3) hx hb hts (fun w h => gd_sub _ (iw_Registers w h)) hown hK hP 3 rfl rfl 1 (by decide) (hts _ (gd_sub _ q_195)) (fun _ h9 => h9) rfl d_Desk_environmentCall_44 ?_
      obtain ⟨r_393, er_393⟩ : ∃ z, z = (k_Outside_serve so sa (sr.1 2) (sr.1 0) (sr.1 1)).1 := ⟨_, rfl⟩
      obtain ⟨so_394, eso_394⟩ : ∃ z, z = (k_Outside_serve so sa (sr.1 2) (sr.1 0) (sr.1 1)).2.1 := ⟨_, rfl⟩
      obtain ⟨sa_395, esa_395⟩ : ∃ z, z = (k_Outside_serve so sa (sr.1 2) (sr.1 0) (sr.1 1)).2.2 := ⟨_, rfl⟩
      have hM := c_Outside_serve l G tys ht qo qa so sa (sr.1 2) (sr.1 0) (sr.1 1) hp9
      rw [← er_393, ← eso_394, ← esa_395] at hM
      refine ct_cVi (wr := [(qx, .inr (5, f_Desk qc qo qr sx)), (qr, .inr (4, f_Registers sr))]) (w1 := [(qo, .inr (3, f_Outside qa so_394)), (qa, .inl (cA, 256, .inl sa_395))]) (w2 := [(qx, .inr (5, f_Desk qc qo qr sx)), (qo, .inr (3, f_Outside qa so_394)), (qa, .inl (cA, 256, .inl sa_395)), (qr, .inr (4, f_Registers sr))]) (r := r_393) (As := [.int (sr.1 2), .int (sr.1 0), .int (sr.1 1)]) (rest := []) (ci := 3) (q0 := 0) ⟨hx, hb, hml, hown, hts⟩ hM (cwV 3 hts (gdV gd_gd q_449 q_450 q_451 q_43 q_452) rfl rfl rfl (by decide +kernel) ⟨Nat.le_of_ble_eq_true rfl, Nat.le_of_ble_eq_true rfl⟩) hE hK hP hD hS hA [1, 2] [0, 3] [0, 2, 3, 1] rfl (by decide) rfl (by decide) (by decide) rfl (by decide) rfl rfl rfl hl.1 rfl (Nat.le_of_ble_eq_true rfl) d_Desk_environmentCall_47 ⟨Nat.zero_le _, Nat.zero_le _⟩ (fun H locs hP hD hS => ?_)
      refine lv_istore_n (lv' := [(1, .int r_393), (0, .ref qx)]) hx hb d_Desk_environmentCall_50 rfl hl (by decide) rfl (fun ls hl => ?_)
      refine lv_aload_n hx hb d_Desk_environmentCall_51 rfl (lv_at hl 1 rfl) ?_
      refine va_get (D := G.1) (ci := 5) (v := .ref qr) (C := R_Desk) (T := T_Desk) (N := 8) hx hb hts (fun w h => gd_sub _ (iw_Desk w h)) hown hK hP 0 rfl rfl 2 (by decide) (hts _ (gd_sub _ q_207)) (fun _ h9 => h9) rfl d_Desk_environmentCall_52 ?_
      refine lv_iload_n hx hb d_Desk_environmentCall_55 rfl (lv_at hl 0 rfl) ?_
      refine va_put (D := G.1) (ci := 4) (v := .int r_393) (ty := .int) (C := R_Registers) (T := T_Registers) (N := 3) hx hb hts (fun w h => gd_sub _ (iw_Registers w h)) ty_Registers tyok_Registers nm_Registers hown hK hP hD hS 3 rfl rfl 0 (by decide) (hts _ (gd_sub _ q_193)) (fun _ h9 => h9) rfl (by decide +kernel) rfl rfl (Nat.le_of_ble_eq_true rfl) d_Desk_environmentCall_56 (fun H locs hP hD hS => ?_)
      have hP : va_P G.1 vwCl [(qx, .inr (5, f_Desk qc qo qr sx)), (qo, .inr (3, f_Outside qa so_394)), (qa, .inl (cA, 256, .inl sa_395)), (qr, .inr (4, f_Registers (oi sr 0 r_393)))] H := hP
      have hD : va_D A [(qx, .inr (5, f_Desk qc qo qr sx)), (qo, .inr (3, f_Outside qa so_394)), (qa, .inl (cA, 256, .inl sa_395)), (qr, .inr (4, f_Registers (oi sr 0 r_393)))] := hD
      refine lv_aload_n hx hb d_Desk_environmentCall_59 rfl (lv_at hl 1 rfl) ?_
      obtain ⟨r_396, er_396⟩ : ∃ z, z = (k_Desk_goOn sx).1 := ⟨_, rfl⟩
      obtain ⟨sx_397, esx_397⟩ : ∃ z, z = (k_Desk_goOn sx).2 := ⟨_, rfl⟩
      have hM := c_Desk_goOn l G tys qx qc qo qr sx
      rw [← er_396, ← esx_397] at hM
      refine ct_cVi (wr := [(qo, .inr (3, f_Outside qa so_394)), (qa, .inl (cA, 256, .inl sa_395)), (qr, .inr (4, f_Registers (oi sr 0 r_393)))]) (w1 := [(qx, .inr (5, f_Desk qc qo qr sx_397))]) (w2 := [(qx, .inr (5, f_Desk qc qo qr sx_397)), (qo, .inr (3, f_Outside qa so_394)), (qa, .inl (cA, 256, .inl sa_395)), (qr, .inr (4, f_Registers (oi sr 0 r_393)))]) (r := r_396) (As := []) (rest := []) (ci := 5) (q0 := 0) ⟨hx, hb, hml, hown, hts⟩ hM (cwV 0 hts (gdV gd_gd q_426 q_428 q_4 q_41 q_429) rfl rfl rfl (by decide +kernel) ⟨Nat.le_of_ble_eq_true rfl, Nat.le_of_ble_eq_true rfl⟩) hE hK hP hD hS hA [0] [1, 2, 3] [3, 0, 1, 2] rfl (by decide) rfl (by decide) (by decide) rfl (by decide) rfl rfl rfl hl.1 rfl (Nat.le_of_ble_eq_true rfl) d_Desk_environmentCall_60 ⟨Nat.zero_le _, Nat.zero_le _⟩ (fun H locs hP hD hS => ?_)
      have hk : k_Desk_environmentCall sx so sa sr = (r_396, sx_397, so_394, sa_395, (oi sr 0 r_393)) := (by rw [k_Desk_environmentCall]; rw [if_neg c_391]; rw [if_pos c_392]; try rw [← er_393]; try rw [← eso_394]; try rw [← esa_395]; try rw [← er_396]; try rw [← esx_397]; try rfl)
      exact ct_ri hx hb hr hlocks hP hD hK hS d_Desk_environmentCall_63 (by rw [hk]; first | done | rfl) (by rw [hk]; first | done | rfl)
    · refine lv_bipush (v := 8) hx hb d_Desk_environmentCall_19 (by decide) ?_
      have hk : k_Desk_environmentCall sx so sa sr = (8, sx, so, sa, sr) := (by rw [k_Desk_environmentCall]; rw [if_neg c_391]; rw [if_neg c_392]; try rfl)
      exact ct_ri hx hb hr hlocks hP hD hK hS d_Desk_environmentCall_21 (by rw [hk]; first | done | rfl) (by rw [hk]; first | done | rfl)
  · refine lv_bipush (v := 10) hx hb d_Desk_environmentCall_8 (by decide) ?_
    have hk : k_Desk_environmentCall sx so sa sr = (10, sx, so, sa, sr) := (by rw [k_Desk_environmentCall]; rw [if_pos c_391]; try rfl)
    exact ct_ri hx hb hr hlocks hP hD hK hS d_Desk_environmentCall_10 (by rw [hk]; first | done | rfl) (by rw [hk]; first | done | rfl)
def k_Bank_leave_j16 (sb : ob) (t0 : Bool) : Bool × ob :=
  if ((sb.1 0) &&& 32) = 0 then (t0, (oi sb 0 ((((sb.1 0) &&& (-259)) ||| 32) ||| 0))) else (t0, (oi sb 0 ((((sb.1 0) &&& (-259)) ||| 32) ||| 2)))
def k_Bank_leave (sb : ob) : Bool × ob :=
  if ((sb.1 0) &&& 256) = 0 then (k_Bank_leave_j16 sb false) else (k_Bank_leave_j16 sb true)
set_option maxHeartbeats 4000000 in
set_option maxRecDepth 100000 in
theorem c_Bank_leave (l : Launch) (G : gx) (tys : List (ClassId × FieldType)) (qb : Nat) (sb : ob) : ct_I l y_Bank_leave ws_Bank_leave ({ frames := 0, cells := 0, slots := 0, locals := 0 }) G tys [.ref qb] [(qb, .inr (0, f_Bank sb))] (bI ((k_Bank_leave sb).1)) [(qb, .inr (0, f_Bank ((k_Bank_leave sb).2)))] := by
  refine ct_hI (cc := cc_Bank_leave) (maxL := 3) (ret := (some .boolean)) (by decide) rfl (Nat.le_of_ble_eq_true rfl) ?_
  intro p e s m below meth c A ls hx hb hr hml hts hown hlocks hP hK hD hA hE hS hl
  have hl : lv_has ls 3 [(0, .ref qb)] := hl
  have hown : s.vm.findClass R_Bank = some m.cls := hown
  have J16 : ∀ (t0 : Bool) (H : Heap) (locs : List Loc) (ls : Array Slot), k_Bank_leave sb = k_Bank_leave_j16 sb t0 → va_P G.1 vwCl [(qb, .inr (0, f_Bank sb))] H → va_D A [(qb, .inr (0, f_Bank sb))] → va_S A s.heap H locs → lv_has ls 3 [(0, .ref qb)] → W p l e ({ frames := 0, cells := 0, slots := 0, locals := 0 }) s m ([.ref qb] : List Value).toArray below meth c H locs 0 0 (MQ below (ct_qi G tys A (bI ((k_Bank_leave sb).1)) [(qb, .inr (0, f_Bank ((k_Bank_leave sb).2)))]) ([.ref qb] : List Value).toArray s 0 0 A) (F0 m 16 ls [.int (bI t0)]) := by
    intro t0 H locs ls hj hP hD hS hl
    refine lv_istore_n (lv' := [(1, .int (bI t0)), (0, .ref qb)]) hx hb d_Bank_leave_16 rfl hl (by decide) rfl (fun ls hl => ?_)
    refine lv_aload_n hx hb d_Bank_leave_17 rfl (lv_at hl 1 rfl) ?_
    refine va_get (D := G.1) (ci := 0) (v := .int (sb.1 0)) (C := R_Bank) (T := T_Bank) (N := 7) hx hb hts (fun w h => gd_sub _ (iw_Bank w h)) hown hK hP 0 rfl rfl 0 (by decide) (hts _ (gd_sub _ q_103)) (fun _ h9 => h9) rfl d_Bank_leave_18 ?_
    refine lv_sipush (v := (-259)) hx hb d_Bank_leave_21 (by decide) ?_
    refine lv_iand hx hb d_Bank_leave_24 ?_
    refine lv_istore_n (lv' := [(2, .int ((sb.1 0) &&& (-259))), (1, .int (bI t0)), (0, .ref qb)]) hx hb d_Bank_leave_25 rfl hl (by decide) rfl (fun ls hl => ?_)
    refine lv_aload_n hx hb d_Bank_leave_26 rfl (lv_at hl 2 rfl) ?_
    refine lv_iload_n hx hb d_Bank_leave_27 rfl (lv_at hl 0 rfl) ?_
    refine lv_bipush (v := 32) hx hb d_Bank_leave_28 (by decide) ?_
    refine lv_ior hx hb d_Bank_leave_30 ?_
    refine lv_aload_n hx hb d_Bank_leave_31 rfl (lv_at hl 2 rfl) ?_
    refine va_get (D := G.1) (ci := 0) (v := .int (sb.1 0)) (C := R_Bank) (T := T_Bank) (N := 7) hx hb hts (fun w h => gd_sub _ (iw_Bank w h)) hown hK hP 0 rfl rfl 0 (by decide) (hts _ (gd_sub _ q_103)) (fun _ h9 => h9) rfl d_Bank_leave_32 ?_
    refine lv_bipush (v := 32) hx hb d_Bank_leave_35 (by decide) ?_
    refine lv_iand hx hb d_Bank_leave_37 ?_
    refine lv_if_eq (tgt := 45) hx hb d_Bank_leave_38 (by decide) (fun c_409 => ?_) (fun c_409 => ?_)
    · refine lv_iconst (v := 0) hx hb d_Bank_leave_45 (by decide) ?_
      refine lv_ior hx hb d_Bank_leave_46 ?_
      refine va_put (D := G.1) (ci := 0) (v := .int ((((sb.1 0) &&& (-259)) ||| 32) ||| 0)) (ty := .int) (C := R_Bank) (T := T_Bank) (N := 7) hx hb hts (fun w h => gd_sub _ (iw_Bank w h)) ty_Bank tyok_Bank nm_Bank hown hK hP hD hS 0 rfl rfl 0 (by decide) (hts _ (gd_sub _ q_103)) (fun _ h9 => h9) rfl (by decide +kernel) rfl rfl (Nat.le_of_ble_eq_true rfl) d_Bank_leave_47 (fun H locs hP hD hS => ?_)
      have hP : va_P G.1 vwCl [(qb, .inr (0, f_Bank (oi sb 0 ((((sb.1 0) &&& (-259)) ||| 32) ||| 0))))] H := hP
      have hD : va_D A [(qb, .inr (0, f_Bank (oi sb 0 ((((sb.1 0) &&& (-259)) ||| 32) ||| 0))))] := hD
      refine lv_iload_n hx hb d_Bank_leave_50 rfl (lv_at hl 1 rfl) ?_
      have hk : k_Bank_leave sb = (t0, (oi sb 0 ((((sb.1 0) &&& (-259)) ||| 32) ||| 0))) := (hj.trans (by rw [k_Bank_leave_j16]; rw [if_pos c_409]; try rfl))
      exact ct_rz hx hb hr hlocks hP hD hK hS d_Bank_leave_51 (bI_n _) (by rw [hk]; first | done | rfl) (by rw [hk]; first | done | rfl)
    · refine lv_iconst (v := 2) hx hb d_Bank_leave_41 (by decide) ?_
      refine lv_goto (tgt := 46) hx hb d_Bank_leave_42 (by decide) ?_
      refine lv_ior hx hb d_Bank_leave_46 ?_
      refine va_put (D := G.1) (ci := 0) (v := .int ((((sb.1 0) &&& (-259)) ||| 32) ||| 2)) (ty := .int) (C := R_Bank) (T := T_Bank) (N := 7) hx hb hts (fun w h => gd_sub _ (iw_Bank w h)) ty_Bank tyok_Bank nm_Bank hown hK hP hD hS 0 rfl rfl 0 (by decide) (hts _ (gd_sub _ q_103)) (fun _ h9 => h9) rfl (by decide +kernel) rfl rfl (Nat.le_of_ble_eq_true rfl) d_Bank_leave_47 (fun H locs hP hD hS => ?_)
      have hP : va_P G.1 vwCl [(qb, .inr (0, f_Bank (oi sb 0 ((((sb.1 0) &&& (-259)) ||| 32) ||| 2))))] H := hP
      have hD : va_D A [(qb, .inr (0, f_Bank (oi sb 0 ((((sb.1 0) &&& (-259)) ||| 32) ||| 2))))] := hD
      refine lv_iload_n hx hb d_Bank_leave_50 rfl (lv_at hl 1 rfl) ?_
      have hk : k_Bank_leave sb = (t0, (oi sb 0 ((((sb.1 0) &&& (-259)) ||| 32) ||| 2))) := (hj.trans (by rw [k_Bank_leave_j16]; rw [if_neg c_409]; try rfl))
      exact ct_rz hx hb hr hlocks hP hD hK hS d_Bank_leave_51 (bI_n _) (by rw [hk]; first | done | rfl) (by rw [hk]; first | done | rfl)
  obtain ⟨H, eH⟩ : ∃ z, z = s.heap := ⟨_, rfl⟩
  obtain ⟨locs, eL⟩ : ∃ z, z = ([] : List Loc) := ⟨_, rfl⟩
  have hP : va_P G.1 vwCl [(qb, .inr (0, f_Bank sb))] H := by rw [eH]; exact hP
  have hS : va_S A s.heap H locs := by rw [eH, eL]; exact hS
  suffices hW : W p l e ({ frames := 0, cells := 0, slots := 0, locals := 0 }) s m ([.ref qb] : List Value).toArray below meth c H locs 0 0 (MQ below (ct_qi G tys A (bI ((k_Bank_leave sb).1)) [(qb, .inr (0, f_Bank ((k_Bank_leave sb).2)))]) ([.ref qb] : List Value).toArray s 0 0 A) (F0 m 0 ls []) by rw [eH, eL] at hW; exact hW
  refine lv_aload_n hx hb d_Bank_leave_0 rfl (lv_at hl 0 rfl) ?_
  refine va_get (D := G.1) (ci := 0) (v := .int (sb.1 0)) (C := R_Bank) (T := T_Bank) (N := 7) hx hb hts (fun w h => gd_sub _ (iw_Bank w h)) hown hK hP 0 rfl rfl 0 (by decide) (hts _ (gd_sub _ q_103)) (fun _ h9 => h9) rfl d_Bank_leave_1 ?_
  refine lv_sipush (v := 256) hx hb d_Bank_leave_4 (by decide) ?_
  refine lv_iand hx hb d_Bank_leave_7 ?_
  refine lv_if_eq (tgt := 15) hx hb d_Bank_leave_8 (by decide) (fun c_410 => ?_) (fun c_410 => ?_)
  · refine lv_iconst (v := 0) hx hb d_Bank_leave_15 (by decide) ?_
    exact J16 false H locs ls (by rw [k_Bank_leave]; rw [if_pos c_410]; try rfl) hP hD hS (lv_sub hl [0] rfl)
  · refine lv_iconst (v := 1) hx hb d_Bank_leave_11 (by decide) ?_
    refine lv_goto (tgt := 16) hx hb d_Bank_leave_12 (by decide) ?_
    exact J16 true H locs ls (by rw [k_Bank_leave]; rw [if_neg c_410]; try rfl) hP hD hS (lv_sub hl [0] rfl)
def k_Hyper_leave (sy : ob) : Bool × ob :=
  ((k_Hyper_hasStatus sy 128), (oi sy 0 ((sy.1 0) &&& (-129))))
set_option maxHeartbeats 4000000 in
set_option maxRecDepth 100000 in
theorem c_Hyper_leave (l : Launch) (G : gx) (tys : List (ClassId × FieldType)) (qy : Nat) (sy : ob) : ct_I l y_Hyper_leave ws_Hyper_leave ({ frames := 1, cells := 0, slots := 0, locals := 21 }) G tys [.ref qy] [(qy, .inr (2, f_Hyper sy))] (bI ((k_Hyper_leave sy).1)) [(qy, .inr (2, f_Hyper ((k_Hyper_leave sy).2)))] := by
  refine ct_hI (cc := cc_Hyper_leave) (maxL := 2) (ret := (some .boolean)) (by decide) rfl (Nat.le_of_ble_eq_true rfl) ?_
  intro p e s m below meth c A ls hx hb hr hml hts hown hlocks hP hK hD hA hE hS hl
  have hl : lv_has ls 2 [(0, .ref qy)] := hl
  have hown : s.vm.findClass R_Hyper = some m.cls := hown
  refine lv_aload_n hx hb d_Hyper_leave_0 rfl (lv_at hl 0 rfl) ?_
  refine lv_sipush (v := 128) hx hb d_Hyper_leave_1 (by decide) ?_
  refine ct_cVi (wr := []) (w1 := [(qy, .inr (2, f_Hyper sy))]) (w2 := [(qy, .inr (2, f_Hyper sy))]) (r := (bI (k_Hyper_hasStatus sy 128))) (As := [.int 128]) (rest := []) (ci := 2) (q0 := 0) ⟨hx, hb, hml, hown, hts⟩ (c_Hyper_hasStatus l G tys qy sy 128) (cwV 1 hts (gdV gd_gd q_475 q_423 q_424 q_45 q_425) rfl rfl rfl (by decide +kernel) ⟨Nat.le_of_ble_eq_true rfl, Nat.le_of_ble_eq_true rfl⟩) hE hK hP hD hS hA [0] [] [0] rfl (by decide) rfl (by decide) (by decide) rfl (by decide) rfl rfl rfl hl.1 rfl (Nat.le_of_ble_eq_true rfl) d_Hyper_leave_4 ⟨Nat.zero_le _, Nat.zero_le _⟩ (fun H locs hP hD hS => ?_)
  refine lv_istore_n (lv' := [(1, .int (bI (k_Hyper_hasStatus sy 128))), (0, .ref qy)]) hx hb d_Hyper_leave_7 rfl hl (by decide) rfl (fun ls hl => ?_)
  refine lv_aload_n hx hb d_Hyper_leave_8 rfl (lv_at hl 1 rfl) ?_
  refine lv_aload_n hx hb d_Hyper_leave_9 rfl (lv_at hl 1 rfl) ?_
  refine va_get (D := G.1) (ci := 2) (v := .int (sy.1 0)) (C := R_Hyper) (T := T_Hyper) (N := 8) hx hb hts (fun w h => gd_sub _ (iw_Hyper w h)) hown hK hP 0 rfl rfl 0 (by decide) (hts _ (gd_sub _ q_132)) (fun _ h9 => h9) rfl d_Hyper_leave_10 ?_
  refine lv_sipush (v := (-129)) hx hb d_Hyper_leave_13 (by decide) ?_
  refine lv_iand hx hb d_Hyper_leave_16 ?_
  refine va_put (D := G.1) (ci := 2) (v := .int ((sy.1 0) &&& (-129))) (ty := .int) (C := R_Hyper) (T := T_Hyper) (N := 8) hx hb hts (fun w h => gd_sub _ (iw_Hyper w h)) ty_Hyper tyok_Hyper nm_Hyper hown hK hP hD hS 0 rfl rfl 0 (by decide) (hts _ (gd_sub _ q_132)) (fun _ h9 => h9) rfl (by decide +kernel) rfl rfl (Nat.le_of_ble_eq_true rfl) d_Hyper_leave_17 (fun H locs hP hD hS => ?_)
  have hP : va_P G.1 vwCl [(qy, .inr (2, f_Hyper (oi sy 0 ((sy.1 0) &&& (-129)))))] H := hP
  have hD : va_D A [(qy, .inr (2, f_Hyper (oi sy 0 ((sy.1 0) &&& (-129)))))] := hD
  refine lv_iload_n hx hb d_Hyper_leave_20 rfl (lv_at hl 0 rfl) ?_
  have hk : k_Hyper_leave sy = ((k_Hyper_hasStatus sy 128), (oi sy 0 ((sy.1 0) &&& (-129)))) := (by rw [k_Hyper_leave]; try rfl)
  exact ct_rz hx hb hr hlocks hP hD hK hS d_Hyper_leave_21 (bI_n _) (by rw [hk]; first | done | rfl) (by rw [hk]; first | done | rfl)
def k_Desk_supervisorReturn (sx : ob) (sc : ob) (shs : ob) (sgs : ob) (sy : ob) : Int32 × ob × ob × ob × ob :=
  if (k_Desk_refusalOfSupervisorWord sx sc sy 4194304) = (-1) then (if (sx.1 3) = 3 then (if (bI ((k_Bank_leave sgs).1)) = 0 then ((-1), (oi (oi sx 4 (sgs.1 3)) 3 2), shs, ((k_Bank_leave sgs).2), sy) else ((-1), (oi (oi sx 4 (sgs.1 3)) 3 3), shs, ((k_Bank_leave sgs).2), sy)) else (if (bI ((k_Hyper_leave sy).1)) = 0 then (if (bI ((k_Bank_leave shs).1)) = 0 then ((-1), (oi (oi sx 4 (shs.1 3)) 3 0), ((k_Bank_leave shs).2), sgs, ((k_Hyper_leave sy).2)) else ((-1), (oi (oi sx 4 (shs.1 3)) 3 1), ((k_Bank_leave shs).2), sgs, ((k_Hyper_leave sy).2))) else (if (bI ((k_Bank_leave shs).1)) = 0 then ((-1), (oi (oi sx 4 (shs.1 3)) 3 2), ((k_Bank_leave shs).2), sgs, ((k_Hyper_leave sy).2)) else ((-1), (oi (oi sx 4 (shs.1 3)) 3 3), ((k_Bank_leave shs).2), sgs, ((k_Hyper_leave sy).2))))) else ((k_Desk_refusalOfSupervisorWord sx sc sy 4194304), sx, shs, sgs, sy)
set_option maxHeartbeats 4000000 in
set_option maxRecDepth 100000 in
theorem c_Desk_supervisorReturn (l : Launch) (G : gx) (tys : List (ClassId × FieldType)) (qx qc qhs qgs qy qo qr : Nat) (sx : ob) (sc : ob) (shs : ob) (sgs : ob) (sy : ob) : ct_I l y_Desk_supervisorReturn ws_Desk_supervisorReturn ({ frames := 2, cells := 0, slots := 0, locals := 42 }) G tys [.ref qx] [(qx, .inr (5, f_Desk qc qo qr sx)), (qc, .inr (1, f_Controls qo qhs qgs qy sc)), (qhs, .inr (0, f_Bank shs)), (qgs, .inr (0, f_Bank sgs)), (qy, .inr (2, f_Hyper sy))] ((k_Desk_supervisorReturn sx sc shs sgs sy).1) [(qx, .inr (5, f_Desk qc qo qr ((k_Desk_supervisorReturn sx sc shs sgs sy).2.1))), (qc, .inr (1, f_Controls qo qhs qgs qy sc)), (qhs, .inr (0, f_Bank ((k_Desk_supervisorReturn sx sc shs sgs sy).2.2.1))), (qgs, .inr (0, f_Bank ((k_Desk_supervisorReturn sx sc shs sgs sy).2.2.2.1))), (qy, .inr (2, f_Hyper ((k_Desk_supervisorReturn sx sc shs sgs sy).2.2.2.2)))] := by
  refine ct_hI (cc := cc_Desk_supervisorReturn) (maxL := 4) (ret := (some .int)) (by decide) rfl (Nat.le_of_ble_eq_true rfl) ?_
  intro p e s m below meth c A ls hx hb hr hml hts hown hlocks hP hK hD hA hE hS hl
  have hl : lv_has ls 4 [(0, .ref qx)] := hl
  have hown : s.vm.findClass R_Desk = some m.cls := hown
  refine lv_aload_n hx hb d_Desk_supervisorReturn_0 rfl (lv_at hl 0 rfl) ?_
  refine lv_ldc (v := 4194304) hx hb hown (hts _ (gd_sub _ q_466)) d_Desk_supervisorReturn_1 ?_
  refine ct_cVi (wr := [(qhs, .inr (0, f_Bank shs)), (qgs, .inr (0, f_Bank sgs))]) (w1 := [(qx, .inr (5, f_Desk qc qo qr sx)), (qc, .inr (1, f_Controls qo qhs qgs qy sc)), (qy, .inr (2, f_Hyper sy))]) (w2 := [(qx, .inr (5, f_Desk qc qo qr sx)), (qc, .inr (1, f_Controls qo qhs qgs qy sc)), (qhs, .inr (0, f_Bank shs)), (qgs, .inr (0, f_Bank sgs)), (qy, .inr (2, f_Hyper sy))]) (r := (k_Desk_refusalOfSupervisorWord sx sc sy 4194304)) (As := [.int 4194304]) (rest := []) (ci := 5) (q0 := 0) ⟨hx, hb, hml, hown, hts⟩ (c_Desk_refusalOfSupervisorWord l G tys qx qc qy qo qr qhs qgs sx sc sy 4194304) (cwV 1 hts (gdV gd_gd q_418 q_420 q_3 q_41 q_421) rfl rfl rfl (by decide +kernel) ⟨Nat.le_of_ble_eq_true rfl, Nat.le_of_ble_eq_true rfl⟩) hE hK hP hD hS hA [0, 1, 4] [2, 3] [2, 3, 0, 1, 4] rfl (by decide) rfl (by decide) (by decide) rfl (by decide) rfl rfl rfl hl.1 rfl (Nat.le_of_ble_eq_true rfl) d_Desk_supervisorReturn_3 ⟨Nat.zero_le _, Nat.zero_le _⟩ (fun H locs hP hD hS => ?_)
  refine lv_istore_n (lv' := [(1, .int (k_Desk_refusalOfSupervisorWord sx sc sy 4194304)), (0, .ref qx)]) hx hb d_Desk_supervisorReturn_6 rfl hl (by decide) rfl (fun ls hl => ?_)
  refine lv_iload_n hx hb d_Desk_supervisorReturn_7 rfl (lv_at hl 0 rfl) ?_
  refine lv_iconst (v := (-1)) hx hb d_Desk_supervisorReturn_8 (by decide) ?_
  refine lv_icmp_eq (tgt := 14) hx hb d_Desk_supervisorReturn_9 (by decide) (fun c_421 => ?_) (fun c_421 => ?_)
  · refine lv_aload_n hx hb d_Desk_supervisorReturn_14 rfl (lv_at hl 1 rfl) ?_
    refine va_get (D := G.1) (ci := 5) (v := .int (sx.1 3)) (C := R_Desk) (T := T_Desk) (N := 8) hx hb hts (fun w h => gd_sub _ (iw_Desk w h)) hown hK hP 0 rfl rfl 3 (by decide) (hts _ (gd_sub _ q_208)) (fun _ h9 => h9) rfl d_Desk_supervisorReturn_15 ?_
    refine lv_iconst (v := 3) hx hb d_Desk_supervisorReturn_18 (by decide) ?_
    refine lv_icmp_ne (tgt := 60) hx hb d_Desk_supervisorReturn_19 (by decide) (fun c_422 => ?_) (fun c_422 => ?_)
    · refine lv_aload_n hx hb d_Desk_supervisorReturn_60 rfl (lv_at hl 1 rfl) ?_
      refine lv_aload_n hx hb d_Desk_supervisorReturn_61 rfl (lv_at hl 1 rfl) ?_
      refine va_get (D := G.1) (ci := 5) (v := .ref qc) (C := R_Desk) (T := T_Desk) (N := 8) hx hb hts (fun w h => gd_sub _ (iw_Desk w h)) hown hK hP 0 rfl rfl 0 (by decide) (hts _ (gd_sub _ q_205)) (fun _ h9 => h9) rfl d_Desk_supervisorReturn_62 ?_
      refine va_get (D := G.1) (ci := 1) (v := .ref qhs) (C := R_Controls) (T := T_Controls) (N := 6) hx hb hts (fun w h => gd_sub _ (iw_Controls w h)) hown hK hP 1 rfl rfl 1 (by decide) (hts _ (gd_sub _ q_166)) (fun _ h9 => h9) rfl d_Desk_supervisorReturn_65 ?_
      refine va_get (D := G.1) (ci := 0) (v := .int (shs.1 3)) (C := R_Bank) (T := T_Bank) (N := 7) hx hb hts (fun w h => gd_sub _ (iw_Bank w h)) hown hK hP 2 rfl rfl 3 (by decide) (hts _ (gd_sub _ q_107)) (fun _ h9 => h9) rfl d_Desk_supervisorReturn_68 ?_
      refine va_put (D := G.1) (ci := 5) (v := .int (shs.1 3)) (ty := .int) (C := R_Desk) (T := T_Desk) (N := 8) hx hb hts (fun w h => gd_sub _ (iw_Desk w h)) ty_Desk tyok_Desk nm_Desk hown hK hP hD hS 0 rfl rfl 4 (by decide) (hts _ (gd_sub _ q_209)) (fun _ h9 => h9) rfl (by decide +kernel) rfl rfl (Nat.le_of_ble_eq_true rfl) d_Desk_supervisorReturn_71 (fun H locs hP hD hS => ?_)
      have hP : va_P G.1 vwCl [(qx, .inr (5, f_Desk qc qo qr (oi sx 4 (shs.1 3)))), (qc, .inr (1, f_Controls qo qhs qgs qy sc)), (qhs, .inr (0, f_Bank shs)), (qgs, .inr (0, f_Bank sgs)), (qy, .inr (2, f_Hyper sy))] H := hP
      have hD : va_D A [(qx, .inr (5, f_Desk qc qo qr (oi sx 4 (shs.1 3)))), (qc, .inr (1, f_Controls qo qhs qgs qy sc)), (qhs, .inr (0, f_Bank shs)), (qgs, .inr (0, f_Bank sgs)), (qy, .inr (2, f_Hyper sy))] := hD
      refine lv_aload_n hx hb d_Desk_supervisorReturn_74 rfl (lv_at hl 1 rfl) ?_
      refine va_get (D := G.1) (ci := 5) (v := .ref qc) (C := R_Desk) (T := T_Desk) (N := 8) hx hb hts (fun w h => gd_sub _ (iw_Desk w h)) hown hK hP 0 rfl rfl 0 (by decide) (hts _ (gd_sub _ q_205)) (fun _ h9 => h9) rfl d_Desk_supervisorReturn_75 ?_
      refine va_get (D := G.1) (ci := 1) (v := .ref qhs) (C := R_Controls) (T := T_Controls) (N := 6) hx hb hts (fun w h => gd_sub _ (iw_Controls w h)) hown hK hP 1 rfl rfl 1 (by decide) (hts _ (gd_sub _ q_166)) (fun _ h9 => h9) rfl d_Desk_supervisorReturn_78 ?_
      obtain ⟨r_423, er_423⟩ : ∃ z, z = (k_Bank_leave shs).1 := ⟨_, rfl⟩
      obtain ⟨shs_424, eshs_424⟩ : ∃ z, z = (k_Bank_leave shs).2 := ⟨_, rfl⟩
      have hM := c_Bank_leave l G tys qhs shs
      rw [← er_423, ← eshs_424] at hM
      refine ct_cVi (wr := [(qx, .inr (5, f_Desk qc qo qr (oi sx 4 (shs.1 3)))), (qc, .inr (1, f_Controls qo qhs qgs qy sc)), (qgs, .inr (0, f_Bank sgs)), (qy, .inr (2, f_Hyper sy))]) (w1 := [(qhs, .inr (0, f_Bank shs_424))]) (w2 := [(qx, .inr (5, f_Desk qc qo qr (oi sx 4 (shs.1 3)))), (qc, .inr (1, f_Controls qo qhs qgs qy sc)), (qhs, .inr (0, f_Bank shs_424)), (qgs, .inr (0, f_Bank sgs)), (qy, .inr (2, f_Hyper sy))]) (r := (bI r_423)) (As := []) (rest := []) (ci := 0) (q0 := 0) ⟨hx, hb, hml, hown, hts⟩ hM (cwV 0 hts (gdV gd_gd q_467 q_468 q_469 q_44 q_470) rfl rfl rfl (by decide +kernel) ⟨Nat.le_of_ble_eq_true rfl, Nat.le_of_ble_eq_true rfl⟩) hE hK hP hD hS hA [2] [0, 1, 3, 4] [0, 1, 4, 2, 3] rfl (by decide) rfl (by decide) (by decide) rfl (by decide) rfl rfl rfl hl.1 rfl (Nat.le_of_ble_eq_true rfl) d_Desk_supervisorReturn_81 ⟨Nat.zero_le _, Nat.zero_le _⟩ (fun H locs hP hD hS => ?_)
      refine lv_istore_n (lv' := [(2, .int (bI r_423)), (1, .int (k_Desk_refusalOfSupervisorWord sx sc sy 4194304)), (0, .ref qx)]) hx hb d_Desk_supervisorReturn_84 rfl hl (by decide) rfl (fun ls hl => ?_)
      refine lv_aload_n hx hb d_Desk_supervisorReturn_85 rfl (lv_at hl 2 rfl) ?_
      refine va_get (D := G.1) (ci := 5) (v := .ref qc) (C := R_Desk) (T := T_Desk) (N := 8) hx hb hts (fun w h => gd_sub _ (iw_Desk w h)) hown hK hP 0 rfl rfl 0 (by decide) (hts _ (gd_sub _ q_205)) (fun _ h9 => h9) rfl d_Desk_supervisorReturn_86 ?_
      refine va_get (D := G.1) (ci := 1) (v := .ref qy) (C := R_Controls) (T := T_Controls) (N := 6) hx hb hts (fun w h => gd_sub _ (iw_Controls w h)) hown hK hP 1 rfl rfl 3 (by decide) (hts _ (gd_sub _ q_170)) (fun _ h9 => h9) rfl d_Desk_supervisorReturn_89 ?_
      obtain ⟨r_425, er_425⟩ : ∃ z, z = (k_Hyper_leave sy).1 := ⟨_, rfl⟩
      obtain ⟨sy_426, esy_426⟩ : ∃ z, z = (k_Hyper_leave sy).2 := ⟨_, rfl⟩
      have hM := c_Hyper_leave l G tys qy sy
      rw [← er_425, ← esy_426] at hM
      refine ct_cVi (wr := [(qx, .inr (5, f_Desk qc qo qr (oi sx 4 (shs.1 3)))), (qc, .inr (1, f_Controls qo qhs qgs qy sc)), (qhs, .inr (0, f_Bank shs_424)), (qgs, .inr (0, f_Bank sgs))]) (w1 := [(qy, .inr (2, f_Hyper sy_426))]) (w2 := [(qx, .inr (5, f_Desk qc qo qr (oi sx 4 (shs.1 3)))), (qc, .inr (1, f_Controls qo qhs qgs qy sc)), (qhs, .inr (0, f_Bank shs_424)), (qgs, .inr (0, f_Bank sgs)), (qy, .inr (2, f_Hyper sy_426))]) (r := (bI r_425)) (As := []) (rest := []) (ci := 2) (q0 := 0) ⟨hx, hb, hml, hown, hts⟩ hM (cwV 0 hts (gdV gd_gd q_471 q_472 q_473 q_45 q_474) rfl rfl rfl (by decide +kernel) ⟨Nat.le_of_ble_eq_true rfl, Nat.le_of_ble_eq_true rfl⟩) hE hK hP hD hS hA [4] [0, 1, 2, 3] [0, 1, 2, 3, 4] rfl (by decide) rfl (by decide) (by decide) rfl (by decide) rfl rfl rfl hl.1 rfl (Nat.le_of_ble_eq_true rfl) d_Desk_supervisorReturn_92 ⟨Nat.zero_le _, Nat.zero_le _⟩ (fun H locs hP hD hS => ?_)
      refine lv_istore_n (lv' := [(3, .int (bI r_425)), (2, .int (bI r_423)), (1, .int (k_Desk_refusalOfSupervisorWord sx sc sy 4194304)), (0, .ref qx)]) hx hb d_Desk_supervisorReturn_95 rfl hl (by decide) rfl (fun ls hl => ?_)
      refine lv_iload_n hx hb d_Desk_supervisorReturn_96 rfl (lv_at hl 0 rfl) ?_
      refine lv_if_eq (tgt := 116) hx hb d_Desk_supervisorReturn_97 (by decide) (fun c_427 => ?_) (fun c_427 => ?_)
      · refine lv_aload_n hx hb d_Desk_supervisorReturn_116 rfl (lv_at hl 3 rfl) ?_
        refine lv_iload_n hx hb d_Desk_supervisorReturn_117 rfl (lv_at hl 1 rfl) ?_
        refine lv_if_eq (tgt := 125) hx hb d_Desk_supervisorReturn_118 (by decide) (fun c_428 => ?_) (fun c_428 => ?_)
        · refine lv_iconst (v := 0) hx hb d_Desk_supervisorReturn_125 (by decide) ?_
          refine va_put (D := G.1) (ci := 5) (v := .int 0) (ty := .int) (C := R_Desk) (T := T_Desk) (N := 8) hx hb hts (fun w h => gd_sub _ (iw_Desk w h)) ty_Desk tyok_Desk nm_Desk hown hK hP hD hS 0 rfl rfl 3 (by decide) (hts _ (gd_sub _ q_208)) (fun _ h9 => h9) rfl (by decide +kernel) rfl rfl (Nat.le_of_ble_eq_true rfl) d_Desk_supervisorReturn_126 (fun H locs hP hD hS => ?_)
          have hP : va_P G.1 vwCl [(qx, .inr (5, f_Desk qc qo qr (oi (oi sx 4 (shs.1 3)) 3 0))), (qc, .inr (1, f_Controls qo qhs qgs qy sc)), (qhs, .inr (0, f_Bank shs_424)), (qgs, .inr (0, f_Bank sgs)), (qy, .inr (2, f_Hyper sy_426))] H := hP
          have hD : va_D A [(qx, .inr (5, f_Desk qc qo qr (oi (oi sx 4 (shs.1 3)) 3 0))), (qc, .inr (1, f_Controls qo qhs qgs qy sc)), (qhs, .inr (0, f_Bank shs_424)), (qgs, .inr (0, f_Bank sgs)), (qy, .inr (2, f_Hyper sy_426))] := hD
          refine lv_iconst (v := (-1)) hx hb d_Desk_supervisorReturn_129 (by decide) ?_
          have hk : k_Desk_supervisorReturn sx sc shs sgs sy = ((-1), (oi (oi sx 4 (shs.1 3)) 3 0), shs_424, sgs, sy_426) := (by rw [k_Desk_supervisorReturn]; rw [if_pos c_421]; rw [if_neg c_422]; try rw [← er_423]; try rw [← eshs_424]; try rw [← er_425]; try rw [← esy_426]; rw [if_pos c_427]; rw [if_pos c_428]; try rfl)
          exact ct_ri hx hb hr hlocks hP hD hK hS d_Desk_supervisorReturn_130 (by rw [hk]; first | done | rfl) (by rw [hk]; first | done | rfl)
        · refine lv_iconst (v := 1) hx hb d_Desk_supervisorReturn_121 (by decide) ?_
          refine lv_goto (tgt := 126) hx hb d_Desk_supervisorReturn_122 (by decide) ?_
          refine va_put (D := G.1) (ci := 5) (v := .int 1) (ty := .int) (C := R_Desk) (T := T_Desk) (N := 8) hx hb hts (fun w h => gd_sub _ (iw_Desk w h)) ty_Desk tyok_Desk nm_Desk hown hK hP hD hS 0 rfl rfl 3 (by decide) (hts _ (gd_sub _ q_208)) (fun _ h9 => h9) rfl (by decide +kernel) rfl rfl (Nat.le_of_ble_eq_true rfl) d_Desk_supervisorReturn_126 (fun H locs hP hD hS => ?_)
          have hP : va_P G.1 vwCl [(qx, .inr (5, f_Desk qc qo qr (oi (oi sx 4 (shs.1 3)) 3 1))), (qc, .inr (1, f_Controls qo qhs qgs qy sc)), (qhs, .inr (0, f_Bank shs_424)), (qgs, .inr (0, f_Bank sgs)), (qy, .inr (2, f_Hyper sy_426))] H := hP
          have hD : va_D A [(qx, .inr (5, f_Desk qc qo qr (oi (oi sx 4 (shs.1 3)) 3 1))), (qc, .inr (1, f_Controls qo qhs qgs qy sc)), (qhs, .inr (0, f_Bank shs_424)), (qgs, .inr (0, f_Bank sgs)), (qy, .inr (2, f_Hyper sy_426))] := hD
          refine lv_iconst (v := (-1)) hx hb d_Desk_supervisorReturn_129 (by decide) ?_
          have hk : k_Desk_supervisorReturn sx sc shs sgs sy = ((-1), (oi (oi sx 4 (shs.1 3)) 3 1), shs_424, sgs, sy_426) := (by rw [k_Desk_supervisorReturn]; rw [if_pos c_421]; rw [if_neg c_422]; try rw [← er_423]; try rw [← eshs_424]; try rw [← er_425]; try rw [← esy_426]; rw [if_pos c_427]; rw [if_neg c_428]; try rfl)
          exact ct_ri hx hb hr hlocks hP hD hK hS d_Desk_supervisorReturn_130 (by rw [hk]; first | done | rfl) (by rw [hk]; first | done | rfl)
      · refine lv_aload_n hx hb d_Desk_supervisorReturn_100 rfl (lv_at hl 3 rfl) ?_
        refine lv_iload_n hx hb d_Desk_supervisorReturn_101 rfl (lv_at hl 1 rfl) ?_
        refine lv_if_eq (tgt := 109) hx hb d_Desk_supervisorReturn_102 (by decide) (fun c_429 => ?_) (fun c_429 => ?_)
        · refine lv_iconst (v := 2) hx hb d_Desk_supervisorReturn_109 (by decide) ?_
          refine va_put (D := G.1) (ci := 5) (v := .int 2) (ty := .int) (C := R_Desk) (T := T_Desk) (N := 8) hx hb hts (fun w h => gd_sub _ (iw_Desk w h)) ty_Desk tyok_Desk nm_Desk hown hK hP hD hS 0 rfl rfl 3 (by decide) (hts _ (gd_sub _ q_208)) (fun _ h9 => h9) rfl (by decide +kernel) rfl rfl (Nat.le_of_ble_eq_true rfl) d_Desk_supervisorReturn_110 (fun H locs hP hD hS => ?_)
          have hP : va_P G.1 vwCl [(qx, .inr (5, f_Desk qc qo qr (oi (oi sx 4 (shs.1 3)) 3 2))), (qc, .inr (1, f_Controls qo qhs qgs qy sc)), (qhs, .inr (0, f_Bank shs_424)), (qgs, .inr (0, f_Bank sgs)), (qy, .inr (2, f_Hyper sy_426))] H := hP
          have hD : va_D A [(qx, .inr (5, f_Desk qc qo qr (oi (oi sx 4 (shs.1 3)) 3 2))), (qc, .inr (1, f_Controls qo qhs qgs qy sc)), (qhs, .inr (0, f_Bank shs_424)), (qgs, .inr (0, f_Bank sgs)), (qy, .inr (2, f_Hyper sy_426))] := hD
          refine lv_goto (tgt := 129) hx hb d_Desk_supervisorReturn_113 (by decide) ?_
          refine lv_iconst (v := (-1)) hx hb d_Desk_supervisorReturn_129 (by decide) ?_
          have hk : k_Desk_supervisorReturn sx sc shs sgs sy = ((-1), (oi (oi sx 4 (shs.1 3)) 3 2), shs_424, sgs, sy_426) := (by rw [k_Desk_supervisorReturn]; rw [if_pos c_421]; rw [if_neg c_422]; try rw [← er_423]; try rw [← eshs_424]; try rw [← er_425]; try rw [← esy_426]; rw [if_neg c_427]; rw [if_pos c_429]; try rfl)
          exact ct_ri hx hb hr hlocks hP hD hK hS d_Desk_supervisorReturn_130 (by rw [hk]; first | done | rfl) (by rw [hk]; first | done | rfl)
        · refine lv_iconst (v := 3) hx hb d_Desk_supervisorReturn_105 (by decide) ?_
          refine lv_goto (tgt := 110) hx hb d_Desk_supervisorReturn_106 (by decide) ?_
          refine va_put (D := G.1) (ci := 5) (v := .int 3) (ty := .int) (C := R_Desk) (T := T_Desk) (N := 8) hx hb hts (fun w h => gd_sub _ (iw_Desk w h)) ty_Desk tyok_Desk nm_Desk hown hK hP hD hS 0 rfl rfl 3 (by decide) (hts _ (gd_sub _ q_208)) (fun _ h9 => h9) rfl (by decide +kernel) rfl rfl (Nat.le_of_ble_eq_true rfl) d_Desk_supervisorReturn_110 (fun H locs hP hD hS => ?_)
          have hP : va_P G.1 vwCl [(qx, .inr (5, f_Desk qc qo qr (oi (oi sx 4 (shs.1 3)) 3 3))), (qc, .inr (1, f_Controls qo qhs qgs qy sc)), (qhs, .inr (0, f_Bank shs_424)), (qgs, .inr (0, f_Bank sgs)), (qy, .inr (2, f_Hyper sy_426))] H := hP
          have hD : va_D A [(qx, .inr (5, f_Desk qc qo qr (oi (oi sx 4 (shs.1 3)) 3 3))), (qc, .inr (1, f_Controls qo qhs qgs qy sc)), (qhs, .inr (0, f_Bank shs_424)), (qgs, .inr (0, f_Bank sgs)), (qy, .inr (2, f_Hyper sy_426))] := hD
          refine lv_goto (tgt := 129) hx hb d_Desk_supervisorReturn_113 (by decide) ?_
          refine lv_iconst (v := (-1)) hx hb d_Desk_supervisorReturn_129 (by decide) ?_
          have hk : k_Desk_supervisorReturn sx sc shs sgs sy = ((-1), (oi (oi sx 4 (shs.1 3)) 3 3), shs_424, sgs, sy_426) := (by rw [k_Desk_supervisorReturn]; rw [if_pos c_421]; rw [if_neg c_422]; try rw [← er_423]; try rw [← eshs_424]; try rw [← er_425]; try rw [← esy_426]; rw [if_neg c_427]; rw [if_neg c_429]; try rfl)
          exact ct_ri hx hb hr hlocks hP hD hK hS d_Desk_supervisorReturn_130 (by rw [hk]; first | done | rfl) (by rw [hk]; first | done | rfl)
    · refine lv_aload_n hx hb d_Desk_supervisorReturn_22 rfl (lv_at hl 1 rfl) ?_
      refine lv_aload_n hx hb d_Desk_supervisorReturn_23 rfl (lv_at hl 1 rfl) ?_
      refine va_get (D := G.1) (ci := 5) (v := .ref qc) (C := R_Desk) (T := T_Desk) (N := 8) hx hb hts (fun w h => gd_sub _ (iw_Desk w h)) hown hK hP 0 rfl rfl 0 (by decide) (hts _ (gd_sub _ q_205)) (fun _ h9 => h9) rfl d_Desk_supervisorReturn_24 ?_
      refine va_get (D := G.1) (ci := 1) (v := .ref qgs) (C := R_Controls) (T := T_Controls) (N := 6) hx hb hts (fun w h => gd_sub _ (iw_Controls w h)) hown hK hP 1 rfl rfl 2 (by decide) (hts _ (gd_sub _ q_168)) (fun _ h9 => h9) rfl d_Desk_supervisorReturn_27 ?_
      refine va_get (D := G.1) (ci := 0) (v := .int (sgs.1 3)) (C := R_Bank) (T := T_Bank) (N := 7) hx hb hts (fun w h => gd_sub _ (iw_Bank w h)) hown hK hP 3 rfl rfl 3 (by decide) (hts _ (gd_sub _ q_107)) (fun _ h9 => h9) rfl d_Desk_supervisorReturn_30 ?_
      refine va_put (D := G.1) (ci := 5) (v := .int (sgs.1 3)) (ty := .int) (C := R_Desk) (T := T_Desk) (N := 8) hx hb hts (fun w h => gd_sub _ (iw_Desk w h)) ty_Desk tyok_Desk nm_Desk hown hK hP hD hS 0 rfl rfl 4 (by decide) (hts _ (gd_sub _ q_209)) (fun _ h9 => h9) rfl (by decide +kernel) rfl rfl (Nat.le_of_ble_eq_true rfl) d_Desk_supervisorReturn_33 (fun H locs hP hD hS => ?_)
      have hP : va_P G.1 vwCl [(qx, .inr (5, f_Desk qc qo qr (oi sx 4 (sgs.1 3)))), (qc, .inr (1, f_Controls qo qhs qgs qy sc)), (qhs, .inr (0, f_Bank shs)), (qgs, .inr (0, f_Bank sgs)), (qy, .inr (2, f_Hyper sy))] H := hP
      have hD : va_D A [(qx, .inr (5, f_Desk qc qo qr (oi sx 4 (sgs.1 3)))), (qc, .inr (1, f_Controls qo qhs qgs qy sc)), (qhs, .inr (0, f_Bank shs)), (qgs, .inr (0, f_Bank sgs)), (qy, .inr (2, f_Hyper sy))] := hD
      refine lv_aload_n hx hb d_Desk_supervisorReturn_36 rfl (lv_at hl 1 rfl) ?_
      refine lv_aload_n hx hb d_Desk_supervisorReturn_37 rfl (lv_at hl 1 rfl) ?_
      refine va_get (D := G.1) (ci := 5) (v := .ref qc) (C := R_Desk) (T := T_Desk) (N := 8) hx hb hts (fun w h => gd_sub _ (iw_Desk w h)) hown hK hP 0 rfl rfl 0 (by decide) (hts _ (gd_sub _ q_205)) (fun _ h9 => h9) rfl d_Desk_supervisorReturn_38 ?_
      refine va_get (D := G.1) (ci := 1) (v := .ref qgs) (C := R_Controls) (T := T_Controls) (N := 6) hx hb hts (fun w h => gd_sub _ (iw_Controls w h)) hown hK hP 1 rfl rfl 2 (by decide) (hts _ (gd_sub _ q_168)) (fun _ h9 => h9) rfl d_Desk_supervisorReturn_41 ?_
      obtain ⟨r_430, er_430⟩ : ∃ z, z = (k_Bank_leave sgs).1 := ⟨_, rfl⟩
      obtain ⟨sgs_431, esgs_431⟩ : ∃ z, z = (k_Bank_leave sgs).2 := ⟨_, rfl⟩
      have hM := c_Bank_leave l G tys qgs sgs
      rw [← er_430, ← esgs_431] at hM
      refine ct_cVi (wr := [(qx, .inr (5, f_Desk qc qo qr (oi sx 4 (sgs.1 3)))), (qc, .inr (1, f_Controls qo qhs qgs qy sc)), (qhs, .inr (0, f_Bank shs)), (qy, .inr (2, f_Hyper sy))]) (w1 := [(qgs, .inr (0, f_Bank sgs_431))]) (w2 := [(qx, .inr (5, f_Desk qc qo qr (oi sx 4 (sgs.1 3)))), (qc, .inr (1, f_Controls qo qhs qgs qy sc)), (qhs, .inr (0, f_Bank shs)), (qgs, .inr (0, f_Bank sgs_431)), (qy, .inr (2, f_Hyper sy))]) (r := (bI r_430)) (As := []) (rest := [.ref qx]) (ci := 0) (q0 := 0) ⟨hx, hb, hml, hown, hts⟩ hM (cwV 0 hts (gdV gd_gd q_467 q_468 q_469 q_44 q_470) rfl rfl rfl (by decide +kernel) ⟨Nat.le_of_ble_eq_true rfl, Nat.le_of_ble_eq_true rfl⟩) hE hK hP hD hS hA [3] [0, 1, 2, 4] [0, 1, 2, 4, 3] rfl (by decide) rfl (by decide) (by decide) rfl (by decide) rfl rfl rfl hl.1 rfl (Nat.le_of_ble_eq_true rfl) d_Desk_supervisorReturn_44 ⟨Nat.zero_le _, Nat.zero_le _⟩ (fun H locs hP hD hS => ?_)
      refine lv_if_eq (tgt := 54) hx hb d_Desk_supervisorReturn_47 (by decide) (fun c_432 => ?_) (fun c_432 => ?_)
      · refine lv_iconst (v := 2) hx hb d_Desk_supervisorReturn_54 (by decide) ?_
        refine va_put (D := G.1) (ci := 5) (v := .int 2) (ty := .int) (C := R_Desk) (T := T_Desk) (N := 8) hx hb hts (fun w h => gd_sub _ (iw_Desk w h)) ty_Desk tyok_Desk nm_Desk hown hK hP hD hS 0 rfl rfl 3 (by decide) (hts _ (gd_sub _ q_208)) (fun _ h9 => h9) rfl (by decide +kernel) rfl rfl (Nat.le_of_ble_eq_true rfl) d_Desk_supervisorReturn_55 (fun H locs hP hD hS => ?_)
        have hP : va_P G.1 vwCl [(qx, .inr (5, f_Desk qc qo qr (oi (oi sx 4 (sgs.1 3)) 3 2))), (qc, .inr (1, f_Controls qo qhs qgs qy sc)), (qhs, .inr (0, f_Bank shs)), (qgs, .inr (0, f_Bank sgs_431)), (qy, .inr (2, f_Hyper sy))] H := hP
        have hD : va_D A [(qx, .inr (5, f_Desk qc qo qr (oi (oi sx 4 (sgs.1 3)) 3 2))), (qc, .inr (1, f_Controls qo qhs qgs qy sc)), (qhs, .inr (0, f_Bank shs)), (qgs, .inr (0, f_Bank sgs_431)), (qy, .inr (2, f_Hyper sy))] := hD
        refine lv_iconst (v := (-1)) hx hb d_Desk_supervisorReturn_58 (by decide) ?_
        have hk : k_Desk_supervisorReturn sx sc shs sgs sy = ((-1), (oi (oi sx 4 (sgs.1 3)) 3 2), shs, sgs_431, sy) := (by rw [k_Desk_supervisorReturn]; rw [if_pos c_421]; rw [if_pos c_422]; try rw [← er_430]; try rw [← esgs_431]; rw [if_pos c_432]; try rfl)
        exact ct_ri hx hb hr hlocks hP hD hK hS d_Desk_supervisorReturn_59 (by rw [hk]; first | done | rfl) (by rw [hk]; first | done | rfl)
      · refine lv_iconst (v := 3) hx hb d_Desk_supervisorReturn_50 (by decide) ?_
        refine lv_goto (tgt := 55) hx hb d_Desk_supervisorReturn_51 (by decide) ?_
        refine va_put (D := G.1) (ci := 5) (v := .int 3) (ty := .int) (C := R_Desk) (T := T_Desk) (N := 8) hx hb hts (fun w h => gd_sub _ (iw_Desk w h)) ty_Desk tyok_Desk nm_Desk hown hK hP hD hS 0 rfl rfl 3 (by decide) (hts _ (gd_sub _ q_208)) (fun _ h9 => h9) rfl (by decide +kernel) rfl rfl (Nat.le_of_ble_eq_true rfl) d_Desk_supervisorReturn_55 (fun H locs hP hD hS => ?_)
        have hP : va_P G.1 vwCl [(qx, .inr (5, f_Desk qc qo qr (oi (oi sx 4 (sgs.1 3)) 3 3))), (qc, .inr (1, f_Controls qo qhs qgs qy sc)), (qhs, .inr (0, f_Bank shs)), (qgs, .inr (0, f_Bank sgs_431)), (qy, .inr (2, f_Hyper sy))] H := hP
        have hD : va_D A [(qx, .inr (5, f_Desk qc qo qr (oi (oi sx 4 (sgs.1 3)) 3 3))), (qc, .inr (1, f_Controls qo qhs qgs qy sc)), (qhs, .inr (0, f_Bank shs)), (qgs, .inr (0, f_Bank sgs_431)), (qy, .inr (2, f_Hyper sy))] := hD
        refine lv_iconst (v := (-1)) hx hb d_Desk_supervisorReturn_58 (by decide) ?_
        have hk : k_Desk_supervisorReturn sx sc shs sgs sy = ((-1), (oi (oi sx 4 (sgs.1 3)) 3 3), shs, sgs_431, sy) := (by rw [k_Desk_supervisorReturn]; rw [if_pos c_421]; rw [if_pos c_422]; try rw [← er_430]; try rw [← esgs_431]; rw [if_neg c_432]; try rfl)
        exact ct_ri hx hb hr hlocks hP hD hK hS d_Desk_supervisorReturn_59 (by rw [hk]; first | done | rfl) (by rw [hk]; first | done | rfl)
  · refine lv_iload_n hx hb d_Desk_supervisorReturn_12 rfl (lv_at hl 0 rfl) ?_
    have hk : k_Desk_supervisorReturn sx sc shs sgs sy = ((k_Desk_refusalOfSupervisorWord sx sc sy 4194304), sx, shs, sgs, sy) := (by rw [k_Desk_supervisorReturn]; rw [if_neg c_421]; try rfl)
    exact ct_ri hx hb hr hlocks hP hD hK hS d_Desk_supervisorReturn_13 (by rw [hk]; first | done | rfl) (by rw [hk]; first | done | rfl)
