def k_Outside_reset (so : ob) : ob :=
  (oz (oz (ol (ol (oi so 1 0) 2 0) 3 9223372036854775807) 4 false) 5 false)
set_option maxHeartbeats 4000000 in
set_option maxRecDepth 100000 in
theorem c_Outside_reset (l : Launch) (G : gx) (tys : List (ClassId × FieldType)) (qo qa : Nat) (so : ob) : ct_V l y_Outside_reset ws_Outside_reset ({ frames := 0, cells := 0, slots := 0, locals := 0 }) G tys [.ref qo] [(qo, .inr (3, f_Outside qa so))] [(qo, .inr (3, f_Outside qa (k_Outside_reset so)))] := by
  refine ct_hV (cc := cc_Outside_reset) (maxL := 1) (ret := none) (by decide) rfl (Nat.le_of_ble_eq_true rfl) ?_
  intro p e s m below meth c A ls hx hb hr hml hts hown hlocks hP hK hD hA hE hS hl
  have hl : lv_has ls 1 [(0, .ref qo)] := hl
  have hown : s.vm.findClass R_Outside = some m.cls := hown
  refine lv_aload_n hx hb d_Outside_reset_0 rfl (lv_at hl 0 rfl) ?_
  refine lv_iconst (v := 0) hx hb d_Outside_reset_1 (by decide) ?_
  refine va_put (D := G.1) (ci := 3) (v := .int 0) (ty := .int) (C := R_Outside) (T := T_Outside) (N := 6) hx hb hts (fun w h => gd_sub _ (iw_Outside w h)) ty_Outside tyok_Outside nm_Outside hown hK hP hD hS 0 rfl rfl 1 (by decide) (hts _ (gd_sub _ q_71)) (fun _ h9 => h9) rfl (by decide +kernel) rfl rfl (Nat.le_of_ble_eq_true rfl) d_Outside_reset_2 (fun H locs hP hD hS => ?_)
  have hP : va_P G.1 vwCl [(qo, .inr (3, f_Outside qa (oi so 1 0)))] H := hP
  have hD : va_D A [(qo, .inr (3, f_Outside qa (oi so 1 0)))] := hD
  refine lv_aload_n hx hb d_Outside_reset_5 rfl (lv_at hl 0 rfl) ?_
  refine lv_lconst (v := 0) hx hb d_Outside_reset_6 (by decide) ?_
  refine va_put (D := G.1) (ci := 3) (v := .long 0) (ty := .long) (C := R_Outside) (T := T_Outside) (N := 6) hx hb hts (fun w h => gd_sub _ (iw_Outside w h)) ty_Outside tyok_Outside nm_Outside hown hK hP hD hS 0 rfl rfl 2 (by decide) (hts _ (gd_sub _ q_73)) (fun _ h9 => h9) rfl (by decide +kernel) rfl rfl (Nat.le_of_ble_eq_true rfl) d_Outside_reset_7 (fun H locs hP hD hS => ?_)
  have hP : va_P G.1 vwCl [(qo, .inr (3, f_Outside qa (ol (oi so 1 0) 2 0)))] H := hP
  have hD : va_D A [(qo, .inr (3, f_Outside qa (ol (oi so 1 0) 2 0)))] := hD
  refine lv_aload_n hx hb d_Outside_reset_10 rfl (lv_at hl 0 rfl) ?_
  refine lv_ldc2 (v := 9223372036854775807) hx hb hown (hts _ (gd_sub _ q_69)) d_Outside_reset_11 ?_
  refine va_put (D := G.1) (ci := 3) (v := .long 9223372036854775807) (ty := .long) (C := R_Outside) (T := T_Outside) (N := 6) hx hb hts (fun w h => gd_sub _ (iw_Outside w h)) ty_Outside tyok_Outside nm_Outside hown hK hP hD hS 0 rfl rfl 3 (by decide) (hts _ (gd_sub _ q_76)) (fun _ h9 => h9) rfl (by decide +kernel) rfl rfl (Nat.le_of_ble_eq_true rfl) d_Outside_reset_14 (fun H locs hP hD hS => ?_)
  have hP : va_P G.1 vwCl [(qo, .inr (3, f_Outside qa (ol (ol (oi so 1 0) 2 0) 3 9223372036854775807)))] H := hP
  have hD : va_D A [(qo, .inr (3, f_Outside qa (ol (ol (oi so 1 0) 2 0) 3 9223372036854775807)))] := hD
  refine lv_aload_n hx hb d_Outside_reset_17 rfl (lv_at hl 0 rfl) ?_
  refine lv_iconst (v := 0) hx hb d_Outside_reset_18 (by decide) ?_
  refine va_put (D := G.1) (ci := 3) (v := .int 0) (ty := .boolean) (C := R_Outside) (T := T_Outside) (N := 6) hx hb hts (fun w h => gd_sub _ (iw_Outside w h)) ty_Outside tyok_Outside nm_Outside hown hK hP hD hS 0 rfl rfl 4 (by decide) (hts _ (gd_sub _ q_78)) (fun _ h9 => h9) rfl (by decide +kernel) rfl rfl (Nat.le_of_ble_eq_true rfl) d_Outside_reset_19 (fun H locs hP hD hS => ?_)
  have hP : va_P G.1 vwCl [(qo, .inr (3, f_Outside qa (oz (ol (ol (oi so 1 0) 2 0) 3 9223372036854775807) 4 false)))] H := hP
  have hD : va_D A [(qo, .inr (3, f_Outside qa (oz (ol (ol (oi so 1 0) 2 0) 3 9223372036854775807) 4 false)))] := hD
  refine lv_aload_n hx hb d_Outside_reset_22 rfl (lv_at hl 0 rfl) ?_
  refine lv_iconst (v := 0) hx hb d_Outside_reset_23 (by decide) ?_
  refine va_put (D := G.1) (ci := 3) (v := .int 0) (ty := .boolean) (C := R_Outside) (T := T_Outside) (N := 6) hx hb hts (fun w h => gd_sub _ (iw_Outside w h)) ty_Outside tyok_Outside nm_Outside hown hK hP hD hS 0 rfl rfl 5 (by decide) (hts _ (gd_sub _ q_81)) (fun _ h9 => h9) rfl (by decide +kernel) rfl rfl (Nat.le_of_ble_eq_true rfl) d_Outside_reset_24 (fun H locs hP hD hS => ?_)
  have hP : va_P G.1 vwCl [(qo, .inr (3, f_Outside qa (oz (oz (ol (ol (oi so 1 0) 2 0) 3 9223372036854775807) 4 false) 5 false)))] H := hP
  have hD : va_D A [(qo, .inr (3, f_Outside qa (oz (oz (ol (ol (oi so 1 0) 2 0) 3 9223372036854775807) 4 false) 5 false)))] := hD
  have hk : k_Outside_reset so = (oz (oz (ol (ol (oi so 1 0) 2 0) 3 9223372036854775807) 4 false) 5 false) := (by rw [k_Outside_reset]; try rfl)
  exact ct_rv hx hb hr hlocks hP hD hK hS d_Outside_reset_27 (by rw [hk]; first | done | rfl)
def k_Bank_reset (sb : ob) : ob :=
  (oi (oi (oi (oi (oi (oi (oi sb 0 0) 1 0) 2 0) 3 0) 4 0) 5 0) 6 0)
set_option maxHeartbeats 4000000 in
set_option maxRecDepth 100000 in
theorem c_Bank_reset (l : Launch) (G : gx) (tys : List (ClassId × FieldType)) (qb : Nat) (sb : ob) : ct_V l y_Bank_reset ws_Bank_reset ({ frames := 0, cells := 0, slots := 0, locals := 0 }) G tys [.ref qb] [(qb, .inr (0, f_Bank sb))] [(qb, .inr (0, f_Bank (k_Bank_reset sb)))] := by
  refine ct_hV (cc := cc_Bank_reset) (maxL := 1) (ret := none) (by decide) rfl (Nat.le_of_ble_eq_true rfl) ?_
  intro p e s m below meth c A ls hx hb hr hml hts hown hlocks hP hK hD hA hE hS hl
  have hl : lv_has ls 1 [(0, .ref qb)] := hl
  have hown : s.vm.findClass R_Bank = some m.cls := hown
  refine lv_aload_n hx hb d_Bank_reset_0 rfl (lv_at hl 0 rfl) ?_
  refine lv_iconst (v := 0) hx hb d_Bank_reset_1 (by decide) ?_
  refine va_put (D := G.1) (ci := 0) (v := .int 0) (ty := .int) (C := R_Bank) (T := T_Bank) (N := 7) hx hb hts (fun w h => gd_sub _ (iw_Bank w h)) ty_Bank tyok_Bank nm_Bank hown hK hP hD hS 0 rfl rfl 0 (by decide) (hts _ (gd_sub _ q_103)) (fun _ h9 => h9) rfl (by decide +kernel) rfl rfl (Nat.le_of_ble_eq_true rfl) d_Bank_reset_2 (fun H locs hP hD hS => ?_)
  have hP : va_P G.1 vwCl [(qb, .inr (0, f_Bank (oi sb 0 0)))] H := hP
  have hD : va_D A [(qb, .inr (0, f_Bank (oi sb 0 0)))] := hD
  refine lv_aload_n hx hb d_Bank_reset_5 rfl (lv_at hl 0 rfl) ?_
  refine lv_iconst (v := 0) hx hb d_Bank_reset_6 (by decide) ?_
  refine va_put (D := G.1) (ci := 0) (v := .int 0) (ty := .int) (C := R_Bank) (T := T_Bank) (N := 7) hx hb hts (fun w h => gd_sub _ (iw_Bank w h)) ty_Bank tyok_Bank nm_Bank hown hK hP hD hS 0 rfl rfl 1 (by decide) (hts _ (gd_sub _ q_104)) (fun _ h9 => h9) rfl (by decide +kernel) rfl rfl (Nat.le_of_ble_eq_true rfl) d_Bank_reset_7 (fun H locs hP hD hS => ?_)
  have hP : va_P G.1 vwCl [(qb, .inr (0, f_Bank (oi (oi sb 0 0) 1 0)))] H := hP
  have hD : va_D A [(qb, .inr (0, f_Bank (oi (oi sb 0 0) 1 0)))] := hD
  refine lv_aload_n hx hb d_Bank_reset_10 rfl (lv_at hl 0 rfl) ?_
  refine lv_iconst (v := 0) hx hb d_Bank_reset_11 (by decide) ?_
  refine va_put (D := G.1) (ci := 0) (v := .int 0) (ty := .int) (C := R_Bank) (T := T_Bank) (N := 7) hx hb hts (fun w h => gd_sub _ (iw_Bank w h)) ty_Bank tyok_Bank nm_Bank hown hK hP hD hS 0 rfl rfl 2 (by decide) (hts _ (gd_sub _ q_105)) (fun _ h9 => h9) rfl (by decide +kernel) rfl rfl (Nat.le_of_ble_eq_true rfl) d_Bank_reset_12 (fun H locs hP hD hS => ?_)
  have hP : va_P G.1 vwCl [(qb, .inr (0, f_Bank (oi (oi (oi sb 0 0) 1 0) 2 0)))] H := hP
  have hD : va_D A [(qb, .inr (0, f_Bank (oi (oi (oi sb 0 0) 1 0) 2 0)))] := hD
  refine lv_aload_n hx hb d_Bank_reset_15 rfl (lv_at hl 0 rfl) ?_
  refine lv_iconst (v := 0) hx hb d_Bank_reset_16 (by decide) ?_
  refine va_put (D := G.1) (ci := 0) (v := .int 0) (ty := .int) (C := R_Bank) (T := T_Bank) (N := 7) hx hb hts (fun w h => gd_sub _ (iw_Bank w h)) ty_Bank tyok_Bank nm_Bank hown hK hP hD hS 0 rfl rfl 3 (by decide) (hts _ (gd_sub _ q_106)) (fun _ h9 => h9) rfl (by decide +kernel) rfl rfl (Nat.le_of_ble_eq_true rfl) d_Bank_reset_17 (fun H locs hP hD hS => ?_)
  have hP : va_P G.1 vwCl [(qb, .inr (0, f_Bank (oi (oi (oi (oi sb 0 0) 1 0) 2 0) 3 0)))] H := hP
  have hD : va_D A [(qb, .inr (0, f_Bank (oi (oi (oi (oi sb 0 0) 1 0) 2 0) 3 0)))] := hD
  refine lv_aload_n hx hb d_Bank_reset_20 rfl (lv_at hl 0 rfl) ?_
  refine lv_iconst (v := 0) hx hb d_Bank_reset_21 (by decide) ?_
  refine va_put (D := G.1) (ci := 0) (v := .int 0) (ty := .int) (C := R_Bank) (T := T_Bank) (N := 7) hx hb hts (fun w h => gd_sub _ (iw_Bank w h)) ty_Bank tyok_Bank nm_Bank hown hK hP hD hS 0 rfl rfl 4 (by decide) (hts _ (gd_sub _ q_108)) (fun _ h9 => h9) rfl (by decide +kernel) rfl rfl (Nat.le_of_ble_eq_true rfl) d_Bank_reset_22 (fun H locs hP hD hS => ?_)
  have hP : va_P G.1 vwCl [(qb, .inr (0, f_Bank (oi (oi (oi (oi (oi sb 0 0) 1 0) 2 0) 3 0) 4 0)))] H := hP
  have hD : va_D A [(qb, .inr (0, f_Bank (oi (oi (oi (oi (oi sb 0 0) 1 0) 2 0) 3 0) 4 0)))] := hD
  refine lv_aload_n hx hb d_Bank_reset_25 rfl (lv_at hl 0 rfl) ?_
  refine lv_iconst (v := 0) hx hb d_Bank_reset_26 (by decide) ?_
  refine va_put (D := G.1) (ci := 0) (v := .int 0) (ty := .int) (C := R_Bank) (T := T_Bank) (N := 7) hx hb hts (fun w h => gd_sub _ (iw_Bank w h)) ty_Bank tyok_Bank nm_Bank hown hK hP hD hS 0 rfl rfl 5 (by decide) (hts _ (gd_sub _ q_109)) (fun _ h9 => h9) rfl (by decide +kernel) rfl rfl (Nat.le_of_ble_eq_true rfl) d_Bank_reset_27 (fun H locs hP hD hS => ?_)
  have hP : va_P G.1 vwCl [(qb, .inr (0, f_Bank (oi (oi (oi (oi (oi (oi sb 0 0) 1 0) 2 0) 3 0) 4 0) 5 0)))] H := hP
  have hD : va_D A [(qb, .inr (0, f_Bank (oi (oi (oi (oi (oi (oi sb 0 0) 1 0) 2 0) 3 0) 4 0) 5 0)))] := hD
  refine lv_aload_n hx hb d_Bank_reset_30 rfl (lv_at hl 0 rfl) ?_
  refine lv_iconst (v := 0) hx hb d_Bank_reset_31 (by decide) ?_
  refine va_put (D := G.1) (ci := 0) (v := .int 0) (ty := .int) (C := R_Bank) (T := T_Bank) (N := 7) hx hb hts (fun w h => gd_sub _ (iw_Bank w h)) ty_Bank tyok_Bank nm_Bank hown hK hP hD hS 0 rfl rfl 6 (by decide) (hts _ (gd_sub _ q_110)) (fun _ h9 => h9) rfl (by decide +kernel) rfl rfl (Nat.le_of_ble_eq_true rfl) d_Bank_reset_32 (fun H locs hP hD hS => ?_)
  have hP : va_P G.1 vwCl [(qb, .inr (0, f_Bank (oi (oi (oi (oi (oi (oi (oi sb 0 0) 1 0) 2 0) 3 0) 4 0) 5 0) 6 0)))] H := hP
  have hD : va_D A [(qb, .inr (0, f_Bank (oi (oi (oi (oi (oi (oi (oi sb 0 0) 1 0) 2 0) 3 0) 4 0) 5 0) 6 0)))] := hD
  have hk : k_Bank_reset sb = (oi (oi (oi (oi (oi (oi (oi sb 0 0) 1 0) 2 0) 3 0) 4 0) 5 0) 6 0) := (by rw [k_Bank_reset]; try rfl)
  exact ct_rv hx hb hr hlocks hP hD hK hS d_Bank_reset_35 (by rw [hk]; first | done | rfl)
def k_Hyper_reset (sy : ob) : ob :=
  (oi (oi (oi (oi (oi (oi (oi (oi sy 0 0) 1 0) 2 0) 3 0) 4 0) 5 0) 6 0) 7 0)
set_option maxHeartbeats 4000000 in
set_option maxRecDepth 100000 in
theorem c_Hyper_reset (l : Launch) (G : gx) (tys : List (ClassId × FieldType)) (qy : Nat) (sy : ob) : ct_V l y_Hyper_reset ws_Hyper_reset ({ frames := 0, cells := 0, slots := 0, locals := 0 }) G tys [.ref qy] [(qy, .inr (2, f_Hyper sy))] [(qy, .inr (2, f_Hyper (k_Hyper_reset sy)))] := by
  refine ct_hV (cc := cc_Hyper_reset) (maxL := 1) (ret := none) (by decide) rfl (Nat.le_of_ble_eq_true rfl) ?_
  intro p e s m below meth c A ls hx hb hr hml hts hown hlocks hP hK hD hA hE hS hl
  have hl : lv_has ls 1 [(0, .ref qy)] := hl
  have hown : s.vm.findClass R_Hyper = some m.cls := hown
  refine lv_aload_n hx hb d_Hyper_reset_0 rfl (lv_at hl 0 rfl) ?_
  refine lv_iconst (v := 0) hx hb d_Hyper_reset_1 (by decide) ?_
  refine va_put (D := G.1) (ci := 2) (v := .int 0) (ty := .int) (C := R_Hyper) (T := T_Hyper) (N := 8) hx hb hts (fun w h => gd_sub _ (iw_Hyper w h)) ty_Hyper tyok_Hyper nm_Hyper hown hK hP hD hS 0 rfl rfl 0 (by decide) (hts _ (gd_sub _ q_132)) (fun _ h9 => h9) rfl (by decide +kernel) rfl rfl (Nat.le_of_ble_eq_true rfl) d_Hyper_reset_2 (fun H locs hP hD hS => ?_)
  have hP : va_P G.1 vwCl [(qy, .inr (2, f_Hyper (oi sy 0 0)))] H := hP
  have hD : va_D A [(qy, .inr (2, f_Hyper (oi sy 0 0)))] := hD
  refine lv_aload_n hx hb d_Hyper_reset_5 rfl (lv_at hl 0 rfl) ?_
  refine lv_iconst (v := 0) hx hb d_Hyper_reset_6 (by decide) ?_
  refine va_put (D := G.1) (ci := 2) (v := .int 0) (ty := .int) (C := R_Hyper) (T := T_Hyper) (N := 8) hx hb hts (fun w h => gd_sub _ (iw_Hyper w h)) ty_Hyper tyok_Hyper nm_Hyper hown hK hP hD hS 0 rfl rfl 1 (by decide) (hts _ (gd_sub _ q_133)) (fun _ h9 => h9) rfl (by decide +kernel) rfl rfl (Nat.le_of_ble_eq_true rfl) d_Hyper_reset_7 (fun H locs hP hD hS => ?_)
  have hP : va_P G.1 vwCl [(qy, .inr (2, f_Hyper (oi (oi sy 0 0) 1 0)))] H := hP
  have hD : va_D A [(qy, .inr (2, f_Hyper (oi (oi sy 0 0) 1 0)))] := hD
  refine lv_aload_n hx hb d_Hyper_reset_10 rfl (lv_at hl 0 rfl) ?_
  refine lv_iconst (v := 0) hx hb d_Hyper_reset_11 (by decide) ?_
  refine va_put (D := G.1) (ci := 2) (v := .int 0) (ty := .int) (C := R_Hyper) (T := T_Hyper) (N := 8) hx hb hts (fun w h => gd_sub _ (iw_Hyper w h)) ty_Hyper tyok_Hyper nm_Hyper hown hK hP hD hS 0 rfl rfl 2 (by decide) (hts _ (gd_sub _ q_135)) (fun _ h9 => h9) rfl (by decide +kernel) rfl rfl (Nat.le_of_ble_eq_true rfl) d_Hyper_reset_12 (fun H locs hP hD hS => ?_)
  have hP : va_P G.1 vwCl [(qy, .inr (2, f_Hyper (oi (oi (oi sy 0 0) 1 0) 2 0)))] H := hP
  have hD : va_D A [(qy, .inr (2, f_Hyper (oi (oi (oi sy 0 0) 1 0) 2 0)))] := hD
  refine lv_aload_n hx hb d_Hyper_reset_15 rfl (lv_at hl 0 rfl) ?_
  refine lv_iconst (v := 0) hx hb d_Hyper_reset_16 (by decide) ?_
  refine va_put (D := G.1) (ci := 2) (v := .int 0) (ty := .int) (C := R_Hyper) (T := T_Hyper) (N := 8) hx hb hts (fun w h => gd_sub _ (iw_Hyper w h)) ty_Hyper tyok_Hyper nm_Hyper hown hK hP hD hS 0 rfl rfl 3 (by decide) (hts _ (gd_sub _ q_137)) (fun _ h9 => h9) rfl (by decide +kernel) rfl rfl (Nat.le_of_ble_eq_true rfl) d_Hyper_reset_17 (fun H locs hP hD hS => ?_)
  have hP : va_P G.1 vwCl [(qy, .inr (2, f_Hyper (oi (oi (oi (oi sy 0 0) 1 0) 2 0) 3 0)))] H := hP
  have hD : va_D A [(qy, .inr (2, f_Hyper (oi (oi (oi (oi sy 0 0) 1 0) 2 0) 3 0)))] := hD
  refine lv_aload_n hx hb d_Hyper_reset_20 rfl (lv_at hl 0 rfl) ?_
  refine lv_iconst (v := 0) hx hb d_Hyper_reset_21 (by decide) ?_
  refine va_put (D := G.1) (ci := 2) (v := .int 0) (ty := .int) (C := R_Hyper) (T := T_Hyper) (N := 8) hx hb hts (fun w h => gd_sub _ (iw_Hyper w h)) ty_Hyper tyok_Hyper nm_Hyper hown hK hP hD hS 0 rfl rfl 4 (by decide) (hts _ (gd_sub _ q_139)) (fun _ h9 => h9) rfl (by decide +kernel) rfl rfl (Nat.le_of_ble_eq_true rfl) d_Hyper_reset_22 (fun H locs hP hD hS => ?_)
  have hP : va_P G.1 vwCl [(qy, .inr (2, f_Hyper (oi (oi (oi (oi (oi sy 0 0) 1 0) 2 0) 3 0) 4 0)))] H := hP
  have hD : va_D A [(qy, .inr (2, f_Hyper (oi (oi (oi (oi (oi sy 0 0) 1 0) 2 0) 3 0) 4 0)))] := hD
  refine lv_aload_n hx hb d_Hyper_reset_25 rfl (lv_at hl 0 rfl) ?_
  refine lv_iconst (v := 0) hx hb d_Hyper_reset_26 (by decide) ?_
  refine va_put (D := G.1) (ci := 2) (v := .int 0) (ty := .int) (C := R_Hyper) (T := T_Hyper) (N := 8) hx hb hts (fun w h => gd_sub _ (iw_Hyper w h)) ty_Hyper tyok_Hyper nm_Hyper hown hK hP hD hS 0 rfl rfl 5 (by decide) (hts _ (gd_sub _ q_141)) (fun _ h9 => h9) rfl (by decide +kernel) rfl rfl (Nat.le_of_ble_eq_true rfl) d_Hyper_reset_27 (fun H locs hP hD hS => ?_)
  have hP : va_P G.1 vwCl [(qy, .inr (2, f_Hyper (oi (oi (oi (oi (oi (oi sy 0 0) 1 0) 2 0) 3 0) 4 0) 5 0)))] H := hP
  have hD : va_D A [(qy, .inr (2, f_Hyper (oi (oi (oi (oi (oi (oi sy 0 0) 1 0) 2 0) 3 0) 4 0) 5 0)))] := hD
  refine lv_aload_n hx hb d_Hyper_reset_30 rfl (lv_at hl 0 rfl) ?_
  refine lv_iconst (v := 0) hx hb d_Hyper_reset_31 (by decide) ?_
  refine va_put (D := G.1) (ci := 2) (v := .int 0) (ty := .int) (C := R_Hyper) (T := T_Hyper) (N := 8) hx hb hts (fun w h => gd_sub _ (iw_Hyper w h)) ty_Hyper tyok_Hyper nm_Hyper hown hK hP hD hS 0 rfl rfl 6 (by decide) (hts _ (gd_sub _ q_143)) (fun _ h9 => h9) rfl (by decide +kernel) rfl rfl (Nat.le_of_ble_eq_true rfl) d_Hyper_reset_32 (fun H locs hP hD hS => ?_)
  have hP : va_P G.1 vwCl [(qy, .inr (2, f_Hyper (oi (oi (oi (oi (oi (oi (oi sy 0 0) 1 0) 2 0) 3 0) 4 0) 5 0) 6 0)))] H := hP
  have hD : va_D A [(qy, .inr (2, f_Hyper (oi (oi (oi (oi (oi (oi (oi sy 0 0) 1 0) 2 0) 3 0) 4 0) 5 0) 6 0)))] := hD
  refine lv_aload_n hx hb d_Hyper_reset_35 rfl (lv_at hl 0 rfl) ?_
  refine lv_iconst (v := 0) hx hb d_Hyper_reset_36 (by decide) ?_
  refine va_put (D := G.1) (ci := 2) (v := .int 0) (ty := .int) (C := R_Hyper) (T := T_Hyper) (N := 8) hx hb hts (fun w h => gd_sub _ (iw_Hyper w h)) ty_Hyper tyok_Hyper nm_Hyper hown hK hP hD hS 0 rfl rfl 7 (by decide) (hts _ (gd_sub _ q_145)) (fun _ h9 => h9) rfl (by decide +kernel) rfl rfl (Nat.le_of_ble_eq_true rfl) d_Hyper_reset_37 (fun H locs hP hD hS => ?_)
  have hP : va_P G.1 vwCl [(qy, .inr (2, f_Hyper (oi (oi (oi (oi (oi (oi (oi (oi sy 0 0) 1 0) 2 0) 3 0) 4 0) 5 0) 6 0) 7 0)))] H := hP
  have hD : va_D A [(qy, .inr (2, f_Hyper (oi (oi (oi (oi (oi (oi (oi (oi sy 0 0) 1 0) 2 0) 3 0) 4 0) 5 0) 6 0) 7 0)))] := hD
  have hk : k_Hyper_reset sy = (oi (oi (oi (oi (oi (oi (oi (oi sy 0 0) 1 0) 2 0) 3 0) 4 0) 5 0) 6 0) 7 0) := (by rw [k_Hyper_reset]; try rfl)
  exact ct_rv hx hb hr hlocks hP hD hK hS d_Hyper_reset_40 (by rw [hk]; first | done | rfl)
def k_Controls_reset (sc : ob) (so : ob) (shs : ob) (sgs : ob) (sy : ob) : ob × ob × ob × ob × ob :=
  ((oi (oi sc 4 0) 5 0), ((k_Outside_reset so)), ((k_Bank_reset shs)), ((k_Bank_reset sgs)), ((k_Hyper_reset sy)))
set_option maxHeartbeats 4000000 in
set_option maxRecDepth 100000 in
theorem c_Controls_reset (l : Launch) (G : gx) (tys : List (ClassId × FieldType)) (qc qo qhs qgs qy qa : Nat) (sc : ob) (so : ob) (shs : ob) (sgs : ob) (sy : ob) : ct_V l y_Controls_reset ws_Controls_reset ({ frames := 1, cells := 0, slots := 0, locals := 20 }) G tys [.ref qc] [(qc, .inr (1, f_Controls qo qhs qgs qy sc)), (qo, .inr (3, f_Outside qa so)), (qhs, .inr (0, f_Bank shs)), (qgs, .inr (0, f_Bank sgs)), (qy, .inr (2, f_Hyper sy))] [(qc, .inr (1, f_Controls qo qhs qgs qy ((k_Controls_reset sc so shs sgs sy).1))), (qo, .inr (3, f_Outside qa ((k_Controls_reset sc so shs sgs sy).2.1))), (qhs, .inr (0, f_Bank ((k_Controls_reset sc so shs sgs sy).2.2.1))), (qgs, .inr (0, f_Bank ((k_Controls_reset sc so shs sgs sy).2.2.2.1))), (qy, .inr (2, f_Hyper ((k_Controls_reset sc so shs sgs sy).2.2.2.2)))] := by
  refine ct_hV (cc := cc_Controls_reset) (maxL := 1) (ret := none) (by decide) rfl (Nat.le_of_ble_eq_true rfl) ?_
  intro p e s m below meth c A ls hx hb hr hml hts hown hlocks hP hK hD hA hE hS hl
  have hl : lv_has ls 1 [(0, .ref qc)] := hl
  have hown : s.vm.findClass R_Controls = some m.cls := hown
  refine lv_aload_n hx hb d_Controls_reset_0 rfl (lv_at hl 0 rfl) ?_
  refine va_get (D := G.1) (ci := 1) (v := .ref qo) (C := R_Controls) (T := T_Controls) (N := 6) hx hb hts (fun w h => gd_sub _ (iw_Controls w h)) hown hK hP 0 rfl rfl 0 (by decide) (hts _ (gd_sub _ q_163)) (fun _ h9 => h9) rfl d_Controls_reset_1 ?_
  obtain ⟨so_5, eso_5⟩ : ∃ z, z = (k_Outside_reset so) := ⟨_, rfl⟩
  have hM := c_Outside_reset l G tys qo qa so
  rw [← eso_5] at hM
  refine ct_cVv (wr := [(qc, .inr (1, f_Controls qo qhs qgs qy sc)), (qhs, .inr (0, f_Bank shs)), (qgs, .inr (0, f_Bank sgs)), (qy, .inr (2, f_Hyper sy))]) (w1 := [(qo, .inr (3, f_Outside qa so_5))]) (w2 := [(qc, .inr (1, f_Controls qo qhs qgs qy sc)), (qo, .inr (3, f_Outside qa so_5)), (qhs, .inr (0, f_Bank shs)), (qgs, .inr (0, f_Bank sgs)), (qy, .inr (2, f_Hyper sy))]) (As := []) (rest := []) (ci := 3) (q0 := 0) ⟨hx, hb, hml, hown, hts⟩ hM (cwV 0 hts (gdV gd_gd q_238 q_239 q_240 q_43 q_241) rfl rfl rfl (by decide +kernel) ⟨Nat.le_of_ble_eq_true rfl, Nat.le_of_ble_eq_true rfl⟩) hE hK hP hD hS hA [1] [0, 2, 3, 4] [0, 4, 1, 2, 3] rfl (by decide) rfl (by decide) (by decide) rfl (by decide) rfl rfl rfl hl.1 rfl (Nat.le_of_ble_eq_true rfl) d_Controls_reset_4 ⟨Nat.zero_le _, Nat.zero_le _⟩ (fun H locs hP hD hS => ?_)
  refine lv_aload_n hx hb d_Controls_reset_7 rfl (lv_at hl 0 rfl) ?_
  refine va_get (D := G.1) (ci := 1) (v := .ref qhs) (C := R_Controls) (T := T_Controls) (N := 6) hx hb hts (fun w h => gd_sub _ (iw_Controls w h)) hown hK hP 0 rfl rfl 1 (by decide) (hts _ (gd_sub _ q_165)) (fun _ h9 => h9) rfl d_Controls_reset_8 ?_
  obtain ⟨shs_6, eshs_6⟩ : ∃ z, z = (k_Bank_reset shs) := ⟨_, rfl⟩
  have hM := c_Bank_reset l G tys qhs shs
  rw [← eshs_6] at hM
  refine ct_cVv (wr := [(qc, .inr (1, f_Controls qo qhs qgs qy sc)), (qo, .inr (3, f_Outside qa so_5)), (qgs, .inr (0, f_Bank sgs)), (qy, .inr (2, f_Hyper sy))]) (w1 := [(qhs, .inr (0, f_Bank shs_6))]) (w2 := [(qc, .inr (1, f_Controls qo qhs qgs qy sc)), (qo, .inr (3, f_Outside qa so_5)), (qhs, .inr (0, f_Bank shs_6)), (qgs, .inr (0, f_Bank sgs)), (qy, .inr (2, f_Hyper sy))]) (As := []) (rest := []) (ci := 0) (q0 := 0) ⟨hx, hb, hml, hown, hts⟩ hM (cwV 0 hts (gdV gd_gd q_242 q_243 q_244 q_44 q_245) rfl rfl rfl (by decide +kernel) ⟨Nat.le_of_ble_eq_true rfl, Nat.le_of_ble_eq_true rfl⟩) hE hK hP hD hS hA [2] [0, 1, 3, 4] [0, 1, 4, 2, 3] rfl (by decide) rfl (by decide) (by decide) rfl (by decide) rfl rfl rfl hl.1 rfl (Nat.le_of_ble_eq_true rfl) d_Controls_reset_11 ⟨Nat.zero_le _, Nat.zero_le _⟩ (fun H locs hP hD hS => ?_)
  refine lv_aload_n hx hb d_Controls_reset_14 rfl (lv_at hl 0 rfl) ?_
  refine va_get (D := G.1) (ci := 1) (v := .ref qgs) (C := R_Controls) (T := T_Controls) (N := 6) hx hb hts (fun w h => gd_sub _ (iw_Controls w h)) hown hK hP 0 rfl rfl 2 (by decide) (hts _ (gd_sub _ q_167)) (fun _ h9 => h9) rfl d_Controls_reset_15 ?_
  obtain ⟨sgs_7, esgs_7⟩ : ∃ z, z = (k_Bank_reset sgs) := ⟨_, rfl⟩
  have hM := c_Bank_reset l G tys qgs sgs
  rw [← esgs_7] at hM
  refine ct_cVv (wr := [(qc, .inr (1, f_Controls qo qhs qgs qy sc)), (qo, .inr (3, f_Outside qa so_5)), (qhs, .inr (0, f_Bank shs_6)), (qy, .inr (2, f_Hyper sy))]) (w1 := [(qgs, .inr (0, f_Bank sgs_7))]) (w2 := [(qc, .inr (1, f_Controls qo qhs qgs qy sc)), (qo, .inr (3, f_Outside qa so_5)), (qhs, .inr (0, f_Bank shs_6)), (qgs, .inr (0, f_Bank sgs_7)), (qy, .inr (2, f_Hyper sy))]) (As := []) (rest := []) (ci := 0) (q0 := 0) ⟨hx, hb, hml, hown, hts⟩ hM (cwV 0 hts (gdV gd_gd q_242 q_243 q_244 q_44 q_245) rfl rfl rfl (by decide +kernel) ⟨Nat.le_of_ble_eq_true rfl, Nat.le_of_ble_eq_true rfl⟩) hE hK hP hD hS hA [3] [0, 1, 2, 4] [0, 1, 2, 4, 3] rfl (by decide) rfl (by decide) (by decide) rfl (by decide) rfl rfl rfl hl.1 rfl (Nat.le_of_ble_eq_true rfl) d_Controls_reset_18 ⟨Nat.zero_le _, Nat.zero_le _⟩ (fun H locs hP hD hS => ?_)
  refine lv_aload_n hx hb d_Controls_reset_21 rfl (lv_at hl 0 rfl) ?_
  refine va_get (D := G.1) (ci := 1) (v := .ref qy) (C := R_Controls) (T := T_Controls) (N := 6) hx hb hts (fun w h => gd_sub _ (iw_Controls w h)) hown hK hP 0 rfl rfl 3 (by decide) (hts _ (gd_sub _ q_169)) (fun _ h9 => h9) rfl d_Controls_reset_22 ?_
  obtain ⟨sy_8, esy_8⟩ : ∃ z, z = (k_Hyper_reset sy) := ⟨_, rfl⟩
  have hM := c_Hyper_reset l G tys qy sy
  rw [← esy_8] at hM
  refine ct_cVv (wr := [(qc, .inr (1, f_Controls qo qhs qgs qy sc)), (qo, .inr (3, f_Outside qa so_5)), (qhs, .inr (0, f_Bank shs_6)), (qgs, .inr (0, f_Bank sgs_7))]) (w1 := [(qy, .inr (2, f_Hyper sy_8))]) (w2 := [(qc, .inr (1, f_Controls qo qhs qgs qy sc)), (qo, .inr (3, f_Outside qa so_5)), (qhs, .inr (0, f_Bank shs_6)), (qgs, .inr (0, f_Bank sgs_7)), (qy, .inr (2, f_Hyper sy_8))]) (As := []) (rest := []) (ci := 2) (q0 := 0) ⟨hx, hb, hml, hown, hts⟩ hM (cwV 0 hts (gdV gd_gd q_246 q_247 q_248 q_45 q_249) rfl rfl rfl (by decide +kernel) ⟨Nat.le_of_ble_eq_true rfl, Nat.le_of_ble_eq_true rfl⟩) hE hK hP hD hS hA [4] [0, 1, 2, 3] [0, 1, 2, 3, 4] rfl (by decide) rfl (by decide) (by decide) rfl (by decide) rfl rfl rfl hl.1 rfl (Nat.le_of_ble_eq_true rfl) d_Controls_reset_25 ⟨Nat.zero_le _, Nat.zero_le _⟩ (fun H locs hP hD hS => ?_)
  refine lv_aload_n hx hb d_Controls_reset_28 rfl (lv_at hl 0 rfl) ?_
  refine lv_iconst (v := 0) hx hb d_Controls_reset_29 (by decide) ?_
  refine va_put (D := G.1) (ci := 1) (v := .int 0) (ty := .int) (C := R_Controls) (T := T_Controls) (N := 6) hx hb hts (fun w h => gd_sub _ (iw_Controls w h)) ty_Controls tyok_Controls nm_Controls hown hK hP hD hS 0 rfl rfl 4 (by decide) (hts _ (gd_sub _ q_171)) (fun _ h9 => h9) rfl (by decide +kernel) rfl rfl (Nat.le_of_ble_eq_true rfl) d_Controls_reset_30 (fun H locs hP hD hS => ?_)
  have hP : va_P G.1 vwCl [(qc, .inr (1, f_Controls qo qhs qgs qy (oi sc 4 0))), (qo, .inr (3, f_Outside qa so_5)), (qhs, .inr (0, f_Bank shs_6)), (qgs, .inr (0, f_Bank sgs_7)), (qy, .inr (2, f_Hyper sy_8))] H := hP
  have hD : va_D A [(qc, .inr (1, f_Controls qo qhs qgs qy (oi sc 4 0))), (qo, .inr (3, f_Outside qa so_5)), (qhs, .inr (0, f_Bank shs_6)), (qgs, .inr (0, f_Bank sgs_7)), (qy, .inr (2, f_Hyper sy_8))] := hD
  refine lv_aload_n hx hb d_Controls_reset_33 rfl (lv_at hl 0 rfl) ?_
  refine lv_iconst (v := 0) hx hb d_Controls_reset_34 (by decide) ?_
  refine va_put (D := G.1) (ci := 1) (v := .int 0) (ty := .int) (C := R_Controls) (T := T_Controls) (N := 6) hx hb hts (fun w h => gd_sub _ (iw_Controls w h)) ty_Controls tyok_Controls nm_Controls hown hK hP hD hS 0 rfl rfl 5 (by decide) (hts _ (gd_sub _ q_172)) (fun _ h9 => h9) rfl (by decide +kernel) rfl rfl (Nat.le_of_ble_eq_true rfl) d_Controls_reset_35 (fun H locs hP hD hS => ?_)
  have hP : va_P G.1 vwCl [(qc, .inr (1, f_Controls qo qhs qgs qy (oi (oi sc 4 0) 5 0))), (qo, .inr (3, f_Outside qa so_5)), (qhs, .inr (0, f_Bank shs_6)), (qgs, .inr (0, f_Bank sgs_7)), (qy, .inr (2, f_Hyper sy_8))] H := hP
  have hD : va_D A [(qc, .inr (1, f_Controls qo qhs qgs qy (oi (oi sc 4 0) 5 0))), (qo, .inr (3, f_Outside qa so_5)), (qhs, .inr (0, f_Bank shs_6)), (qgs, .inr (0, f_Bank sgs_7)), (qy, .inr (2, f_Hyper sy_8))] := hD
  have hk : k_Controls_reset sc so shs sgs sy = ((oi (oi sc 4 0) 5 0), so_5, shs_6, sgs_7, sy_8) := (by rw [k_Controls_reset]; try rw [← eso_5]; try rw [← eshs_6]; try rw [← esgs_7]; try rw [← esy_8]; try rfl)
  exact ct_rv hx hb hr hlocks hP hD hK hS d_Controls_reset_38 (by rw [hk]; first | done | rfl)
def k_Registers_reset (sr : ob) : ob :=
  (oi (oi (oi sr 0 0) 1 0) 2 0)
set_option maxHeartbeats 4000000 in
set_option maxRecDepth 100000 in
theorem c_Registers_reset (l : Launch) (G : gx) (tys : List (ClassId × FieldType)) (qr : Nat) (sr : ob) : ct_V l y_Registers_reset ws_Registers_reset ({ frames := 0, cells := 0, slots := 0, locals := 0 }) G tys [.ref qr] [(qr, .inr (4, f_Registers sr))] [(qr, .inr (4, f_Registers (k_Registers_reset sr)))] := by
  refine ct_hV (cc := cc_Registers_reset) (maxL := 1) (ret := none) (by decide) rfl (Nat.le_of_ble_eq_true rfl) ?_
  intro p e s m below meth c A ls hx hb hr hml hts hown hlocks hP hK hD hA hE hS hl
  have hl : lv_has ls 1 [(0, .ref qr)] := hl
  have hown : s.vm.findClass R_Registers = some m.cls := hown
  refine lv_aload_n hx hb d_Registers_reset_0 rfl (lv_at hl 0 rfl) ?_
  refine lv_iconst (v := 0) hx hb d_Registers_reset_1 (by decide) ?_
  refine va_put (D := G.1) (ci := 4) (v := .int 0) (ty := .int) (C := R_Registers) (T := T_Registers) (N := 3) hx hb hts (fun w h => gd_sub _ (iw_Registers w h)) ty_Registers tyok_Registers nm_Registers hown hK hP hD hS 0 rfl rfl 0 (by decide) (hts _ (gd_sub _ q_192)) (fun _ h9 => h9) rfl (by decide +kernel) rfl rfl (Nat.le_of_ble_eq_true rfl) d_Registers_reset_2 (fun H locs hP hD hS => ?_)
  have hP : va_P G.1 vwCl [(qr, .inr (4, f_Registers (oi sr 0 0)))] H := hP
  have hD : va_D A [(qr, .inr (4, f_Registers (oi sr 0 0)))] := hD
  refine lv_aload_n hx hb d_Registers_reset_5 rfl (lv_at hl 0 rfl) ?_
  refine lv_iconst (v := 0) hx hb d_Registers_reset_6 (by decide) ?_
  refine va_put (D := G.1) (ci := 4) (v := .int 0) (ty := .int) (C := R_Registers) (T := T_Registers) (N := 3) hx hb hts (fun w h => gd_sub _ (iw_Registers w h)) ty_Registers tyok_Registers nm_Registers hown hK hP hD hS 0 rfl rfl 1 (by decide) (hts _ (gd_sub _ q_194)) (fun _ h9 => h9) rfl (by decide +kernel) rfl rfl (Nat.le_of_ble_eq_true rfl) d_Registers_reset_7 (fun H locs hP hD hS => ?_)
  have hP : va_P G.1 vwCl [(qr, .inr (4, f_Registers (oi (oi sr 0 0) 1 0)))] H := hP
  have hD : va_D A [(qr, .inr (4, f_Registers (oi (oi sr 0 0) 1 0)))] := hD
  refine lv_aload_n hx hb d_Registers_reset_10 rfl (lv_at hl 0 rfl) ?_
  refine lv_iconst (v := 0) hx hb d_Registers_reset_11 (by decide) ?_
  refine va_put (D := G.1) (ci := 4) (v := .int 0) (ty := .int) (C := R_Registers) (T := T_Registers) (N := 3) hx hb hts (fun w h => gd_sub _ (iw_Registers w h)) ty_Registers tyok_Registers nm_Registers hown hK hP hD hS 0 rfl rfl 2 (by decide) (hts _ (gd_sub _ q_196)) (fun _ h9 => h9) rfl (by decide +kernel) rfl rfl (Nat.le_of_ble_eq_true rfl) d_Registers_reset_12 (fun H locs hP hD hS => ?_)
  have hP : va_P G.1 vwCl [(qr, .inr (4, f_Registers (oi (oi (oi sr 0 0) 1 0) 2 0)))] H := hP
  have hD : va_D A [(qr, .inr (4, f_Registers (oi (oi (oi sr 0 0) 1 0) 2 0)))] := hD
  have hk : k_Registers_reset sr = (oi (oi (oi sr 0 0) 1 0) 2 0) := (by rw [k_Registers_reset]; try rfl)
  exact ct_rv hx hb hr hlocks hP hD hK hS d_Registers_reset_15 (by rw [hk]; first | done | rfl)
def k_Desk_begin (sx : ob) (sc : ob) (so : ob) (shs : ob) (sgs : ob) (sy : ob) (sr : ob) : ob × ob × ob × ob × ob × ob × ob :=
  ((oi (oi (oi (oi (oi sx 3 1) 4 0) 5 0) 6 0) 7 0), ((k_Controls_reset sc so shs sgs sy).1), ((k_Controls_reset sc so shs sgs sy).2.1), ((k_Controls_reset sc so shs sgs sy).2.2.1), ((k_Controls_reset sc so shs sgs sy).2.2.2.1), ((k_Controls_reset sc so shs sgs sy).2.2.2.2), ((k_Registers_reset sr)))
set_option maxHeartbeats 4000000 in
set_option maxRecDepth 100000 in
theorem c_Desk_begin (l : Launch) (G : gx) (tys : List (ClassId × FieldType)) (qx qc qo qhs qgs qy qr qa : Nat) (sx : ob) (sc : ob) (so : ob) (shs : ob) (sgs : ob) (sy : ob) (sr : ob) : ct_V l y_Desk_begin ws_Desk_begin ({ frames := 2, cells := 0, slots := 0, locals := 40 }) G tys [.ref qx] [(qx, .inr (5, f_Desk qc qo qr sx)), (qc, .inr (1, f_Controls qo qhs qgs qy sc)), (qo, .inr (3, f_Outside qa so)), (qhs, .inr (0, f_Bank shs)), (qgs, .inr (0, f_Bank sgs)), (qy, .inr (2, f_Hyper sy)), (qr, .inr (4, f_Registers sr))] [(qx, .inr (5, f_Desk qc qo qr ((k_Desk_begin sx sc so shs sgs sy sr).1))), (qc, .inr (1, f_Controls qo qhs qgs qy ((k_Desk_begin sx sc so shs sgs sy sr).2.1))), (qo, .inr (3, f_Outside qa ((k_Desk_begin sx sc so shs sgs sy sr).2.2.1))), (qhs, .inr (0, f_Bank ((k_Desk_begin sx sc so shs sgs sy sr).2.2.2.1))), (qgs, .inr (0, f_Bank ((k_Desk_begin sx sc so shs sgs sy sr).2.2.2.2.1))), (qy, .inr (2, f_Hyper ((k_Desk_begin sx sc so shs sgs sy sr).2.2.2.2.2.1))), (qr, .inr (4, f_Registers ((k_Desk_begin sx sc so shs sgs sy sr).2.2.2.2.2.2)))] := by
  refine ct_hV (cc := cc_Desk_begin) (maxL := 1) (ret := none) (by decide) rfl (Nat.le_of_ble_eq_true rfl) ?_
  intro p e s m below meth c A ls hx hb hr hml hts hown hlocks hP hK hD hA hE hS hl
  have hl : lv_has ls 1 [(0, .ref qx)] := hl
  have hown : s.vm.findClass R_Desk = some m.cls := hown
  refine lv_aload_n hx hb d_Desk_begin_0 rfl (lv_at hl 0 rfl) ?_
  refine va_get (D := G.1) (ci := 5) (v := .ref qc) (C := R_Desk) (T := T_Desk) (N := 8) hx hb hts (fun w h => gd_sub _ (iw_Desk w h)) hown hK hP 0 rfl rfl 0 (by decide) (hts _ (gd_sub _ q_205)) (fun _ h9 => h9) rfl d_Desk_begin_1 ?_
  obtain ⟨sc_15, esc_15⟩ : ∃ z, z = (k_Controls_reset sc so shs sgs sy).1 := ⟨_, rfl⟩
  obtain ⟨so_16, eso_16⟩ : ∃ z, z = (k_Controls_reset sc so shs sgs sy).2.1 := ⟨_, rfl⟩
  obtain ⟨shs_17, eshs_17⟩ : ∃ z, z = (k_Controls_reset sc so shs sgs sy).2.2.1 := ⟨_, rfl⟩
  obtain ⟨sgs_18, esgs_18⟩ : ∃ z, z = (k_Controls_reset sc so shs sgs sy).2.2.2.1 := ⟨_, rfl⟩
  obtain ⟨sy_19, esy_19⟩ : ∃ z, z = (k_Controls_reset sc so shs sgs sy).2.2.2.2 := ⟨_, rfl⟩
  have hM := c_Controls_reset l G tys qc qo qhs qgs qy qa sc so shs sgs sy
  rw [← esc_15, ← eso_16, ← eshs_17, ← esgs_18, ← esy_19] at hM
  refine ct_cVv (wr := [(qx, .inr (5, f_Desk qc qo qr sx)), (qr, .inr (4, f_Registers sr))]) (w1 := [(qc, .inr (1, f_Controls qo qhs qgs qy sc_15)), (qo, .inr (3, f_Outside qa so_16)), (qhs, .inr (0, f_Bank shs_17)), (qgs, .inr (0, f_Bank sgs_18)), (qy, .inr (2, f_Hyper sy_19))]) (w2 := [(qx, .inr (5, f_Desk qc qo qr sx)), (qc, .inr (1, f_Controls qo qhs qgs qy sc_15)), (qo, .inr (3, f_Outside qa so_16)), (qhs, .inr (0, f_Bank shs_17)), (qgs, .inr (0, f_Bank sgs_18)), (qy, .inr (2, f_Hyper sy_19)), (qr, .inr (4, f_Registers sr))]) (As := []) (rest := []) (ci := 1) (q0 := 0) ⟨hx, hb, hml, hown, hts⟩ hM (cwV 0 hts (gdV gd_gd q_234 q_235 q_236 q_42 q_237) rfl rfl rfl (by decide +kernel) ⟨Nat.le_of_ble_eq_true rfl, Nat.le_of_ble_eq_true rfl⟩) hE hK hP hD hS hA [1, 2, 3, 4, 5] [0, 6] [0, 2, 3, 4, 5, 6, 1] rfl (by decide) rfl (by decide) (by decide) rfl (by decide) rfl rfl rfl hl.1 rfl (Nat.le_of_ble_eq_true rfl) d_Desk_begin_4 ⟨Nat.zero_le _, Nat.zero_le _⟩ (fun H locs hP hD hS => ?_)
  refine lv_aload_n hx hb d_Desk_begin_7 rfl (lv_at hl 0 rfl) ?_
  refine va_get (D := G.1) (ci := 5) (v := .ref qr) (C := R_Desk) (T := T_Desk) (N := 8) hx hb hts (fun w h => gd_sub _ (iw_Desk w h)) hown hK hP 0 rfl rfl 2 (by decide) (hts _ (gd_sub _ q_207)) (fun _ h9 => h9) rfl d_Desk_begin_8 ?_
  obtain ⟨sr_20, esr_20⟩ : ∃ z, z = (k_Registers_reset sr) := ⟨_, rfl⟩
  have hM := c_Registers_reset l G tys qr sr
  rw [← esr_20] at hM
  refine ct_cVv (wr := [(qx, .inr (5, f_Desk qc qo qr sx)), (qc, .inr (1, f_Controls qo qhs qgs qy sc_15)), (qo, .inr (3, f_Outside qa so_16)), (qhs, .inr (0, f_Bank shs_17)), (qgs, .inr (0, f_Bank sgs_18)), (qy, .inr (2, f_Hyper sy_19))]) (w1 := [(qr, .inr (4, f_Registers sr_20))]) (w2 := [(qx, .inr (5, f_Desk qc qo qr sx)), (qc, .inr (1, f_Controls qo qhs qgs qy sc_15)), (qo, .inr (3, f_Outside qa so_16)), (qhs, .inr (0, f_Bank shs_17)), (qgs, .inr (0, f_Bank sgs_18)), (qy, .inr (2, f_Hyper sy_19)), (qr, .inr (4, f_Registers sr_20))]) (As := []) (rest := []) (ci := 4) (q0 := 0) ⟨hx, hb, hml, hown, hts⟩ hM (cwV 0 hts (gdV gd_gd q_250 q_251 q_252 q_46 q_253) rfl rfl rfl (by decide +kernel) ⟨Nat.le_of_ble_eq_true rfl, Nat.le_of_ble_eq_true rfl⟩) hE hK hP hD hS hA [6] [0, 1, 2, 3, 4, 5] [0, 1, 2, 3, 4, 5, 6] rfl (by decide) rfl (by decide) (by decide) rfl (by decide) rfl rfl rfl hl.1 rfl (Nat.le_of_ble_eq_true rfl) d_Desk_begin_11 ⟨Nat.zero_le _, Nat.zero_le _⟩ (fun H locs hP hD hS => ?_)
  refine lv_aload_n hx hb d_Desk_begin_14 rfl (lv_at hl 0 rfl) ?_
  refine lv_iconst (v := 1) hx hb d_Desk_begin_15 (by decide) ?_
  refine va_put (D := G.1) (ci := 5) (v := .int 1) (ty := .int) (C := R_Desk) (T := T_Desk) (N := 8) hx hb hts (fun w h => gd_sub _ (iw_Desk w h)) ty_Desk tyok_Desk nm_Desk hown hK hP hD hS 0 rfl rfl 3 (by decide) (hts _ (gd_sub _ q_208)) (fun _ h9 => h9) rfl (by decide +kernel) rfl rfl (Nat.le_of_ble_eq_true rfl) d_Desk_begin_16 (fun H locs hP hD hS => ?_)
  have hP : va_P G.1 vwCl [(qx, .inr (5, f_Desk qc qo qr (oi sx 3 1))), (qc, .inr (1, f_Controls qo qhs qgs qy sc_15)), (qo, .inr (3, f_Outside qa so_16)), (qhs, .inr (0, f_Bank shs_17)), (qgs, .inr (0, f_Bank sgs_18)), (qy, .inr (2, f_Hyper sy_19)), (qr, .inr (4, f_Registers sr_20))] H := hP
  have hD : va_D A [(qx, .inr (5, f_Desk qc qo qr (oi sx 3 1))), (qc, .inr (1, f_Controls qo qhs qgs qy sc_15)), (qo, .inr (3, f_Outside qa so_16)), (qhs, .inr (0, f_Bank shs_17)), (qgs, .inr (0, f_Bank sgs_18)), (qy, .inr (2, f_Hyper sy_19)), (qr, .inr (4, f_Registers sr_20))] := hD
  refine lv_aload_n hx hb d_Desk_begin_19 rfl (lv_at hl 0 rfl) ?_
  refine lv_iconst (v := 0) hx hb d_Desk_begin_20 (by decide) ?_
  refine va_put (D := G.1) (ci := 5) (v := .int 0) (ty := .int) (C := R_Desk) (T := T_Desk) (N := 8) hx hb hts (fun w h => gd_sub _ (iw_Desk w h)) ty_Desk tyok_Desk nm_Desk hown hK hP hD hS 0 rfl rfl 4 (by decide) (hts _ (gd_sub _ q_209)) (fun _ h9 => h9) rfl (by decide +kernel) rfl rfl (Nat.le_of_ble_eq_true rfl) d_Desk_begin_21 (fun H locs hP hD hS => ?_)
  have hP : va_P G.1 vwCl [(qx, .inr (5, f_Desk qc qo qr (oi (oi sx 3 1) 4 0))), (qc, .inr (1, f_Controls qo qhs qgs qy sc_15)), (qo, .inr (3, f_Outside qa so_16)), (qhs, .inr (0, f_Bank shs_17)), (qgs, .inr (0, f_Bank sgs_18)), (qy, .inr (2, f_Hyper sy_19)), (qr, .inr (4, f_Registers sr_20))] H := hP
  have hD : va_D A [(qx, .inr (5, f_Desk qc qo qr (oi (oi sx 3 1) 4 0))), (qc, .inr (1, f_Controls qo qhs qgs qy sc_15)), (qo, .inr (3, f_Outside qa so_16)), (qhs, .inr (0, f_Bank shs_17)), (qgs, .inr (0, f_Bank sgs_18)), (qy, .inr (2, f_Hyper sy_19)), (qr, .inr (4, f_Registers sr_20))] := hD
  refine lv_aload_n hx hb d_Desk_begin_24 rfl (lv_at hl 0 rfl) ?_
  refine lv_iconst (v := 0) hx hb d_Desk_begin_25 (by decide) ?_
  refine va_put (D := G.1) (ci := 5) (v := .int 0) (ty := .int) (C := R_Desk) (T := T_Desk) (N := 8) hx hb hts (fun w h => gd_sub _ (iw_Desk w h)) ty_Desk tyok_Desk nm_Desk hown hK hP hD hS 0 rfl rfl 5 (by decide) (hts _ (gd_sub _ q_210)) (fun _ h9 => h9) rfl (by decide +kernel) rfl rfl (Nat.le_of_ble_eq_true rfl) d_Desk_begin_26 (fun H locs hP hD hS => ?_)
  have hP : va_P G.1 vwCl [(qx, .inr (5, f_Desk qc qo qr (oi (oi (oi sx 3 1) 4 0) 5 0))), (qc, .inr (1, f_Controls qo qhs qgs qy sc_15)), (qo, .inr (3, f_Outside qa so_16)), (qhs, .inr (0, f_Bank shs_17)), (qgs, .inr (0, f_Bank sgs_18)), (qy, .inr (2, f_Hyper sy_19)), (qr, .inr (4, f_Registers sr_20))] H := hP
  have hD : va_D A [(qx, .inr (5, f_Desk qc qo qr (oi (oi (oi sx 3 1) 4 0) 5 0))), (qc, .inr (1, f_Controls qo qhs qgs qy sc_15)), (qo, .inr (3, f_Outside qa so_16)), (qhs, .inr (0, f_Bank shs_17)), (qgs, .inr (0, f_Bank sgs_18)), (qy, .inr (2, f_Hyper sy_19)), (qr, .inr (4, f_Registers sr_20))] := hD
  refine lv_aload_n hx hb d_Desk_begin_29 rfl (lv_at hl 0 rfl) ?_
  refine lv_iconst (v := 0) hx hb d_Desk_begin_30 (by decide) ?_
  refine va_put (D := G.1) (ci := 5) (v := .int 0) (ty := .int) (C := R_Desk) (T := T_Desk) (N := 8) hx hb hts (fun w h => gd_sub _ (iw_Desk w h)) ty_Desk tyok_Desk nm_Desk hown hK hP hD hS 0 rfl rfl 6 (by decide) (hts _ (gd_sub _ q_211)) (fun _ h9 => h9) rfl (by decide +kernel) rfl rfl (Nat.le_of_ble_eq_true rfl) d_Desk_begin_31 (fun H locs hP hD hS => ?_)
  have hP : va_P G.1 vwCl [(qx, .inr (5, f_Desk qc qo qr (oi (oi (oi (oi sx 3 1) 4 0) 5 0) 6 0))), (qc, .inr (1, f_Controls qo qhs qgs qy sc_15)), (qo, .inr (3, f_Outside qa so_16)), (qhs, .inr (0, f_Bank shs_17)), (qgs, .inr (0, f_Bank sgs_18)), (qy, .inr (2, f_Hyper sy_19)), (qr, .inr (4, f_Registers sr_20))] H := hP
  have hD : va_D A [(qx, .inr (5, f_Desk qc qo qr (oi (oi (oi (oi sx 3 1) 4 0) 5 0) 6 0))), (qc, .inr (1, f_Controls qo qhs qgs qy sc_15)), (qo, .inr (3, f_Outside qa so_16)), (qhs, .inr (0, f_Bank shs_17)), (qgs, .inr (0, f_Bank sgs_18)), (qy, .inr (2, f_Hyper sy_19)), (qr, .inr (4, f_Registers sr_20))] := hD
  refine lv_aload_n hx hb d_Desk_begin_34 rfl (lv_at hl 0 rfl) ?_
  refine lv_iconst (v := 0) hx hb d_Desk_begin_35 (by decide) ?_
  refine va_put (D := G.1) (ci := 5) (v := .int 0) (ty := .int) (C := R_Desk) (T := T_Desk) (N := 8) hx hb hts (fun w h => gd_sub _ (iw_Desk w h)) ty_Desk tyok_Desk nm_Desk hown hK hP hD hS 0 rfl rfl 7 (by decide) (hts _ (gd_sub _ q_212)) (fun _ h9 => h9) rfl (by decide +kernel) rfl rfl (Nat.le_of_ble_eq_true rfl) d_Desk_begin_36 (fun H locs hP hD hS => ?_)
  have hP : va_P G.1 vwCl [(qx, .inr (5, f_Desk qc qo qr (oi (oi (oi (oi (oi sx 3 1) 4 0) 5 0) 6 0) 7 0))), (qc, .inr (1, f_Controls qo qhs qgs qy sc_15)), (qo, .inr (3, f_Outside qa so_16)), (qhs, .inr (0, f_Bank shs_17)), (qgs, .inr (0, f_Bank sgs_18)), (qy, .inr (2, f_Hyper sy_19)), (qr, .inr (4, f_Registers sr_20))] H := hP
  have hD : va_D A [(qx, .inr (5, f_Desk qc qo qr (oi (oi (oi (oi (oi sx 3 1) 4 0) 5 0) 6 0) 7 0))), (qc, .inr (1, f_Controls qo qhs qgs qy sc_15)), (qo, .inr (3, f_Outside qa so_16)), (qhs, .inr (0, f_Bank shs_17)), (qgs, .inr (0, f_Bank sgs_18)), (qy, .inr (2, f_Hyper sy_19)), (qr, .inr (4, f_Registers sr_20))] := hD
  have hk : k_Desk_begin sx sc so shs sgs sy sr = ((oi (oi (oi (oi (oi sx 3 1) 4 0) 5 0) 6 0) 7 0), sc_15, so_16, shs_17, sgs_18, sy_19, sr_20) := (by rw [k_Desk_begin]; try rw [← esc_15]; try rw [← eso_16]; try rw [← eshs_17]; try rw [← esgs_18]; try rw [← esy_19]; try rw [← esr_20]; try rfl)
  exact ct_rv hx hb hr hlocks hP hD hK hS d_Desk_begin_39 (by rw [hk]; first | done | rfl)
def k_Desk_mode (sx : ob) (p1 : Int32) : Int32 × ob :=
  if p1 < 0 then ((-1), sx) else (if p1 ≤ 3 then ((sx.1 3), (oi sx 3 p1)) else ((-1), sx))
set_option maxHeartbeats 4000000 in
set_option maxRecDepth 100000 in
theorem c_Desk_mode (l : Launch) (G : gx) (tys : List (ClassId × FieldType)) (qx qc qo qr : Nat) (sx : ob) (p1 : Int32) : ct_I l y_Desk_mode ws_Desk_mode ({ frames := 0, cells := 0, slots := 0, locals := 0 }) G tys [.ref qx, .int p1] [(qx, .inr (5, f_Desk qc qo qr sx))] ((k_Desk_mode sx p1).1) [(qx, .inr (5, f_Desk qc qo qr ((k_Desk_mode sx p1).2)))] := by
  refine ct_hI (cc := cc_Desk_mode) (maxL := 3) (ret := (some .int)) (by decide) rfl (Nat.le_of_ble_eq_true rfl) ?_
  intro p e s m below meth c A ls hx hb hr hml hts hown hlocks hP hK hD hA hE hS hl
  have hl : lv_has ls 3 [(0, .ref qx), (1, .int p1)] := hl
  have hown : s.vm.findClass R_Desk = some m.cls := hown
  refine lv_iload_n hx hb d_Desk_mode_0 rfl (lv_at hl 1 rfl) ?_
  refine lv_if_lt (tgt := 9) hx hb d_Desk_mode_1 (by decide) (fun c_23 => ?_) (fun c_23 => ?_)
  · refine lv_iconst (v := (-1)) hx hb d_Desk_mode_9 (by decide) ?_
    have hk : k_Desk_mode sx p1 = ((-1), sx) := (by rw [k_Desk_mode]; rw [if_pos c_23]; try rfl)
    exact ct_ri hx hb hr hlocks hP hD hK hS d_Desk_mode_10 (by rw [hk]; first | done | rfl) (by rw [hk]; first | done | rfl)
  · refine lv_iload_n hx hb d_Desk_mode_4 rfl (lv_at hl 1 rfl) ?_
    refine lv_iconst (v := 3) hx hb d_Desk_mode_5 (by decide) ?_
    refine lv_icmp_le (tgt := 11) hx hb d_Desk_mode_6 (by decide) (fun c_24 => ?_) (fun c_24 => ?_)
    · refine lv_aload_n hx hb d_Desk_mode_11 rfl (lv_at hl 0 rfl) ?_
      refine va_get (D := G.1) (ci := 5) (v := .int (sx.1 3)) (C := R_Desk) (T := T_Desk) (N := 8) hx hb hts (fun w h => gd_sub _ (iw_Desk w h)) hown hK hP 0 rfl rfl 3 (by decide) (hts _ (gd_sub _ q_208)) (fun _ h9 => h9) rfl d_Desk_mode_12 ?_
      refine lv_istore_n (lv' := [(2, .int (sx.1 3)), (0, .ref qx), (1, .int p1)]) hx hb d_Desk_mode_15 rfl hl (by decide) rfl (fun ls hl => ?_)
      refine lv_aload_n hx hb d_Desk_mode_16 rfl (lv_at hl 1 rfl) ?_
      refine lv_iload_n hx hb d_Desk_mode_17 rfl (lv_at hl 2 rfl) ?_
      refine va_put (D := G.1) (ci := 5) (v := .int p1) (ty := .int) (C := R_Desk) (T := T_Desk) (N := 8) hx hb hts (fun w h => gd_sub _ (iw_Desk w h)) ty_Desk tyok_Desk nm_Desk hown hK hP hD hS 0 rfl rfl 3 (by decide) (hts _ (gd_sub _ q_208)) (fun _ h9 => h9) rfl (by decide +kernel) rfl rfl (Nat.le_of_ble_eq_true rfl) d_Desk_mode_18 (fun H locs hP hD hS => ?_)
      have hP : va_P G.1 vwCl [(qx, .inr (5, f_Desk qc qo qr (oi sx 3 p1)))] H := hP
      have hD : va_D A [(qx, .inr (5, f_Desk qc qo qr (oi sx 3 p1)))] := hD
      refine lv_iload_n hx hb d_Desk_mode_21 rfl (lv_at hl 0 rfl) ?_
      have hk : k_Desk_mode sx p1 = ((sx.1 3), (oi sx 3 p1)) := (by rw [k_Desk_mode]; rw [if_neg c_23]; rw [if_pos c_24]; try rfl)
      exact ct_ri hx hb hr hlocks hP hD hK hS d_Desk_mode_22 (by rw [hk]; first | done | rfl) (by rw [hk]; first | done | rfl)
    · refine lv_iconst (v := (-1)) hx hb d_Desk_mode_9 (by decide) ?_
      have hk : k_Desk_mode sx p1 = ((-1), sx) := (by rw [k_Desk_mode]; rw [if_neg c_23]; rw [if_neg c_24]; try rfl)
      exact ct_ri hx hb hr hlocks hP hD hK hS d_Desk_mode_10 (by rw [hk]; first | done | rfl) (by rw [hk]; first | done | rfl)
def k_Desk_go (sx : ob) (p1 : Int32) : Int32 × ob :=
  if (p1 &&& 3) = 0 then (0, (oi sx 4 p1)) else ((-1), sx)
set_option maxHeartbeats 4000000 in
set_option maxRecDepth 100000 in
theorem c_Desk_go (l : Launch) (G : gx) (tys : List (ClassId × FieldType)) (qx qc qo qr : Nat) (sx : ob) (p1 : Int32) : ct_I l y_Desk_go ws_Desk_go ({ frames := 0, cells := 0, slots := 0, locals := 0 }) G tys [.ref qx, .int p1] [(qx, .inr (5, f_Desk qc qo qr sx))] ((k_Desk_go sx p1).1) [(qx, .inr (5, f_Desk qc qo qr ((k_Desk_go sx p1).2)))] := by
  refine ct_hI (cc := cc_Desk_go) (maxL := 2) (ret := (some .int)) (by decide) rfl (Nat.le_of_ble_eq_true rfl) ?_
  intro p e s m below meth c A ls hx hb hr hml hts hown hlocks hP hK hD hA hE hS hl
  have hl : lv_has ls 2 [(0, .ref qx), (1, .int p1)] := hl
  have hown : s.vm.findClass R_Desk = some m.cls := hown
  refine lv_iload_n hx hb d_Desk_go_0 rfl (lv_at hl 1 rfl) ?_
  refine lv_iconst (v := 3) hx hb d_Desk_go_1 (by decide) ?_
  refine lv_iand hx hb d_Desk_go_2 ?_
  refine lv_if_eq (tgt := 8) hx hb d_Desk_go_3 (by decide) (fun c_26 => ?_) (fun c_26 => ?_)
  · refine lv_aload_n hx hb d_Desk_go_8 rfl (lv_at hl 0 rfl) ?_
    refine lv_iload_n hx hb d_Desk_go_9 rfl (lv_at hl 1 rfl) ?_
    refine va_put (D := G.1) (ci := 5) (v := .int p1) (ty := .int) (C := R_Desk) (T := T_Desk) (N := 8) hx hb hts (fun w h => gd_sub _ (iw_Desk w h)) ty_Desk tyok_Desk nm_Desk hown hK hP hD hS 0 rfl rfl 4 (by decide) (hts _ (gd_sub _ q_209)) (fun _ h9 => h9) rfl (by decide +kernel) rfl rfl (Nat.le_of_ble_eq_true rfl) d_Desk_go_10 (fun H locs hP hD hS => ?_)
    have hP : va_P G.1 vwCl [(qx, .inr (5, f_Desk qc qo qr (oi sx 4 p1)))] H := hP
    have hD : va_D A [(qx, .inr (5, f_Desk qc qo qr (oi sx 4 p1)))] := hD
    refine lv_iconst (v := 0) hx hb d_Desk_go_13 (by decide) ?_
    have hk : k_Desk_go sx p1 = (0, (oi sx 4 p1)) := (by rw [k_Desk_go]; rw [if_pos c_26]; try rfl)
    exact ct_ri hx hb hr hlocks hP hD hK hS d_Desk_go_14 (by rw [hk]; first | done | rfl) (by rw [hk]; first | done | rfl)
  · refine lv_iconst (v := (-1)) hx hb d_Desk_go_6 (by decide) ?_
    have hk : k_Desk_go sx p1 = ((-1), sx) := (by rw [k_Desk_go]; rw [if_neg c_26]; try rfl)
    exact ct_ri hx hb hr hlocks hP hD hK hS d_Desk_go_7 (by rw [hk]; first | done | rfl) (by rw [hk]; first | done | rfl)
def k_Numbers_kindOf (p1 : Int32) : Int32 :=
  (p1 &&& 255)
set_option maxHeartbeats 4000000 in
set_option maxRecDepth 100000 in
theorem c_Numbers_kindOf (l : Launch) (G : gx) (tys : List (ClassId × FieldType)) (p1 : Int32) : ct_I l y_Numbers_kindOf ws_Numbers_kindOf ({ frames := 0, cells := 0, slots := 0, locals := 0 }) G tys [.int p1] [] (k_Numbers_kindOf p1) [] := by
  refine ct_hI (cc := cc_Numbers_kindOf) (maxL := 1) (ret := (some .int)) (by decide) rfl (Nat.le_of_ble_eq_true rfl) ?_
  intro p e s m below meth c A ls hx hb hr hml hts hown hlocks hP hK hD hA hE hS hl
  have hl : lv_has ls 1 [(0, .int p1)] := hl
  have hown : s.vm.findClass R_Numbers = some m.cls := hown
  refine lv_iload_n hx hb d_Numbers_kindOf_0 rfl (lv_at hl 0 rfl) ?_
  refine lv_sipush (v := 255) hx hb d_Numbers_kindOf_1 (by decide) ?_
  refine lv_iand hx hb d_Numbers_kindOf_4 ?_
  have hk : k_Numbers_kindOf p1 = (p1 &&& 255) := (by rw [k_Numbers_kindOf]; try rfl)
  exact ct_ri hx hb hr hlocks hP hD hK hS d_Numbers_kindOf_5 (by rw [hk]; first | done | rfl) rfl
def k_Numbers_isKind (p1 : Int32) : Bool :=
  if p1 = 0 then true else if p1 = 4 then true else if p1 = 5 then true else if p1 = 64 then true else if p1 = 65 then true else if p1 = 66 then true else if p1 = 67 then true else if p1 = 68 then true else if p1 = 128 then true else false
set_option maxHeartbeats 4000000 in
set_option maxRecDepth 100000 in
theorem c_Numbers_isKind (l : Launch) (G : gx) (tys : List (ClassId × FieldType)) (p1 : Int32) : ct_I l y_Numbers_isKind ws_Numbers_isKind ({ frames := 0, cells := 0, slots := 0, locals := 0 }) G tys [.int p1] [] (bI (k_Numbers_isKind p1)) [] := by
  refine ct_hI (cc := cc_Numbers_isKind) (maxL := 1) (ret := (some .boolean)) (by decide) rfl (Nat.le_of_ble_eq_true rfl) ?_
  intro p e s m below meth c A ls hx hb hr hml hts hown hlocks hP hK hD hA hE hS hl
  have hl : lv_has ls 1 [(0, .int p1)] := hl
  have hown : s.vm.findClass R_Numbers = some m.cls := hown
  refine lv_iload_n hx hb d_Numbers_isKind_0 rfl (lv_at hl 0 rfl) ?_
  by_cases c_37 : p1 = 0
  · refine lv_lookup (off := 83) (tgt := 84) hx hb d_Numbers_isKind_1 (by decide) (by rw [c_37]; decide) (by decide) ?_
    refine lv_iconst (v := 1) hx hb d_Numbers_isKind_84 (by decide) ?_
    have hk : k_Numbers_isKind p1 = true := (by rw [k_Numbers_isKind]; rw [if_pos c_37]; try rfl)
    exact ct_rz hx hb hr hlocks hP hD hK hS d_Numbers_isKind_85 rfl (by rw [hk]; first | done | rfl) rfl
  · by_cases c_38 : p1 = 4
    · refine lv_lookup (off := 83) (tgt := 84) hx hb d_Numbers_isKind_1 (by decide) (by rw [c_38]; decide) (by decide) ?_
      refine lv_iconst (v := 1) hx hb d_Numbers_isKind_84 (by decide) ?_
      have hk : k_Numbers_isKind p1 = true := (by rw [k_Numbers_isKind]; rw [if_neg c_37]; rw [if_pos c_38]; try rfl)
      exact ct_rz hx hb hr hlocks hP hD hK hS d_Numbers_isKind_85 rfl (by rw [hk]; first | done | rfl) rfl
    · by_cases c_39 : p1 = 5
      · refine lv_lookup (off := 83) (tgt := 84) hx hb d_Numbers_isKind_1 (by decide) (by rw [c_39]; decide) (by decide) ?_
        refine lv_iconst (v := 1) hx hb d_Numbers_isKind_84 (by decide) ?_
        have hk : k_Numbers_isKind p1 = true := (by rw [k_Numbers_isKind]; rw [if_neg c_37]; rw [if_neg c_38]; rw [if_pos c_39]; try rfl)
        exact ct_rz hx hb hr hlocks hP hD hK hS d_Numbers_isKind_85 rfl (by rw [hk]; first | done | rfl) rfl
      · by_cases c_40 : p1 = 64
        · refine lv_lookup (off := 83) (tgt := 84) hx hb d_Numbers_isKind_1 (by decide) (by rw [c_40]; decide) (by decide) ?_
          refine lv_iconst (v := 1) hx hb d_Numbers_isKind_84 (by decide) ?_
          have hk : k_Numbers_isKind p1 = true := (by rw [k_Numbers_isKind]; rw [if_neg c_37]; rw [if_neg c_38]; rw [if_neg c_39]; rw [if_pos c_40]; try rfl)
          exact ct_rz hx hb hr hlocks hP hD hK hS d_Numbers_isKind_85 rfl (by rw [hk]; first | done | rfl) rfl
        · by_cases c_41 : p1 = 65
          · refine lv_lookup (off := 83) (tgt := 84) hx hb d_Numbers_isKind_1 (by decide) (by rw [c_41]; decide) (by decide) ?_
            refine lv_iconst (v := 1) hx hb d_Numbers_isKind_84 (by decide) ?_
            have hk : k_Numbers_isKind p1 = true := (by rw [k_Numbers_isKind]; rw [if_neg c_37]; rw [if_neg c_38]; rw [if_neg c_39]; rw [if_neg c_40]; rw [if_pos c_41]; try rfl)
            exact ct_rz hx hb hr hlocks hP hD hK hS d_Numbers_isKind_85 rfl (by rw [hk]; first | done | rfl) rfl
          · by_cases c_42 : p1 = 66
            · refine lv_lookup (off := 83) (tgt := 84) hx hb d_Numbers_isKind_1 (by decide) (by rw [c_42]; decide) (by decide) ?_
              refine lv_iconst (v := 1) hx hb d_Numbers_isKind_84 (by decide) ?_
              have hk : k_Numbers_isKind p1 = true := (by rw [k_Numbers_isKind]; rw [if_neg c_37]; rw [if_neg c_38]; rw [if_neg c_39]; rw [if_neg c_40]; rw [if_neg c_41]; rw [if_pos c_42]; try rfl)
              exact ct_rz hx hb hr hlocks hP hD hK hS d_Numbers_isKind_85 rfl (by rw [hk]; first | done | rfl) rfl
            · by_cases c_43 : p1 = 67
              · refine lv_lookup (off := 83) (tgt := 84) hx hb d_Numbers_isKind_1 (by decide) (by rw [c_43]; decide) (by decide) ?_
                refine lv_iconst (v := 1) hx hb d_Numbers_isKind_84 (by decide) ?_
                have hk : k_Numbers_isKind p1 = true := (by rw [k_Numbers_isKind]; rw [if_neg c_37]; rw [if_neg c_38]; rw [if_neg c_39]; rw [if_neg c_40]; rw [if_neg c_41]; rw [if_neg c_42]; rw [if_pos c_43]; try rfl)
                exact ct_rz hx hb hr hlocks hP hD hK hS d_Numbers_isKind_85 rfl (by rw [hk]; first | done | rfl) rfl
              · by_cases c_44 : p1 = 68
                · refine lv_lookup (off := 83) (tgt := 84) hx hb d_Numbers_isKind_1 (by decide) (by rw [c_44]; decide) (by decide) ?_
                  refine lv_iconst (v := 1) hx hb d_Numbers_isKind_84 (by decide) ?_
                  have hk : k_Numbers_isKind p1 = true := (by rw [k_Numbers_isKind]; rw [if_neg c_37]; rw [if_neg c_38]; rw [if_neg c_39]; rw [if_neg c_40]; rw [if_neg c_41]; rw [if_neg c_42]; rw [if_neg c_43]; rw [if_pos c_44]; try rfl)
                  exact ct_rz hx hb hr hlocks hP hD hK hS d_Numbers_isKind_85 rfl (by rw [hk]; first | done | rfl) rfl
                · by_cases c_45 : p1 = 128
                  · refine lv_lookup (off := 83) (tgt := 84) hx hb d_Numbers_isKind_1 (by decide) (by rw [c_45]; decide) (by decide) ?_
                    refine lv_iconst (v := 1) hx hb d_Numbers_isKind_84 (by decide) ?_
                    have hk : k_Numbers_isKind p1 = true := (by rw [k_Numbers_isKind]; rw [if_neg c_37]; rw [if_neg c_38]; rw [if_neg c_39]; rw [if_neg c_40]; rw [if_neg c_41]; rw [if_neg c_42]; rw [if_neg c_43]; rw [if_neg c_44]; rw [if_pos c_45]; try rfl)
                    exact ct_rz hx hb hr hlocks hP hD hK hS d_Numbers_isKind_85 rfl (by rw [hk]; first | done | rfl) rfl
                  · refine lv_lookup (off := 85) (tgt := 86) hx hb d_Numbers_isKind_1 (by decide) ((lv_osw c_37 (by decide)).trans ((lv_osw c_38 (by decide)).trans ((lv_osw c_39 (by decide)).trans ((lv_osw c_40 (by decide)).trans ((lv_osw c_41 (by decide)).trans ((lv_osw c_42 (by decide)).trans ((lv_osw c_43 (by decide)).trans ((lv_osw c_44 (by decide)).trans ((lv_osw c_45 (by decide)).trans rfl))))))))) (by decide) ?_
                    refine lv_iconst (v := 0) hx hb d_Numbers_isKind_86 (by decide) ?_
                    have hk : k_Numbers_isKind p1 = false := (by rw [k_Numbers_isKind]; rw [if_neg c_37]; rw [if_neg c_38]; rw [if_neg c_39]; rw [if_neg c_40]; rw [if_neg c_41]; rw [if_neg c_42]; rw [if_neg c_43]; rw [if_neg c_44]; rw [if_neg c_45]; try rfl)
                    exact ct_rz hx hb hr hlocks hP hD hK hS d_Numbers_isKind_87 rfl (by rw [hk]; first | done | rfl) rfl
def k_Numbers_isOf (p1 : Int32) (p2 : Int32) : Bool :=
  if (p2 &&& (-256)) = p1 then (if (bI (k_Numbers_isKind (k_Numbers_kindOf p2))) = 0 then false else true) else false
set_option maxHeartbeats 4000000 in
set_option maxRecDepth 100000 in
theorem c_Numbers_isOf (l : Launch) (G : gx) (tys : List (ClassId × FieldType)) (p1 : Int32) (p2 : Int32) : ct_I l y_Numbers_isOf ws_Numbers_isOf ({ frames := 1, cells := 0, slots := 0, locals := 20 }) G tys [.int p1, .int p2] [] (bI (k_Numbers_isOf p1 p2)) [] := by
  refine ct_hI (cc := cc_Numbers_isOf) (maxL := 2) (ret := (some .boolean)) (by decide) rfl (Nat.le_of_ble_eq_true rfl) ?_
  intro p e s m below meth c A ls hx hb hr hml hts hown hlocks hP hK hD hA hE hS hl
  have hl : lv_has ls 2 [(0, .int p1), (1, .int p2)] := hl
  have hown : s.vm.findClass R_Numbers = some m.cls := hown
  refine lv_iload_n hx hb d_Numbers_isOf_0 rfl (lv_at hl 1 rfl) ?_
  refine lv_sipush (v := (-256)) hx hb d_Numbers_isOf_1 (by decide) ?_
  refine lv_iand hx hb d_Numbers_isOf_4 ?_
  refine lv_iload_n hx hb d_Numbers_isOf_5 rfl (lv_at hl 0 rfl) ?_
  refine lv_icmp_ne (tgt := 23) hx hb d_Numbers_isOf_6 (by decide) (fun c_47 => ?_) (fun c_47 => ?_)
  · refine lv_iconst (v := 0) hx hb d_Numbers_isOf_23 (by decide) ?_
    have hk : k_Numbers_isOf p1 p2 = false := (by rw [k_Numbers_isOf]; rw [if_neg c_47]; try rfl)
    exact ct_rz hx hb hr hlocks hP hD hK hS d_Numbers_isOf_24 rfl (by rw [hk]; first | done | rfl) rfl
  · refine lv_iload_n hx hb d_Numbers_isOf_9 rfl (lv_at hl 1 rfl) ?_
    refine ct_cSi (wr := []) (w1 := []) (w2 := []) (r := (k_Numbers_kindOf p2)) (As := [.int p2]) (rest := []) ⟨hx, hb, hml, hown, hts⟩ (c_Numbers_kindOf l G tys p2) (va_cwS 1 hts (gdS gd_gd q_275 q_276 q_48 q_277) rfl rfl rfl (by decide +kernel) ⟨Nat.le_of_ble_eq_true rfl, Nat.le_of_ble_eq_true rfl⟩) hE hK hP hD hS hA [] [] [] rfl (by decide) rfl (by decide) (by decide) rfl (by decide) rfl hl.1 rfl (Nat.le_of_ble_eq_true rfl) d_Numbers_isOf_10 ⟨Nat.zero_le _, Nat.zero_le _⟩ (fun H locs hP hD hS => ?_)
    refine ct_cSi (wr := []) (w1 := []) (w2 := []) (r := (bI (k_Numbers_isKind (k_Numbers_kindOf p2)))) (As := [.int (k_Numbers_kindOf p2)]) (rest := []) ⟨hx, hb, hml, hown, hts⟩ (c_Numbers_isKind l G tys (k_Numbers_kindOf p2)) (va_cwS 1 hts (gdS gd_gd q_278 q_279 q_48 q_280) rfl rfl rfl (by decide +kernel) ⟨Nat.le_of_ble_eq_true rfl, Nat.le_of_ble_eq_true rfl⟩) hE hK hP hD hS hA [] [] [] rfl (by decide) rfl (by decide) (by decide) rfl (by decide) rfl hl.1 rfl (Nat.le_of_ble_eq_true rfl) d_Numbers_isOf_13 ⟨Nat.zero_le _, Nat.zero_le _⟩ (fun H locs hP hD hS => ?_)
    refine lv_if_eq (tgt := 23) hx hb d_Numbers_isOf_16 (by decide) (fun c_48 => ?_) (fun c_48 => ?_)
    · refine lv_iconst (v := 0) hx hb d_Numbers_isOf_23 (by decide) ?_
      have hk : k_Numbers_isOf p1 p2 = false := (by rw [k_Numbers_isOf]; rw [if_pos c_47]; rw [if_pos c_48]; try rfl)
      exact ct_rz hx hb hr hlocks hP hD hK hS d_Numbers_isOf_24 rfl (by rw [hk]; first | done | rfl) rfl
    · refine lv_iconst (v := 1) hx hb d_Numbers_isOf_19 (by decide) ?_
      refine lv_goto (tgt := 24) hx hb d_Numbers_isOf_20 (by decide) ?_
      have hk : k_Numbers_isOf p1 p2 = true := (by rw [k_Numbers_isOf]; rw [if_pos c_47]; rw [if_neg c_48]; try rfl)
      exact ct_rz hx hb hr hlocks hP hD hK hS d_Numbers_isOf_24 rfl (by rw [hk]; first | done | rfl) rfl
def k_Numbers_isOfS (p1 : Int32) : Bool :=
  (k_Numbers_isOf 256 p1)
set_option maxHeartbeats 4000000 in
set_option maxRecDepth 100000 in
theorem c_Numbers_isOfS (l : Launch) (G : gx) (tys : List (ClassId × FieldType)) (p1 : Int32) : ct_I l y_Numbers_isOfS ws_Numbers_isOfS ({ frames := 2, cells := 0, slots := 0, locals := 41 }) G tys [.int p1] [] (bI (k_Numbers_isOfS p1)) [] := by
  refine ct_hI (cc := cc_Numbers_isOfS) (maxL := 1) (ret := (some .boolean)) (by decide) rfl (Nat.le_of_ble_eq_true rfl) ?_
  intro p e s m below meth c A ls hx hb hr hml hts hown hlocks hP hK hD hA hE hS hl
  have hl : lv_has ls 1 [(0, .int p1)] := hl
  have hown : s.vm.findClass R_Numbers = some m.cls := hown
  refine lv_sipush (v := 256) hx hb d_Numbers_isOfS_0 (by decide) ?_
  refine lv_iload_n hx hb d_Numbers_isOfS_3 rfl (lv_at hl 0 rfl) ?_
  refine ct_cSi (wr := []) (w1 := []) (w2 := []) (r := (bI (k_Numbers_isOf 256 p1))) (As := [.int 256, .int p1]) (rest := []) ⟨hx, hb, hml, hown, hts⟩ (c_Numbers_isOf l G tys 256 p1) (va_cwS 2 hts (gdS gd_gd q_272 q_273 q_48 q_274) rfl rfl rfl (by decide +kernel) ⟨Nat.le_of_ble_eq_true rfl, Nat.le_of_ble_eq_true rfl⟩) hE hK hP hD hS hA [] [] [] rfl (by decide) rfl (by decide) (by decide) rfl (by decide) rfl hl.1 rfl (Nat.le_of_ble_eq_true rfl) d_Numbers_isOfS_4 ⟨Nat.zero_le _, Nat.zero_le _⟩ (fun H locs hP hD hS => ?_)
  have hk : k_Numbers_isOfS p1 = (k_Numbers_isOf 256 p1) := (by rw [k_Numbers_isOfS]; try rfl)
  exact ct_rz hx hb hr hlocks hP hD hK hS d_Numbers_isOfS_7 (bI_n _) (by rw [hk]; first | done | rfl) rfl
def k_Numbers_isOfVs (p1 : Int32) : Bool :=
  (k_Numbers_isOf 512 p1)
set_option maxHeartbeats 4000000 in
set_option maxRecDepth 100000 in
theorem c_Numbers_isOfVs (l : Launch) (G : gx) (tys : List (ClassId × FieldType)) (p1 : Int32) : ct_I l y_Numbers_isOfVs ws_Numbers_isOfVs ({ frames := 2, cells := 0, slots := 0, locals := 41 }) G tys [.int p1] [] (bI (k_Numbers_isOfVs p1)) [] := by
  refine ct_hI (cc := cc_Numbers_isOfVs) (maxL := 1) (ret := (some .boolean)) (by decide) rfl (Nat.le_of_ble_eq_true rfl) ?_
  intro p e s m below meth c A ls hx hb hr hml hts hown hlocks hP hK hD hA hE hS hl
  have hl : lv_has ls 1 [(0, .int p1)] := hl
  have hown : s.vm.findClass R_Numbers = some m.cls := hown
  refine lv_sipush (v := 512) hx hb d_Numbers_isOfVs_0 (by decide) ?_
  refine lv_iload_n hx hb d_Numbers_isOfVs_3 rfl (lv_at hl 0 rfl) ?_
  refine ct_cSi (wr := []) (w1 := []) (w2 := []) (r := (bI (k_Numbers_isOf 512 p1))) (As := [.int 512, .int p1]) (rest := []) ⟨hx, hb, hml, hown, hts⟩ (c_Numbers_isOf l G tys 512 p1) (va_cwS 2 hts (gdS gd_gd q_272 q_273 q_48 q_274) rfl rfl rfl (by decide +kernel) ⟨Nat.le_of_ble_eq_true rfl, Nat.le_of_ble_eq_true rfl⟩) hE hK hP hD hS hA [] [] [] rfl (by decide) rfl (by decide) (by decide) rfl (by decide) rfl hl.1 rfl (Nat.le_of_ble_eq_true rfl) d_Numbers_isOfVs_4 ⟨Nat.zero_le _, Nat.zero_le _⟩ (fun H locs hP hD hS => ?_)
  have hk : k_Numbers_isOfVs p1 = (k_Numbers_isOf 512 p1) := (by rw [k_Numbers_isOfVs]; try rfl)
  exact ct_rz hx hb hr hlocks hP hD hK hS d_Numbers_isOfVs_7 (bI_n _) (by rw [hk]; first | done | rfl) rfl
def k_Numbers_isOfH (p1 : Int32) : Bool :=
  if p1 = 1536 then true else if p1 = 1538 then true else if p1 = 1539 then true else if p1 = 1540 then true else if p1 = 1603 then true else if p1 = 1604 then true else if p1 = 1605 then true else if p1 = 1610 then true else if p1 = 1664 then true else false
set_option maxHeartbeats 4000000 in
set_option maxRecDepth 100000 in
theorem c_Numbers_isOfH (l : Launch) (G : gx) (tys : List (ClassId × FieldType)) (p1 : Int32) : ct_I l y_Numbers_isOfH ws_Numbers_isOfH ({ frames := 0, cells := 0, slots := 0, locals := 0 }) G tys [.int p1] [] (bI (k_Numbers_isOfH p1)) [] := by
  refine ct_hI (cc := cc_Numbers_isOfH) (maxL := 1) (ret := (some .boolean)) (by decide) rfl (Nat.le_of_ble_eq_true rfl) ?_
  intro p e s m below meth c A ls hx hb hr hml hts hown hlocks hP hK hD hA hE hS hl
  have hl : lv_has ls 1 [(0, .int p1)] := hl
  have hown : s.vm.findClass R_Numbers = some m.cls := hown
  refine lv_iload_n hx hb d_Numbers_isOfH_0 rfl (lv_at hl 0 rfl) ?_
  by_cases c_60 : p1 = 1536
  · refine lv_lookup (off := 83) (tgt := 84) hx hb d_Numbers_isOfH_1 (by decide) (by rw [c_60]; decide) (by decide) ?_
    refine lv_iconst (v := 1) hx hb d_Numbers_isOfH_84 (by decide) ?_
    have hk : k_Numbers_isOfH p1 = true := (by rw [k_Numbers_isOfH]; rw [if_pos c_60]; try rfl)
    exact ct_rz hx hb hr hlocks hP hD hK hS d_Numbers_isOfH_85 rfl (by rw [hk]; first | done | rfl) rfl
  · by_cases c_61 : p1 = 1538
    · refine lv_lookup (off := 83) (tgt := 84) hx hb d_Numbers_isOfH_1 (by decide) (by rw [c_61]; decide) (by decide) ?_
      refine lv_iconst (v := 1) hx hb d_Numbers_isOfH_84 (by decide) ?_
      have hk : k_Numbers_isOfH p1 = true := (by rw [k_Numbers_isOfH]; rw [if_neg c_60]; rw [if_pos c_61]; try rfl)
      exact ct_rz hx hb hr hlocks hP hD hK hS d_Numbers_isOfH_85 rfl (by rw [hk]; first | done | rfl) rfl
    · by_cases c_62 : p1 = 1539
      · refine lv_lookup (off := 83) (tgt := 84) hx hb d_Numbers_isOfH_1 (by decide) (by rw [c_62]; decide) (by decide) ?_
        refine lv_iconst (v := 1) hx hb d_Numbers_isOfH_84 (by decide) ?_
        have hk : k_Numbers_isOfH p1 = true := (by rw [k_Numbers_isOfH]; rw [if_neg c_60]; rw [if_neg c_61]; rw [if_pos c_62]; try rfl)
        exact ct_rz hx hb hr hlocks hP hD hK hS d_Numbers_isOfH_85 rfl (by rw [hk]; first | done | rfl) rfl
      · by_cases c_63 : p1 = 1540
        · refine lv_lookup (off := 83) (tgt := 84) hx hb d_Numbers_isOfH_1 (by decide) (by rw [c_63]; decide) (by decide) ?_
          refine lv_iconst (v := 1) hx hb d_Numbers_isOfH_84 (by decide) ?_
          have hk : k_Numbers_isOfH p1 = true := (by rw [k_Numbers_isOfH]; rw [if_neg c_60]; rw [if_neg c_61]; rw [if_neg c_62]; rw [if_pos c_63]; try rfl)
          exact ct_rz hx hb hr hlocks hP hD hK hS d_Numbers_isOfH_85 rfl (by rw [hk]; first | done | rfl) rfl
        · by_cases c_64 : p1 = 1603
          · refine lv_lookup (off := 83) (tgt := 84) hx hb d_Numbers_isOfH_1 (by decide) (by rw [c_64]; decide) (by decide) ?_
            refine lv_iconst (v := 1) hx hb d_Numbers_isOfH_84 (by decide) ?_
            have hk : k_Numbers_isOfH p1 = true := (by rw [k_Numbers_isOfH]; rw [if_neg c_60]; rw [if_neg c_61]; rw [if_neg c_62]; rw [if_neg c_63]; rw [if_pos c_64]; try rfl)
            exact ct_rz hx hb hr hlocks hP hD hK hS d_Numbers_isOfH_85 rfl (by rw [hk]; first | done | rfl) rfl
          · by_cases c_65 : p1 = 1604
            · refine lv_lookup (off := 83) (tgt := 84) hx hb d_Numbers_isOfH_1 (by decide) (by rw [c_65]; decide) (by decide) ?_
              refine lv_iconst (v := 1) hx hb d_Numbers_isOfH_84 (by decide) ?_
              have hk : k_Numbers_isOfH p1 = true := (by rw [k_Numbers_isOfH]; rw [if_neg c_60]; rw [if_neg c_61]; rw [if_neg c_62]; rw [if_neg c_63]; rw [if_neg c_64]; rw [if_pos c_65]; try rfl)
              exact ct_rz hx hb hr hlocks hP hD hK hS d_Numbers_isOfH_85 rfl (by rw [hk]; first | done | rfl) rfl
            · by_cases c_66 : p1 = 1605
              · refine lv_lookup (off := 83) (tgt := 84) hx hb d_Numbers_isOfH_1 (by decide) (by rw [c_66]; decide) (by decide) ?_
                refine lv_iconst (v := 1) hx hb d_Numbers_isOfH_84 (by decide) ?_
                have hk : k_Numbers_isOfH p1 = true := (by rw [k_Numbers_isOfH]; rw [if_neg c_60]; rw [if_neg c_61]; rw [if_neg c_62]; rw [if_neg c_63]; rw [if_neg c_64]; rw [if_neg c_65]; rw [if_pos c_66]; try rfl)
                exact ct_rz hx hb hr hlocks hP hD hK hS d_Numbers_isOfH_85 rfl (by rw [hk]; first | done | rfl) rfl
              · by_cases c_67 : p1 = 1610
                · refine lv_lookup (off := 83) (tgt := 84) hx hb d_Numbers_isOfH_1 (by decide) (by rw [c_67]; decide) (by decide) ?_
                  refine lv_iconst (v := 1) hx hb d_Numbers_isOfH_84 (by decide) ?_
                  have hk : k_Numbers_isOfH p1 = true := (by rw [k_Numbers_isOfH]; rw [if_neg c_60]; rw [if_neg c_61]; rw [if_neg c_62]; rw [if_neg c_63]; rw [if_neg c_64]; rw [if_neg c_65]; rw [if_neg c_66]; rw [if_pos c_67]; try rfl)
                  exact ct_rz hx hb hr hlocks hP hD hK hS d_Numbers_isOfH_85 rfl (by rw [hk]; first | done | rfl) rfl
                · by_cases c_68 : p1 = 1664
                  · refine lv_lookup (off := 83) (tgt := 84) hx hb d_Numbers_isOfH_1 (by decide) (by rw [c_68]; decide) (by decide) ?_
                    refine lv_iconst (v := 1) hx hb d_Numbers_isOfH_84 (by decide) ?_
                    have hk : k_Numbers_isOfH p1 = true := (by rw [k_Numbers_isOfH]; rw [if_neg c_60]; rw [if_neg c_61]; rw [if_neg c_62]; rw [if_neg c_63]; rw [if_neg c_64]; rw [if_neg c_65]; rw [if_neg c_66]; rw [if_neg c_67]; rw [if_pos c_68]; try rfl)
                    exact ct_rz hx hb hr hlocks hP hD hK hS d_Numbers_isOfH_85 rfl (by rw [hk]; first | done | rfl) rfl
                  · refine lv_lookup (off := 85) (tgt := 86) hx hb d_Numbers_isOfH_1 (by decide) ((lv_osw c_60 (by decide)).trans ((lv_osw c_61 (by decide)).trans ((lv_osw c_62 (by decide)).trans ((lv_osw c_63 (by decide)).trans ((lv_osw c_64 (by decide)).trans ((lv_osw c_65 (by decide)).trans ((lv_osw c_66 (by decide)).trans ((lv_osw c_67 (by decide)).trans ((lv_osw c_68 (by decide)).trans rfl))))))))) (by decide) ?_
                    refine lv_iconst (v := 0) hx hb d_Numbers_isOfH_86 (by decide) ?_
                    have hk : k_Numbers_isOfH p1 = false := (by rw [k_Numbers_isOfH]; rw [if_neg c_60]; rw [if_neg c_61]; rw [if_neg c_62]; rw [if_neg c_63]; rw [if_neg c_64]; rw [if_neg c_65]; rw [if_neg c_66]; rw [if_neg c_67]; rw [if_neg c_68]; try rfl)
                    exact ct_rz hx hb hr hlocks hP hD hK hS d_Numbers_isOfH_87 rfl (by rw [hk]; first | done | rfl) rfl
def k_Numbers_isTime (p1 : Int32) : Bool :=
  if p1 = 3073 then true else (if p1 = 3201 then true else false)
set_option maxHeartbeats 4000000 in
set_option maxRecDepth 100000 in
theorem c_Numbers_isTime (l : Launch) (G : gx) (tys : List (ClassId × FieldType)) (p1 : Int32) : ct_I l y_Numbers_isTime ws_Numbers_isTime ({ frames := 0, cells := 0, slots := 0, locals := 0 }) G tys [.int p1] [] (bI (k_Numbers_isTime p1)) [] := by
  refine ct_hI (cc := cc_Numbers_isTime) (maxL := 1) (ret := (some .boolean)) (by decide) rfl (Nat.le_of_ble_eq_true rfl) ?_
  intro p e s m below meth c A ls hx hb hr hml hts hown hlocks hP hK hD hA hE hS hl
  have hl : lv_has ls 1 [(0, .int p1)] := hl
  have hown : s.vm.findClass R_Numbers = some m.cls := hown
  refine lv_iload_n hx hb d_Numbers_isTime_0 rfl (lv_at hl 0 rfl) ?_
  refine lv_sipush (v := 3073) hx hb d_Numbers_isTime_1 (by decide) ?_
  refine lv_icmp_eq (tgt := 14) hx hb d_Numbers_isTime_4 (by decide) (fun c_72 => ?_) (fun c_72 => ?_)
  · refine lv_iconst (v := 1) hx hb d_Numbers_isTime_14 (by decide) ?_
    refine lv_goto (tgt := 19) hx hb d_Numbers_isTime_15 (by decide) ?_
    have hk : k_Numbers_isTime p1 = true := (by rw [k_Numbers_isTime]; rw [if_pos c_72]; try rfl)
    exact ct_rz hx hb hr hlocks hP hD hK hS d_Numbers_isTime_19 rfl (by rw [hk]; first | done | rfl) rfl
  · refine lv_iload_n hx hb d_Numbers_isTime_7 rfl (lv_at hl 0 rfl) ?_
    refine lv_sipush (v := 3201) hx hb d_Numbers_isTime_8 (by decide) ?_
    refine lv_icmp_ne (tgt := 18) hx hb d_Numbers_isTime_11 (by decide) (fun c_73 => ?_) (fun c_73 => ?_)
    · refine lv_iconst (v := 0) hx hb d_Numbers_isTime_18 (by decide) ?_
      have hk : k_Numbers_isTime p1 = false := (by rw [k_Numbers_isTime]; rw [if_neg c_72]; rw [if_neg c_73]; try rfl)
      exact ct_rz hx hb hr hlocks hP hD hK hS d_Numbers_isTime_19 rfl (by rw [hk]; first | done | rfl) rfl
    · refine lv_iconst (v := 1) hx hb d_Numbers_isTime_14 (by decide) ?_
      refine lv_goto (tgt := 19) hx hb d_Numbers_isTime_15 (by decide) ?_
      have hk : k_Numbers_isTime p1 = true := (by rw [k_Numbers_isTime]; rw [if_neg c_72]; rw [if_pos c_73]; try rfl)
      exact ct_rz hx hb hr hlocks hP hD hK hS d_Numbers_isTime_19 rfl (by rw [hk]; first | done | rfl) rfl
