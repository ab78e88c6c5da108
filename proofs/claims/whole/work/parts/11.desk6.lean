def k_Bank_leave_j16 (sb : ob) (t0 : Bool) : Bool × ob :=
  if ((sb.1 0) &&& 32) = 0 then (t0, (oi sb 0 ((((sb.1 0) &&& (-259)) ||| 32) ||| 0))) else (t0, (oi sb 0 ((((sb.1 0) &&& (-259)) ||| 32) ||| 2)))
def k_Bank_leave (sb : ob) : Bool × ob :=
  if ((sb.1 0) &&& 256) = 0 then (k_Bank_leave_j16 sb false) else (k_Bank_leave_j16 sb true)
set_option maxHeartbeats 4000000 in
set_option maxRecDepth 100000 in
theorem c_Bank_leave (l : Launch) (G : gx) (tys : List (ClassId × FieldType)) (qb : Nat) (sb : ob) : ct_I l y_Bank_leave ws_Bank_leave ({ frames := 0, cells := 0, slots := 0, locals := 0 }) G tys [.ref qb] [(qb, .inr (0, f_Bank sb))] (bI ((k_Bank_leave sb).1)) [(qb, .inr (0, f_Bank ((k_Bank_leave sb).2)))] := by
  refine ct_hI (cc := cc_Bank_leave) (maxL := 3) (ret := (some .boolean)) (by decide) rfl (Nat.le_of_ble_eq_true rfl) ?_
  intro p e s m below meth c A ls hx hb hr hml hts hown hlocks hP hK hD hA hE hS hl
  have hl : lv_has ls 3 [(0, .ref qb)] := hl
  have hown : s.vm.findClass R_Bank = some m.cls := hown
  have J16 : ∀ (t0 : Bool) (H : Heap) (locs : List Loc) (ls : Array Slot), k_Bank_leave sb = k_Bank_leave_j16 sb t0 → va_P G.1 vwCl [(qb, .inr (0, f_Bank sb))] H → va_D A [(qb, .inr (0, f_Bank sb))] → va_S A s.heap H locs → lv_has ls 3 [(0, .ref qb)] → W p l e ({ frames := 0, cells := 0, slots := 0, locals := 0 }) s m ([.ref qb] : List Value).toArray below meth c H locs 0 0 (MQ below (ct_qi G tys A (bI ((k_Bank_leave sb).1)) [(qb, .inr (0, f_Bank ((k_Bank_leave sb).2)))]) ([.ref qb] : List Value).toArray s 0 0 A) (F0 m 16 ls [.int (bI t0)]) := by
    intro t0 H locs ls hj hP hD hS hl
    refine lv_istore_n (lv' := [(1, .int (bI t0)), (0, .ref qb)]) hx hb d_Bank_leave_16 rfl hl (by decide) rfl (fun ls hl => ?_)
    refine lv_aload_n hx hb d_Bank_leave_17 rfl (lv_at hl 1 rfl) ?_
    refine va_get (D := G.1) (ci := 0) (v := .int (sb.1 0)) (C := R_Bank) (T := T_Bank) (N := 7) hx hb hts (fun w h => gd_sub _ (iw_Bank w h)) hown hK hP 0 rfl rfl 0 (by decide) (hts _ (gd_sub _ q_103)) (fun _ h9 => h9) rfl d_Bank_leave_18 ?_
    refine lv_sipush (v := (-259)) hx hb d_Bank_leave_21 (by decide) ?_
    refine lv_iand hx hb d_Bank_leave_24 ?_
    refine lv_istore_n (lv' := [(2, .int ((sb.1 0) &&& (-259))), (1, .int (bI t0)), (0, .ref qb)]) hx hb d_Bank_leave_25 rfl hl (by decide) rfl (fun ls hl => ?_)
    refine lv_aload_n hx hb d_Bank_leave_26 rfl (lv_at hl 2 rfl) ?_
    refine lv_iload_n hx hb d_Bank_leave_27 rfl (lv_at hl 0 rfl) ?_
    refine lv_bipush (v := 32) hx hb d_Bank_leave_28 (by decide) ?_
    refine lv_ior hx hb d_Bank_leave_30 ?_
    refine lv_aload_n hx hb d_Bank_leave_31 rfl (lv_at hl 2 rfl) ?_
    refine va_get (D := G.1) (ci := 0) (v := .int (sb.1 0)) (C := R_Bank) (T := T_Bank) (N := 7) hx hb hts (fun w h => gd_sub _ (iw_Bank w h)) hown hK hP 0 rfl rfl 0 (by decide) (hts _ (gd_sub _ q_103)) (fun _ h9 => h9) rfl d_Bank_leave_32 ?_
    refine lv_bipush (v := 32) hx hb d_Bank_leave_35 (by decide) ?_
    refine lv_iand hx hb d_Bank_leave_37 ?_
    refine lv_if_eq (tgt := 45) hx hb d_Bank_leave_38 (by decide) (fun c_409 => ?_) (fun c_409 => ?_)
    · refine lv_iconst (v := 0) hx hb d_Bank_leave_45 (by decide) ?_
      refine lv_ior hx hb d_Bank_leave_46 ?_
      refine va_put (D := G.1) (ci := 0) (v := .int ((((sb.1 0) &&& (-259)) ||| 32) ||| 0)) (ty := .int) (C := R_Bank) (T := T_Bank) (N := 7) hx hb hts (fun w h => gd_sub _ (iw_Bank w h)) ty_Bank tyok_Bank nm_Bank hown hK hP hD hS 0 rfl rfl 0 (by decide) (hts _ (gd_sub _ q_103)) (fun _ h9 => h9) rfl (by decide +kernel) rfl rfl (Nat.le_of_ble_eq_true rfl) d_Bank_leave_47 (fun H locs hP hD hS => ?_)
      have hP : va_P G.1 vwCl [(qb, .inr (0, f_Bank (oi sb 0 ((((sb.1 0) &&& (-259)) ||| 32) ||| 0))))] H := hP
      have hD : va_D A [(qb, .inr (0, f_Bank (oi sb 0 ((((sb.1 0) &&& (-259)) ||| 32) ||| 0))))] := hD
      refine lv_iload_n hx hb d_Bank_leave_50 rfl (lv_at hl 1 rfl) ?_
      have hk : k_Bank_leave sb = (t0, (oi sb 0 ((((sb.1 0) &&& (-259)) ||| 32) ||| 0))) := (hj.trans (by rw [k_Bank_leave_j16]; rw [if_pos c_409]; try rfl))
      exact ct_rz hx hb hr hlocks hP hD hK hS d_Bank_leave_51 (bI_n _) (by rw [hk]; first | done | rfl) (by rw [hk]; first | done | rfl)
    · refine lv_iconst (v := 2) hx hb d_Bank_leave_41 (by decide) ?_
      refine lv_goto (tgt := 46) hx hb d_Bank_leave_42 (by decide) ?_
      refine lv_ior hx hb d_Bank_leave_46 ?_
      refine va_put (D := G.1) (ci := 0) (v := .int ((((sb.1 0) &&& (-259)) ||| 32) ||| 2)) (ty := .int) (C := R_Bank) (T := T_Bank) (N := 7) hx hb hts (fun w h => gd_sub _ (iw_Bank w h)) ty_Bank tyok_Bank nm_Bank hown hK hP hD hS 0 rfl rfl 0 (by decide) (hts _ (gd_sub _ q_103)) (fun _ h9 => h9) rfl (by decide +kernel) rfl rfl (Nat.le_of_ble_eq_true rfl) d_Bank_leave_47 (fun H locs hP hD hS => ?_)
      have hP : va_P G.1 vwCl [(qb, .inr (0, f_Bank (oi sb 0 ((((sb.1 0) &&& (-259)) ||| 32) ||| 2))))] H := hP
      have hD : va_D A [(qb, .inr (0, f_Bank (oi sb 0 ((((sb.1 0) &&& (-259)) ||| 32) ||| 2))))] := hD
      refine lv_iload_n hx hb d_Bank_leave_50 rfl (lv_at hl 1 rfl) ?_
      have hk : k_Bank_leave sb = (t0, (oi sb 0 ((((sb.1 0) &&& (-259)) ||| 32) ||| 2))) := (hj.trans (by rw [k_Bank_leave_j16]; rw [if_neg c_409]; try rfl))
      exact ct_rz hx hb hr hlocks hP hD hK hS d_Bank_leave_51 (bI_n _) (by rw [hk]; first | done | rfl) (by rw [hk]; first | done | rfl)
  obtain ⟨H, eH⟩ : ∃ z, z = s.heap := ⟨_, rfl⟩
  obtain ⟨locs, eL⟩ : ∃ z, z = ([] : List Loc) := ⟨_, rfl⟩
  have hP : va_P G.1 vwCl [(qb, .inr (0, f_Bank sb))] H := by rw [eH]; exact hP
  have hS : va_S A s.heap H locs := by rw [eH, eL]; exact hS
  suffices hW : W p l e ({ frames := 0, cells := 0, slots := 0, locals := 0 }) s m ([.ref qb] : List Value).toArray below meth c H locs 0 0 (MQ below (ct_qi G tys A (bI ((k_Bank_leave sb).1)) [(qb, .inr (0, f_Bank ((k_Bank_leave sb).2)))]) ([.ref qb] : List Value).toArray s 0 0 A) (F0 m 0 ls []) by rw [eH, eL] at hW; exact hW
  refine lv_aload_n hx hb d_Bank_leave_0 rfl (lv_at hl 0 rfl) ?_
  refine va_get (D := G.1) (ci := 0) (v := .int (sb.1 0)) (C := R_Bank) (T := T_Bank) (N := 7) hx hb hts (fun w h => gd_sub _ (iw_Bank w h)) hown hK hP 0 rfl rfl 0 (by decide) (hts _ (gd_sub _ q_103)) (fun _ h9 => h9) rfl d_Bank_leave_1 ?_
  refine lv_sipush (v := 256) hx hb d_Bank_leave_4 (by decide) ?_
  refine lv_iand hx hb d_Bank_leave_7 ?_
  refine lv_if_eq (tgt := 15) hx hb d_Bank_leave_8 (by decide) (fun c_410 => ?_) (fun c_410 => ?_)
  · refine lv_iconst (v := 0) hx hb d_Bank_leave_15 (by decide) ?_
    exact J16 false H locs ls (by rw [k_Bank_leave]; rw [if_pos c_410]; try rfl) hP hD hS (lv_sub hl [0] rfl)
  · refine lv_iconst (v := 1) hx hb d_Bank_leave_11 (by decide) ?_
    refine lv_goto (tgt := 16) hx hb d_Bank_leave_12 (by decide) ?_
    exact J16 true H locs ls (by rw [k_Bank_leave]; rw [if_neg c_410]; try rfl) hP hD hS (lv_sub hl [0] rfl)
def k_Hyper_leave (sy : ob) : Bool × ob :=
  ((k_Hyper_hasStatus sy 128), (oi sy 0 ((sy.1 0) &&& (-129))))
set_option maxHeartbeats 4000000 in
set_option maxRecDepth 100000 in
theorem c_Hyper_leave (l : Launch) (G : gx) (tys : List (ClassId × FieldType)) (qy : Nat) (sy : ob) : ct_I l y_Hyper_leave ws_Hyper_leave ({ frames := 1, cells := 0, slots := 0, locals := 21 }) G tys [.ref qy] [(qy, .inr (2, f_Hyper sy))] (bI ((k_Hyper_leave sy).1)) [(qy, .inr (2, f_Hyper ((k_Hyper_leave sy).2)))] := by
  refine ct_hI (cc := cc_Hyper_leave) (maxL := 2) (ret := (some .boolean)) (by decide) rfl (Nat.le_of_ble_eq_true rfl) ?_
  intro p e s m below meth c A ls hx hb hr hml hts hown hlocks hP hK hD hA hE hS hl
  have hl : lv_has ls 2 [(0, .ref qy)] := hl
  have hown : s.vm.findClass R_Hyper = some m.cls := hown
  refine lv_aload_n hx hb d_Hyper_leave_0 rfl (lv_at hl 0 rfl) ?_
  refine lv_sipush (v := 128) hx hb d_Hyper_leave_1 (by decide) ?_
  refine ct_cVi (wr := []) (w1 := [(qy, .inr (2, f_Hyper sy))]) (w2 := [(qy, .inr (2, f_Hyper sy))]) (r := (bI (k_Hyper_hasStatus sy 128))) (As := [.int 128]) (rest := []) (ci := 2) (q0 := 0) ⟨hx, hb, hml, hown, hts⟩ (c_Hyper_hasStatus l G tys qy sy 128) (cwV 1 hts (gdV gd_gd q_475 q_423 q_424 q_45 q_425) rfl rfl rfl (by decide +kernel) ⟨Nat.le_of_ble_eq_true rfl, Nat.le_of_ble_eq_true rfl⟩) hE hK hP hD hS hA [0] [] [0] rfl (by decide) rfl (by decide) (by decide) rfl (by decide) rfl rfl rfl hl.1 rfl (Nat.le_of_ble_eq_true rfl) d_Hyper_leave_4 ⟨Nat.zero_le _, Nat.zero_le _⟩ (fun H locs hP hD hS => ?_)
  refine lv_istore_n (lv' := [(1, .int (bI (k_Hyper_hasStatus sy 128))), (0, .ref qy)]) hx hb d_Hyper_leave_7 rfl hl (by decide) rfl (fun ls hl => ?_)
  refine lv_aload_n hx hb d_Hyper_leave_8 rfl (lv_at hl 1 rfl) ?_
  refine lv_aload_n hx hb d_Hyper_leave_9 rfl (lv_at hl 1 rfl) ?_
  refine va_get (D := G.1) (ci := 2) (v := .int (sy.1 0)) (C := R_Hyper) (T := T_Hyper) (N := 8) hx hb hts (fun w h => gd_sub _ (iw_Hyper w h)) hown hK hP 0 rfl rfl 0 (by decide) (hts _ (gd_sub _ q_132)) (fun _ h9 => h9) rfl d_Hyper_leave_10 ?_
  refine lv_sipush (v := (-129)) hx hb d_Hyper_leave_13 (by decide) ?_
  refine lv_iand hx hb d_Hyper_leave_16 ?_
  refine va_put (D := G.1) (ci := 2) (v := .int ((sy.1 0) &&& (-129))) (ty := .int) (C := R_Hyper) (T := T_Hyper) (N := 8) hx hb hts (fun w h => gd_sub _ (iw_Hyper w h)) ty_Hyper tyok_Hyper nm_Hyper hown hK hP hD hS 0 rfl rfl 0 (by decide) (hts _ (gd_sub _ q_132)) (fun _ h9 => h9) rfl (by decide +kernel) rfl rfl (Nat.le_of_ble_eq_true rfl) d_Hyper_leave_17 (fun H locs hP hD hS => ?_)
  have hP : va_P G.1 vwCl [(qy, .inr (2, f_Hyper (oi sy 0 ((sy.1 0) &&& (-129)))))] H := hP
  have hD : va_D A [(qy, .inr (2, f_Hyper (oi sy 0 ((sy.1 0) &&& (-129)))))] := hD
  refine lv_iload_n hx hb d_Hyper_leave_20 rfl (lv_at hl 0 rfl) ?_
  have hk : k_Hyper_leave sy = ((k_Hyper_hasStatus sy 128), (oi sy 0 ((sy.1 0) &&& (-129)))) := (by rw [k_Hyper_leave]; try rfl)
  exact ct_rz hx hb hr hlocks hP hD hK hS d_Hyper_leave_21 (bI_n _) (by rw [hk]; first | done | rfl) (by rw [hk]; first | done | rfl)
def k_Desk_supervisorReturn (sx : ob) (sc : ob) (shs : ob) (sgs : ob) (sy : ob) : Int32 × ob × ob × ob × ob :=
  if (k_Desk_refusalOfSupervisorWord sx sc sy 4194304) = (-1) then (if (sx.1 3) = 3 then (if (bI ((k_Bank_leave sgs).1)) = 0 then ((-1), (oi (oi sx 4 (sgs.1 3)) 3 2), shs, ((k_Bank_leave sgs).2), sy) else ((-1), (oi (oi sx 4 (sgs.1 3)) 3 3), shs, ((k_Bank_leave sgs).2), sy)) else (if (bI ((k_Hyper_leave sy).1)) = 0 then (if (bI ((k_Bank_leave shs).1)) = 0 then ((-1), (oi (oi sx 4 (shs.1 3)) 3 0), ((k_Bank_leave shs).2), sgs, ((k_Hyper_leave sy).2)) else ((-1), (oi (oi sx 4 (shs.1 3)) 3 1), ((k_Bank_leave shs).2), sgs, ((k_Hyper_leave sy).2))) else (if (bI ((k_Bank_leave shs).1)) = 0 then ((-1), (oi (oi sx 4 (shs.1 3)) 3 2), ((k_Bank_leave shs).2), sgs, ((k_Hyper_leave sy).2)) else ((-1), (oi (oi sx 4 (shs.1 3)) 3 3), ((k_Bank_leave shs).2), sgs, ((k_Hyper_leave sy).2))))) else ((k_Desk_refusalOfSupervisorWord sx sc sy 4194304), sx, shs, sgs, sy)
set_option maxHeartbeats 4000000 in
set_option maxRecDepth 100000 in
theorem c_Desk_supervisorReturn (l : Launch) (G : gx) (tys : List (ClassId × FieldType)) (qx qc qhs qgs qy qo qr : Nat) (sx : ob) (sc : ob) (shs : ob) (sgs : ob) (sy : ob) : ct_I l y_Desk_supervisorReturn ws_Desk_supervisorReturn ({ frames := 2, cells := 0, slots := 0, locals := 42 }) G tys [.ref qx] [(qx, .inr (5, f_Desk qc qo qr sx)), (qc, .inr (1, f_Controls qo qhs qgs qy sc)), (qhs, .inr (0, f_Bank shs)), (qgs, .inr (0, f_Bank sgs)), (qy, .inr (2, f_Hyper sy))] ((k_Desk_supervisorReturn sx sc shs sgs sy).1) [(qx, .inr (5, f_Desk qc qo qr ((k_Desk_supervisorReturn sx sc shs sgs sy).2.1))), (qc, .inr (1, f_Controls qo qhs qgs qy sc)), (qhs, .inr (0, f_Bank ((k_Desk_supervisorReturn sx sc shs sgs sy).2.2.1))), (qgs, .inr (0, f_Bank ((k_Desk_supervisorReturn sx sc shs sgs sy).2.2.2.1))), (qy, .inr (2, f_Hyper ((k_Desk_supervisorReturn sx sc shs sgs sy).2.2.2.2)))] := by
  refine ct_hI (cc := cc_Desk_supervisorReturn) (maxL := 4) (ret := (some .int)) (by decide) rfl (Nat.le_of_ble_eq_true rfl) ?_
  intro p e s m below meth c A ls hx hb hr hml hts hown hlocks hP hK hD hA hE hS hl
  have hl : lv_has ls 4 [(0, .ref qx)] := hl
  have hown : s.vm.findClass R_Desk = some m.cls := hown
  refine lv_aload_n hx hb d_Desk_supervisorReturn_0 rfl (lv_at hl 0 rfl) ?_
  refine lv_ldc (v := 4194304) hx hb hown (hts _ (gd_sub _ q_466)) d_Desk_supervisorReturn_1 ?_
  refine ct_cVi (wr := [(qhs, .inr (0, f_Bank shs)), (qgs, .inr (0, f_Bank sgs))]) (w1 := [(qx, .inr (5, f_Desk qc qo qr sx)), (qc, .inr (1, f_Controls qo qhs qgs qy sc)), (qy, .inr (2, f_Hyper sy))]) (w2 := [(qx, .inr (5, f_Desk qc qo qr sx)), (qc, .inr (1, f_Controls qo qhs qgs qy sc)), (qhs, .inr (0, f_Bank shs)), (qgs, .inr (0, f_Bank sgs)), (qy, .inr (2, f_Hyper sy))]) (r := (k_Desk_refusalOfSupervisorWord sx sc sy 4194304)) (As := [.int 4194304]) (rest := []) (ci := 5) (q0 := 0) ⟨hx, hb, hml, hown, hts⟩ (c_Desk_refusalOfSupervisorWord l G tys qx qc qy qo qr qhs qgs sx sc sy 4194304) (cwV 1 hts (gdV gd_gd q_418 q_420 q_3 q_41 q_421) rfl rfl rfl (by decide +kernel) ⟨Nat.le_of_ble_eq_true rfl, Nat.le_of_ble_eq_true rfl⟩) hE hK hP hD hS hA [0, 1, 4] [2, 3] [2, 3, 0, 1, 4] rfl (by decide) rfl (by decide) (by decide) rfl (by decide) rfl rfl rfl hl.1 rfl (Nat.le_of_ble_eq_true rfl) d_Desk_supervisorReturn_3 ⟨Nat.zero_le _, Nat.zero_le _⟩ (fun H locs hP hD hS => ?_)
  refine lv_istore_n (lv' := [(1, .int (k_Desk_refusalOfSupervisorWord sx sc sy 4194304)), (0, .ref qx)]) hx hb d_Desk_supervisorReturn_6 rfl hl (by decide) rfl (fun ls hl => ?_)
  refine lv_iload_n hx hb d_Desk_supervisorReturn_7 rfl (lv_at hl 0 rfl) ?_
  refine lv_iconst (v := (-1)) hx hb d_Desk_supervisorReturn_8 (by decide) ?_
  refine lv_icmp_eq (tgt := 14) hx hb d_Desk_supervisorReturn_9 (by decide) (fun c_421 => ?_) (fun c_421 => ?_)
  · refine lv_aload_n hx hb d_Desk_supervisorReturn_14 rfl (lv_at hl 1 rfl) ?_
    refine va_get (D := G.1) (ci := 5) (v := .int (sx.1 3)) (C := R_Desk) (T := T_Desk) (N := 8) hx hb hts (fun w h => gd_sub _ (iw_Desk w h)) hown hK hP 0 rfl rfl 3 (by decide) (hts _ (gd_sub _ q_208)) (fun _ h9 => h9) rfl d_Desk_supervisorReturn_15 ?_
    refine lv_iconst (v := 3) hx hb d_Desk_supervisorReturn_18 (by decide) ?_
    refine lv_icmp_ne (tgt := 60) hx hb d_Desk_supervisorReturn_19 (by decide) (fun c_422 => ?_) (fun c_422 => ?_)
    · refine lv_aload_n hx hb d_Desk_supervisorReturn_60 rfl (lv_at hl 1 rfl) ?_
      refine lv_aload_n hx hb d_Desk_supervisorReturn_61 rfl (lv_at hl 1 rfl) ?_
      refine va_get (D := G.1) (ci := 5) (v := .ref qc) (C := R_Desk) (T := T_Desk) (N := 8) hx hb hts (fun w h => gd_sub _ (iw_Desk w h)) hown hK hP 0 rfl rfl 0 (by decide) (hts _ (gd_sub _ q_205)) (fun _ h9 => h9) rfl d_Desk_supervisorReturn_62 ?_
      refine va_get (D := G.1) (ci := 1) (v := .ref qhs) (C := R_Controls) (T := T_Controls) (N := 6) hx hb hts (fun w h => gd_sub _ (iw_Controls w h)) hown hK hP 1 rfl rfl 1 (by decide) (hts _ (gd_sub _ q_166)) (fun _ h9 => h9) rfl d_Desk_supervisorReturn_65 ?_
      refine va_get (D := G.1) (ci := 0) (v := .int (shs.1 3)) (C := R_Bank) (T := T_Bank) (N := 7) hx hb hts (fun w h => gd_sub _ (iw_Bank w h)) hown hK hP 2 rfl rfl 3 (by decide) (hts _ (gd_sub _ q_107)) (fun _ h9 => h9) rfl d_Desk_supervisorReturn_68 ?_
      refine va_put (D := G.1) (ci := 5) (v := .int (shs.1 3)) (ty := .int) (C := R_Desk) (T := T_Desk) (N := 8) hx hb hts (fun w h => gd_sub _ (iw_Desk w h)) ty_Desk tyok_Desk nm_Desk hown hK hP hD hS 0 rfl rfl 4 (by decide) (hts _ (gd_sub _ q_209)) (fun _ h9 => h9) rfl (by decide +kernel) rfl rfl (Nat.le_of_ble_eq_true rfl) d_Desk_supervisorReturn_71 (fun H locs hP hD hS => ?_)
      have hP : va_P G.1 vwCl [(qx, .inr (5, f_Desk qc qo qr (oi sx 4 (shs.1 3)))), (qc, .inr (1, f_Controls qo qhs qgs qy sc)), (qhs, .inr (0, f_Bank shs)), (qgs, .inr (0, f_Bank sgs)), (qy, .inr (2, f_Hyper sy))] H := hP
      have hD : va_D A [(qx, .inr (5, f_Desk qc qo qr (oi sx 4 (shs.1 3)))), (qc, .inr (1, f_Controls qo qhs qgs qy sc)), (qhs, .inr (0, f_Bank shs)), (qgs, .inr (0, f_Bank sgs)), (qy, .inr (2, f_Hyper sy))] := hD
      refine lv_aload_n hx hb d_Desk_supervisorReturn_74 rfl (lv_at hl 1 rfl) ?_
      refine va_get (D := G.1) (ci := 5) (v := .ref qc) (C := R_Desk) (T := T_Desk) (N := 8) hx hb hts (fun w h => gd_sub _ (iw_Desk w h)) hown hK hP 0 rfl rfl 0 (by decide) (hts _ (gd_sub _ q_205)) (fun _ h9 => h9) rfl d_Desk_supervisorReturn_75 ?_
      refine va_get (D := G.1) (ci := 1) (v := .ref qhs) (C := R_Controls) (T := T_Controls) (N := 6) hx hb hts (fun w h => gd_sub _ (iw_Controls w h)) hown hK hP 1 rfl rfl 1 (by decide) (hts _ (gd_sub _ q_166)) (fun _ h9 => h9) rfl d_Desk_supervisorReturn_78 ?_
      obtain ⟨r_423, er_423⟩ : ∃ z, z = (k_Bank_leave shs).1 := ⟨_, rfl⟩
      obtain ⟨shs_424, eshs_424⟩ : ∃ z, z = (k_Bank_leave shs).2 := ⟨_, rfl⟩
      have hM := c_Bank_leave l G tys qhs shs
      rw [← er_423, ← eshs_424] at hM
      refine ct_cVi (wr := [(qx, .inr (5, f_Desk qc qo qr (oi sx 4 (shs.1 3)))), (qc, .inr (1, f_Controls qo qhs qgs qy sc)), (qgs, .inr (0, f_Bank sgs)), (qy, .inr (2, f_Hyper sy))]) (w1 := [(qhs, .inr (0, f_Bank shs_424))]) (w2 := [(qx, .inr (5, f_Desk qc qo qr (oi sx 4 (shs.1 3)))), (qc, .inr (1, f_Controls qo qhs qgs qy sc)), (qhs, .inr (0, f_Bank shs_424)), (qgs, .inr (0, f_Bank sgs)), (qy, .inr (2, f_Hyper sy))]) (r := (bI r_423)) (As := []) (rest := []) (ci := 0) (q0 := 0) ⟨hx, hb, hml, hown, hts⟩ hM (cwV 0 hts (gdV gd_gd q_467 q_468 q_469 q_44 q_470) rfl rfl rfl (by decide +kernel) ⟨Nat.le_of_ble_eq_true rfl, Nat.le_of_ble_eq_true rfl⟩) hE hK hP hD hS hA [2] [0, 1, 3, 4] [0, 1, 4, 2, 3] rfl (by decide) rfl (by decide) (by decide) rfl (by decide) rfl rfl rfl hl.1 rfl (Nat.le_of_ble_eq_true rfl) d_Desk_supervisorReturn_81 ⟨Nat.zero_le _, Nat.zero_le _⟩ (fun H locs hP hD hS => ?_)
      refine lv_istore_n (lv' := [(2, .int (bI r_423)), (1, .int (k_Desk_refusalOfSupervisorWord sx sc sy 4194304)), (0, .ref qx)]) hx hb d_Desk_supervisorReturn_84 rfl hl (by decide) rfl (fun ls hl => ?_)
      refine lv_aload_n hx hb d_Desk_supervisorReturn_85 rfl (lv_at hl 2 rfl) ?_
      refine va_get (D := G.1) (ci := 5) (v := .ref qc) (C := R_Desk) (T := T_Desk) (N := 8) hx hb hts (fun w h => gd_sub _ (iw_Desk w h)) hown hK hP 0 rfl rfl 0 (by decide) (hts _ (gd_sub _ q_205)) (fun _ h9 => h9) rfl d_Desk_supervisorReturn_86 ?_
      refine va_get (D := G.1) (ci := 1) (v := .ref qy) (C := R_Controls) (T := T_Controls) (N := 6) hx hb hts (fun w h => gd_sub _ (iw_Controls w h)) hown hK hP 1 rfl rfl 3 (by decide) (hts _ (gd_sub _ q_170)) (fun _ h9 => h9) rfl d_Desk_supervisorReturn_89 ?_
      obtain ⟨r_425, er_425⟩ : ∃ z, z = (k_Hyper_leave sy).1 := ⟨_, rfl⟩
      obtain ⟨sy_426, esy_426⟩ : ∃ z, z = (k_Hyper_leave sy).2 := ⟨_, rfl⟩
      have hM := c_Hyper_leave l G tys qy sy
      rw [← er_425, ← esy_426] at hM
      refine ct_cVi (wr := [(qx, .inr (5, f_Desk qc qo qr (oi sx 4 (shs.1 3)))), (qc, .inr (1, f_Controls qo qhs qgs qy sc)), (qhs, .inr (0, f_Bank shs_424)), (qgs, .inr (0, f_Bank sgs))]) (w1 := [(qy, .inr (2, f_Hyper sy_426))]) (w2 := [(qx, .inr (5, f_Desk qc qo qr (oi sx 4 (shs.1 3)))), (qc, .inr (1, f_Controls qo qhs qgs qy sc)), (qhs, .inr (0, f_Bank shs_424)), (qgs, .inr (0, f_Bank sgs)), (qy, .inr (2, f_Hyper sy_426))]) (r := (bI r_425)) (As := []) (rest := []) (ci := 2) (q0 := 0) ⟨hx, hb, hml, hown, hts⟩ hM (cwV 0 hts (gdV gd_gd q_471 q_472 q_473 q_45 q_474) rfl rfl rfl (by decide +kernel) ⟨Nat.le_of_ble_eq_true rfl, Nat.le_of_ble_eq_true rfl⟩) hE hK hP hD hS hA [4] [0, 1, 2, 3] [0, 1, 2, 3, 4] rfl (by decide) rfl (by decide) (by decide) rfl (by decide) rfl rfl rfl hl.1 rfl (Nat.le_of_ble_eq_true rfl) d_Desk_supervisorReturn_92 ⟨Nat.zero_le _, Nat.zero_le _⟩ (fun H locs hP hD hS => ?_)
      refine lv_istore_n (lv' := [(3, .int (bI r_425)), (2, .int (bI r_423)), (1, .int (k_Desk_refusalOfSupervisorWord sx sc sy 4194304)), (0, .ref qx)]) hx hb d_Desk_supervisorReturn_95 rfl hl (by decide) rfl (fun ls hl => ?_)
      refine lv_iload_n hx hb d_Desk_supervisorReturn_96 rfl (lv_at hl 0 rfl) ?_
      refine lv_if_eq (tgt := 116) hx hb d_Desk_supervisorReturn_97 (by decide) (fun c_427 => ?_) (fun c_427 => ?_)
      · refine lv_aload_n hx hb d_Desk_supervisorReturn_116 rfl (lv_at hl 3 rfl) ?_
        refine lv_iload_n hx hb d_Desk_supervisorReturn_117 rfl (lv_at hl 1 rfl) ?_
        refine lv_if_eq (tgt := 125) hx hb d_Desk_supervisorReturn_118 (by decide) (fun c_428 => ?_) (fun c_428 => ?_)
        · refine lv_iconst (v := 0) hx hb d_Desk_supervisorReturn_125 (by decide) ?_
          refine va_put (D := G.1) (ci := 5) (v := .int 0) (ty := .int) (C := R_Desk) (T := T_Desk) (N := 8) hx hb hts (fun w h => gd_sub _ (iw_Desk w h)) ty_Desk tyok_Desk nm_Desk hown hK hP hD hS 0 rfl rfl 3 (by decide) (hts _ (gd_sub _ q_208)) (fun _ h9 => h9) rfl (by decide +kernel) rfl rfl (Nat.le_of_ble_eq_true rfl) d_Desk_supervisorReturn_126 (fun H locs hP hD hS => ?_)
          have hP : va_P G.1 vwCl [(qx, .inr (5, f_Desk qc qo qr (oi (oi sx 4 (shs.1 3)) 3 0))), (qc, .inr (1, f_Controls qo qhs qgs qy sc)), (qhs, .inr (0, f_Bank shs_424)), (qgs, .inr (0, f_Bank sgs)), (qy, .inr (2, f_Hyper sy_426))] H := hP
          have hD : va_D A [(qx, .inr (5, f_Desk qc qo qr (oi (oi sx 4 (shs.1 3)) 3 0))), (qc, .inr (1, f_Controls qo qhs qgs qy sc)), (qhs, .inr (0, f_Bank shs_424)), (qgs, .inr (0, f_Bank sgs)), (qy, .inr (2, f_Hyper sy_426))] := hD
          refine lv_iconst (v := (-1)) hx hb d_Desk_supervisorReturn_129 (by decide) ?_
          have hk : k_Desk_supervisorReturn sx sc shs sgs sy = ((-1), (oi (oi sx 4 (shs.1 3)) 3 0), shs_424, sgs, sy_426) := (by rw [k_Desk_supervisorReturn]; rw [if_pos c_421]; rw [if_neg c_422]; try rw [← er_423]; try rw [← eshs_424]; try rw [← er_425]; try rw [← esy_426]; rw [if_pos c_427]; rw [if_pos c_428]; try rfl)
          exact ct_ri hx hb hr hlocks hP hD hK hS d_Desk_supervisorReturn_130 (by rw [hk]; first | done | rfl) (by rw [hk]; first | done | rfl)
        · refine lv_iconst (v := 1) hx hb d_Desk_supervisorReturn_121 (by decide) ?_
          refine lv_goto (tgt := 126) hx hb d_Desk_supervisorReturn_122 (by decide) ?_
          refine va_put (D := G.1) (ci := 5) (v := .int 1) (ty := .int) (C := R_Desk) (T := T_Desk) (N := 8) hx hb hts (fun w h => gd_sub _ (iw_Desk w h)) ty_Desk tyok_Desk nm_Desk hown hK hP hD hS 0 rfl rfl 3 (by decide) (hts _ (gd_sub _ q_208)) (fun _ h9 => h9) rfl (by decide +kernel) rfl rfl (Nat.le_of_ble_eq_true rfl) d_Desk_supervisorReturn_126 (fun H locs hP hD hS => ?_)
          have hP : va_P G.1 vwCl [(qx, .inr (5, f_Desk qc qo qr (oi (oi sx 4 (shs.1 3)) 3 1))), (qc, .inr (1, f_Controls qo qhs qgs qy sc)), (qhs, .inr (0, f_Bank shs_424)), (qgs, .inr (0, f_Bank sgs)), (qy, .inr (2, f_Hyper sy_426))] H := hP
          have hD : va_D A [(qx, .inr (5, f_Desk qc qo qr (oi (oi sx 4 (shs.1 3)) 3 1))), (qc, .inr (1, f_Controls qo qhs qgs qy sc)), (qhs, .inr (0, f_Bank shs_424)), (qgs, .inr (0, f_Bank sgs)), (qy, .inr (2, f_Hyper sy_426))] := hD
          refine lv_iconst (v := (-1)) hx hb d_Desk_supervisorReturn_129 (by decide) ?_
          have hk : k_Desk_supervisorReturn sx sc shs sgs sy = ((-1), (oi (oi sx 4 (shs.1 3)) 3 1), shs_424, sgs, sy_426) := (by rw [k_Desk_supervisorReturn]; rw [if_pos c_421]; rw [if_neg c_422]; try rw [← er_423]; try rw [← eshs_424]; try rw [← er_425]; try rw [← esy_426]; rw [if_pos c_427]; rw [if_neg c_428]; try rfl)
          exact ct_ri hx hb hr hlocks hP hD hK hS d_Desk_supervisorReturn_130 (by rw [hk]; first | done | rfl) (by rw [hk]; first | done | rfl)
      · refine lv_aload_n hx hb d_Desk_supervisorReturn_100 rfl (lv_at hl 3 rfl) ?_
        refine lv_iload_n hx hb d_Desk_supervisorReturn_101 rfl (lv_at hl 1 rfl) ?_
        refine lv_if_eq (tgt := 109) hx hb d_Desk_supervisorReturn_102 (by decide) (fun c_429 => ?_) (fun c_429 => ?_)
        · refine lv_iconst (v := 2) hx hb d_Desk_supervisorReturn_109 (by decide) ?_
          refine va_put (D := G.1) (ci := 5) (v := .int 2) (ty := .int) (C := R_Desk) (T := T_Desk) (N := 8) hx hb hts (fun w h => gd_sub _ (iw_Desk w h)) ty_Desk tyok_Desk nm_Desk hown hK hP hD hS 0 rfl rfl 3 (by decide) (hts _ (gd_sub _ q_208)) (fun _ h9 => h9) rfl (by decide +kernel) rfl rfl (Nat.le_of_ble_eq_true rfl) d_Desk_supervisorReturn_110 (fun H locs hP hD hS => ?_)
          have hP : va_P G.1 vwCl [(qx, .inr (5, f_Desk qc qo qr (oi (oi sx 4 (shs.1 3)) 3 2))), (qc, .inr (1, f_Controls qo qhs qgs qy sc)), (qhs, .inr (0, f_Bank shs_424)), (qgs, .inr (0, f_Bank sgs)), (qy, .inr (2, f_Hyper sy_426))] H := hP
          have hD : va_D A [(qx, .inr (5, f_Desk qc qo qr (oi (oi sx 4 (shs.1 3)) 3 2))), (qc, .inr (1, f_Controls qo qhs qgs qy sc)), (qhs, .inr (0, f_Bank shs_424)), (qgs, .inr (0, f_Bank sgs)), (qy, .inr (2, f_Hyper sy_426))] := hD
          refine lv_goto (tgt := 129) hx hb d_Desk_supervisorReturn_113 (by decide) ?_
          refine lv_iconst (v := (-1)) hx hb d_Desk_supervisorReturn_129 (by decide) ?_
          have hk : k_Desk_supervisorReturn sx sc shs sgs sy = ((-1), (oi (oi sx 4 (shs.1 3)) 3 2), shs_424, sgs, sy_426) := (by rw [k_Desk_supervisorReturn]; rw [if_pos c_421]; rw [if_neg c_422]; try rw [← er_423]; try rw [← eshs_424]; try rw [← er_425]; try rw [← esy_426]; rw [if_neg c_427]; rw [if_pos c_429]; try rfl)
          exact ct_ri hx hb hr hlocks hP hD hK hS d_Desk_supervisorReturn_130 (by rw [hk]; first | done | rfl) (by rw [hk]; first | done | rfl)
        · refine lv_iconst (v := 3) hx hb d_Desk_supervisorReturn_105 (by decide) ?_
          refine lv_goto (tgt := 110) hx hb d_Desk_supervisorReturn_106 (by decide) ?_
          refine va_put (D := G.1) (ci := 5) (v := .int 3) (ty := .int) (C := R_Desk) (T := T_Desk) (N := 8) hx hb hts (fun w h => gd_sub _ (iw_Desk w h)) ty_Desk tyok_Desk nm_Desk hown hK hP hD hS 0 rfl rfl 3 (by decide) (hts _ (gd_sub _ q_208)) (fun _ h9 => h9) rfl (by decide +kernel) rfl rfl (Nat.le_of_ble_eq_true rfl) d_Desk_supervisorReturn_110 (fun H locs hP hD hS => ?_)
          have hP : va_P G.1 vwCl [(qx, .inr (5, f_Desk qc qo qr (oi (oi sx 4 (shs.1 3)) 3 3))), (qc, .inr (1, f_Controls qo qhs qgs qy sc)), (qhs, .inr (0, f_Bank shs_424)), (qgs, .inr (0, f_Bank sgs)), (qy, .inr (2, f_Hyper sy_426))] H := hP
          have hD : va_D A [(qx, .inr (5, f_Desk qc qo qr (oi (oi sx 4 (shs.1 3)) 3 3))), (qc, .inr (1, f_Controls qo qhs qgs qy sc)), (qhs, .inr (0, f_Bank shs_424)), (qgs, .inr (0, f_Bank sgs)), (qy, .inr (2, f_Hyper sy_426))] := hD
          refine lv_goto (tgt := 129) hx hb d_Desk_supervisorReturn_113 (by decide) ?_
          refine lv_iconst (v := (-1)) hx hb d_Desk_supervisorReturn_129 (by decide) ?_
          have hk : k_Desk_supervisorReturn sx sc shs sgs sy = ((-1), (oi (oi sx 4 (shs.1 3)) 3 3), shs_424, sgs, sy_426) := (by rw [k_Desk_supervisorReturn]; rw [if_pos c_421]; rw [if_neg c_422]; try rw [← er_423]; try rw [← eshs_424]; try rw [← er_425]; try rw [← esy_426]; rw [if_neg c_427]; rw [if_neg c_429]; try rfl)
          exact ct_ri hx hb hr hlocks hP hD hK hS d_Desk_supervisorReturn_130 (by rw [hk]; first | done | rfl) (by rw [hk]; first | done | rfl)
    · refine lv_aload_n hx hb d_Desk_supervisorReturn_22 rfl (lv_at hl 1 rfl) ?_
      refine lv_aload_n hx hb d_Desk_supervisorReturn_23 rfl (lv_at hl 1 rfl) ?_
      refine va_get (D := G.1) (ci := 5) (v := .ref qc) (C := R_Desk) (T := T_Desk) (N := 8) hx hb hts (fun w h => gd_sub _ (iw_Desk w h)) hown hK hP 0 rfl rfl 0 (by decide) (hts _ (gd_sub _ q_205)) (fun _ h9 => h9) rfl d_Desk_supervisorReturn_24 ?_
      refine va_get (D := G.1) (ci := 1) (v := .ref qgs) (C := R_Controls) (T := T_Controls) (N := 6) hx hb hts (fun w h => gd_sub _ (iw_Controls w h)) hown hK hP 1 rfl rfl 2 (by decide) (hts _ (gd_sub _ q_168)) (fun _ h9 => h9) rfl d_Desk_supervisorReturn_27 ?_
      refine va_get (D := G.1) (ci := 0) (v := .int (sgs.1 3)) (C := R_Bank) (T := T_Bank) (N := 7) hx hb hts (fun w h => gd_sub _ (iw_Bank w h)) hown hK hP 3 rfl rfl 3 (by decide) (hts _ (gd_sub _ q_107)) (fun _ h9 => h9) rfl d_Desk_supervisorReturn_30 ?_
      refine va_put (D := G.1) (ci := 5) (v := .int (sgs.1 3)) (ty := .int) (C := R_Desk) (T := T_Desk) (N := 8) hx hb hts (fun w h => gd_sub _ (iw_Desk w h)) ty_Desk tyok_Desk nm_Desk hown hK hP hD hS 0 rfl rfl 4 (by decide) (hts _ (gd_sub _ q_209)) (fun _ h9 => h9) rfl (by decide +kernel) rfl rfl (Nat.le_of_ble_eq_true rfl) d_Desk_supervisorReturn_33 (fun H locs hP hD hS => ?_)
      have hP : va_P G.1 vwCl [(qx, .inr (5, f_Desk qc qo qr (oi sx 4 (sgs.1 3)))), (qc, .inr (1, f_Controls qo qhs qgs qy sc)), (qhs, .inr (0, f_Bank shs)), (qgs, .inr (0, f_Bank sgs)), (qy, .inr (2, f_Hyper sy))] H := hP
      have hD : va_D A [(qx, .inr (5, f_Desk qc qo qr (oi sx 4 (sgs.1 3)))), (qc, .inr (1, f_Controls qo qhs qgs qy sc)), (qhs, .inr (0, f_Bank shs)), (qgs, .inr (0, f_Bank sgs)), (qy, .inr (2, f_Hyper sy))] := hD
      refine lv_aload_n hx hb d_Desk_supervisorReturn_36 rfl (lv_at hl 1 rfl) ?_
      refine lv_aload_n hx hb d_Desk_supervisorReturn_37 rfl (lv_at hl 1 rfl) ?_
      refine va_get (D := G.1) (ci := 5) (v := .ref qc) (C := R_Desk) (T := T_Desk) (N := 8) hx hb hts (fun w h => gd_sub _ (iw_Desk w h)) hown hK hP 0 rfl rfl 0 (by decide) (hts _ (gd_sub _ q_205)) (fun _ h9 => h9) rfl d_Desk_supervisorReturn_38 ?_
      refine va_get (D := G.1) (ci := 1) (v := .ref qgs) (C := R_Controls) (T := T_Controls) (N := 6) hx hb hts (fun w h => gd_sub _ (iw_Controls w h)) hown hK hP 1 rfl rfl 2 (by decide) (hts _ (gd_sub _ q_168)) (fun _ h9 => h9) rfl d_Desk_supervisorReturn_41 ?_
      obtain ⟨r_430, er_430⟩ : ∃ z, z = (k_Bank_leave sgs).1 := ⟨_, rfl⟩
      obtain ⟨sgs_431, esgs_431⟩ : ∃ z, z = (k_Bank_leave sgs).2 := ⟨_, rfl⟩
      have hM := c_Bank_leave l G tys qgs sgs
      rw [← er_430, ← esgs_431] at hM
      refine ct_cVi (wr := [(qx, .inr (5, f_Desk qc qo qr (oi sx 4 (sgs.1 3)))), (qc, .inr (1, f_Controls qo qhs qgs qy sc)), (qhs, .inr (0, f_Bank shs)), (qy, .inr (2, f_Hyper sy))]) (w1 := [(qgs, .inr (0, f_Bank sgs_431))]) (w2 := [(qx, .inr (5, f_Desk qc qo qr (oi sx 4 (sgs.1 3)))), (qc, .inr (1, f_Controls qo qhs qgs qy sc)), (qhs, .inr (0, f_Bank shs)), (qgs, .inr (0, f_Bank sgs_431)), (qy, .inr (2, f_Hyper sy))]) (r := (bI r_430)) (As := []) (rest := [.ref qx]) (ci := 0) (q0 := 0) ⟨hx, hb, hml, hown, hts⟩ hM (cwV 0 hts (gdV gd_gd q_467 q_468 q_469 q_44 q_470) rfl rfl rfl (by decide +kernel) ⟨Nat.le_of_ble_eq_true rfl, Nat.le_of_ble_eq_true rfl⟩) hE hK hP hD hS hA [3] [0, 1, 2, 4] [0, 1, 2, 4, 3] rfl (by decide) rfl (by decide) (by decide) rfl (by decide) rfl rfl rfl hl.1 rfl (Nat.le_of_ble_eq_true rfl) d_Desk_supervisorReturn_44 ⟨Nat.zero_le _, Nat.zero_le _⟩ (fun H locs hP hD hS => ?_)
      refine lv_if_eq (tgt := 54) hx hb d_Desk_supervisorReturn_47 (by decide) (fun c_432 => ?_) (fun c_432 => ?_)
      · refine lv_iconst (v := 2) hx hb d_Desk_supervisorReturn_54 (by decide) ?_
        refine va_put (D := G.1) (ci := 5) (v := .int 2) (ty := .int) (C := R_Desk) (T := T_Desk) (N := 8) hx hb hts (fun w h => gd_sub _ (iw_Desk w h)) ty_Desk tyok_Desk nm_Desk hown hK hP hD hS 0 rfl rfl 3 (by decide) (hts _ (gd_sub _ q_208)) (fun _ h9 => h9) rfl (by decide +kernel) rfl rfl (Nat.le_of_ble_eq_true rfl) d_Desk_supervisorReturn_55 (fun H locs hP hD hS => ?_)
        have hP : va_P G.1 vwCl [(qx, .inr (5, f_Desk qc qo qr (oi (oi sx 4 (sgs.1 3)) 3 2))), (qc, .inr (1, f_Controls qo qhs qgs qy sc)), (qhs, .inr (0, f_Bank shs)), (qgs, .inr (0, f_Bank sgs_431)), (qy, .inr (2, f_Hyper sy))] H := hP
        have hD : va_D A [(qx, .inr (5, f_Desk qc qo qr (oi (oi sx 4 (sgs.1 3)) 3 2))), (qc, .inr (1, f_Controls qo qhs qgs qy sc)), (qhs, .inr (0, f_Bank shs)), (qgs, .inr (0, f_Bank sgs_431)), (qy, .inr (2, f_Hyper sy))] := hD
        refine lv_iconst (v := (-1)) hx hb d_Desk_supervisorReturn_58 (by decide) ?_
        have hk : k_Desk_supervisorReturn sx sc shs sgs sy = ((-1), (oi (oi sx 4 (sgs.1 3)) 3 2), shs, sgs_431, sy) := (by rw [k_Desk_supervisorReturn]; rw [if_pos c_421]; rw [if_pos c_422]; try rw [← er_430]; try rw [← esgs_431]; rw [if_pos c_432]; try rfl)
        exact ct_ri hx hb hr hlocks hP hD hK hS d_Desk_supervisorReturn_59 (by rw [hk]; first | done | rfl) (by rw [hk]; first | done | rfl)
      · refine lv_iconst (v := 3) hx hb d_Desk_supervisorReturn_50 (by decide) ?_
        refine lv_goto (tgt := 55) hx hb d_Desk_supervisorReturn_51 (by decide) ?_
        refine va_put (D := G.1) (ci := 5) (v := .int 3) (ty := .int) (C := R_Desk) (T := T_Desk) (N := 8) hx hb hts (fun w h => gd_sub _ (iw_Desk w h)) ty_Desk tyok_Desk nm_Desk hown hK hP hD hS 0 rfl rfl 3 (by decide) (hts _ (gd_sub _ q_208)) (fun _ h9 => h9) rfl (by decide +kernel) rfl rfl (Nat.le_of_ble_eq_true rfl) d_Desk_supervisorReturn_55 (fun H locs hP hD hS => ?_)
        have hP : va_P G.1 vwCl [(qx, .inr (5, f_Desk qc qo qr (oi (oi sx 4 (sgs.1 3)) 3 3))), (qc, .inr (1, f_Controls qo qhs qgs qy sc)), (qhs, .inr (0, f_Bank shs)), (qgs, .inr (0, f_Bank sgs_431)), (qy, .inr (2, f_Hyper sy))] H := hP
        have hD : va_D A [(qx, .inr (5, f_Desk qc qo qr (oi (oi sx 4 (sgs.1 3)) 3 3))), (qc, .inr (1, f_Controls qo qhs qgs qy sc)), (qhs, .inr (0, f_Bank shs)), (qgs, .inr (0, f_Bank sgs_431)), (qy, .inr (2, f_Hyper sy))] := hD
        refine lv_iconst (v := (-1)) hx hb d_Desk_supervisorReturn_58 (by decide) ?_
        have hk : k_Desk_supervisorReturn sx sc shs sgs sy = ((-1), (oi (oi sx 4 (sgs.1 3)) 3 3), shs, sgs_431, sy) := (by rw [k_Desk_supervisorReturn]; rw [if_pos c_421]; rw [if_pos c_422]; try rw [← er_430]; try rw [← esgs_431]; rw [if_neg c_432]; try rfl)
        exact ct_ri hx hb hr hlocks hP hD hK hS d_Desk_supervisorReturn_59 (by rw [hk]; first | done | rfl) (by rw [hk]; first | done | rfl)
  · refine lv_iload_n hx hb d_Desk_supervisorReturn_12 rfl (lv_at hl 0 rfl) ?_
    have hk : k_Desk_supervisorReturn sx sc shs sgs sy = ((k_Desk_refusalOfSupervisorWord sx sc sy 4194304), sx, shs, sgs, sy) := (by rw [k_Desk_supervisorReturn]; rw [if_neg c_421]; try rfl)
    exact ct_ri hx hb hr hlocks hP hD hK hS d_Desk_supervisorReturn_13 (by rw [hk]; first | done | rfl) (by rw [hk]; first | done | rfl)
def k_Desk_wordWithoutA (sx : ob) (sc : ob) (so : ob) (sa : Nat → Int32) (shs : ob) (sgs : ob) (sy : ob) (sr : ob) (p1 : Int32) : Int32 × ob × ob × (Nat → Int32) × ob × ob × ob × ob :=
  if (k_Desk_fieldA p1) = 0 then (if (ush p1 20) = 0 then (((k_Desk_environmentCall sx so sa sr).1), ((k_Desk_environmentCall sx so sa sr).2.1), ((k_Desk_environmentCall sx so sa sr).2.2.1), ((k_Desk_environmentCall sx so sa sr).2.2.2.1), shs, sgs, sy, ((k_Desk_environmentCall sx so sa sr).2.2.2.2)) else if (ush p1 20) = 1 then (3, sx, so, sa, shs, sgs, sy, sr) else if (ush p1 20) = 258 then (((k_Desk_supervisorReturn sx sc shs sgs sy).1), ((k_Desk_supervisorReturn sx sc shs sgs sy).2.1), so, sa, ((k_Desk_supervisorReturn sx sc shs sgs sy).2.2.1), ((k_Desk_supervisorReturn sx sc shs sgs sy).2.2.2.1), ((k_Desk_supervisorReturn sx sc shs sgs sy).2.2.2.2), sr) else if (ush p1 20) = 261 then (((k_Desk_nothingUnless sx sc sy 2097152).1), ((k_Desk_nothingUnless sx sc sy 2097152).2), so, sa, shs, sgs, sy, sr) else (2, sx, so, sa, shs, sgs, sy, sr)) else (2, sx, so, sa, shs, sgs, sy, sr)
set_option maxHeartbeats 4000000 in
set_option maxRecDepth 100000 in
theorem c_Desk_wordWithoutA (l : Launch) (G : gx) (tys : List (ClassId × FieldType)) {cA : ClassId} (ht : tys[0]? = some (cA, .byte)) (qx qc qo qa qhs qgs qy qr : Nat) (sx : ob) (sc : ob) (so : ob) (sa : Nat → Int32) (shs : ob) (sgs : ob) (sy : ob) (sr : ob) (p1 : Int32) (hp9 : ¬ so.1 1 < 0) : ct_I l y_Desk_wordWithoutA ws_Desk_wordWithoutA ({ frames := 3, cells := 0, slots := 0, locals := 66 }) G tys [.ref qx, .int p1] [(qx, .inr (5, f_Desk qc qo qr sx)), (qc, .inr (1, f_Controls qo qhs qgs qy sc)), (qo, .inr (3, f_Outside qa so)), (qa, .inl (cA, 256, .inl sa)), (qhs, .inr (0, f_Bank shs)), (qgs, .inr (0, f_Bank sgs)), (qy, .inr (2, f_Hyper sy)), (qr, .inr (4, f_Registers sr))] ((k_Desk_wordWithoutA sx sc so sa shs sgs sy sr p1).1) [(qx, .inr (5, f_Desk qc qo qr ((k_Desk_wordWithoutA sx sc so sa shs sgs sy sr p1).2.1))), (qc, .inr (1, f_Controls qo qhs qgs qy sc)), (qo, .inr (3, f_Outside qa ((k_Desk_wordWithoutA sx sc so sa shs sgs sy sr p1).2.2.1))), (qa, .inl (cA, 256, .inl ((k_Desk_wordWithoutA sx sc so sa shs sgs sy sr p1).2.2.2.1))), (qhs, .inr (0, f_Bank ((k_Desk_wordWithoutA sx sc so sa shs sgs sy sr p1).2.2.2.2.1))), (qgs, .inr (0, f_Bank ((k_Desk_wordWithoutA sx sc so sa shs sgs sy sr p1).2.2.2.2.2.1))), (qy, .inr (2, f_Hyper ((k_Desk_wordWithoutA sx sc so sa shs sgs sy sr p1).2.2.2.2.2.2.1))), (qr, .inr (4, f_Registers ((k_Desk_wordWithoutA sx sc so sa shs sgs sy sr p1).2.2.2.2.2.2.2)))] := by
  refine ct_hI (cc := cc_Desk_wordWithoutA) (maxL := 2) (ret := (some .int)) (by decide) rfl (Nat.le_of_ble_eq_true rfl) ?_
  intro p e s m below meth c A ls hx hb hr hml hts hown hlocks hP hK hD hA hE hS hl
  have hl : lv_has ls 2 [(0, .ref qx), (1, .int p1)] := hl
  have hown : s.vm.findClass R_Desk = some m.cls := hown
  refine lv_iload_n hx hb d_Desk_wordWithoutA_0 rfl (lv_at hl 1 rfl) ?_
  refine ct_cSi (wr := [(qx, .inr (5, f_Desk qc qo qr sx)), (qc, .inr (1, f_Controls qo qhs qgs qy sc)), (qo, .inr (3, f_Outside qa so)), (qa, .inl (cA, 256, .inl sa)), (qhs, .inr (0, f_Bank shs)), (qgs, .inr (0, f_Bank sgs)), (qy, .inr (2, f_Hyper sy)), (qr, .inr (4, f_Registers sr))]) (w1 := []) (w2 := [(qx, .inr (5, f_Desk qc qo qr sx)), (qc, .inr (1, f_Controls qo qhs qgs qy sc)), (qo, .inr (3, f_Outside qa so)), (qa, .inl (cA, 256, .inl sa)), (qhs, .inr (0, f_Bank shs)), (qgs, .inr (0, f_Bank sgs)), (qy, .inr (2, f_Hyper sy)), (qr, .inr (4, f_Registers sr))]) (r := (k_Desk_fieldA p1)) (As := [.int p1]) (rest := []) ⟨hx, hb, hml, hown, hts⟩ (c_Desk_fieldA l G tys p1) (va_cwS 1 hts (gdS gd_gd q_442 q_443 q_41 q_444) rfl rfl rfl (by decide +kernel) ⟨Nat.le_of_ble_eq_true rfl, Nat.le_of_ble_eq_true rfl⟩) hE hK hP hD hS hA [] [0, 1, 2, 3, 4, 5, 6, 7] [0, 1, 2, 3, 4, 5, 6, 7] rfl (by decide) rfl (by decide) (by decide) rfl (by decide) rfl hl.1 rfl (Nat.le_of_ble_eq_true rfl) d_Desk_wordWithoutA_1 ⟨Nat.zero_le _, Nat.zero_le _⟩ (fun H locs hP hD hS => ?_)
  refine lv_if_eq (tgt := 9) hx hb d_Desk_wordWithoutA_4 (by decide) (fun c_441 => ?_) (fun c_441 => ?_)
  · refine lv_iload_n hx hb d_Desk_wordWithoutA_9 rfl (lv_at hl 1 rfl) ?_
    refine lv_bipush (v := 20) hx hb d_Desk_wordWithoutA_10 (by decide) ?_
    refine lv_iushr (v := (ush p1 20)) hx hb d_Desk_wordWithoutA_12 rfl ?_
    by_cases c_442 : (ush p1 20) = 0
    · refine lv_lookup (off := 43) (tgt := 56) hx hb d_Desk_wordWithoutA_13 (by decide) (by rw [c_442]; decide) (by decide) ?_
      refine lv_aload_n hx hb d_Desk_wordWithoutA_56 rfl (lv_at hl 0 rfl) ?_
      obtain ⟨r_443, er_443⟩ : ∃ z, z = (k_Desk_environmentCall sx so sa sr).1 := ⟨_, rfl⟩
      obtain ⟨sx_444, esx_444⟩ : ∃ z, z = (k_Desk_environmentCall sx so sa sr).2.1 := ⟨_, rfl⟩
      obtain ⟨so_445, eso_445⟩ : ∃ z, z = (k_Desk_environmentCall sx so sa sr).2.2.1 := ⟨_, rfl⟩
      obtain ⟨sa_446, esa_446⟩ : ∃ z, z = (k_Desk_environmentCall sx so sa sr).2.2.2.1 := ⟨_, rfl⟩
      obtain ⟨sr_447, esr_447⟩ : ∃ z, z = (k_Desk_environmentCall sx so sa sr).2.2.2.2 := ⟨_, rfl⟩
      have hM := c_Desk_environmentCall l G tys ht qx qo qa qr qc sx so sa sr hp9
      rw [← er_443, ← esx_444, ← eso_445, ← esa_446, ← esr_447] at hM
      refine ct_cVi (wr := [(qc, .inr (1, f_Controls qo qhs qgs qy sc)), (qhs, .inr (0, f_Bank shs)), (qgs, .inr (0, f_Bank sgs)), (qy, .inr (2, f_Hyper sy))]) (w1 := [(qx, .inr (5, f_Desk qc qo qr sx_444)), (qo, .inr (3, f_Outside qa so_445)), (qa, .inl (cA, 256, .inl sa_446)), (qr, .inr (4, f_Registers sr_447))]) (w2 := [(qx, .inr (5, f_Desk qc qo qr sx_444)), (qc, .inr (1, f_Controls qo qhs qgs qy sc)), (qo, .inr (3, f_Outside qa so_445)), (qa, .inl (cA, 256, .inl sa_446)), (qhs, .inr (0, f_Bank shs)), (qgs, .inr (0, f_Bank sgs)), (qy, .inr (2, f_Hyper sy)), (qr, .inr (4, f_Registers sr_447))]) (r := r_443) (As := []) (rest := []) (ci := 5) (q0 := 0) ⟨hx, hb, hml, hown, hts⟩ hM (cwV 0 hts (gdV gd_gd q_445 q_447 q_8 q_41 q_448) rfl rfl rfl (by decide +kernel) ⟨Nat.le_of_ble_eq_true rfl, Nat.le_of_ble_eq_true rfl⟩) hE hK hP hD hS hA [0, 2, 3, 7] [1, 4, 5, 6] [4, 0, 5, 6, 1, 2, 3, 7] rfl (by decide) rfl (by decide) (by decide) rfl (by decide) rfl rfl rfl hl.1 rfl (Nat.le_of_ble_eq_true rfl) d_Desk_wordWithoutA_57 ⟨Nat.zero_le _, Nat.zero_le _⟩ (fun H locs hP hD hS => ?_)
      have hk : k_Desk_wordWithoutA sx sc so sa shs sgs sy sr p1 = (r_443, sx_444, so_445, sa_446, shs, sgs, sy, sr_447) := (by rw [k_Desk_wordWithoutA]; rw [if_pos c_441]; rw [if_pos c_442]; try rw [← er_443]; try rw [← esx_444]; try rw [← eso_445]; try rw [← esa_446]; try rw [← esr_447]; try rfl)
      exact ct_ri hx hb hr hlocks hP hD hK hS d_Desk_wordWithoutA_60 (by rw [hk]; first | done | rfl) (by rw [hk]; first | done | rfl)
    · by_cases c_448 : (ush p1 20) = 1
      · refine lv_lookup (off := 48) (tgt := 61) hx hb d_Desk_wordWithoutA_13 (by decide) (by rw [c_448]; decide) (by decide) ?_
        refine lv_iconst (v := 3) hx hb d_Desk_wordWithoutA_61 (by decide) ?_
        have hk : k_Desk_wordWithoutA sx sc so sa shs sgs sy sr p1 = (3, sx, so, sa, shs, sgs, sy, sr) := (by rw [k_Desk_wordWithoutA]; rw [if_pos c_441]; rw [if_neg c_442]; rw [if_pos c_448]; try rfl)
        exact ct_ri hx hb hr hlocks hP hD hK hS d_Desk_wordWithoutA_62 (by rw [hk]; first | done | rfl) (by rw [hk]; first | done | rfl)
      · by_cases c_449 : (ush p1 20) = 258
        · refine lv_lookup (off := 50) (tgt := 63) hx hb d_Desk_wordWithoutA_13 (by decide) (by rw [c_449]; decide) (by decide) ?_
          refine lv_aload_n hx hb d_Desk_wordWithoutA_63 rfl (lv_at hl 0 rfl) ?_
          obtain ⟨r_450, er_450⟩ : ∃ z, z = (k_Desk_supervisorReturn sx sc shs sgs sy).1 := ⟨_, rfl⟩
          obtain ⟨sx_451, esx_451⟩ : ∃ z, z = (k_Desk_supervisorReturn sx sc shs sgs sy).2.1 := ⟨_, rfl⟩
          obtain ⟨shs_452, eshs_452⟩ : ∃ z, z = (k_Desk_supervisorReturn sx sc shs sgs sy).2.2.1 := ⟨_, rfl⟩
          obtain ⟨sgs_453, esgs_453⟩ : ∃ z, z = (k_Desk_supervisorReturn sx sc shs sgs sy).2.2.2.1 := ⟨_, rfl⟩
          obtain ⟨sy_454, esy_454⟩ : ∃ z, z = (k_Desk_supervisorReturn sx sc shs sgs sy).2.2.2.2 := ⟨_, rfl⟩
          have hM := c_Desk_supervisorReturn l G tys qx qc qhs qgs qy qo qr sx sc shs sgs sy
          rw [← er_450, ← esx_451, ← eshs_452, ← esgs_453, ← esy_454] at hM
          refine ct_cVi (wr := [(qo, .inr (3, f_Outside qa so)), (qa, .inl (cA, 256, .inl sa)), (qr, .inr (4, f_Registers sr))]) (w1 := [(qx, .inr (5, f_Desk qc qo qr sx_451)), (qc, .inr (1, f_Controls qo qhs qgs qy sc)), (qhs, .inr (0, f_Bank shs_452)), (qgs, .inr (0, f_Bank sgs_453)), (qy, .inr (2, f_Hyper sy_454))]) (w2 := [(qx, .inr (5, f_Desk qc qo qr sx_451)), (qc, .inr (1, f_Controls qo qhs qgs qy sc)), (qo, .inr (3, f_Outside qa so)), (qa, .inl (cA, 256, .inl sa)), (qhs, .inr (0, f_Bank shs_452)), (qgs, .inr (0, f_Bank sgs_453)), (qy, .inr (2, f_Hyper sy_454)), (qr, .inr (4, f_Registers sr))]) (r := r_450) (As := []) (rest := []) (ci := 5) (q0 := 0) ⟨hx, hb, hml, hown, hts⟩ hM (cwV 0 hts (gdV gd_gd q_462 q_464 q_9 q_41 q_465) rfl rfl rfl (by decide +kernel) ⟨Nat.le_of_ble_eq_true rfl, Nat.le_of_ble_eq_true rfl⟩) hE hK hP hD hS hA [0, 1, 4, 5, 6] [2, 3, 7] [3, 4, 0, 1, 5, 6, 7, 2] rfl (by decide) rfl (by decide) (by decide) rfl (by decide) rfl rfl rfl hl.1 rfl (Nat.le_of_ble_eq_true rfl) d_Desk_wordWithoutA_64 ⟨Nat.zero_le _, Nat.zero_le _⟩ (fun H locs hP hD hS => ?_)
          have hk : k_Desk_wordWithoutA sx sc so sa shs sgs sy sr p1 = (r_450, sx_451, so, sa, shs_452, sgs_453, sy_454, sr) := (by rw [k_Desk_wordWithoutA]; rw [if_pos c_441]; rw [if_neg c_442]; rw [if_neg c_448]; rw [if_pos c_449]; try rw [← er_450]; try rw [← esx_451]; try rw [← eshs_452]; try rw [← esgs_453]; try rw [← esy_454]; try rfl)
          exact ct_ri hx hb hr hlocks hP hD hK hS d_Desk_wordWithoutA_67 (by rw [hk]; first | done | rfl) (by rw [hk]; first | done | rfl)
        · by_cases c_455 : (ush p1 20) = 261
          · refine lv_lookup (off := 55) (tgt := 68) hx hb d_Desk_wordWithoutA_13 (by decide) (by rw [c_455]; decide) (by decide) ?_
            refine lv_aload_n hx hb d_Desk_wordWithoutA_68 rfl (lv_at hl 0 rfl) ?_
            refine lv_ldc (v := 2097152) hx hb hown (hts _ (gd_sub _ q_476)) d_Desk_wordWithoutA_69 ?_
            obtain ⟨r_456, er_456⟩ : ∃ z, z = (k_Desk_nothingUnless sx sc sy 2097152).1 := ⟨_, rfl⟩
            obtain ⟨sx_457, esx_457⟩ : ∃ z, z = (k_Desk_nothingUnless sx sc sy 2097152).2 := ⟨_, rfl⟩
            have hM := c_Desk_nothingUnless l G tys qx qc qy qo qr qhs qgs sx sc sy 2097152
            rw [← er_456, ← esx_457] at hM
            refine ct_cVi (wr := [(qo, .inr (3, f_Outside qa so)), (qa, .inl (cA, 256, .inl sa)), (qhs, .inr (0, f_Bank shs)), (qgs, .inr (0, f_Bank sgs)), (qr, .inr (4, f_Registers sr))]) (w1 := [(qx, .inr (5, f_Desk qc qo qr sx_457)), (qc, .inr (1, f_Controls qo qhs qgs qy sc)), (qy, .inr (2, f_Hyper sy))]) (w2 := [(qx, .inr (5, f_Desk qc qo qr sx_457)), (qc, .inr (1, f_Controls qo qhs qgs qy sc)), (qo, .inr (3, f_Outside qa so)), (qa, .inl (cA, 256, .inl sa)), (qhs, .inr (0, f_Bank shs)), (qgs, .inr (0, f_Bank sgs)), (qy, .inr (2, f_Hyper sy)), (qr, .inr (4, f_Registers sr))]) (r := r_456) (As := [.int 2097152]) (rest := []) (ci := 5) (q0 := 0) ⟨hx, hb, hml, hown, hts⟩ hM (cwV 1 hts (gdV gd_gd q_414 q_416 q_2 q_41 q_417) rfl rfl rfl (by decide +kernel) ⟨Nat.le_of_ble_eq_true rfl, Nat.le_of_ble_eq_true rfl⟩) hE hK hP hD hS hA [0, 1, 6] [2, 3, 4, 5, 7] [5, 6, 0, 1, 2, 3, 7, 4] rfl (by decide) rfl (by decide) (by decide) rfl (by decide) rfl rfl rfl hl.1 rfl (Nat.le_of_ble_eq_true rfl) d_Desk_wordWithoutA_71 ⟨Nat.zero_le _, Nat.zero_le _⟩ (fun H locs hP hD hS => ?_)
            have hk : k_Desk_wordWithoutA sx sc so sa shs sgs sy sr p1 = (r_456, sx_457, so, sa, shs, sgs, sy, sr) := (by rw [k_Desk_wordWithoutA]; rw [if_pos c_441]; rw [if_neg c_442]; rw [if_neg c_448]; rw [if_neg c_449]; rw [if_pos c_455]; try rw [← er_456]; try rw [← esx_457]; try rfl)
            exact ct_ri hx hb hr hlocks hP hD hK hS d_Desk_wordWithoutA_74 (by rw [hk]; first | done | rfl) (by rw [hk]; first | done | rfl)
          · refine lv_lookup (off := 62) (tgt := 75) hx hb d_Desk_wordWithoutA_13 (by decide) ((lv_osw c_442 (by decide)).trans ((lv_osw c_448 (by decide)).trans ((lv_osw c_449 (by decide)).trans ((lv_osw c_455 (by decide)).trans rfl)))) (by decide) ?_
            refine lv_iconst (v := 2) hx hb d_Desk_wordWithoutA_75 (by decide) ?_
            have hk : k_Desk_wordWithoutA sx sc so sa shs sgs sy sr p1 = (2, sx, so, sa, shs, sgs, sy, sr) := (by rw [k_Desk_wordWithoutA]; rw [if_pos c_441]; rw [if_neg c_442]; rw [if_neg c_448]; rw [if_neg c_449]; rw [if_neg c_455]; try rfl)
            exact ct_ri hx hb hr hlocks hP hD hK hS d_Desk_wordWithoutA_76 (by rw [hk]; first | done | rfl) (by rw [hk]; first | done | rfl)
  · refine lv_iconst (v := 2) hx hb d_Desk_wordWithoutA_7 (by decide) ?_
    have hk : k_Desk_wordWithoutA sx sc so sa shs sgs sy sr p1 = (2, sx, so, sa, shs, sgs, sy, sr) := (by rw [k_Desk_wordWithoutA]; rw [if_neg c_441]; try rfl)
    exact ct_ri hx hb hr hlocks hP hD hK hS d_Desk_wordWithoutA_8 (by rw [hk]; first | done | rfl) (by rw [hk]; first | done | rfl)
def k_Desk_systemWord (sx : ob) (sc : ob) (so : ob) (sa : Nat → Int32) (shs : ob) (sgs : ob) (sy : ob) (sr : ob) (p1 : Int32) : Int32 × ob × ob × (Nat → Int32) × ob × ob × ob × ob :=
  if (k_Desk_fieldD p1) = 0 then (if (k_Desk_fieldG p1) = 9 then (((k_Desk_nothingUnless sx sc sy 1048576).1), ((k_Desk_nothingUnless sx sc sy 1048576).2), so, sa, shs, sgs, sy, sr) else if (k_Desk_fieldG p1) = 17 then (((k_Desk_hypervisorFence sx).1), ((k_Desk_hypervisorFence sx).2), so, sa, shs, sgs, sy, sr) else if (k_Desk_fieldG p1) = 49 then (((k_Desk_hypervisorFence sx).1), ((k_Desk_hypervisorFence sx).2), so, sa, shs, sgs, sy, sr) else (((k_Desk_wordWithoutA sx sc so sa shs sgs sy sr p1).1), ((k_Desk_wordWithoutA sx sc so sa shs sgs sy sr p1).2.1), ((k_Desk_wordWithoutA sx sc so sa shs sgs sy sr p1).2.2.1), ((k_Desk_wordWithoutA sx sc so sa shs sgs sy sr p1).2.2.2.1), ((k_Desk_wordWithoutA sx sc so sa shs sgs sy sr p1).2.2.2.2.1), ((k_Desk_wordWithoutA sx sc so sa shs sgs sy sr p1).2.2.2.2.2.1), ((k_Desk_wordWithoutA sx sc so sa shs sgs sy sr p1).2.2.2.2.2.2.1), ((k_Desk_wordWithoutA sx sc so sa shs sgs sy sr p1).2.2.2.2.2.2.2))) else (2, sx, so, sa, shs, sgs, sy, sr)
set_option maxHeartbeats 4000000 in
set_option maxRecDepth 100000 in
theorem c_Desk_systemWord (l : Launch) (G : gx) (tys : List (ClassId × FieldType)) {cA : ClassId} (ht : tys[0]? = some (cA, .byte)) (qx qc qo qa qhs qgs qy qr : Nat) (sx : ob) (sc : ob) (so : ob) (sa : Nat → Int32) (shs : ob) (sgs : ob) (sy : ob) (sr : ob) (p1 : Int32) (hp9 : ¬ so.1 1 < 0) : ct_I l y_Desk_systemWord ws_Desk_systemWord ({ frames := 4, cells := 0, slots := 0, locals := 87 }) G tys [.ref qx, .int p1] [(qx, .inr (5, f_Desk qc qo qr sx)), (qc, .inr (1, f_Controls qo qhs qgs qy sc)), (qo, .inr (3, f_Outside qa so)), (qa, .inl (cA, 256, .inl sa)), (qhs, .inr (0, f_Bank shs)), (qgs, .inr (0, f_Bank sgs)), (qy, .inr (2, f_Hyper sy)), (qr, .inr (4, f_Registers sr))] ((k_Desk_systemWord sx sc so sa shs sgs sy sr p1).1) [(qx, .inr (5, f_Desk qc qo qr ((k_Desk_systemWord sx sc so sa shs sgs sy sr p1).2.1))), (qc, .inr (1, f_Controls qo qhs qgs qy sc)), (qo, .inr (3, f_Outside qa ((k_Desk_systemWord sx sc so sa shs sgs sy sr p1).2.2.1))), (qa, .inl (cA, 256, .inl ((k_Desk_systemWord sx sc so sa shs sgs sy sr p1).2.2.2.1))), (qhs, .inr (0, f_Bank ((k_Desk_systemWord sx sc so sa shs sgs sy sr p1).2.2.2.2.1))), (qgs, .inr (0, f_Bank ((k_Desk_systemWord sx sc so sa shs sgs sy sr p1).2.2.2.2.2.1))), (qy, .inr (2, f_Hyper ((k_Desk_systemWord sx sc so sa shs sgs sy sr p1).2.2.2.2.2.2.1))), (qr, .inr (4, f_Registers ((k_Desk_systemWord sx sc so sa shs sgs sy sr p1).2.2.2.2.2.2.2)))] := by
  refine ct_hI (cc := cc_Desk_systemWord) (maxL := 2) (ret := (some .int)) (by decide) rfl (Nat.le_of_ble_eq_true rfl) ?_
  intro p e s m below meth c A ls hx hb hr hml hts hown hlocks hP hK hD hA hE hS hl
  have hl : lv_has ls 2 [(0, .ref qx), (1, .int p1)] := hl
  have hown : s.vm.findClass R_Desk = some m.cls := hown
  refine lv_iload_n hx hb d_Desk_systemWord_0 rfl (lv_at hl 1 rfl) ?_
  refine ct_cSi (wr := [(qx, .inr (5, f_Desk qc qo qr sx)), (qc, .inr (1, f_Controls qo qhs qgs qy sc)), (qo, .inr (3, f_Outside qa so)), (qa, .inl (cA, 256, .inl sa)), (qhs, .inr (0, f_Bank shs)), (qgs, .inr (0, f_Bank sgs)), (qy, .inr (2, f_Hyper sy)), (qr, .inr (4, f_Registers sr))]) (w1 := []) (w2 := [(qx, .inr (5, f_Desk qc qo qr sx)), (qc, .inr (1, f_Controls qo qhs qgs qy sc)), (qo, .inr (3, f_Outside qa so)), (qa, .inl (cA, 256, .inl sa)), (qhs, .inr (0, f_Bank shs)), (qgs, .inr (0, f_Bank sgs)), (qy, .inr (2, f_Hyper sy)), (qr, .inr (4, f_Registers sr))]) (r := (k_Desk_fieldD p1)) (As := [.int p1]) (rest := []) ⟨hx, hb, hml, hown, hts⟩ (c_Desk_fieldD l G tys p1) (va_cwS 1 hts (gdS gd_gd q_407 q_408 q_41 q_409) rfl rfl rfl (by decide +kernel) ⟨Nat.le_of_ble_eq_true rfl, Nat.le_of_ble_eq_true rfl⟩) hE hK hP hD hS hA [] [0, 1, 2, 3, 4, 5, 6, 7] [0, 1, 2, 3, 4, 5, 6, 7] rfl (by decide) rfl (by decide) (by decide) rfl (by decide) rfl hl.1 rfl (Nat.le_of_ble_eq_true rfl) d_Desk_systemWord_1 ⟨Nat.zero_le _, Nat.zero_le _⟩ (fun H locs hP hD hS => ?_)
  refine lv_if_eq (tgt := 9) hx hb d_Desk_systemWord_4 (by decide) (fun c_466 => ?_) (fun c_466 => ?_)
  · refine lv_iload_n hx hb d_Desk_systemWord_9 rfl (lv_at hl 1 rfl) ?_
    refine ct_cSi (wr := [(qx, .inr (5, f_Desk qc qo qr sx)), (qc, .inr (1, f_Controls qo qhs qgs qy sc)), (qo, .inr (3, f_Outside qa so)), (qa, .inl (cA, 256, .inl sa)), (qhs, .inr (0, f_Bank shs)), (qgs, .inr (0, f_Bank sgs)), (qy, .inr (2, f_Hyper sy)), (qr, .inr (4, f_Registers sr))]) (w1 := []) (w2 := [(qx, .inr (5, f_Desk qc qo qr sx)), (qc, .inr (1, f_Controls qo qhs qgs qy sc)), (qo, .inr (3, f_Outside qa so)), (qa, .inl (cA, 256, .inl sa)), (qhs, .inr (0, f_Bank shs)), (qgs, .inr (0, f_Bank sgs)), (qy, .inr (2, f_Hyper sy)), (qr, .inr (4, f_Registers sr))]) (r := (k_Desk_fieldG p1)) (As := [.int p1]) (rest := []) ⟨hx, hb, hml, hown, hts⟩ (c_Desk_fieldG l G tys p1) (va_cwS 1 hts (gdS gd_gd q_410 q_411 q_41 q_412) rfl rfl rfl (by decide +kernel) ⟨Nat.le_of_ble_eq_true rfl, Nat.le_of_ble_eq_true rfl⟩) hE hK hP hD hS hA [] [0, 1, 2, 3, 4, 5, 6, 7] [0, 1, 2, 3, 4, 5, 6, 7] rfl (by decide) rfl (by decide) (by decide) rfl (by decide) rfl hl.1 rfl (Nat.le_of_ble_eq_true rfl) d_Desk_systemWord_10 ⟨Nat.zero_le _, Nat.zero_le _⟩ (fun H locs hP hD hS => ?_)
    by_cases c_467 : (k_Desk_fieldG p1) = 9
    · refine lv_lookup (off := 35) (tgt := 48) hx hb d_Desk_systemWord_13 (by decide) (by rw [c_467]; decide) (by decide) ?_
      refine lv_aload_n hx hb d_Desk_systemWord_48 rfl (lv_at hl 0 rfl) ?_
      refine lv_ldc (v := 1048576) hx hb hown (hts _ (gd_sub _ q_413)) d_Desk_systemWord_49 ?_
      obtain ⟨r_468, er_468⟩ : ∃ z, z = (k_Desk_nothingUnless sx sc sy 1048576).1 := ⟨_, rfl⟩
      obtain ⟨sx_469, esx_469⟩ : ∃ z, z = (k_Desk_nothingUnless sx sc sy 1048576).2 := ⟨_, rfl⟩
      have hM := c_Desk_nothingUnless l G tys qx qc qy qo qr qhs qgs sx sc sy 1048576
      rw [← er_468, ← esx_469] at hM
      refine ct_cVi (wr := [(qo, .inr (3, f_Outside qa so)), (qa, .inl (cA, 256, .inl sa)), (qhs, .inr (0, f_Bank shs)), (qgs, .inr (0, f_Bank sgs)), (qr, .inr (4, f_Registers sr))]) (w1 := [(qx, .inr (5, f_Desk qc qo qr sx_469)), (qc, .inr (1, f_Controls qo qhs qgs qy sc)), (qy, .inr (2, f_Hyper sy))]) (w2 := [(qx, .inr (5, f_Desk qc qo qr sx_469)), (qc, .inr (1, f_Controls qo qhs qgs qy sc)), (qo, .inr (3, f_Outside qa so)), (qa, .inl (cA, 256, .inl sa)), (qhs, .inr (0, f_Bank shs)), (qgs, .inr (0, f_Bank sgs)), (qy, .inr (2, f_Hyper sy)), (qr, .inr (4, f_Registers sr))]) (r := r_468) (As := [.int 1048576]) (rest := []) (ci := 5) (q0 := 0) ⟨hx, hb, hml, hown, hts⟩ hM (cwV 1 hts (gdV gd_gd q_414 q_416 q_2 q_41 q_417) rfl rfl rfl (by decide +kernel) ⟨Nat.le_of_ble_eq_true rfl, Nat.le_of_ble_eq_true rfl⟩) hE hK hP hD hS hA [0, 1, 6] [2, 3, 4, 5, 7] [5, 6, 0, 1, 2, 3, 7, 4] rfl (by decide) rfl (by decide) (by decide) rfl (by decide) rfl rfl rfl hl.1 rfl (Nat.le_of_ble_eq_true rfl) d_Desk_systemWord_51 ⟨Nat.zero_le _, Nat.zero_le _⟩ (fun H locs hP hD hS => ?_)
      have hk : k_Desk_systemWord sx sc so sa shs sgs sy sr p1 = (r_468, sx_469, so, sa, shs, sgs, sy, sr) := (by rw [k_Desk_systemWord]; rw [if_pos c_466]; rw [if_pos c_467]; try rw [← er_468]; try rw [← esx_469]; try rfl)
      exact ct_ri hx hb hr hlocks hP hD hK hS d_Desk_systemWord_54 (by rw [hk]; first | done | rfl) (by rw [hk]; first | done | rfl)
    · by_cases c_470 : (k_Desk_fieldG p1) = 17
      · refine lv_lookup (off := 42) (tgt := 55) hx hb d_Desk_systemWord_13 (by decide) (by rw [c_470]; decide) (by decide) ?_
        refine lv_aload_n hx hb d_Desk_systemWord_55 rfl (lv_at hl 0 rfl) ?_
        obtain ⟨r_471, er_471⟩ : ∃ z, z = (k_Desk_hypervisorFence sx).1 := ⟨_, rfl⟩
        obtain ⟨sx_472, esx_472⟩ : ∃ z, z = (k_Desk_hypervisorFence sx).2 := ⟨_, rfl⟩
        have hM := c_Desk_hypervisorFence l G tys qx qc qo qr sx
        rw [← er_471, ← esx_472] at hM
        refine ct_cVi (wr := [(qc, .inr (1, f_Controls qo qhs qgs qy sc)), (qo, .inr (3, f_Outside qa so)), (qa, .inl (cA, 256, .inl sa)), (qhs, .inr (0, f_Bank shs)), (qgs, .inr (0, f_Bank sgs)), (qy, .inr (2, f_Hyper sy)), (qr, .inr (4, f_Registers sr))]) (w1 := [(qx, .inr (5, f_Desk qc qo qr sx_472))]) (w2 := [(qx, .inr (5, f_Desk qc qo qr sx_472)), (qc, .inr (1, f_Controls qo qhs qgs qy sc)), (qo, .inr (3, f_Outside qa so)), (qa, .inl (cA, 256, .inl sa)), (qhs, .inr (0, f_Bank shs)), (qgs, .inr (0, f_Bank sgs)), (qy, .inr (2, f_Hyper sy)), (qr, .inr (4, f_Registers sr))]) (r := r_471) (As := []) (rest := []) (ci := 5) (q0 := 0) ⟨hx, hb, hml, hown, hts⟩ hM (cwV 0 hts (gdV gd_gd q_430 q_432 q_5 q_41 q_433) rfl rfl rfl (by decide +kernel) ⟨Nat.le_of_ble_eq_true rfl, Nat.le_of_ble_eq_true rfl⟩) hE hK hP hD hS hA [0] [1, 2, 3, 4, 5, 6, 7] [7, 0, 1, 2, 3, 4, 5, 6] rfl (by decide) rfl (by decide) (by decide) rfl (by decide) rfl rfl rfl hl.1 rfl (Nat.le_of_ble_eq_true rfl) d_Desk_systemWord_56 ⟨Nat.zero_le _, Nat.zero_le _⟩ (fun H locs hP hD hS => ?_)
        have hk : k_Desk_systemWord sx sc so sa shs sgs sy sr p1 = (r_471, sx_472, so, sa, shs, sgs, sy, sr) := (by rw [k_Desk_systemWord]; rw [if_pos c_466]; rw [if_neg c_467]; rw [if_pos c_470]; try rw [← er_471]; try rw [← esx_472]; try rfl)
        exact ct_ri hx hb hr hlocks hP hD hK hS d_Desk_systemWord_59 (by rw [hk]; first | done | rfl) (by rw [hk]; first | done | rfl)
      · by_cases c_473 : (k_Desk_fieldG p1) = 49
        · refine lv_lookup (off := 42) (tgt := 55) hx hb d_Desk_systemWord_13 (by decide) (by rw [c_473]; decide) (by decide) ?_
          refine lv_aload_n hx hb d_Desk_systemWord_55 rfl (lv_at hl 0 rfl) ?_
          obtain ⟨r_474, er_474⟩ : ∃ z, z = (k_Desk_hypervisorFence sx).1 := ⟨_, rfl⟩
          obtain ⟨sx_475, esx_475⟩ : ∃ z, z = (k_Desk_hypervisorFence sx).2 := ⟨_, rfl⟩
          have hM := c_Desk_hypervisorFence l G tys qx qc qo qr sx
          rw [← er_474, ← esx_475] at hM
          refine ct_cVi (wr := [(qc, .inr (1, f_Controls qo qhs qgs qy sc)), (qo, .inr (3, f_Outside qa so)), (qa, .inl (cA, 256, .inl sa)), (qhs, .inr (0, f_Bank shs)), (qgs, .inr (0, f_Bank sgs)), (qy, .inr (2, f_Hyper sy)), (qr, .inr (4, f_Registers sr))]) (w1 := [(qx, .inr (5, f_Desk qc qo qr sx_475))]) (w2 := [(qx, .inr (5, f_Desk qc qo qr sx_475)), (qc, .inr (1, f_Controls qo qhs qgs qy sc)), (qo, .inr (3, f_Outside qa so)), (qa, .inl (cA, 256, .inl sa)), (qhs, .inr (0, f_Bank shs)), (qgs, .inr (0, f_Bank sgs)), (qy, .inr (2, f_Hyper sy)), (qr, .inr (4, f_Registers sr))]) (r := r_474) (As := []) (rest := []) (ci := 5) (q0 := 0) ⟨hx, hb, hml, hown, hts⟩ hM (cwV 0 hts (gdV gd_gd q_430 q_432 q_5 q_41 q_433) rfl rfl rfl (by decide +kernel) ⟨Nat.le_of_ble_eq_true rfl, Nat.le_of_ble_eq_true rfl⟩) hE hK hP hD hS hA [0] [1, 2, 3, 4, 5, 6, 7] [7, 0, 1, 2, 3, 4, 5, 6] rfl (by decide) rfl (by decide) (by decide) rfl (by decide) rfl rfl rfl hl.1 rfl (Nat.le_of_ble_eq_true rfl) d_Desk_systemWord_56 ⟨Nat.zero_le _, Nat.zero_le _⟩ (fun H locs hP hD hS => ?_)
          have hk : k_Desk_systemWord sx sc so sa shs sgs sy sr p1 = (r_474, sx_475, so, sa, shs, sgs, sy, sr) := (by rw [k_Desk_systemWord]; rw [if_pos c_466]; rw [if_neg c_467]; rw [if_neg c_470]; rw [if_pos c_473]; try rw [← er_474]; try rw [← esx_475]; try rfl)
          exact ct_ri hx hb hr hlocks hP hD hK hS d_Desk_systemWord_59 (by rw [hk]; first | done | rfl) (by rw [hk]; first | done | rfl)
        · refine lv_lookup (off := 47) (tgt := 60) hx hb d_Desk_systemWord_13 (by decide) ((lv_osw c_467 (by decide)).trans ((lv_osw c_470 (by decide)).trans ((lv_osw c_473 (by decide)).trans rfl))) (by decide) ?_
          refine lv_aload_n hx hb d_Desk_systemWord_60 rfl (lv_at hl 0 rfl) ?_
          refine lv_iload_n hx hb d_Desk_systemWord_61 rfl (lv_at hl 1 rfl) ?_
          obtain ⟨r_476, er_476⟩ : ∃ z, z = (k_Desk_wordWithoutA sx sc so sa shs sgs sy sr p1).1 := ⟨_, rfl⟩
          obtain ⟨sx_477, esx_477⟩ : ∃ z, z = (k_Desk_wordWithoutA sx sc so sa shs sgs sy sr p1).2.1 := ⟨_, rfl⟩
          obtain ⟨so_478, eso_478⟩ : ∃ z, z = (k_Desk_wordWithoutA sx sc so sa shs sgs sy sr p1).2.2.1 := ⟨_, rfl⟩
          obtain ⟨sa_479, esa_479⟩ : ∃ z, z = (k_Desk_wordWithoutA sx sc so sa shs sgs sy sr p1).2.2.2.1 := ⟨_, rfl⟩
          obtain ⟨shs_480, eshs_480⟩ : ∃ z, z = (k_Desk_wordWithoutA sx sc so sa shs sgs sy sr p1).2.2.2.2.1 := ⟨_, rfl⟩
          obtain ⟨sgs_481, esgs_481⟩ : ∃ z, z = (k_Desk_wordWithoutA sx sc so sa shs sgs sy sr p1).2.2.2.2.2.1 := ⟨_, rfl⟩
          obtain ⟨sy_482, esy_482⟩ : ∃ z, z = (k_Desk_wordWithoutA sx sc so sa shs sgs sy sr p1).2.2.2.2.2.2.1 := ⟨_, rfl⟩
          obtain ⟨sr_483, esr_483⟩ : ∃ z, z = (k_Desk_wordWithoutA sx sc so sa shs sgs sy sr p1).2.2.2.2.2.2.2 := ⟨_, rfl⟩
          have hM := c_Desk_wordWithoutA l G tys ht qx qc qo qa qhs qgs qy qr sx sc so sa shs sgs sy sr p1 hp9
          rw [← er_476, ← esx_477, ← eso_478, ← esa_479, ← eshs_480, ← esgs_481, ← esy_482, ← esr_483] at hM
          refine ct_cVi (wr := []) (w1 := [(qx, .inr (5, f_Desk qc qo qr sx_477)), (qc, .inr (1, f_Controls qo qhs qgs qy sc)), (qo, .inr (3, f_Outside qa so_478)), (qa, .inl (cA, 256, .inl sa_479)), (qhs, .inr (0, f_Bank shs_480)), (qgs, .inr (0, f_Bank sgs_481)), (qy, .inr (2, f_Hyper sy_482)), (qr, .inr (4, f_Registers sr_483))]) (w2 := [(qx, .inr (5, f_Desk qc qo qr sx_477)), (qc, .inr (1, f_Controls qo qhs qgs qy sc)), (qo, .inr (3, f_Outside qa so_478)), (qa, .inl (cA, 256, .inl sa_479)), (qhs, .inr (0, f_Bank shs_480)), (qgs, .inr (0, f_Bank sgs_481)), (qy, .inr (2, f_Hyper sy_482)), (qr, .inr (4, f_Registers sr_483))]) (r := r_476) (As := [.int p1]) (rest := []) (ci := 5) (q0 := 0) ⟨hx, hb, hml, hown, hts⟩ hM (cwV 1 hts (gdV gd_gd q_438 q_440 q_7 q_41 q_441) rfl rfl rfl (by decide +kernel) ⟨Nat.le_of_ble_eq_true rfl, Nat.le_of_ble_eq_true rfl⟩) hE hK hP hD hS hA [0, 1, 2, 3, 4, 5, 6, 7] [] [0, 1, 2, 3, 4, 5, 6, 7] rfl (by decide) rfl (by decide) (by decide) rfl (by decide) rfl rfl rfl hl.1 rfl (Nat.le_of_ble_eq_true rfl) d_Desk_systemWord_62 ⟨Nat.zero_le _, Nat.zero_le _⟩ (fun H locs hP hD hS => ?_)
          have hk : k_Desk_systemWord sx sc so sa shs sgs sy sr p1 = (r_476, sx_477, so_478, sa_479, shs_480, sgs_481, sy_482, sr_483) := (by rw [k_Desk_systemWord]; rw [if_pos c_466]; rw [if_neg c_467]; rw [if_neg c_470]; rw [if_neg c_473]; try rw [← er_476]; try rw [← esx_477]; try rw [← eso_478]; try rw [← esa_479]; try rw [← eshs_480]; try rw [← esgs_481]; try rw [← esy_482]; try rw [← esr_483]; try rfl)
          exact ct_ri hx hb hr hlocks hP hD hK hS d_Desk_systemWord_65 (by rw [hk]; first | done | rfl) (by rw [hk]; first | done | rfl)
  · refine lv_iconst (v := 2) hx hb d_Desk_systemWord_7 (by decide) ?_
    have hk : k_Desk_systemWord sx sc so sa shs sgs sy sr p1 = (2, sx, so, sa, shs, sgs, sy, sr) := (by rw [k_Desk_systemWord]; rw [if_neg c_466]; try rfl)
    exact ct_ri hx hb hr hlocks hP hD hK hS d_Desk_systemWord_8 (by rw [hk]; first | done | rfl) (by rw [hk]; first | done | rfl)
