def k_Desk_interrupt (sx : ob) (sc : ob) (so : ob) (shs : ob) (sgs : ob) (sy : ob) : Int32 × ob × ob × ob × ob :=
  if (bI (so.2.2 5)) = 0 then (if (k_Desk_dueForS sx sc so shs sy) = (-1) then (if (k_Desk_dueForVs sx sc sgs sy) = (-1) then ((-1), sx, shs, sgs, sy) else ((100 + (k_Desk_dueForVs sx sc sgs sy)), ((k_Desk_enterVs (oi sx 7 ((sx.1 7) + 1)) sc sgs ((-2147483648) ||| (k_Desk_dueForVs sx sc sgs sy)) 0).1), shs, ((k_Desk_enterVs (oi sx 7 ((sx.1 7) + 1)) sc sgs ((-2147483648) ||| (k_Desk_dueForVs sx sc sgs sy)) 0).2), sy)) else ((k_Desk_dueForS sx sc so shs sy), ((k_Desk_enterS (oi sx 7 ((sx.1 7) + 1)) sc shs sy ((-2147483648) ||| (k_Desk_dueForS sx sc so shs sy)) 0 false 0 0).1), ((k_Desk_enterS (oi sx 7 ((sx.1 7) + 1)) sc shs sy ((-2147483648) ||| (k_Desk_dueForS sx sc so shs sy)) 0 false 0 0).2.1), sgs, ((k_Desk_enterS (oi sx 7 ((sx.1 7) + 1)) sc shs sy ((-2147483648) ||| (k_Desk_dueForS sx sc so shs sy)) 0 false 0 0).2.2))) else ((-3), sx, shs, sgs, sy)
set_option maxHeartbeats 4000000 in
set_option maxRecDepth 100000 in
theorem c_Desk_interrupt (l : Launch) (G : gx) (tys : List (ClassId × FieldType)) (qx qc qo qhs qgs qy qr qa : Nat) (sx : ob) (sc : ob) (so : ob) (shs : ob) (sgs : ob) (sy : ob) : ct_I l y_Desk_interrupt ws_Desk_interrupt ({ frames := 4, cells := 0, slots := 0, locals := 82 }) G tys [.ref qx] [(qx, .inr (5, f_Desk qc qo qr sx)), (qc, .inr (1, f_Controls qo qhs qgs qy sc)), (qo, .inr (3, f_Outside qa so)), (qhs, .inr (0, f_Bank shs)), (qgs, .inr (0, f_Bank sgs)), (qy, .inr (2, f_Hyper sy))] ((k_Desk_interrupt sx sc so shs sgs sy).1) [(qx, .inr (5, f_Desk qc qo qr ((k_Desk_interrupt sx sc so shs sgs sy).2.1))), (qc, .inr (1, f_Controls qo qhs qgs qy sc)), (qo, .inr (3, f_Outside qa so)), (qhs, .inr (0, f_Bank ((k_Desk_interrupt sx sc so shs sgs sy).2.2.1))), (qgs, .inr (0, f_Bank ((k_Desk_interrupt sx sc so shs sgs sy).2.2.2.1))), (qy, .inr (2, f_Hyper ((k_Desk_interrupt sx sc so shs sgs sy).2.2.2.2)))] := by
  refine ct_hI (cc := cc_Desk_interrupt) (maxL := 3) (ret := (some .int)) (by decide) rfl (Nat.le_of_ble_eq_true rfl) ?_
  intro p e s m below meth c A ls hx hb hr hml hts hown hlocks hP hK hD hA hE hS hl
  have hl : lv_has ls 3 [(0, .ref qx)] := hl
  have hown : s.vm.findClass R_Desk = some m.cls := hown
  refine lv_aload_n hx hb d_Desk_interrupt_0 rfl (lv_at hl 0 rfl) ?_
  refine va_get (D := G.1) (ci := 5) (v := .ref qo) (C := R_Desk) (T := T_Desk) (N := 8) hx hb hts (fun w h => gd_sub _ (iw_Desk w h)) hown hK hP 0 rfl rfl 1 (by decide) (hts _ (gd_sub _ q_206)) (fun _ h9 => h9) rfl d_Desk_interrupt_1 ?_
  refine va_get (D := G.1) (ci := 3) (v := .int (bI (so.2.2 5))) (C := R_Outside) (T := T_Outside) (N := 6) hx hb hts (fun w h => gd_sub _ (iw_Outside w h)) hown hK hP 2 rfl rfl 5 (by decide) (hts _ (gd_sub _ q_82)) (fun _ h9 => h9) rfl d_Desk_interrupt_4 ?_
  refine lv_if_eq (tgt := 13) hx hb d_Desk_interrupt_7 (by decide) (fun c_693 => ?_) (fun c_693 => ?_)
  · refine lv_aload_n hx hb d_Desk_interrupt_13 rfl (lv_at hl 0 rfl) ?_
    refine ct_cVi (wr := [(qgs, .inr (0, f_Bank sgs))]) (w1 := [(qx, .inr (5, f_Desk qc qo qr sx)), (qc, .inr (1, f_Controls qo qhs qgs qy sc)), (qo, .inr (3, f_Outside qa so)), (qhs, .inr (0, f_Bank shs)), (qy, .inr (2, f_Hyper sy))]) (w2 := [(qx, .inr (5, f_Desk qc qo qr sx)), (qc, .inr (1, f_Controls qo qhs qgs qy sc)), (qo, .inr (3, f_Outside qa so)), (qhs, .inr (0, f_Bank shs)), (qgs, .inr (0, f_Bank sgs)), (qy, .inr (2, f_Hyper sy))]) (r := (k_Desk_dueForS sx sc so shs sy)) (As := []) (rest := []) (ci := 5) (q0 := 0) ⟨hx, hb, hml, hown, hts⟩ (c_Desk_dueForS l G tys qx qc qo qhs qy qr qgs qa sx sc so shs sy) (cwV 0 hts (gdV gd_gd q_559 q_561 q_19 q_41 q_562) rfl rfl rfl (by decide +kernel) ⟨Nat.le_of_ble_eq_true rfl, Nat.le_of_ble_eq_true rfl⟩) hE hK hP hD hS hA [0, 1, 2, 3, 5] [4] [1, 2, 3, 4, 0, 5] rfl (by decide) rfl (by decide) (by decide) rfl (by decide) rfl rfl rfl hl.1 rfl (Nat.le_of_ble_eq_true rfl) d_Desk_interrupt_14 ⟨Nat.zero_le _, Nat.zero_le _⟩ (fun H locs hP hD hS => ?_)
    refine lv_istore_n (lv' := [(1, .int (k_Desk_dueForS sx sc so shs sy)), (0, .ref qx)]) hx hb d_Desk_interrupt_17 rfl hl (by decide) rfl (fun ls hl => ?_)
    refine lv_iload_n hx hb d_Desk_interrupt_18 rfl (lv_at hl 0 rfl) ?_
    refine lv_iconst (v := (-1)) hx hb d_Desk_interrupt_19 (by decide) ?_
    refine lv_icmp_eq (tgt := 47) hx hb d_Desk_interrupt_20 (by decide) (fun c_694 => ?_) (fun c_694 => ?_)
    · refine lv_aload_n hx hb d_Desk_interrupt_47 rfl (lv_at hl 1 rfl) ?_
      refine ct_cVi (wr := [(qo, .inr (3, f_Outside qa so)), (qhs, .inr (0, f_Bank shs))]) (w1 := [(qx, .inr (5, f_Desk qc qo qr sx)), (qc, .inr (1, f_Controls qo qhs qgs qy sc)), (qgs, .inr (0, f_Bank sgs)), (qy, .inr (2, f_Hyper sy))]) (w2 := [(qx, .inr (5, f_Desk qc qo qr sx)), (qc, .inr (1, f_Controls qo qhs qgs qy sc)), (qo, .inr (3, f_Outside qa so)), (qhs, .inr (0, f_Bank shs)), (qgs, .inr (0, f_Bank sgs)), (qy, .inr (2, f_Hyper sy))]) (r := (k_Desk_dueForVs sx sc sgs sy)) (As := []) (rest := []) (ci := 5) (q0 := 0) ⟨hx, hb, hml, hown, hts⟩ (c_Desk_dueForVs l G tys qx qc qgs qy qo qr qhs sx sc sgs sy) (cwV 0 hts (gdV gd_gd q_574 q_576 q_20 q_41 q_577) rfl rfl rfl (by decide +kernel) ⟨Nat.le_of_ble_eq_true rfl, Nat.le_of_ble_eq_true rfl⟩) hE hK hP hD hS hA [0, 1, 4, 5] [2, 3] [2, 3, 0, 1, 4, 5] rfl (by decide) rfl (by decide) (by decide) rfl (by decide) rfl rfl rfl hl.1 rfl (Nat.le_of_ble_eq_true rfl) d_Desk_interrupt_48 ⟨Nat.zero_le _, Nat.zero_le _⟩ (fun H locs hP hD hS => ?_)
      refine lv_istore_n (lv' := [(2, .int (k_Desk_dueForVs sx sc sgs sy)), (1, .int (k_Desk_dueForS sx sc so shs sy)), (0, .ref qx)]) hx hb d_Desk_interrupt_51 rfl hl (by decide) rfl (fun ls hl => ?_)
      refine lv_iload_n hx hb d_Desk_interrupt_52 rfl (lv_at hl 0 rfl) ?_
      refine lv_iconst (v := (-1)) hx hb d_Desk_interrupt_53 (by decide) ?_
      refine lv_icmp_eq (tgt := 81) hx hb d_Desk_interrupt_54 (by decide) (fun c_695 => ?_) (fun c_695 => ?_)
      · refine lv_iconst (v := (-1)) hx hb d_Desk_interrupt_81 (by decide) ?_
        have hk : k_Desk_interrupt sx sc so shs sgs sy = ((-1), sx, shs, sgs, sy) := (by rw [k_Desk_interrupt]; rw [if_pos c_693]; rw [if_pos c_694]; rw [if_pos c_695]; try rfl)
        exact ct_ri hx hb hr hlocks hP hD hK hS d_Desk_interrupt_82 (by rw [hk]; first | done | rfl) (by rw [hk]; first | done | rfl)
      · refine lv_aload_n hx hb d_Desk_interrupt_57 rfl (lv_at hl 2 rfl) ?_
        refine lv_dup hx hb d_Desk_interrupt_58 rfl ?_
        refine va_get (D := G.1) (ci := 5) (v := .int (sx.1 7)) (C := R_Desk) (T := T_Desk) (N := 8) hx hb hts (fun w h => gd_sub _ (iw_Desk w h)) hown hK hP 0 rfl rfl 7 (by decide) (hts _ (gd_sub _ q_212)) (fun _ h9 => h9) rfl d_Desk_interrupt_59 ?_
        refine lv_iconst (v := 1) hx hb d_Desk_interrupt_62 (by decide) ?_
        refine lv_iadd hx hb d_Desk_interrupt_63 ?_
        refine va_put (D := G.1) (ci := 5) (v := .int ((sx.1 7) + 1)) (ty := .int) (C := R_Desk) (T := T_Desk) (N := 8) hx hb hts (fun w h => gd_sub _ (iw_Desk w h)) ty_Desk tyok_Desk nm_Desk hown hK hP hD hS 0 rfl rfl 7 (by decide) (hts _ (gd_sub _ q_212)) (fun _ h9 => h9) rfl (by decide +kernel) rfl rfl (Nat.le_of_ble_eq_true rfl) d_Desk_interrupt_64 (fun H locs hP hD hS => ?_)
        have hP : va_P G.1 vwCl [(qx, .inr (5, f_Desk qc qo qr (oi sx 7 ((sx.1 7) + 1)))), (qc, .inr (1, f_Controls qo qhs qgs qy sc)), (qo, .inr (3, f_Outside qa so)), (qhs, .inr (0, f_Bank shs)), (qgs, .inr (0, f_Bank sgs)), (qy, .inr (2, f_Hyper sy))] H := hP
        have hD : va_D A [(qx, .inr (5, f_Desk qc qo qr (oi sx 7 ((sx.1 7) + 1)))), (qc, .inr (1, f_Controls qo qhs qgs qy sc)), (qo, .inr (3, f_Outside qa so)), (qhs, .inr (0, f_Bank shs)), (qgs, .inr (0, f_Bank sgs)), (qy, .inr (2, f_Hyper sy))] := hD
        refine lv_aload_n hx hb d_Desk_interrupt_67 rfl (lv_at hl 2 rfl) ?_
        refine lv_ldc (v := (-2147483648)) hx hb hown (hts _ (gd_sub _ q_573)) d_Desk_interrupt_68 ?_
        refine lv_iload_n hx hb d_Desk_interrupt_70 rfl (lv_at hl 0 rfl) ?_
        refine lv_ior hx hb d_Desk_interrupt_71 ?_
        refine lv_iconst (v := 0) hx hb d_Desk_interrupt_72 (by decide) ?_
        obtain ⟨sx_696, esx_696⟩ : ∃ z, z = (k_Desk_enterVs (oi sx 7 ((sx.1 7) + 1)) sc sgs ((-2147483648) ||| (k_Desk_dueForVs sx sc sgs sy)) 0).1 := ⟨_, rfl⟩
        obtain ⟨sgs_697, esgs_697⟩ : ∃ z, z = (k_Desk_enterVs (oi sx 7 ((sx.1 7) + 1)) sc sgs ((-2147483648) ||| (k_Desk_dueForVs sx sc sgs sy)) 0).2 := ⟨_, rfl⟩
        have hM := c_Desk_enterVs l G tys qx qc qgs qo qr qhs qy (oi sx 7 ((sx.1 7) + 1)) sc sgs ((-2147483648) ||| (k_Desk_dueForVs sx sc sgs sy)) 0
        rw [← esx_696, ← esgs_697] at hM
        refine ct_cVv (wr := [(qo, .inr (3, f_Outside qa so)), (qhs, .inr (0, f_Bank shs)), (qy, .inr (2, f_Hyper sy))]) (w1 := [(qx, .inr (5, f_Desk qc qo qr sx_696)), (qc, .inr (1, f_Controls qo qhs qgs qy sc)), (qgs, .inr (0, f_Bank sgs_697))]) (w2 := [(qx, .inr (5, f_Desk qc qo qr sx_696)), (qc, .inr (1, f_Controls qo qhs qgs qy sc)), (qo, .inr (3, f_Outside qa so)), (qhs, .inr (0, f_Bank shs)), (qgs, .inr (0, f_Bank sgs_697)), (qy, .inr (2, f_Hyper sy))]) (As := [.int ((-2147483648) ||| (k_Desk_dueForVs sx sc sgs sy)), .int 0]) (rest := []) (ci := 5) (q0 := 0) ⟨hx, hb, hml, hown, hts⟩ hM (cwV 2 hts (gdV gd_gd q_517 q_519 q_16 q_41 q_520) rfl rfl rfl (by decide +kernel) ⟨Nat.le_of_ble_eq_true rfl, Nat.le_of_ble_eq_true rfl⟩) hE hK hP hD hS hA [0, 1, 4] [2, 3, 5] [3, 4, 0, 1, 5, 2] rfl (by decide) rfl (by decide) (by decide) rfl (by decide) rfl rfl rfl hl.1 rfl (Nat.le_of_ble_eq_true rfl) d_Desk_interrupt_73 ⟨Nat.zero_le _, Nat.zero_le _⟩ (fun H locs hP hD hS => ?_)
        refine lv_bipush (v := 100) hx hb d_Desk_interrupt_76 (by decide) ?_
        refine lv_iload_n hx hb d_Desk_interrupt_78 rfl (lv_at hl 0 rfl) ?_
        refine lv_iadd hx hb d_Desk_interrupt_79 ?_
        have hk : k_Desk_interrupt sx sc so shs sgs sy = ((100 + (k_Desk_dueForVs sx sc sgs sy)), sx_696, shs, sgs_697, sy) := (by rw [k_Desk_interrupt]; rw [if_pos c_693]; rw [if_pos c_694]; rw [if_neg c_695]; try rw [← esx_696]; try rw [← esgs_697]; try rfl)
        exact ct_ri hx hb hr hlocks hP hD hK hS d_Desk_interrupt_80 (by rw [hk]; first | done | rfl) (by rw [hk]; first | done | rfl)
    · refine lv_aload_n hx hb d_Desk_interrupt_23 rfl (lv_at hl 1 rfl) ?_
      refine lv_dup hx hb d_Desk_interrupt_24 rfl ?_
      refine va_get (D := G.1) (ci := 5) (v := .int (sx.1 7)) (C := R_Desk) (T := T_Desk) (N := 8) hx hb hts (fun w h => gd_sub _ (iw_Desk w h)) hown hK hP 0 rfl rfl 7 (by decide) (hts _ (gd_sub _ q_212)) (fun _ h9 => h9) rfl d_Desk_interrupt_25 ?_
      refine lv_iconst (v := 1) hx hb d_Desk_interrupt_28 (by decide) ?_
      refine lv_iadd hx hb d_Desk_interrupt_29 ?_
      refine va_put (D := G.1) (ci := 5) (v := .int ((sx.1 7) + 1)) (ty := .int) (C := R_Desk) (T := T_Desk) (N := 8) hx hb hts (fun w h => gd_sub _ (iw_Desk w h)) ty_Desk tyok_Desk nm_Desk hown hK hP hD hS 0 rfl rfl 7 (by decide) (hts _ (gd_sub _ q_212)) (fun _ h9 => h9) rfl (by decide +kernel) rfl rfl (Nat.le_of_ble_eq_true rfl) d_Desk_interrupt_30 (fun H locs hP hD hS => ?_)
      have hP : va_P G.1 vwCl [(qx, .inr (5, f_Desk qc qo qr (oi sx 7 ((sx.1 7) + 1)))), (qc, .inr (1, f_Controls qo qhs qgs qy sc)), (qo, .inr (3, f_Outside qa so)), (qhs, .inr (0, f_Bank shs)), (qgs, .inr (0, f_Bank sgs)), (qy, .inr (2, f_Hyper sy))] H := hP
      have hD : va_D A [(qx, .inr (5, f_Desk qc qo qr (oi sx 7 ((sx.1 7) + 1)))), (qc, .inr (1, f_Controls qo qhs qgs qy sc)), (qo, .inr (3, f_Outside qa so)), (qhs, .inr (0, f_Bank shs)), (qgs, .inr (0, f_Bank sgs)), (qy, .inr (2, f_Hyper sy))] := hD
      refine lv_aload_n hx hb d_Desk_interrupt_33 rfl (lv_at hl 1 rfl) ?_
      refine lv_ldc (v := (-2147483648)) hx hb hown (hts _ (gd_sub _ q_573)) d_Desk_interrupt_34 ?_
      refine lv_iload_n hx hb d_Desk_interrupt_36 rfl (lv_at hl 0 rfl) ?_
      refine lv_ior hx hb d_Desk_interrupt_37 ?_
      refine lv_iconst (v := 0) hx hb d_Desk_interrupt_38 (by decide) ?_
      refine lv_iconst (v := 0) hx hb d_Desk_interrupt_39 (by decide) ?_
      refine lv_iconst (v := 0) hx hb d_Desk_interrupt_40 (by decide) ?_
      refine lv_iconst (v := 0) hx hb d_Desk_interrupt_41 (by decide) ?_
      obtain ⟨sx_698, esx_698⟩ : ∃ z, z = (k_Desk_enterS (oi sx 7 ((sx.1 7) + 1)) sc shs sy ((-2147483648) ||| (k_Desk_dueForS sx sc so shs sy)) 0 false 0 0).1 := ⟨_, rfl⟩
      obtain ⟨shs_699, eshs_699⟩ : ∃ z, z = (k_Desk_enterS (oi sx 7 ((sx.1 7) + 1)) sc shs sy ((-2147483648) ||| (k_Desk_dueForS sx sc so shs sy)) 0 false 0 0).2.1 := ⟨_, rfl⟩
      obtain ⟨sy_700, esy_700⟩ : ∃ z, z = (k_Desk_enterS (oi sx 7 ((sx.1 7) + 1)) sc shs sy ((-2147483648) ||| (k_Desk_dueForS sx sc so shs sy)) 0 false 0 0).2.2 := ⟨_, rfl⟩
      have hM := c_Desk_enterS l G tys qx qc qhs qy qo qr qgs (oi sx 7 ((sx.1 7) + 1)) sc shs sy ((-2147483648) ||| (k_Desk_dueForS sx sc so shs sy)) 0 false 0 0
      rw [← esx_698, ← eshs_699, ← esy_700] at hM
      refine ct_cVv (wr := [(qo, .inr (3, f_Outside qa so)), (qgs, .inr (0, f_Bank sgs))]) (w1 := [(qx, .inr (5, f_Desk qc qo qr sx_698)), (qc, .inr (1, f_Controls qo qhs qgs qy sc)), (qhs, .inr (0, f_Bank shs_699)), (qy, .inr (2, f_Hyper sy_700))]) (w2 := [(qx, .inr (5, f_Desk qc qo qr sx_698)), (qc, .inr (1, f_Controls qo qhs qgs qy sc)), (qo, .inr (3, f_Outside qa so)), (qhs, .inr (0, f_Bank shs_699)), (qgs, .inr (0, f_Bank sgs)), (qy, .inr (2, f_Hyper sy_700))]) (As := [.int ((-2147483648) ||| (k_Desk_dueForS sx sc so shs sy)), .int 0, .int (bI false), .int 0, .int 0]) (rest := []) (ci := 5) (q0 := 0) ⟨hx, hb, hml, hown, hts⟩ hM (cwV 5 hts (gdV gd_gd q_540 q_542 q_18 q_41 q_543) rfl rfl rfl (by decide +kernel) ⟨Nat.le_of_ble_eq_true rfl, Nat.le_of_ble_eq_true rfl⟩) hE hK hP hD hS hA [0, 1, 3, 5] [2, 4] [2, 3, 0, 4, 1, 5] rfl (by decide) rfl (by decide) (by decide) rfl (by decide) rfl rfl rfl hl.1 rfl (Nat.le_of_ble_eq_true rfl) d_Desk_interrupt_42 ⟨Nat.zero_le _, Nat.zero_le _⟩ (fun H locs hP hD hS => ?_)
      refine lv_iload_n hx hb d_Desk_interrupt_45 rfl (lv_at hl 0 rfl) ?_
      have hk : k_Desk_interrupt sx sc so shs sgs sy = ((k_Desk_dueForS sx sc so shs sy), sx_698, shs_699, sgs, sy_700) := (by rw [k_Desk_interrupt]; rw [if_pos c_693]; rw [if_neg c_694]; try rw [← esx_698]; try rw [← eshs_699]; try rw [← esy_700]; try rfl)
      exact ct_ri hx hb hr hlocks hP hD hK hS d_Desk_interrupt_46 (by rw [hk]; first | done | rfl) (by rw [hk]; first | done | rfl)
  · refine lv_bipush (v := (-3)) hx hb d_Desk_interrupt_10 (by decide) ?_
    have hk : k_Desk_interrupt sx sc so shs sgs sy = ((-3), sx, shs, sgs, sy) := (by rw [k_Desk_interrupt]; rw [if_neg c_693]; try rfl)
    exact ct_ri hx hb hr hlocks hP hD hK hS d_Desk_interrupt_12 (by rw [hk]; first | done | rfl) (by rw [hk]; first | done | rfl)
def k_Desk_count (sx : ob) (so : ob) (p1 : Int32) : Int32 :=
  if p1 = 0 then (sx.1 3) else if p1 = 1 then (sx.1 4) else if p1 = 2 then (sx.1 5) else if p1 = 3 then (sx.1 6) else if p1 = 4 then (sx.1 7) else if p1 = 5 then (so.1 1) else if p1 = 6 then (if (bI (so.2.2 5)) = 0 then 0 else 1) else if p1 = 7 then ((so.2.1 3).toInt32) else if p1 = 8 then ((lush (so.2.1 3) 32).toInt32) else (-1)
set_option maxHeartbeats 4000000 in
set_option maxRecDepth 100000 in
theorem c_Desk_count (l : Launch) (G : gx) (tys : List (ClassId × FieldType)) (qx qo qc qr qa : Nat) (sx : ob) (so : ob) (p1 : Int32) : ct_I l y_Desk_count ws_Desk_count ({ frames := 0, cells := 0, slots := 0, locals := 0 }) G tys [.ref qx, .int p1] [(qx, .inr (5, f_Desk qc qo qr sx)), (qo, .inr (3, f_Outside qa so))] (k_Desk_count sx so p1) [(qx, .inr (5, f_Desk qc qo qr sx)), (qo, .inr (3, f_Outside qa so))] := by
  refine ct_hI (cc := cc_Desk_count) (maxL := 2) (ret := (some .int)) (by decide) rfl (Nat.le_of_ble_eq_true rfl) ?_
  intro p e s m below meth c A ls hx hb hr hml hts hown hlocks hP hK hD hA hE hS hl
  have hl : lv_has ls 2 [(0, .ref qx), (1, .int p1)] := hl
  have hown : s.vm.findClass R_Desk = some m.cls := hown
  refine lv_iload_n hx hb d_Desk_count_0 rfl (lv_at hl 1 rfl) ?_
  by_cases c_711 : p1 = 0
  · refine lv_tableIn (off := 51) (tgt := 52) hx hb d_Desk_count_1 (by rw [c_711]; decide) (by rw [c_711]; decide) (by rw [c_711]; decide) (by decide) ?_
    refine lv_aload_n hx hb d_Desk_count_52 rfl (lv_at hl 0 rfl) ?_
    refine va_get (D := G.1) (ci := 5) (v := .int (sx.1 3)) (C := R_Desk) (T := T_Desk) (N := 8) hx hb hts (fun w h => gd_sub _ (iw_Desk w h)) hown hK hP 0 rfl rfl 3 (by decide) (hts _ (gd_sub _ q_208)) (fun _ h9 => h9) rfl d_Desk_count_53 ?_
    have hk : k_Desk_count sx so p1 = (sx.1 3) := (by rw [k_Desk_count]; rw [if_pos c_711]; try rfl)
    exact ct_ri hx hb hr hlocks hP hD hK hS d_Desk_count_56 (by rw [hk]; first | done | rfl) rfl
  · by_cases c_712 : p1 = 1
    · refine lv_tableIn (off := 56) (tgt := 57) hx hb d_Desk_count_1 (by rw [c_712]; decide) (by rw [c_712]; decide) (by rw [c_712]; decide) (by decide) ?_
      refine lv_aload_n hx hb d_Desk_count_57 rfl (lv_at hl 0 rfl) ?_
      refine va_get (D := G.1) (ci := 5) (v := .int (sx.1 4)) (C := R_Desk) (T := T_Desk) (N := 8) hx hb hts (fun w h => gd_sub _ (iw_Desk w h)) hown hK hP 0 rfl rfl 4 (by decide) (hts _ (gd_sub _ q_209)) (fun _ h9 => h9) rfl d_Desk_count_58 ?_
      have hk : k_Desk_count sx so p1 = (sx.1 4) := (by rw [k_Desk_count]; rw [if_neg c_711]; rw [if_pos c_712]; try rfl)
      exact ct_ri hx hb hr hlocks hP hD hK hS d_Desk_count_61 (by rw [hk]; first | done | rfl) rfl
    · by_cases c_713 : p1 = 2
      · refine lv_tableIn (off := 61) (tgt := 62) hx hb d_Desk_count_1 (by rw [c_713]; decide) (by rw [c_713]; decide) (by rw [c_713]; decide) (by decide) ?_
        refine lv_aload_n hx hb d_Desk_count_62 rfl (lv_at hl 0 rfl) ?_
        refine va_get (D := G.1) (ci := 5) (v := .int (sx.1 5)) (C := R_Desk) (T := T_Desk) (N := 8) hx hb hts (fun w h => gd_sub _ (iw_Desk w h)) hown hK hP 0 rfl rfl 5 (by decide) (hts _ (gd_sub _ q_210)) (fun _ h9 => h9) rfl d_Desk_count_63 ?_
        have hk : k_Desk_count sx so p1 = (sx.1 5) := (by rw [k_Desk_count]; rw [if_neg c_711]; rw [if_neg c_712]; rw [if_pos c_713]; try rfl)
        exact ct_ri hx hb hr hlocks hP hD hK hS d_Desk_count_66 (by rw [hk]; first | done | rfl) rfl
      · by_cases c_714 : p1 = 3
        · refine lv_tableIn (off := 66) (tgt := 67) hx hb d_Desk_count_1 (by rw [c_714]; decide) (by rw [c_714]; decide) (by rw [c_714]; decide) (by decide) ?_
          refine lv_aload_n hx hb d_Desk_count_67 rfl (lv_at hl 0 rfl) ?_
          refine va_get (D := G.1) (ci := 5) (v := .int (sx.1 6)) (C := R_Desk) (T := T_Desk) (N := 8) hx hb hts (fun w h => gd_sub _ (iw_Desk w h)) hown hK hP 0 rfl rfl 6 (by decide) (hts _ (gd_sub _ q_211)) (fun _ h9 => h9) rfl d_Desk_count_68 ?_
          have hk : k_Desk_count sx so p1 = (sx.1 6) := (by rw [k_Desk_count]; rw [if_neg c_711]; rw [if_neg c_712]; rw [if_neg c_713]; rw [if_pos c_714]; try rfl)
          exact ct_ri hx hb hr hlocks hP hD hK hS d_Desk_count_71 (by rw [hk]; first | done | rfl) rfl
        · by_cases c_715 : p1 = 4
          · refine lv_tableIn (off := 71) (tgt := 72) hx hb d_Desk_count_1 (by rw [c_715]; decide) (by rw [c_715]; decide) (by rw [c_715]; decide) (by decide) ?_
            refine lv_aload_n hx hb d_Desk_count_72 rfl (lv_at hl 0 rfl) ?_
            refine va_get (D := G.1) (ci := 5) (v := .int (sx.1 7)) (C := R_Desk) (T := T_Desk) (N := 8) hx hb hts (fun w h => gd_sub _ (iw_Desk w h)) hown hK hP 0 rfl rfl 7 (by decide) (hts _ (gd_sub _ q_212)) (fun _ h9 => h9) rfl d_Desk_count_73 ?_
            have hk : k_Desk_count sx so p1 = (sx.1 7) := (by rw [k_Desk_count]; rw [if_neg c_711]; rw [if_neg c_712]; rw [if_neg c_713]; rw [if_neg c_714]; rw [if_pos c_715]; try rfl)
            exact ct_ri hx hb hr hlocks hP hD hK hS d_Desk_count_76 (by rw [hk]; first | done | rfl) rfl
          · by_cases c_716 : p1 = 5
            · refine lv_tableIn (off := 76) (tgt := 77) hx hb d_Desk_count_1 (by rw [c_716]; decide) (by rw [c_716]; decide) (by rw [c_716]; decide) (by decide) ?_
              refine lv_aload_n hx hb d_Desk_count_77 rfl (lv_at hl 0 rfl) ?_
              refine va_get (D := G.1) (ci := 5) (v := .ref qo) (C := R_Desk) (T := T_Desk) (N := 8) hx hb hts (fun w h => gd_sub _ (iw_Desk w h)) hown hK hP 0 rfl rfl 1 (by decide) (hts _ (gd_sub _ q_206)) (fun _ h9 => h9) rfl d_Desk_count_78 ?_
              refine va_get (D := G.1) (ci := 3) (v := .int (so.1 1)) (C := R_Outside) (T := T_Outside) (N := 6) hx hb hts (fun w h => gd_sub _ (iw_Outside w h)) hown hK hP 1 rfl rfl 1 (by decide) (hts _ (gd_sub _ q_72)) (fun _ h9 => h9) rfl d_Desk_count_81 ?_
              have hk : k_Desk_count sx so p1 = (so.1 1) := (by rw [k_Desk_count]; rw [if_neg c_711]; rw [if_neg c_712]; rw [if_neg c_713]; rw [if_neg c_714]; rw [if_neg c_715]; rw [if_pos c_716]; try rfl)
              exact ct_ri hx hb hr hlocks hP hD hK hS d_Desk_count_84 (by rw [hk]; first | done | rfl) rfl
            · by_cases c_717 : p1 = 6
              · refine lv_tableIn (off := 84) (tgt := 85) hx hb d_Desk_count_1 (by rw [c_717]; decide) (by rw [c_717]; decide) (by rw [c_717]; decide) (by decide) ?_
                refine lv_aload_n hx hb d_Desk_count_85 rfl (lv_at hl 0 rfl) ?_
                refine va_get (D := G.1) (ci := 5) (v := .ref qo) (C := R_Desk) (T := T_Desk) (N := 8) hx hb hts (fun w h => gd_sub _ (iw_Desk w h)) hown hK hP 0 rfl rfl 1 (by decide) (hts _ (gd_sub _ q_206)) (fun _ h9 => h9) rfl d_Desk_count_86 ?_
                refine va_get (D := G.1) (ci := 3) (v := .int (bI (so.2.2 5))) (C := R_Outside) (T := T_Outside) (N := 6) hx hb hts (fun w h => gd_sub _ (iw_Outside w h)) hown hK hP 1 rfl rfl 5 (by decide) (hts _ (gd_sub _ q_82)) (fun _ h9 => h9) rfl d_Desk_count_89 ?_
                refine lv_if_eq (tgt := 99) hx hb d_Desk_count_92 (by decide) (fun c_718 => ?_) (fun c_718 => ?_)
                · refine lv_iconst (v := 0) hx hb d_Desk_count_99 (by decide) ?_
                  have hk : k_Desk_count sx so p1 = 0 := (by rw [k_Desk_count]; rw [if_neg c_711]; rw [if_neg c_712]; rw [if_neg c_713]; rw [if_neg c_714]; rw [if_neg c_715]; rw [if_neg c_716]; rw [if_pos c_717]; rw [if_pos c_718]; try rfl)
                  exact ct_ri hx hb hr hlocks hP hD hK hS d_Desk_count_100 (by rw [hk]; first | done | rfl) rfl
                · refine lv_iconst (v := 1) hx hb d_Desk_count_95 (by decide) ?_
                  refine lv_goto (tgt := 100) hx hb d_Desk_count_96 (by decide) ?_
                  have hk : k_Desk_count sx so p1 = 1 := (by rw [k_Desk_count]; rw [if_neg c_711]; rw [if_neg c_712]; rw [if_neg c_713]; rw [if_neg c_714]; rw [if_neg c_715]; rw [if_neg c_716]; rw [if_pos c_717]; rw [if_neg c_718]; try rfl)
                  exact ct_ri hx hb hr hlocks hP hD hK hS d_Desk_count_100 (by rw [hk]; first | done | rfl) rfl
              · by_cases c_719 : p1 = 7
                · refine lv_tableIn (off := 100) (tgt := 101) hx hb d_Desk_count_1 (by rw [c_719]; decide) (by rw [c_719]; decide) (by rw [c_719]; decide) (by decide) ?_
                  refine lv_aload_n hx hb d_Desk_count_101 rfl (lv_at hl 0 rfl) ?_
                  refine va_get (D := G.1) (ci := 5) (v := .ref qo) (C := R_Desk) (T := T_Desk) (N := 8) hx hb hts (fun w h => gd_sub _ (iw_Desk w h)) hown hK hP 0 rfl rfl 1 (by decide) (hts _ (gd_sub _ q_206)) (fun _ h9 => h9) rfl d_Desk_count_102 ?_
                  refine va_get (D := G.1) (ci := 3) (v := .long (so.2.1 3)) (C := R_Outside) (T := T_Outside) (N := 6) hx hb hts (fun w h => gd_sub _ (iw_Outside w h)) hown hK hP 1 rfl rfl 3 (by decide) (hts _ (gd_sub _ q_77)) (fun _ h9 => h9) rfl d_Desk_count_105 ?_
                  refine lv_l2i (v := (so.2.1 3).toInt32) hx hb d_Desk_count_108 rfl ?_
                  have hk : k_Desk_count sx so p1 = (so.2.1 3).toInt32 := (by rw [k_Desk_count]; rw [if_neg c_711]; rw [if_neg c_712]; rw [if_neg c_713]; rw [if_neg c_714]; rw [if_neg c_715]; rw [if_neg c_716]; rw [if_neg c_717]; rw [if_pos c_719]; try rfl)
                  exact ct_ri hx hb hr hlocks hP hD hK hS d_Desk_count_109 (by rw [hk]; first | done | rfl) rfl
                · by_cases c_720 : p1 = 8
                  · refine lv_tableIn (off := 109) (tgt := 110) hx hb d_Desk_count_1 (by rw [c_720]; decide) (by rw [c_720]; decide) (by rw [c_720]; decide) (by decide) ?_
                    refine lv_aload_n hx hb d_Desk_count_110 rfl (lv_at hl 0 rfl) ?_
                    refine va_get (D := G.1) (ci := 5) (v := .ref qo) (C := R_Desk) (T := T_Desk) (N := 8) hx hb hts (fun w h => gd_sub _ (iw_Desk w h)) hown hK hP 0 rfl rfl 1 (by decide) (hts _ (gd_sub _ q_206)) (fun _ h9 => h9) rfl d_Desk_count_111 ?_
                    refine va_get (D := G.1) (ci := 3) (v := .long (so.2.1 3)) (C := R_Outside) (T := T_Outside) (N := 6) hx hb hts (fun w h => gd_sub _ (iw_Outside w h)) hown hK hP 1 rfl rfl 3 (by decide) (hts _ (gd_sub _ q_77)) (fun _ h9 => h9) rfl d_Desk_count_114 ?_
                    refine lv_bipush (v := 32) hx hb d_Desk_count_117 (by decide) ?_
                    refine lv_lushr (v := (lush (so.2.1 3) 32)) hx hb d_Desk_count_119 rfl ?_
                    refine lv_l2i (v := (lush (so.2.1 3) 32).toInt32) hx hb d_Desk_count_120 rfl ?_
                    have hk : k_Desk_count sx so p1 = (lush (so.2.1 3) 32).toInt32 := (by rw [k_Desk_count]; rw [if_neg c_711]; rw [if_neg c_712]; rw [if_neg c_713]; rw [if_neg c_714]; rw [if_neg c_715]; rw [if_neg c_716]; rw [if_neg c_717]; rw [if_neg c_719]; rw [if_pos c_720]; try rfl)
                    exact ct_ri hx hb hr hlocks hP hD hK hS d_Desk_count_121 (by rw [hk]; first | done | rfl) rfl
                  · refine lv_tableOut (tgt := 122) hx hb d_Desk_count_1 (by have := lv_neT (a := 0) c_711 (by decide); have := lv_neT (a := 1) c_712 (by decide); have := lv_neT (a := 2) c_713 (by decide); have := lv_neT (a := 3) c_714 (by decide); have := lv_neT (a := 4) c_715 (by decide); have := lv_neT (a := 5) c_716 (by decide); have := lv_neT (a := 6) c_717 (by decide); have := lv_neT (a := 7) c_719 (by decide); have := lv_neT (a := 8) c_720 (by decide); omega) (by decide) ?_
                    refine lv_iconst (v := (-1)) hx hb d_Desk_count_122 (by decide) ?_
                    have hk : k_Desk_count sx so p1 = (-1) := (by rw [k_Desk_count]; rw [if_neg c_711]; rw [if_neg c_712]; rw [if_neg c_713]; rw [if_neg c_714]; rw [if_neg c_715]; rw [if_neg c_716]; rw [if_neg c_717]; rw [if_neg c_719]; rw [if_neg c_720]; try rfl)
                    exact ct_ri hx hb hr hlocks hP hD hK hS d_Desk_count_123 (by rw [hk]; first | done | rfl) rfl
def k_Outside_printedByte (so : ob) (sa : Nat → Int32) (p1 : Int32) : Int32 :=
  if p1 < 0 then (-1) else (if (so.1 1) ≤ p1 then (-1) else (if p1 < 256 then ((sa p1.toNatClampNeg) &&& 255) else (-1)))
set_option maxHeartbeats 4000000 in
set_option maxRecDepth 100000 in
theorem c_Outside_printedByte (l : Launch) (G : gx) (tys : List (ClassId × FieldType)) {cA : ClassId} (ht : tys[0]? = some (cA, .byte)) (qo qa : Nat) (so : ob) (sa : Nat → Int32) (p1 : Int32) : ct_I l y_Outside_printedByte ws_Outside_printedByte ({ frames := 0, cells := 0, slots := 0, locals := 0 }) G tys [.ref qo, .int p1] [(qo, .inr (3, f_Outside qa so)), (qa, .inl (cA, 256, .inl sa))] (k_Outside_printedByte so sa p1) [(qo, .inr (3, f_Outside qa so)), (qa, .inl (cA, 256, .inl sa))] := by
  refine ct_hI (cc := cc_Outside_printedByte) (maxL := 2) (ret := (some .int)) (by decide) rfl (Nat.le_of_ble_eq_true rfl) ?_
  intro p e s m below meth c A ls hx hb hr hml hts hown hlocks hP hK hD hA hE hS hl
  have hl : lv_has ls 2 [(0, .ref qo), (1, .int p1)] := hl
  have hown : s.vm.findClass R_Outside = some m.cls := hown
  refine lv_iload_n hx hb d_Outside_printedByte_0 rfl (lv_at hl 1 rfl) ?_
  refine lv_if_lt (tgt := 21) hx hb d_Outside_printedByte_1 (by decide) (fun c_724 => ?_) (fun c_724 => ?_)
  · refine lv_iconst (v := (-1)) hx hb d_Outside_printedByte_21 (by decide) ?_
    have hk : k_Outside_printedByte so sa p1 = (-1) := (by rw [k_Outside_printedByte]; rw [if_pos c_724]; try rfl)
    exact ct_ri hx hb hr hlocks hP hD hK hS d_Outside_printedByte_22 (by rw [hk]; first | done | rfl) rfl
  · refine lv_iload_n hx hb d_Outside_printedByte_4 rfl (lv_at hl 1 rfl) ?_
    refine lv_aload_n hx hb d_Outside_printedByte_5 rfl (lv_at hl 0 rfl) ?_
    refine va_get (D := G.1) (ci := 3) (v := .int (so.1 1)) (C := R_Outside) (T := T_Outside) (N := 6) hx hb hts (fun w h => gd_sub _ (iw_Outside w h)) hown hK hP 0 rfl rfl 1 (by decide) (hts _ (gd_sub _ q_71)) (fun _ h9 => h9) rfl d_Outside_printedByte_6 ?_
    refine lv_icmp_ge (tgt := 21) hx hb d_Outside_printedByte_9 (by decide) (fun c_725 => ?_) (fun c_725 => ?_)
    · refine lv_iconst (v := (-1)) hx hb d_Outside_printedByte_21 (by decide) ?_
      have hk : k_Outside_printedByte so sa p1 = (-1) := (by rw [k_Outside_printedByte]; rw [if_neg c_724]; rw [if_pos c_725]; try rfl)
      exact ct_ri hx hb hr hlocks hP hD hK hS d_Outside_printedByte_22 (by rw [hk]; first | done | rfl) rfl
    · refine lv_iload_n hx hb d_Outside_printedByte_12 rfl (lv_at hl 1 rfl) ?_
      refine lv_aload_n hx hb d_Outside_printedByte_13 rfl (lv_at hl 0 rfl) ?_
      refine va_get (D := G.1) (ci := 3) (v := .ref qa) (C := R_Outside) (T := T_Outside) (N := 6) hx hb hts (fun w h => gd_sub _ (iw_Outside w h)) hown hK hP 0 rfl rfl 0 (by decide) (hts _ (gd_sub _ q_70)) (fun _ h9 => h9) rfl d_Outside_printedByte_14 ?_
      refine va_alen (v := 256) hx hb hK hP 1 0 rfl ht rfl d_Outside_printedByte_17 ?_
      refine lv_icmp_lt (tgt := 23) hx hb d_Outside_printedByte_18 (by decide) (fun c_726 => ?_) (fun c_726 => ?_)
      · refine lv_aload_n hx hb d_Outside_printedByte_23 rfl (lv_at hl 0 rfl) ?_
        refine va_get (D := G.1) (ci := 3) (v := .ref qa) (C := R_Outside) (T := T_Outside) (N := 6) hx hb hts (fun w h => gd_sub _ (iw_Outside w h)) hown hK hP 0 rfl rfl 0 (by decide) (hts _ (gd_sub _ q_70)) (fun _ h9 => h9) rfl d_Outside_printedByte_24 ?_
        refine lv_iload_n hx hb d_Outside_printedByte_27 rfl (lv_at hl 1 rfl) ?_
        refine va_bald hx hb hK hP 1 0 rfl ht (in256 c_724 (fun q9 => Int32.not_lt.mpr q9 c_726)) d_Outside_printedByte_28 ?_
        refine lv_sipush (v := 255) hx hb d_Outside_printedByte_29 (by decide) ?_
        refine lv_iand hx hb d_Outside_printedByte_32 ?_
        have hk : k_Outside_printedByte so sa p1 = ((sa p1.toNatClampNeg) &&& 255) := (by rw [k_Outside_printedByte]; rw [if_neg c_724]; rw [if_neg c_725]; rw [if_pos c_726]; try rfl)
        exact ct_ri hx hb hr hlocks hP hD hK hS d_Outside_printedByte_33 (by rw [hk]; first | done | rfl) rfl
      · refine lv_iconst (v := (-1)) hx hb d_Outside_printedByte_21 (by decide) ?_
        have hk : k_Outside_printedByte so sa p1 = (-1) := (by rw [k_Outside_printedByte]; rw [if_neg c_724]; rw [if_neg c_725]; rw [if_neg c_726]; try rfl)
        exact ct_ri hx hb hr hlocks hP hD hK hS d_Outside_printedByte_22 (by rw [hk]; first | done | rfl) rfl
def k_Desk_console (sx : ob) (so : ob) (sa : Nat → Int32) (p1 : Int32) : Int32 :=
  (k_Outside_printedByte so sa p1)
set_option maxHeartbeats 4000000 in
set_option maxRecDepth 100000 in
theorem c_Desk_console (l : Launch) (G : gx) (tys : List (ClassId × FieldType)) {cA : ClassId} (ht : tys[0]? = some (cA, .byte)) (qx qo qa qc qr : Nat) (sx : ob) (so : ob) (sa : Nat → Int32) (p1 : Int32) : ct_I l y_Desk_console ws_Desk_console ({ frames := 1, cells := 0, slots := 0, locals := 21 }) G tys [.ref qx, .int p1] [(qx, .inr (5, f_Desk qc qo qr sx)), (qo, .inr (3, f_Outside qa so)), (qa, .inl (cA, 256, .inl sa))] (k_Desk_console sx so sa p1) [(qx, .inr (5, f_Desk qc qo qr sx)), (qo, .inr (3, f_Outside qa so)), (qa, .inl (cA, 256, .inl sa))] := by
  refine ct_hI (cc := cc_Desk_console) (maxL := 2) (ret := (some .int)) (by decide) rfl (Nat.le_of_ble_eq_true rfl) ?_
  intro p e s m below meth c A ls hx hb hr hml hts hown hlocks hP hK hD hA hE hS hl
  have hl : lv_has ls 2 [(0, .ref qx), (1, .int p1)] := hl
  have hown : s.vm.findClass R_Desk = some m.cls := hown
  refine lv_aload_n hx hb d_Desk_console_0 rfl (lv_at hl 0 rfl) ?_
  refine va_get (D := G.1) (ci := 5) (v := .ref qo) (C := R_Desk) (T := T_Desk) (N := 8) hx hb hts (fun w h => gd_sub _ (iw_Desk w h)) hown hK hP 0 rfl rfl 1 (by decide) (hts _ (gd_sub _ q_206)) (fun _ h9 => h9) rfl d_Desk_console_1 ?_
  refine lv_iload_n hx hb d_Desk_console_4 rfl (lv_at hl 1 rfl) ?_
  refine ct_cVi (wr := [(qx, .inr (5, f_Desk qc qo qr sx))]) (w1 := [(qo, .inr (3, f_Outside qa so)), (qa, .inl (cA, 256, .inl sa))]) (w2 := [(qx, .inr (5, f_Desk qc qo qr sx)), (qo, .inr (3, f_Outside qa so)), (qa, .inl (cA, 256, .inl sa))]) (r := (k_Outside_printedByte so sa p1)) (As := [.int p1]) (rest := []) (ci := 3) (q0 := 0) ⟨hx, hb, hml, hown, hts⟩ (c_Outside_printedByte l G tys ht qo qa so sa p1) (cwV 1 hts (gdV gd_gd q_592 q_593 q_594 q_43 q_595) rfl rfl rfl (by decide +kernel) ⟨Nat.le_of_ble_eq_true rfl, Nat.le_of_ble_eq_true rfl⟩) hE hK hP hD hS hA [1, 2] [0] [0, 1, 2] rfl (by decide) rfl (by decide) (by decide) rfl (by decide) rfl rfl rfl hl.1 rfl (Nat.le_of_ble_eq_true rfl) d_Desk_console_5 ⟨Nat.zero_le _, Nat.zero_le _⟩ (fun H locs hP hD hS => ?_)
  have hk : k_Desk_console sx so sa p1 = (k_Outside_printedByte so sa p1) := (by rw [k_Desk_console]; try rfl)
  exact ct_ri hx hb hr hlocks hP hD hK hS d_Desk_console_8 (by rw [hk]; first | done | rfl) rfl
