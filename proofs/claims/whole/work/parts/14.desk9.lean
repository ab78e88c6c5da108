def k_Desk_fail_j70 (sx : ob) (sc : ob) (so : ob) (shs : ob) (sgs : ob) (sy : ob) (p1 : Int32) (p2 : Int32) (p3 : Bool) (p4 : Int64) (p5 : Bool) (t0 : Int32) (t1 : Int32) : Int32 × ob × ob × ob × ob :=
  ((((k_Desk_raise sx sc shs sgs sy p1 p2 p3 t1 t0).1).1 3), ((k_Desk_raise sx sc shs sgs sy p1 p2 p3 t1 t0).1), ((k_Desk_raise sx sc shs sgs sy p1 p2 p3 t1 t0).2.1), ((k_Desk_raise sx sc shs sgs sy p1 p2 p3 t1 t0).2.2.1), ((k_Desk_raise sx sc shs sgs sy p1 p2 p3 t1 t0).2.2.2))
def k_Desk_fail (sx : ob) (sc : ob) (so : ob) (shs : ob) (sgs : ob) (sy : ob) (p1 : Int32) (p2 : Int32) (p3 : Bool) (p4 : Int64) (p5 : Bool) : Int32 × ob × ob × ob × ob :=
  if (bI (k_Desk_isIn 11579635 p1)) = 0 then ((-1), sx, shs, sgs, sy) else (if (lg_cmp p4 0) < 0 then ((-1), sx, shs, sgs, sy) else (if (lg_cmp p4 17179869184) < 0 then (if (bI (so.2.2 5)) = 0 then (if (bI (k_Desk_isIn 11534336 p1)) = 0 then ((((k_Desk_raise sx sc shs sgs sy p1 p2 p3 0 0).1).1 3), ((k_Desk_raise sx sc shs sgs sy p1 p2 p3 0 0).1), ((k_Desk_raise sx sc shs sgs sy p1 p2 p3 0 0).2.1), ((k_Desk_raise sx sc shs sgs sy p1 p2 p3 0 0).2.2.1), ((k_Desk_raise sx sc shs sgs sy p1 p2 p3 0 0).2.2.2)) else (if (bI p5) = 0 then (k_Desk_fail_j70 sx sc so shs sgs sy p1 p2 p3 p4 p5 0 ((lush p4 2).toInt32)) else (k_Desk_fail_j70 sx sc so shs sgs sy p1 p2 p3 p4 p5 8192 ((lush p4 2).toInt32)))) else ((-3), sx, shs, sgs, sy)) else ((-1), sx, shs, sgs, sy)))
set_option maxHeartbeats 4000000 in
set_option maxRecDepth 100000 in
theorem c_Desk_fail (l : Launch) (G : gx) (tys : List (ClassId × FieldType)) (qx qc qo qhs qgs qy qr qa : Nat) (sx : ob) (sc : ob) (so : ob) (shs : ob) (sgs : ob) (sy : ob) (p1 : Int32) (p2 : Int32) (p3 : Bool) (p4 : Int64) (p5 : Bool) : ct_I l y_Desk_fail ws_Desk_fail ({ frames := 4, cells := 0, slots := 0, locals := 100 }) G tys [.ref qx, .int p1, .int p2, .int (bI p3), .long p4, .int (bI p5)] [(qx, .inr (5, f_Desk qc qo qr sx)), (qc, .inr (1, f_Controls qo qhs qgs qy sc)), (qo, .inr (3, f_Outside qa so)), (qhs, .inr (0, f_Bank shs)), (qgs, .inr (0, f_Bank sgs)), (qy, .inr (2, f_Hyper sy))] ((k_Desk_fail sx sc so shs sgs sy p1 p2 p3 p4 p5).1) [(qx, .inr (5, f_Desk qc qo qr ((k_Desk_fail sx sc so shs sgs sy p1 p2 p3 p4 p5).2.1))), (qc, .inr (1, f_Controls qo qhs qgs qy sc)), (qo, .inr (3, f_Outside qa so)), (qhs, .inr (0, f_Bank ((k_Desk_fail sx sc so shs sgs sy p1 p2 p3 p4 p5).2.2.1))), (qgs, .inr (0, f_Bank ((k_Desk_fail sx sc so shs sgs sy p1 p2 p3 p4 p5).2.2.2.1))), (qy, .inr (2, f_Hyper ((k_Desk_fail sx sc so shs sgs sy p1 p2 p3 p4 p5).2.2.2.2)))] := by
  refine ct_hI (cc := cc_Desk_fail) (maxL := 7) (ret := (some .int)) (by decide) rfl (Nat.le_of_ble_eq_true rfl) ?_
  intro p e s m below meth c A ls hx hb hr hml hts hown hlocks hP hK hD hA hE hS hl
  have hl : lv_has ls 7 [(0, .ref qx), (1, .int p1), (2, .int p2), (3, .int (bI p3)), (4, .long p4), (6, .int (bI p5))] := hl
  have hown : s.vm.findClass R_Desk = some m.cls := hown
  have J70 : ∀ (t0 : Int32) (t1 : Int32) (H : Heap) (locs : List Loc) (ls : Array Slot), k_Desk_fail sx sc so shs sgs sy p1 p2 p3 p4 p5 = k_Desk_fail_j70 sx sc so shs sgs sy p1 p2 p3 p4 p5 t0 t1 → va_P G.1 vwCl [(qx, .inr (5, f_Desk qc qo qr sx)), (qc, .inr (1, f_Controls qo qhs qgs qy sc)), (qo, .inr (3, f_Outside qa so)), (qhs, .inr (0, f_Bank shs)), (qgs, .inr (0, f_Bank sgs)), (qy, .inr (2, f_Hyper sy))] H → va_D A [(qx, .inr (5, f_Desk qc qo qr sx)), (qc, .inr (1, f_Controls qo qhs qgs qy sc)), (qo, .inr (3, f_Outside qa so)), (qhs, .inr (0, f_Bank shs)), (qgs, .inr (0, f_Bank sgs)), (qy, .inr (2, f_Hyper sy))] → va_S A s.heap H locs → lv_has ls 7 [(0, .ref qx), (1, .int p1), (2, .int p2), (3, .int (bI p3)), (4, .long p4), (6, .int (bI p5))] → W p l e ({ frames := 4, cells := 0, slots := 0, locals := 100 }) s m ([.ref qx, .int p1, .int p2, .int (bI p3), .long p4, .int (bI p5)] : List Value).toArray below meth c H locs 0 0 (MQ below (ct_qi G tys A ((k_Desk_fail sx sc so shs sgs sy p1 p2 p3 p4 p5).1) [(qx, .inr (5, f_Desk qc qo qr ((k_Desk_fail sx sc so shs sgs sy p1 p2 p3 p4 p5).2.1))), (qc, .inr (1, f_Controls qo qhs qgs qy sc)), (qo, .inr (3, f_Outside qa so)), (qhs, .inr (0, f_Bank ((k_Desk_fail sx sc so shs sgs sy p1 p2 p3 p4 p5).2.2.1))), (qgs, .inr (0, f_Bank ((k_Desk_fail sx sc so shs sgs sy p1 p2 p3 p4 p5).2.2.2.1))), (qy, .inr (2, f_Hyper ((k_Desk_fail sx sc so shs sgs sy p1 p2 p3 p4 p5).2.2.2.2)))]) ([.ref qx, .int p1, .int p2, .int (bI p3), .long p4, .int (bI p5)] : List Value).toArray s 0 0 A) (F0 m 70 ls [.int t0, .int t1, .int (bI p3), .int p2, .int p1, .ref qx]) := by
    intro t0 t1 H locs ls hj hP hD hS hl
    obtain ⟨sx_619, esx_619⟩ : ∃ z, z = (k_Desk_raise sx sc shs sgs sy p1 p2 p3 t1 t0).1 := ⟨_, rfl⟩
    obtain ⟨shs_620, eshs_620⟩ : ∃ z, z = (k_Desk_raise sx sc shs sgs sy p1 p2 p3 t1 t0).2.1 := ⟨_, rfl⟩
    obtain ⟨sgs_621, esgs_621⟩ : ∃ z, z = (k_Desk_raise sx sc shs sgs sy p1 p2 p3 t1 t0).2.2.1 := ⟨_, rfl⟩
    obtain ⟨sy_622, esy_622⟩ : ∃ z, z = (k_Desk_raise sx sc shs sgs sy p1 p2 p3 t1 t0).2.2.2 := ⟨_, rfl⟩
    have hM := c_Desk_raise l G tys qx qc qhs qgs qy qo qr sx sc shs sgs sy p1 p2 p3 t1 t0
    rw [← esx_619, ← eshs_620, ← esgs_621, ← esy_622] at hM
    refine ct_cVv (wr := [(qo, .inr (3, f_Outside qa so))]) (w1 := [(qx, .inr (5, f_Desk qc qo qr sx_619)), (qc, .inr (1, f_Controls qo qhs qgs qy sc)), (qhs, .inr (0, f_Bank shs_620)), (qgs, .inr (0, f_Bank sgs_621)), (qy, .inr (2, f_Hyper sy_622))]) (w2 := [(qx, .inr (5, f_Desk qc qo qr sx_619)), (qc, .inr (1, f_Controls qo qhs qgs qy sc)), (qo, .inr (3, f_Outside qa so)), (qhs, .inr (0, f_Bank shs_620)), (qgs, .inr (0, f_Bank sgs_621)), (qy, .inr (2, f_Hyper sy_622))]) (As := [.int p1, .int p2, .int (bI p3), .int t1, .int t0]) (rest := []) (ci := 5) (q0 := 0) ⟨hx, hb, hml, hown, hts⟩ hM (cwV 5 hts (gdV gd_gd q_510 q_512 q_15 q_41 q_513) rfl rfl rfl (by decide +kernel) ⟨Nat.le_of_ble_eq_true rfl, Nat.le_of_ble_eq_true rfl⟩) hE hK hP hD hS hA [0, 1, 3, 4, 5] [2] [1, 2, 0, 3, 4, 5] rfl (by decide) rfl (by decide) (by decide) rfl (by decide) rfl rfl rfl hl.1 rfl (Nat.le_of_ble_eq_true rfl) d_Desk_fail_70 ⟨Nat.zero_le _, Nat.zero_le _⟩ (fun H locs hP hD hS => ?_)
    refine lv_goto (tgt := 85) hx hb d_Desk_fail_73 (by decide) ?_
    refine lv_aload_n hx hb d_Desk_fail_85 rfl (lv_at hl 0 rfl) ?_
    refine va_get (D := G.1) (ci := 5) (v := .int (sx_619.1 3)) (C := R_Desk) (T := T_Desk) (N := 8) hx hb hts (fun w h => gd_sub _ (iw_Desk w h)) hown hK hP 0 rfl rfl 3 (by decide) (hts _ (gd_sub _ q_208)) (fun _ h9 => h9) rfl d_Desk_fail_86 ?_
    have hk : k_Desk_fail sx sc so shs sgs sy p1 p2 p3 p4 p5 = ((sx_619.1 3), sx_619, shs_620, sgs_621, sy_622) := (hj.trans (by rw [k_Desk_fail_j70]; try rw [← esx_619]; try rw [← eshs_620]; try rw [← esgs_621]; try rw [← esy_622]; try rfl))
    exact ct_ri hx hb hr hlocks hP hD hK hS d_Desk_fail_89 (by rw [hk]; first | done | rfl) (by rw [hk]; first | done | rfl)
  obtain ⟨H, eH⟩ : ∃ z, z = s.heap := ⟨_, rfl⟩
  obtain ⟨locs, eL⟩ : ∃ z, z = ([] : List Loc) := ⟨_, rfl⟩
  have hP : va_P G.1 vwCl [(qx, .inr (5, f_Desk qc qo qr sx)), (qc, .inr (1, f_Controls qo qhs qgs qy sc)), (qo, .inr (3, f_Outside qa so)), (qhs, .inr (0, f_Bank shs)), (qgs, .inr (0, f_Bank sgs)), (qy, .inr (2, f_Hyper sy))] H := by rw [eH]; exact hP
  have hS : va_S A s.heap H locs := by rw [eH, eL]; exact hS
  suffices hW : W p l e ({ frames := 4, cells := 0, slots := 0, locals := 100 }) s m ([.ref qx, .int p1, .int p2, .int (bI p3), .long p4, .int (bI p5)] : List Value).toArray below meth c H locs 0 0 (MQ below (ct_qi G tys A ((k_Desk_fail sx sc so shs sgs sy p1 p2 p3 p4 p5).1) [(qx, .inr (5, f_Desk qc qo qr ((k_Desk_fail sx sc so shs sgs sy p1 p2 p3 p4 p5).2.1))), (qc, .inr (1, f_Controls qo qhs qgs qy sc)), (qo, .inr (3, f_Outside qa so)), (qhs, .inr (0, f_Bank ((k_Desk_fail sx sc so shs sgs sy p1 p2 p3 p4 p5).2.2.1))), (qgs, .inr (0, f_Bank ((k_Desk_fail sx sc so shs sgs sy p1 p2 p3 p4 p5).2.2.2.1))), (qy, .inr (2, f_Hyper ((k_Desk_fail sx sc so shs sgs sy p1 p2 p3 p4 p5).2.2.2.2)))]) ([.ref qx, .int p1, .int p2, .int (bI p3), .long p4, .int (bI p5)] : List Value).toArray s 0 0 A) (F0 m 0 ls []) by rw [eH, eL] at hW; exact hW
  refine lv_ldc (v := 11579635) hx hb hown (hts _ (gd_sub _ q_552)) d_Desk_fail_0 ?_
  refine lv_iload_n hx hb d_Desk_fail_2 rfl (lv_at hl 1 rfl) ?_
  refine ct_cSi (wr := [(qx, .inr (5, f_Desk qc qo qr sx)), (qc, .inr (1, f_Controls qo qhs qgs qy sc)), (qo, .inr (3, f_Outside qa so)), (qhs, .inr (0, f_Bank shs)), (qgs, .inr (0, f_Bank sgs)), (qy, .inr (2, f_Hyper sy))]) (w1 := []) (w2 := [(qx, .inr (5, f_Desk qc qo qr sx)), (qc, .inr (1, f_Controls qo qhs qgs qy sc)), (qo, .inr (3, f_Outside qa so)), (qhs, .inr (0, f_Bank shs)), (qgs, .inr (0, f_Bank sgs)), (qy, .inr (2, f_Hyper sy))]) (r := (bI (k_Desk_isIn 11579635 p1))) (As := [.int 11579635, .int p1]) (rest := []) ⟨hx, hb, hml, hown, hts⟩ (c_Desk_isIn l G tys 11579635 p1) (va_cwS 2 hts (gdS gd_gd q_514 q_515 q_41 q_516) rfl rfl rfl (by decide +kernel) ⟨Nat.le_of_ble_eq_true rfl, Nat.le_of_ble_eq_true rfl⟩) hE hK hP hD hS hA [] [0, 1, 2, 3, 4, 5] [0, 1, 2, 3, 4, 5] rfl (by decide) rfl (by decide) (by decide) rfl (by decide) rfl hl.1 rfl (Nat.le_of_ble_eq_true rfl) d_Desk_fail_3 ⟨Nat.zero_le _, Nat.zero_le _⟩ (fun H locs hP hD hS => ?_)
  refine lv_if_eq (tgt := 25) hx hb d_Desk_fail_6 (by decide) (fun c_623 => ?_) (fun c_623 => ?_)
  · refine lv_iconst (v := (-1)) hx hb d_Desk_fail_25 (by decide) ?_
    have hk : k_Desk_fail sx sc so shs sgs sy p1 p2 p3 p4 p5 = ((-1), sx, shs, sgs, sy) := (by rw [k_Desk_fail]; rw [if_pos c_623]; try rfl)
    exact ct_ri hx hb hr hlocks hP hD hK hS d_Desk_fail_26 (by rw [hk]; first | done | rfl) (by rw [hk]; first | done | rfl)
  · refine lv_lload hx hb d_Desk_fail_9 (lv_at hl 4 rfl) ?_
    refine lv_lconst (v := 0) hx hb d_Desk_fail_11 (by decide) ?_
    refine W.lcmp hx hb d_Desk_fail_12 ?_
    refine lv_if_lt (tgt := 25) hx hb d_Desk_fail_13 (by decide) (fun c_624 => ?_) (fun c_624 => ?_)
    · refine lv_iconst (v := (-1)) hx hb d_Desk_fail_25 (by decide) ?_
      have hk : k_Desk_fail sx sc so shs sgs sy p1 p2 p3 p4 p5 = ((-1), sx, shs, sgs, sy) := (by rw [k_Desk_fail]; rw [if_neg c_623]; rw [if_pos c_624]; try rfl)
      exact ct_ri hx hb hr hlocks hP hD hK hS d_Desk_fail_26 (by rw [hk]; first | done | rfl) (by rw [hk]; first | done | rfl)
    · refine lv_lload hx hb d_Desk_fail_16 (lv_at hl 4 rfl) ?_
      refine lv_ldc2 (v := 17179869184) hx hb hown (hts _ (gd_sub _ q_553)) d_Desk_fail_18 ?_
      refine W.lcmp hx hb d_Desk_fail_21 ?_
      refine lv_if_lt (tgt := 27) hx hb d_Desk_fail_22 (by decide) (fun c_625 => ?_) (fun c_625 => ?_)
      · refine lv_aload_n hx hb d_Desk_fail_27 rfl (lv_at hl 0 rfl) ?_
        refine va_get (D := G.1) (ci := 5) (v := .ref qo) (C := R_Desk) (T := T_Desk) (N := 8) hx hb hts (fun w h => gd_sub _ (iw_Desk w h)) hown hK hP 0 rfl rfl 1 (by decide) (hts _ (gd_sub _ q_206)) (fun _ h9 => h9) rfl d_Desk_fail_28 ?_
        refine va_get (D := G.1) (ci := 3) (v := .int (bI (so.2.2 5))) (C := R_Outside) (T := T_Outside) (N := 6) hx hb hts (fun w h => gd_sub _ (iw_Outside w h)) hown hK hP 2 rfl rfl 5 (by decide) (hts _ (gd_sub _ q_82)) (fun _ h9 => h9) rfl d_Desk_fail_31 ?_
        refine lv_if_eq (tgt := 40) hx hb d_Desk_fail_34 (by decide) (fun c_626 => ?_) (fun c_626 => ?_)
        · refine lv_ldc (v := 11534336) hx hb hown (hts _ (gd_sub _ q_554)) d_Desk_fail_40 ?_
          refine lv_iload_n hx hb d_Desk_fail_42 rfl (lv_at hl 1 rfl) ?_
          refine ct_cSi (wr := [(qx, .inr (5, f_Desk qc qo qr sx)), (qc, .inr (1, f_Controls qo qhs qgs qy sc)), (qo, .inr (3, f_Outside qa so)), (qhs, .inr (0, f_Bank shs)), (qgs, .inr (0, f_Bank sgs)), (qy, .inr (2, f_Hyper sy))]) (w1 := []) (w2 := [(qx, .inr (5, f_Desk qc qo qr sx)), (qc, .inr (1, f_Controls qo qhs qgs qy sc)), (qo, .inr (3, f_Outside qa so)), (qhs, .inr (0, f_Bank shs)), (qgs, .inr (0, f_Bank sgs)), (qy, .inr (2, f_Hyper sy))]) (r := (bI (k_Desk_isIn 11534336 p1))) (As := [.int 11534336, .int p1]) (rest := []) ⟨hx, hb, hml, hown, hts⟩ (c_Desk_isIn l G tys 11534336 p1) (va_cwS 2 hts (gdS gd_gd q_514 q_515 q_41 q_516) rfl rfl rfl (by decide +kernel) ⟨Nat.le_of_ble_eq_true rfl, Nat.le_of_ble_eq_true rfl⟩) hE hK hP hD hS hA [] [0, 1, 2, 3, 4, 5] [0, 1, 2, 3, 4, 5] rfl (by decide) rfl (by decide) (by decide) rfl (by decide) rfl hl.1 rfl (Nat.le_of_ble_eq_true rfl) d_Desk_fail_43 ⟨Nat.zero_le _, Nat.zero_le _⟩ (fun H locs hP hD hS => ?_)
          refine lv_if_eq (tgt := 76) hx hb d_Desk_fail_46 (by decide) (fun c_627 => ?_) (fun c_627 => ?_)
          · refine lv_aload_n hx hb d_Desk_fail_76 rfl (lv_at hl 0 rfl) ?_
            refine lv_iload_n hx hb d_Desk_fail_77 rfl (lv_at hl 1 rfl) ?_
            refine lv_iload_n hx hb d_Desk_fail_78 rfl (lv_at hl 2 rfl) ?_
            refine lv_iload_n hx hb d_Desk_fail_79 rfl (lv_at hl 3 rfl) ?_
            refine lv_iconst (v := 0) hx hb d_Desk_fail_80 (by decide) ?_
            refine lv_iconst (v := 0) hx hb d_Desk_fail_81 (by decide) ?_
            obtain ⟨sx_628, esx_628⟩ : ∃ z, z = (k_Desk_raise sx sc shs sgs sy p1 p2 p3 0 0).1 := ⟨_, rfl⟩
            obtain ⟨shs_629, eshs_629⟩ : ∃ z, z = (k_Desk_raise sx sc shs sgs sy p1 p2 p3 0 0).2.1 := ⟨_, rfl⟩
            obtain ⟨sgs_630, esgs_630⟩ : ∃ z, z = (k_Desk_raise sx sc shs sgs sy p1 p2 p3 0 0).2.2.1 := ⟨_, rfl⟩
            obtain ⟨sy_631, esy_631⟩ : ∃ z, z = (k_Desk_raise sx sc shs sgs sy p1 p2 p3 0 0).2.2.2 := ⟨_, rfl⟩
            have hM := c_Desk_raise l G tys qx qc qhs qgs qy qo qr sx sc shs sgs sy p1 p2 p3 0 0
            rw [← esx_628, ← eshs_629, ← esgs_630, ← esy_631] at hM
            refine ct_cVv (wr := [(qo, .inr (3, f_Outside qa so))]) (w1 := [(qx, .inr (5, f_Desk qc qo qr sx_628)), (qc, .inr (1, f_Controls qo qhs qgs qy sc)), (qhs, .inr (0, f_Bank shs_629)), (qgs, .inr (0, f_Bank sgs_630)), (qy, .inr (2, f_Hyper sy_631))]) (w2 := [(qx, .inr (5, f_Desk qc qo qr sx_628)), (qc, .inr (1, f_Controls qo qhs qgs qy sc)), (qo, .inr (3, f_Outside qa so)), (qhs, .inr (0, f_Bank shs_629)), (qgs, .inr (0, f_Bank sgs_630)), (qy, .inr (2, f_Hyper sy_631))]) (As := [.int p1, .int p2, .int (bI p3), .int 0, .int 0]) (rest := []) (ci := 5) (q0 := 0) ⟨hx, hb, hml, hown, hts⟩ hM (cwV 5 hts (gdV gd_gd q_510 q_512 q_15 q_41 q_513) rfl rfl rfl (by decide +kernel) ⟨Nat.le_of_ble_eq_true rfl, Nat.le_of_ble_eq_true rfl⟩) hE hK hP hD hS hA [0, 1, 3, 4, 5] [2] [1, 2, 0, 3, 4, 5] rfl (by decide) rfl (by decide) (by decide) rfl (by decide) rfl rfl rfl hl.1 rfl (Nat.le_of_ble_eq_true rfl) d_Desk_fail_82 ⟨Nat.zero_le _, Nat.zero_le _⟩ (fun H locs hP hD hS => ?_)
            refine lv_aload_n hx hb d_Desk_fail_85 rfl (lv_at hl 0 rfl) ?_
            refine va_get (D := G.1) (ci := 5) (v := .int (sx_628.1 3)) (C := R_Desk) (T := T_Desk) (N := 8) hx hb hts (fun w h => gd_sub _ (iw_Desk w h)) hown hK hP 0 rfl rfl 3 (by decide) (hts _ (gd_sub _ q_208)) (fun _ h9 => h9) rfl d_Desk_fail_86 ?_
            have hk : k_Desk_fail sx sc so shs sgs sy p1 p2 p3 p4 p5 = ((sx_628.1 3), sx_628, shs_629, sgs_630, sy_631) := (by rw [k_Desk_fail]; rw [if_neg c_623]; rw [if_neg c_624]; rw [if_pos c_625]; rw [if_pos c_626]; rw [if_pos c_627]; try rw [← esx_628]; try rw [← eshs_629]; try rw [← esgs_630]; try rw [← esy_631]; try rfl)
            exact ct_ri hx hb hr hlocks hP hD hK hS d_Desk_fail_89 (by rw [hk]; first | done | rfl) (by rw [hk]; first | done | rfl)
          · refine lv_aload_n hx hb d_Desk_fail_49 rfl (lv_at hl 0 rfl) ?_
            refine lv_iload_n hx hb d_Desk_fail_50 rfl (lv_at hl 1 rfl) ?_
            refine lv_iload_n hx hb d_Desk_fail_51 rfl (lv_at hl 2 rfl) ?_
            refine lv_iload_n hx hb d_Desk_fail_52 rfl (lv_at hl 3 rfl) ?_
            refine lv_lload hx hb d_Desk_fail_53 (lv_at hl 4 rfl) ?_
            refine lv_iconst (v := 2) hx hb d_Desk_fail_55 (by decide) ?_
            refine lv_lushr (v := (lush p4 2)) hx hb d_Desk_fail_56 rfl ?_
            refine lv_l2i (v := (lush p4 2).toInt32) hx hb d_Desk_fail_57 rfl ?_
            refine lv_iload hx hb d_Desk_fail_58 (lv_at hl 5 rfl) ?_
            refine lv_if_eq (tgt := 69) hx hb d_Desk_fail_60 (by decide) (fun c_632 => ?_) (fun c_632 => ?_)
            · refine lv_iconst (v := 0) hx hb d_Desk_fail_69 (by decide) ?_
              exact J70 0 ((lush p4 2).toInt32) H locs ls (by rw [k_Desk_fail]; rw [if_neg c_623]; rw [if_neg c_624]; rw [if_pos c_625]; rw [if_pos c_626]; rw [if_neg c_627]; rw [if_pos c_632]; try rfl) hP hD hS (lv_sub hl [0, 1, 2, 3, 4, 5] rfl)
            · refine lv_sipush (v := 8192) hx hb d_Desk_fail_63 (by decide) ?_
              refine lv_goto (tgt := 70) hx hb d_Desk_fail_66 (by decide) ?_
              exact J70 8192 ((lush p4 2).toInt32) H locs ls (by rw [k_Desk_fail]; rw [if_neg c_623]; rw [if_neg c_624]; rw [if_pos c_625]; rw [if_pos c_626]; rw [if_neg c_627]; rw [if_neg c_632]; try rfl) hP hD hS (lv_sub hl [0, 1, 2, 3, 4, 5] rfl)
        · refine lv_bipush (v := (-3)) hx hb d_Desk_fail_37 (by decide) ?_
          have hk : k_Desk_fail sx sc so shs sgs sy p1 p2 p3 p4 p5 = ((-3), sx, shs, sgs, sy) := (by rw [k_Desk_fail]; rw [if_neg c_623]; rw [if_neg c_624]; rw [if_pos c_625]; rw [if_neg c_626]; try rfl)
          exact ct_ri hx hb hr hlocks hP hD hK hS d_Desk_fail_39 (by rw [hk]; first | done | rfl) (by rw [hk]; first | done | rfl)
      · refine lv_iconst (v := (-1)) hx hb d_Desk_fail_25 (by decide) ?_
        have hk : k_Desk_fail sx sc so shs sgs sy p1 p2 p3 p4 p5 = ((-1), sx, shs, sgs, sy) := (by rw [k_Desk_fail]; rw [if_neg c_623]; rw [if_neg c_624]; rw [if_neg c_625]; try rfl)
        exact ct_ri hx hb hr hlocks hP hD hK hS d_Desk_fail_26 (by rw [hk]; first | done | rfl) (by rw [hk]; first | done | rfl)
def k_Controls_waitingForS (sc : ob) (so : ob) (sy : ob) : Int32 :=
  (((k_Controls_hostIp sc so) &&& (sc.1 4)) ||| (((sy.1 5) &&& (sy.1 3)) &&& ((sy.1 2) ^^^ (-1))))
set_option maxHeartbeats 4000000 in
set_option maxRecDepth 100000 in
theorem c_Controls_waitingForS (l : Launch) (G : gx) (tys : List (ClassId × FieldType)) (qc qo qy qhs qgs qa : Nat) (sc : ob) (so : ob) (sy : ob) : ct_I l y_Controls_waitingForS ws_Controls_waitingForS ({ frames := 2, cells := 0, slots := 0, locals := 42 }) G tys [.ref qc] [(qc, .inr (1, f_Controls qo qhs qgs qy sc)), (qo, .inr (3, f_Outside qa so)), (qy, .inr (2, f_Hyper sy))] (k_Controls_waitingForS sc so sy) [(qc, .inr (1, f_Controls qo qhs qgs qy sc)), (qo, .inr (3, f_Outside qa so)), (qy, .inr (2, f_Hyper sy))] := by
  refine ct_hI (cc := cc_Controls_waitingForS) (maxL := 1) (ret := (some .int)) (by decide) rfl (Nat.le_of_ble_eq_true rfl) ?_
  intro p e s m below meth c A ls hx hb hr hml hts hown hlocks hP hK hD hA hE hS hl
  have hl : lv_has ls 1 [(0, .ref qc)] := hl
  have hown : s.vm.findClass R_Controls = some m.cls := hown
  refine lv_aload_n hx hb d_Controls_waitingForS_0 rfl (lv_at hl 0 rfl) ?_
  refine ct_cVi (wr := [(qy, .inr (2, f_Hyper sy))]) (w1 := [(qc, .inr (1, f_Controls qo qhs qgs qy sc)), (qo, .inr (3, f_Outside qa so))]) (w2 := [(qc, .inr (1, f_Controls qo qhs qgs qy sc)), (qo, .inr (3, f_Outside qa so)), (qy, .inr (2, f_Hyper sy))]) (r := (k_Controls_hostIp sc so)) (As := []) (rest := []) (ci := 1) (q0 := 0) ⟨hx, hb, hml, hown, hts⟩ (c_Controls_hostIp l G tys qc qo qhs qgs qy qa sc so) (cwV 0 hts (gdV gd_gd q_342 q_343 q_344 q_42 q_345) rfl rfl rfl (by decide +kernel) ⟨Nat.le_of_ble_eq_true rfl, Nat.le_of_ble_eq_true rfl⟩) hE hK hP hD hS hA [0, 1] [2] [1, 2, 0] rfl (by decide) rfl (by decide) (by decide) rfl (by decide) rfl rfl rfl hl.1 rfl (Nat.le_of_ble_eq_true rfl) d_Controls_waitingForS_1 ⟨Nat.zero_le _, Nat.zero_le _⟩ (fun H locs hP hD hS => ?_)
  refine lv_aload_n hx hb d_Controls_waitingForS_4 rfl (lv_at hl 0 rfl) ?_
  refine va_get (D := G.1) (ci := 1) (v := .int (sc.1 4)) (C := R_Controls) (T := T_Controls) (N := 6) hx hb hts (fun w h => gd_sub _ (iw_Controls w h)) hown hK hP 0 rfl rfl 4 (by decide) (hts _ (gd_sub _ q_171)) (fun _ h9 => h9) rfl d_Controls_waitingForS_5 ?_
  refine lv_iand hx hb d_Controls_waitingForS_8 ?_
  refine lv_aload_n hx hb d_Controls_waitingForS_9 rfl (lv_at hl 0 rfl) ?_
  refine va_get (D := G.1) (ci := 1) (v := .ref qy) (C := R_Controls) (T := T_Controls) (N := 6) hx hb hts (fun w h => gd_sub _ (iw_Controls w h)) hown hK hP 0 rfl rfl 3 (by decide) (hts _ (gd_sub _ q_169)) (fun _ h9 => h9) rfl d_Controls_waitingForS_10 ?_
  refine va_get (D := G.1) (ci := 2) (v := .int (sy.1 5)) (C := R_Hyper) (T := T_Hyper) (N := 8) hx hb hts (fun w h => gd_sub _ (iw_Hyper w h)) hown hK hP 2 rfl rfl 5 (by decide) (hts _ (gd_sub _ q_142)) (fun _ h9 => h9) rfl d_Controls_waitingForS_13 ?_
  refine lv_aload_n hx hb d_Controls_waitingForS_16 rfl (lv_at hl 0 rfl) ?_
  refine va_get (D := G.1) (ci := 1) (v := .ref qy) (C := R_Controls) (T := T_Controls) (N := 6) hx hb hts (fun w h => gd_sub _ (iw_Controls w h)) hown hK hP 0 rfl rfl 3 (by decide) (hts _ (gd_sub _ q_169)) (fun _ h9 => h9) rfl d_Controls_waitingForS_17 ?_
  refine va_get (D := G.1) (ci := 2) (v := .int (sy.1 3)) (C := R_Hyper) (T := T_Hyper) (N := 8) hx hb hts (fun w h => gd_sub _ (iw_Hyper w h)) hown hK hP 2 rfl rfl 3 (by decide) (hts _ (gd_sub _ q_138)) (fun _ h9 => h9) rfl d_Controls_waitingForS_20 ?_
  refine lv_iand hx hb d_Controls_waitingForS_23 ?_
  refine lv_aload_n hx hb d_Controls_waitingForS_24 rfl (lv_at hl 0 rfl) ?_
  refine va_get (D := G.1) (ci := 1) (v := .ref qy) (C := R_Controls) (T := T_Controls) (N := 6) hx hb hts (fun w h => gd_sub _ (iw_Controls w h)) hown hK hP 0 rfl rfl 3 (by decide) (hts _ (gd_sub _ q_169)) (fun _ h9 => h9) rfl d_Controls_waitingForS_25 ?_
  refine va_get (D := G.1) (ci := 2) (v := .int (sy.1 2)) (C := R_Hyper) (T := T_Hyper) (N := 8) hx hb hts (fun w h => gd_sub _ (iw_Hyper w h)) hown hK hP 2 rfl rfl 2 (by decide) (hts _ (gd_sub _ q_136)) (fun _ h9 => h9) rfl d_Controls_waitingForS_28 ?_
  refine lv_iconst (v := (-1)) hx hb d_Controls_waitingForS_31 (by decide) ?_
  refine lv_ixor hx hb d_Controls_waitingForS_32 ?_
  refine lv_iand hx hb d_Controls_waitingForS_33 ?_
  refine lv_ior hx hb d_Controls_waitingForS_34 ?_
  have hk : k_Controls_waitingForS sc so sy = (((k_Controls_hostIp sc so) &&& (sc.1 4)) ||| (((sy.1 5) &&& (sy.1 3)) &&& ((sy.1 2) ^^^ (-1)))) := (by rw [k_Controls_waitingForS]; try rfl)
  exact ct_ri hx hb hr hlocks hP hD hK hS d_Controls_waitingForS_35 (by rw [hk]; first | done | rfl) rfl
def k_Desk_firstOf_S (p2 : Int32) : Int32 :=
  if (bI (k_Desk_isIn p2 9)) = 0 then (if (bI (k_Desk_isIn p2 1)) = 0 then (if (bI (k_Desk_isIn p2 5)) = 0 then (if (bI (k_Desk_isIn p2 10)) = 0 then (if (bI (k_Desk_isIn p2 2)) = 0 then (if (bI (k_Desk_isIn p2 6)) = 0 then (-1) else 6) else 2) else 10) else 5) else 1) else 9
set_option maxHeartbeats 4000000 in
set_option maxRecDepth 100000 in
theorem c_Desk_firstOf_S (l : Launch) (G : gx) (tys : List (ClassId × FieldType)) (p2 : Int32) : ct_I l y_Desk_firstOf ws_Desk_firstOf ({ frames := 1, cells := 0, slots := 0, locals := 21 }) G tys [.ref G.2.1, .int p2] [] (k_Desk_firstOf_S p2) [] := by
  refine ct_hI (cc := cc_Desk_firstOf) (maxL := 3) (ret := (some .int)) (by decide) rfl (Nat.le_of_ble_eq_true rfl) ?_
  intro p e s m below meth c A ls hx hb hr hml hts hown hlocks hP hK hD hA hE hS hl
  have hl : lv_has ls 3 [(0, .ref G.2.1), (1, .int p2)] := hl
  have hown : s.vm.findClass R_Desk = some m.cls := hown
  refine lv_iconst (v := 0) hx hb d_Desk_firstOf_0 (by decide) ?_
  refine lv_istore_n (lv' := [(2, .int 0), (0, .ref G.2.1), (1, .int p2)]) hx hb d_Desk_firstOf_1 rfl hl (by decide) rfl (fun ls hl => ?_)
  refine lv_iload_n hx hb d_Desk_firstOf_2 rfl (lv_at hl 0 rfl) ?_
  refine lv_aload_n hx hb d_Desk_firstOf_3 rfl (lv_at hl 1 rfl) ?_
  refine va_tlen (v := 6) hx hb hE.2.1 hS (by decide) d_Desk_firstOf_4 ?_
  refine lv_icmp_ge (tgt := 28) hx hb d_Desk_firstOf_5 (by decide) (fun c9 => absurd c9 (by decide)) (fun _ => ?_)
  refine lv_iload_n hx hb d_Desk_firstOf_8 rfl (lv_at hl 2 rfl) ?_
  refine lv_aload_n hx hb d_Desk_firstOf_9 rfl (lv_at hl 1 rfl) ?_
  refine lv_iload_n hx hb d_Desk_firstOf_10 rfl (lv_at hl 0 rfl) ?_
  refine va_ti (v := .int 9) hx hb hE.2.1 hS (by unfold vp_in; decide) rfl d_Desk_firstOf_11 ?_
  refine ct_cSi (wr := []) (w1 := []) (w2 := []) (r := (bI (k_Desk_isIn p2 9))) (As := [.int p2, .int 9]) (rest := []) ⟨hx, hb, hml, hown, hts⟩ (c_Desk_isIn l G tys p2 9) (va_cwS 2 hts (gdS gd_gd q_514 q_515 q_41 q_516) rfl rfl rfl (by decide +kernel) ⟨Nat.le_of_ble_eq_true rfl, Nat.le_of_ble_eq_true rfl⟩) hE hK hP hD hS hA [] [] [] rfl (by decide) rfl (by decide) (by decide) rfl (by decide) rfl hl.1 rfl (Nat.le_of_ble_eq_true rfl) d_Desk_firstOf_12 ⟨Nat.zero_le _, Nat.zero_le _⟩ (fun H locs hP hD hS => ?_)
  refine lv_if_eq (tgt := 22) hx hb d_Desk_firstOf_15 (by decide) (fun c_650 => ?_) (fun c_650 => ?_)
  · refine lv_iinc (v := 1) (lv' := [(2, .int 1), (0, .ref G.2.1), (1, .int p2)]) hx hb d_Desk_firstOf_22 hl (k := 0) rfl (by decide) (by decide) rfl (fun ls hl => ?_)
    refine lv_goto (tgt := 2) hx hb d_Desk_firstOf_25 (by decide) ?_
    refine lv_iload_n hx hb d_Desk_firstOf_2 rfl (lv_at hl 0 rfl) ?_
    refine lv_aload_n hx hb d_Desk_firstOf_3 rfl (lv_at hl 1 rfl) ?_
    refine va_tlen (v := 6) hx hb hE.2.1 hS (by decide) d_Desk_firstOf_4 ?_
    refine lv_icmp_ge (tgt := 28) hx hb d_Desk_firstOf_5 (by decide) (fun c9 => absurd c9 (by decide)) (fun _ => ?_)
    refine lv_iload_n hx hb d_Desk_firstOf_8 rfl (lv_at hl 2 rfl) ?_
    refine lv_aload_n hx hb d_Desk_firstOf_9 rfl (lv_at hl 1 rfl) ?_
    refine lv_iload_n hx hb d_Desk_firstOf_10 rfl (lv_at hl 0 rfl) ?_
    refine va_ti (v := .int 1) hx hb hE.2.1 hS (by unfold vp_in; decide) rfl d_Desk_firstOf_11 ?_
    refine ct_cSi (wr := []) (w1 := []) (w2 := []) (r := (bI (k_Desk_isIn p2 1))) (As := [.int p2, .int 1]) (rest := []) ⟨hx, hb, hml, hown, hts⟩ (c_Desk_isIn l G tys p2 1) (va_cwS 2 hts (gdS gd_gd q_514 q_515 q_41 q_516) rfl rfl rfl (by decide +kernel) ⟨Nat.le_of_ble_eq_true rfl, Nat.le_of_ble_eq_true rfl⟩) hE hK hP hD hS hA [] [] [] rfl (by decide) rfl (by decide) (by decide) rfl (by decide) rfl hl.1 rfl (Nat.le_of_ble_eq_true rfl) d_Desk_firstOf_12 ⟨Nat.zero_le _, Nat.zero_le _⟩ (fun H locs hP hD hS => ?_)
    refine lv_if_eq (tgt := 22) hx hb d_Desk_firstOf_15 (by decide) (fun c_652 => ?_) (fun c_652 => ?_)
    · refine lv_iinc (v := 2) (lv' := [(2, .int 2), (0, .ref G.2.1), (1, .int p2)]) hx hb d_Desk_firstOf_22 hl (k := 0) rfl (by decide) (by decide) rfl (fun ls hl => ?_)
      refine lv_goto (tgt := 2) hx hb d_Desk_firstOf_25 (by decide) ?_
      refine lv_iload_n hx hb d_Desk_firstOf_2 rfl (lv_at hl 0 rfl) ?_
      refine lv_aload_n hx hb d_Desk_firstOf_3 rfl (lv_at hl 1 rfl) ?_
      refine va_tlen (v := 6) hx hb hE.2.1 hS (by decide) d_Desk_firstOf_4 ?_
      refine lv_icmp_ge (tgt := 28) hx hb d_Desk_firstOf_5 (by decide) (fun c9 => absurd c9 (by decide)) (fun _ => ?_)
      refine lv_iload_n hx hb d_Desk_firstOf_8 rfl (lv_at hl 2 rfl) ?_
      refine lv_aload_n hx hb d_Desk_firstOf_9 rfl (lv_at hl 1 rfl) ?_
      refine lv_iload_n hx hb d_Desk_firstOf_10 rfl (lv_at hl 0 rfl) ?_
      refine va_ti (v := .int 5) hx hb hE.2.1 hS (by unfold vp_in; decide) rfl d_Desk_firstOf_11 ?_
      refine ct_cSi (wr := []) (w1 := []) (w2 := []) (r := (bI (k_Desk_isIn p2 5))) (As := [.int p2, .int 5]) (rest := []) ⟨hx, hb, hml, hown, hts⟩ (c_Desk_isIn l G tys p2 5) (va_cwS 2 hts (gdS gd_gd q_514 q_515 q_41 q_516) rfl rfl rfl (by decide +kernel) ⟨Nat.le_of_ble_eq_true rfl, Nat.le_of_ble_eq_true rfl⟩) hE hK hP hD hS hA [] [] [] rfl (by decide) rfl (by decide) (by decide) rfl (by decide) rfl hl.1 rfl (Nat.le_of_ble_eq_true rfl) d_Desk_firstOf_12 ⟨Nat.zero_le _, Nat.zero_le _⟩ (fun H locs hP hD hS => ?_)
      refine lv_if_eq (tgt := 22) hx hb d_Desk_firstOf_15 (by decide) (fun c_654 => ?_) (fun c_654 => ?_)
      · refine lv_iinc (v := 3) (lv' := [(2, .int 3), (0, .ref G.2.1), (1, .int p2)]) hx hb d_Desk_firstOf_22 hl (k := 0) rfl (by decide) (by decide) rfl (fun ls hl => ?_)
        refine lv_goto (tgt := 2) hx hb d_Desk_firstOf_25 (by decide) ?_
        refine lv_iload_n hx hb d_Desk_firstOf_2 rfl (lv_at hl 0 rfl) ?_
        refine lv_aload_n hx hb d_Desk_firstOf_3 rfl (lv_at hl 1 rfl) ?_
        refine va_tlen (v := 6) hx hb hE.2.1 hS (by decide) d_Desk_firstOf_4 ?_
        refine lv_icmp_ge (tgt := 28) hx hb d_Desk_firstOf_5 (by decide) (fun c9 => absurd c9 (by decide)) (fun _ => ?_)
        refine lv_iload_n hx hb d_Desk_firstOf_8 rfl (lv_at hl 2 rfl) ?_
        refine lv_aload_n hx hb d_Desk_firstOf_9 rfl (lv_at hl 1 rfl) ?_
        refine lv_iload_n hx hb d_Desk_firstOf_10 rfl (lv_at hl 0 rfl) ?_
        refine va_ti (v := .int 10) hx hb hE.2.1 hS (by unfold vp_in; decide) rfl d_Desk_firstOf_11 ?_
        refine ct_cSi (wr := []) (w1 := []) (w2 := []) (r := (bI (k_Desk_isIn p2 10))) (As := [.int p2, .int 10]) (rest := []) ⟨hx, hb, hml, hown, hts⟩ (c_Desk_isIn l G tys p2 10) (va_cwS 2 hts (gdS gd_gd q_514 q_515 q_41 q_516) rfl rfl rfl (by decide +kernel) ⟨Nat.le_of_ble_eq_true rfl, Nat.le_of_ble_eq_true rfl⟩) hE hK hP hD hS hA [] [] [] rfl (by decide) rfl (by decide) (by decide) rfl (by decide) rfl hl.1 rfl (Nat.le_of_ble_eq_true rfl) d_Desk_firstOf_12 ⟨Nat.zero_le _, Nat.zero_le _⟩ (fun H locs hP hD hS => ?_)
        refine lv_if_eq (tgt := 22) hx hb d_Desk_firstOf_15 (by decide) (fun c_656 => ?_) (fun c_656 => ?_)
        · refine lv_iinc (v := 4) (lv' := [(2, .int 4), (0, .ref G.2.1), (1, .int p2)]) hx hb d_Desk_firstOf_22 hl (k := 0) rfl (by decide) (by decide) rfl (fun ls hl => ?_)
          refine lv_goto (tgt := 2) hx hb d_Desk_firstOf_25 (by decide) ?_
          refine lv_iload_n hx hb d_Desk_firstOf_2 rfl (lv_at hl 0 rfl) ?_
          refine lv_aload_n hx hb d_Desk_firstOf_3 rfl (lv_at hl 1 rfl) ?_
          refine va_tlen (v := 6) hx hb hE.2.1 hS (by decide) d_Desk_firstOf_4 ?_
          refine lv_icmp_ge (tgt := 28) hx hb d_Desk_firstOf_5 (by decide) (fun c9 => absurd c9 (by decide)) (fun _ => ?_)
          refine lv_iload_n hx hb d_Desk_firstOf_8 rfl (lv_at hl 2 rfl) ?_
          refine lv_aload_n hx hb d_Desk_firstOf_9 rfl (lv_at hl 1 rfl) ?_
          refine lv_iload_n hx hb d_Desk_firstOf_10 rfl (lv_at hl 0 rfl) ?_
          refine va_ti (v := .int 2) hx hb hE.2.1 hS (by unfold vp_in; decide) rfl d_Desk_firstOf_11 ?_
          refine ct_cSi (wr := []) (w1 := []) (w2 := []) (r := (bI (k_Desk_isIn p2 2))) (As := [.int p2, .int 2]) (rest := []) ⟨hx, hb, hml, hown, hts⟩ (c_Desk_isIn l G tys p2 2) (va_cwS 2 hts (gdS gd_gd q_514 q_515 q_41 q_516) rfl rfl rfl (by decide +kernel) ⟨Nat.le_of_ble_eq_true rfl, Nat.le_of_ble_eq_true rfl⟩) hE hK hP hD hS hA [] [] [] rfl (by decide) rfl (by decide) (by decide) rfl (by decide) rfl hl.1 rfl (Nat.le_of_ble_eq_true rfl) d_Desk_firstOf_12 ⟨Nat.zero_le _, Nat.zero_le _⟩ (fun H locs hP hD hS => ?_)
          refine lv_if_eq (tgt := 22) hx hb d_Desk_firstOf_15 (by decide) (fun c_658 => ?_) (fun c_658 => ?_)
          · refine lv_iinc (v := 5) (lv' := [(2, .int 5), (0, .ref G.2.1), (1, .int p2)]) hx hb d_Desk_firstOf_22 hl (k := 0) rfl (by decide) (by decide) rfl (fun ls hl => ?_)
            refine lv_goto (tgt := 2) hx hb d_Desk_firstOf_25 (by decide) ?_
            refine lv_iload_n hx hb d_Desk_firstOf_2 rfl (lv_at hl 0 rfl) ?_
            refine lv_aload_n hx hb d_Desk_firstOf_3 rfl (lv_at hl 1 rfl) ?_
            refine va_tlen (v := 6) hx hb hE.2.1 hS (by decide) d_Desk_firstOf_4 ?_
            refine lv_icmp_ge (tgt := 28) hx hb d_Desk_firstOf_5 (by decide) (fun c9 => absurd c9 (by decide)) (fun _ => ?_)
            refine lv_iload_n hx hb d_Desk_firstOf_8 rfl (lv_at hl 2 rfl) ?_
            refine lv_aload_n hx hb d_Desk_firstOf_9 rfl (lv_at hl 1 rfl) ?_
            refine lv_iload_n hx hb d_Desk_firstOf_10 rfl (lv_at hl 0 rfl) ?_
            refine va_ti (v := .int 6) hx hb hE.2.1 hS (by unfold vp_in; decide) rfl d_Desk_firstOf_11 ?_
            refine ct_cSi (wr := []) (w1 := []) (w2 := []) (r := (bI (k_Desk_isIn p2 6))) (As := [.int p2, .int 6]) (rest := []) ⟨hx, hb, hml, hown, hts⟩ (c_Desk_isIn l G tys p2 6) (va_cwS 2 hts (gdS gd_gd q_514 q_515 q_41 q_516) rfl rfl rfl (by decide +kernel) ⟨Nat.le_of_ble_eq_true rfl, Nat.le_of_ble_eq_true rfl⟩) hE hK hP hD hS hA [] [] [] rfl (by decide) rfl (by decide) (by decide) rfl (by decide) rfl hl.1 rfl (Nat.le_of_ble_eq_true rfl) d_Desk_firstOf_12 ⟨Nat.zero_le _, Nat.zero_le _⟩ (fun H locs hP hD hS => ?_)
            refine lv_if_eq (tgt := 22) hx hb d_Desk_firstOf_15 (by decide) (fun c_660 => ?_) (fun c_660 => ?_)
            · refine lv_iinc (v := 6) (lv' := [(2, .int 6), (0, .ref G.2.1), (1, .int p2)]) hx hb d_Desk_firstOf_22 hl (k := 0) rfl (by decide) (by decide) rfl (fun ls hl => ?_)
              refine lv_goto (tgt := 2) hx hb d_Desk_firstOf_25 (by decide) ?_
              refine lv_iload_n hx hb d_Desk_firstOf_2 rfl (lv_at hl 0 rfl) ?_
              refine lv_aload_n hx hb d_Desk_firstOf_3 rfl (lv_at hl 1 rfl) ?_
              refine va_tlen (v := 6) hx hb hE.2.1 hS (by decide) d_Desk_firstOf_4 ?_
              refine lv_icmp_ge (tgt := 28) hx hb d_Desk_firstOf_5 (by decide) (fun _ => ?_) (fun c9 => absurd c9 (by decide))
              refine lv_iconst (v := (-1)) hx hb d_Desk_firstOf_28 (by decide) ?_
              have hk : k_Desk_firstOf_S p2 = (-1) := (by rw [k_Desk_firstOf_S]; rw [if_pos c_650]; rw [if_pos c_652]; rw [if_pos c_654]; rw [if_pos c_656]; rw [if_pos c_658]; rw [if_pos c_660]; try rfl)
              exact ct_ri hx hb hr hlocks hP hD hK hS d_Desk_firstOf_29 (by rw [hk]; first | done | rfl) rfl
            · refine lv_aload_n hx hb d_Desk_firstOf_18 rfl (lv_at hl 1 rfl) ?_
              refine lv_iload_n hx hb d_Desk_firstOf_19 rfl (lv_at hl 0 rfl) ?_
              refine va_ti (v := .int 6) hx hb hE.2.1 hS (by unfold vp_in; decide) rfl d_Desk_firstOf_20 ?_
              have hk : k_Desk_firstOf_S p2 = 6 := (by rw [k_Desk_firstOf_S]; rw [if_pos c_650]; rw [if_pos c_652]; rw [if_pos c_654]; rw [if_pos c_656]; rw [if_pos c_658]; rw [if_neg c_660]; try rfl)
              exact ct_ri hx hb hr hlocks hP hD hK hS d_Desk_firstOf_21 (by rw [hk]; first | done | rfl) rfl
          · refine lv_aload_n hx hb d_Desk_firstOf_18 rfl (lv_at hl 1 rfl) ?_
            refine lv_iload_n hx hb d_Desk_firstOf_19 rfl (lv_at hl 0 rfl) ?_
            refine va_ti (v := .int 2) hx hb hE.2.1 hS (by unfold vp_in; decide) rfl d_Desk_firstOf_20 ?_
            have hk : k_Desk_firstOf_S p2 = 2 := (by rw [k_Desk_firstOf_S]; rw [if_pos c_650]; rw [if_pos c_652]; rw [if_pos c_654]; rw [if_pos c_656]; rw [if_neg c_658]; try rfl)
            exact ct_ri hx hb hr hlocks hP hD hK hS d_Desk_firstOf_21 (by rw [hk]; first | done | rfl) rfl
        · refine lv_aload_n hx hb d_Desk_firstOf_18 rfl (lv_at hl 1 rfl) ?_
          refine lv_iload_n hx hb d_Desk_firstOf_19 rfl (lv_at hl 0 rfl) ?_
          refine va_ti (v := .int 10) hx hb hE.2.1 hS (by unfold vp_in; decide) rfl d_Desk_firstOf_20 ?_
          have hk : k_Desk_firstOf_S p2 = 10 := (by rw [k_Desk_firstOf_S]; rw [if_pos c_650]; rw [if_pos c_652]; rw [if_pos c_654]; rw [if_neg c_656]; try rfl)
          exact ct_ri hx hb hr hlocks hP hD hK hS d_Desk_firstOf_21 (by rw [hk]; first | done | rfl) rfl
      · refine lv_aload_n hx hb d_Desk_firstOf_18 rfl (lv_at hl 1 rfl) ?_
        refine lv_iload_n hx hb d_Desk_firstOf_19 rfl (lv_at hl 0 rfl) ?_
        refine va_ti (v := .int 5) hx hb hE.2.1 hS (by unfold vp_in; decide) rfl d_Desk_firstOf_20 ?_
        have hk : k_Desk_firstOf_S p2 = 5 := (by rw [k_Desk_firstOf_S]; rw [if_pos c_650]; rw [if_pos c_652]; rw [if_neg c_654]; try rfl)
        exact ct_ri hx hb hr hlocks hP hD hK hS d_Desk_firstOf_21 (by rw [hk]; first | done | rfl) rfl
    · refine lv_aload_n hx hb d_Desk_firstOf_18 rfl (lv_at hl 1 rfl) ?_
      refine lv_iload_n hx hb d_Desk_firstOf_19 rfl (lv_at hl 0 rfl) ?_
      refine va_ti (v := .int 1) hx hb hE.2.1 hS (by unfold vp_in; decide) rfl d_Desk_firstOf_20 ?_
      have hk : k_Desk_firstOf_S p2 = 1 := (by rw [k_Desk_firstOf_S]; rw [if_pos c_650]; rw [if_neg c_652]; try rfl)
      exact ct_ri hx hb hr hlocks hP hD hK hS d_Desk_firstOf_21 (by rw [hk]; first | done | rfl) rfl
  · refine lv_aload_n hx hb d_Desk_firstOf_18 rfl (lv_at hl 1 rfl) ?_
    refine lv_iload_n hx hb d_Desk_firstOf_19 rfl (lv_at hl 0 rfl) ?_
    refine va_ti (v := .int 9) hx hb hE.2.1 hS (by unfold vp_in; decide) rfl d_Desk_firstOf_20 ?_
    have hk : k_Desk_firstOf_S p2 = 9 := (by rw [k_Desk_firstOf_S]; rw [if_neg c_650]; try rfl)
    exact ct_ri hx hb hr hlocks hP hD hK hS d_Desk_firstOf_21 (by rw [hk]; first | done | rfl) rfl
def k_Desk_dueForS_j23 (sx : ob) (sc : ob) (so : ob) (shs : ob) (sy : ob) : Int32 :=
  (k_Desk_firstOf_S (k_Controls_waitingForS sc so sy))
def k_Desk_dueForS (sx : ob) (sc : ob) (so : ob) (shs : ob) (sy : ob) : Int32 :=
  if (sx.1 3) = 1 then (if (bI (k_Bank_hasInterruptsOn shs)) = 0 then (-1) else (k_Desk_dueForS_j23 sx sc so shs sy)) else (k_Desk_dueForS_j23 sx sc so shs sy)
set_option maxHeartbeats 4000000 in
set_option maxRecDepth 100000 in
theorem c_Desk_dueForS (l : Launch) (G : gx) (tys : List (ClassId × FieldType)) (qx qc qo qhs qy qr qgs qa : Nat) (sx : ob) (sc : ob) (so : ob) (shs : ob) (sy : ob) : ct_I l y_Desk_dueForS ws_Desk_dueForS ({ frames := 3, cells := 0, slots := 0, locals := 62 }) G tys [.ref qx] [(qx, .inr (5, f_Desk qc qo qr sx)), (qc, .inr (1, f_Controls qo qhs qgs qy sc)), (qo, .inr (3, f_Outside qa so)), (qhs, .inr (0, f_Bank shs)), (qy, .inr (2, f_Hyper sy))] (k_Desk_dueForS sx sc so shs sy) [(qx, .inr (5, f_Desk qc qo qr sx)), (qc, .inr (1, f_Controls qo qhs qgs qy sc)), (qo, .inr (3, f_Outside qa so)), (qhs, .inr (0, f_Bank shs)), (qy, .inr (2, f_Hyper sy))] := by
  refine ct_hI (cc := cc_Desk_dueForS) (maxL := 1) (ret := (some .int)) (by decide) rfl (Nat.le_of_ble_eq_true rfl) ?_
  intro p e s m below meth c A ls hx hb hr hml hts hown hlocks hP hK hD hA hE hS hl
  have hl : lv_has ls 1 [(0, .ref qx)] := hl
  have hown : s.vm.findClass R_Desk = some m.cls := hown
  have J23 : ∀ (H : Heap) (locs : List Loc) (ls : Array Slot), k_Desk_dueForS sx sc so shs sy = k_Desk_dueForS_j23 sx sc so shs sy → va_P G.1 vwCl [(qx, .inr (5, f_Desk qc qo qr sx)), (qc, .inr (1, f_Controls qo qhs qgs qy sc)), (qo, .inr (3, f_Outside qa so)), (qhs, .inr (0, f_Bank shs)), (qy, .inr (2, f_Hyper sy))] H → va_D A [(qx, .inr (5, f_Desk qc qo qr sx)), (qc, .inr (1, f_Controls qo qhs qgs qy sc)), (qo, .inr (3, f_Outside qa so)), (qhs, .inr (0, f_Bank shs)), (qy, .inr (2, f_Hyper sy))] → va_S A s.heap H locs → lv_has ls 1 [(0, .ref qx)] → W p l e ({ frames := 3, cells := 0, slots := 0, locals := 62 }) s m ([.ref qx] : List Value).toArray below meth c H locs 0 0 (MQ below (ct_qi G tys A (k_Desk_dueForS sx sc so shs sy) [(qx, .inr (5, f_Desk qc qo qr sx)), (qc, .inr (1, f_Controls qo qhs qgs qy sc)), (qo, .inr (3, f_Outside qa so)), (qhs, .inr (0, f_Bank shs)), (qy, .inr (2, f_Hyper sy))]) ([.ref qx] : List Value).toArray s 0 0 A) (F0 m 23 ls []) := by
    intro H locs ls hj hP hD hS hl
    refine va_gets hx hb hE.1 hS hown (hts _ (gd_sub _ q_564)) (fun _ h9 => h9) d_Desk_dueForS_23 ?_
    refine lv_aload_n hx hb d_Desk_dueForS_26 rfl (lv_at hl 0 rfl) ?_
    refine va_get (D := G.1) (ci := 5) (v := .ref qc) (C := R_Desk) (T := T_Desk) (N := 8) hx hb hts (fun w h => gd_sub _ (iw_Desk w h)) hown hK hP 0 rfl rfl 0 (by decide) (hts _ (gd_sub _ q_205)) (fun _ h9 => h9) rfl d_Desk_dueForS_27 ?_
    refine ct_cVi (wr := [(qx, .inr (5, f_Desk qc qo qr sx)), (qhs, .inr (0, f_Bank shs))]) (w1 := [(qc, .inr (1, f_Controls qo qhs qgs qy sc)), (qo, .inr (3, f_Outside qa so)), (qy, .inr (2, f_Hyper sy))]) (w2 := [(qx, .inr (5, f_Desk qc qo qr sx)), (qc, .inr (1, f_Controls qo qhs qgs qy sc)), (qo, .inr (3, f_Outside qa so)), (qhs, .inr (0, f_Bank shs)), (qy, .inr (2, f_Hyper sy))]) (r := (k_Controls_waitingForS sc so sy)) (As := []) (rest := [.ref G.2.1]) (ci := 1) (q0 := 0) ⟨hx, hb, hml, hown, hts⟩ (c_Controls_waitingForS l G tys qc qo qy qhs qgs qa sc so sy) (cwV 0 hts (gdV gd_gd q_566 q_567 q_568 q_42 q_569) rfl rfl rfl (by decide +kernel) ⟨Nat.le_of_ble_eq_true rfl, Nat.le_of_ble_eq_true rfl⟩) hE hK hP hD hS hA [1, 2, 4] [0, 3] [0, 2, 3, 1, 4] rfl (by decide) rfl (by decide) (by decide) rfl (by decide) rfl rfl rfl hl.1 rfl (Nat.le_of_ble_eq_true rfl) d_Desk_dueForS_30 ⟨Nat.zero_le _, Nat.zero_le _⟩ (fun H locs hP hD hS => ?_)
    refine ct_cSi (wr := [(qx, .inr (5, f_Desk qc qo qr sx)), (qc, .inr (1, f_Controls qo qhs qgs qy sc)), (qo, .inr (3, f_Outside qa so)), (qhs, .inr (0, f_Bank shs)), (qy, .inr (2, f_Hyper sy))]) (w1 := []) (w2 := [(qx, .inr (5, f_Desk qc qo qr sx)), (qc, .inr (1, f_Controls qo qhs qgs qy sc)), (qo, .inr (3, f_Outside qa so)), (qhs, .inr (0, f_Bank shs)), (qy, .inr (2, f_Hyper sy))]) (r := (k_Desk_firstOf_S (k_Controls_waitingForS sc so sy))) (As := [.ref G.2.1, .int (k_Controls_waitingForS sc so sy)]) (rest := []) ⟨hx, hb, hml, hown, hts⟩ (c_Desk_firstOf_S l G tys (k_Controls_waitingForS sc so sy)) (va_cwS 2 hts (gdS gd_gd q_570 q_571 q_41 q_572) rfl rfl rfl (by decide +kernel) ⟨Nat.le_of_ble_eq_true rfl, Nat.le_of_ble_eq_true rfl⟩) hE hK hP hD hS hA [] [0, 1, 2, 3, 4] [0, 1, 2, 3, 4] rfl (by decide) rfl (by decide) (by decide) rfl (by decide) rfl hl.1 rfl (Nat.le_of_ble_eq_true rfl) d_Desk_dueForS_33 ⟨Nat.zero_le _, Nat.zero_le _⟩ (fun H locs hP hD hS => ?_)
    have hk : k_Desk_dueForS sx sc so shs sy = (k_Desk_firstOf_S (k_Controls_waitingForS sc so sy)) := (hj.trans (by rw [k_Desk_dueForS_j23]; try rfl))
    exact ct_ri hx hb hr hlocks hP hD hK hS d_Desk_dueForS_36 (by rw [hk]; first | done | rfl) rfl
  obtain ⟨H, eH⟩ : ∃ z, z = s.heap := ⟨_, rfl⟩
  obtain ⟨locs, eL⟩ : ∃ z, z = ([] : List Loc) := ⟨_, rfl⟩
  have hP : va_P G.1 vwCl [(qx, .inr (5, f_Desk qc qo qr sx)), (qc, .inr (1, f_Controls qo qhs qgs qy sc)), (qo, .inr (3, f_Outside qa so)), (qhs, .inr (0, f_Bank shs)), (qy, .inr (2, f_Hyper sy))] H := by rw [eH]; exact hP
  have hS : va_S A s.heap H locs := by rw [eH, eL]; exact hS
  suffices hW : W p l e ({ frames := 3, cells := 0, slots := 0, locals := 62 }) s m ([.ref qx] : List Value).toArray below meth c H locs 0 0 (MQ below (ct_qi G tys A (k_Desk_dueForS sx sc so shs sy) [(qx, .inr (5, f_Desk qc qo qr sx)), (qc, .inr (1, f_Controls qo qhs qgs qy sc)), (qo, .inr (3, f_Outside qa so)), (qhs, .inr (0, f_Bank shs)), (qy, .inr (2, f_Hyper sy))]) ([.ref qx] : List Value).toArray s 0 0 A) (F0 m 0 ls []) by rw [eH, eL] at hW; exact hW
  refine lv_aload_n hx hb d_Desk_dueForS_0 rfl (lv_at hl 0 rfl) ?_
  refine va_get (D := G.1) (ci := 5) (v := .int (sx.1 3)) (C := R_Desk) (T := T_Desk) (N := 8) hx hb hts (fun w h => gd_sub _ (iw_Desk w h)) hown hK hP 0 rfl rfl 3 (by decide) (hts _ (gd_sub _ q_208)) (fun _ h9 => h9) rfl d_Desk_dueForS_1 ?_
  refine lv_iconst (v := 1) hx hb d_Desk_dueForS_4 (by decide) ?_
  refine lv_icmp_ne (tgt := 23) hx hb d_Desk_dueForS_5 (by decide) (fun c_662 => ?_) (fun c_662 => ?_)
  · exact J23 H locs ls (by rw [k_Desk_dueForS]; rw [if_neg c_662]; try rfl) hP hD hS (lv_sub hl [0] rfl)
  · refine lv_aload_n hx hb d_Desk_dueForS_8 rfl (lv_at hl 0 rfl) ?_
    refine va_get (D := G.1) (ci := 5) (v := .ref qc) (C := R_Desk) (T := T_Desk) (N := 8) hx hb hts (fun w h => gd_sub _ (iw_Desk w h)) hown hK hP 0 rfl rfl 0 (by decide) (hts _ (gd_sub _ q_205)) (fun _ h9 => h9) rfl d_Desk_dueForS_9 ?_
    refine va_get (D := G.1) (ci := 1) (v := .ref qhs) (C := R_Controls) (T := T_Controls) (N := 6) hx hb hts (fun w h => gd_sub _ (iw_Controls w h)) hown hK hP 1 rfl rfl 1 (by decide) (hts _ (gd_sub _ q_166)) (fun _ h9 => h9) rfl d_Desk_dueForS_12 ?_
    refine ct_cVi (wr := [(qx, .inr (5, f_Desk qc qo qr sx)), (qc, .inr (1, f_Controls qo qhs qgs qy sc)), (qo, .inr (3, f_Outside qa so)), (qy, .inr (2, f_Hyper sy))]) (w1 := [(qhs, .inr (0, f_Bank shs))]) (w2 := [(qx, .inr (5, f_Desk qc qo qr sx)), (qc, .inr (1, f_Controls qo qhs qgs qy sc)), (qo, .inr (3, f_Outside qa so)), (qhs, .inr (0, f_Bank shs)), (qy, .inr (2, f_Hyper sy))]) (r := (bI (k_Bank_hasInterruptsOn shs))) (As := []) (rest := []) (ci := 0) (q0 := 0) ⟨hx, hb, hml, hown, hts⟩ (c_Bank_hasInterruptsOn l G tys qhs shs) (cwV 0 hts (gdV gd_gd q_563 q_530 q_531 q_44 q_532) rfl rfl rfl (by decide +kernel) ⟨Nat.le_of_ble_eq_true rfl, Nat.le_of_ble_eq_true rfl⟩) hE hK hP hD hS hA [3] [0, 1, 2, 4] [0, 1, 2, 4, 3] rfl (by decide) rfl (by decide) (by decide) rfl (by decide) rfl rfl rfl hl.1 rfl (Nat.le_of_ble_eq_true rfl) d_Desk_dueForS_15 ⟨Nat.zero_le _, Nat.zero_le _⟩ (fun H locs hP hD hS => ?_)
    refine lv_if_ne (tgt := 23) hx hb d_Desk_dueForS_18 (by decide) (fun c_663 => ?_) (fun c_663 => ?_)
    · exact J23 H locs ls (by rw [k_Desk_dueForS]; rw [if_pos c_662]; rw [if_neg c_663]; try rfl) hP hD hS (lv_sub hl [0] rfl)
    · refine lv_iconst (v := (-1)) hx hb d_Desk_dueForS_21 (by decide) ?_
      have hk : k_Desk_dueForS sx sc so shs sy = (-1) := (by rw [k_Desk_dueForS]; rw [if_pos c_662]; rw [if_pos c_663]; try rfl)
      exact ct_ri hx hb hr hlocks hP hD hK hS d_Desk_dueForS_22 (by rw [hk]; first | done | rfl) rfl
def k_Controls_waitingForVs (sc : ob) (sy : ob) : Int32 :=
  (((sy.1 5) &&& (sy.1 3)) &&& (sy.1 2))
set_option maxHeartbeats 4000000 in
set_option maxRecDepth 100000 in
theorem c_Controls_waitingForVs (l : Launch) (G : gx) (tys : List (ClassId × FieldType)) (qc qy qo qhs qgs : Nat) (sc : ob) (sy : ob) : ct_I l y_Controls_waitingForVs ws_Controls_waitingForVs ({ frames := 0, cells := 0, slots := 0, locals := 0 }) G tys [.ref qc] [(qc, .inr (1, f_Controls qo qhs qgs qy sc)), (qy, .inr (2, f_Hyper sy))] (k_Controls_waitingForVs sc sy) [(qc, .inr (1, f_Controls qo qhs qgs qy sc)), (qy, .inr (2, f_Hyper sy))] := by
  refine ct_hI (cc := cc_Controls_waitingForVs) (maxL := 1) (ret := (some .int)) (by decide) rfl (Nat.le_of_ble_eq_true rfl) ?_
  intro p e s m below meth c A ls hx hb hr hml hts hown hlocks hP hK hD hA hE hS hl
  have hl : lv_has ls 1 [(0, .ref qc)] := hl
  have hown : s.vm.findClass R_Controls = some m.cls := hown
  refine lv_aload_n hx hb d_Controls_waitingForVs_0 rfl (lv_at hl 0 rfl) ?_
  refine va_get (D := G.1) (ci := 1) (v := .ref qy) (C := R_Controls) (T := T_Controls) (N := 6) hx hb hts (fun w h => gd_sub _ (iw_Controls w h)) hown hK hP 0 rfl rfl 3 (by decide) (hts _ (gd_sub _ q_169)) (fun _ h9 => h9) rfl d_Controls_waitingForVs_1 ?_
  refine va_get (D := G.1) (ci := 2) (v := .int (sy.1 5)) (C := R_Hyper) (T := T_Hyper) (N := 8) hx hb hts (fun w h => gd_sub _ (iw_Hyper w h)) hown hK hP 1 rfl rfl 5 (by decide) (hts _ (gd_sub _ q_142)) (fun _ h9 => h9) rfl d_Controls_waitingForVs_4 ?_
  refine lv_aload_n hx hb d_Controls_waitingForVs_7 rfl (lv_at hl 0 rfl) ?_
  refine va_get (D := G.1) (ci := 1) (v := .ref qy) (C := R_Controls) (T := T_Controls) (N := 6) hx hb hts (fun w h => gd_sub _ (iw_Controls w h)) hown hK hP 0 rfl rfl 3 (by decide) (hts _ (gd_sub _ q_169)) (fun _ h9 => h9) rfl d_Controls_waitingForVs_8 ?_
  refine va_get (D := G.1) (ci := 2) (v := .int (sy.1 3)) (C := R_Hyper) (T := T_Hyper) (N := 8) hx hb hts (fun w h => gd_sub _ (iw_Hyper w h)) hown hK hP 1 rfl rfl 3 (by decide) (hts _ (gd_sub _ q_138)) (fun _ h9 => h9) rfl d_Controls_waitingForVs_11 ?_
  refine lv_iand hx hb d_Controls_waitingForVs_14 ?_
  refine lv_aload_n hx hb d_Controls_waitingForVs_15 rfl (lv_at hl 0 rfl) ?_
  refine va_get (D := G.1) (ci := 1) (v := .ref qy) (C := R_Controls) (T := T_Controls) (N := 6) hx hb hts (fun w h => gd_sub _ (iw_Controls w h)) hown hK hP 0 rfl rfl 3 (by decide) (hts _ (gd_sub _ q_169)) (fun _ h9 => h9) rfl d_Controls_waitingForVs_16 ?_
  refine va_get (D := G.1) (ci := 2) (v := .int (sy.1 2)) (C := R_Hyper) (T := T_Hyper) (N := 8) hx hb hts (fun w h => gd_sub _ (iw_Hyper w h)) hown hK hP 1 rfl rfl 2 (by decide) (hts _ (gd_sub _ q_136)) (fun _ h9 => h9) rfl d_Controls_waitingForVs_19 ?_
  refine lv_iand hx hb d_Controls_waitingForVs_22 ?_
  have hk : k_Controls_waitingForVs sc sy = (((sy.1 5) &&& (sy.1 3)) &&& (sy.1 2)) := (by rw [k_Controls_waitingForVs]; try rfl)
  exact ct_ri hx hb hr hlocks hP hD hK hS d_Controls_waitingForVs_23 (by rw [hk]; first | done | rfl) rfl
def k_Desk_firstOf_V (p2 : Int32) : Int32 :=
  if (bI (k_Desk_isIn p2 10)) = 0 then (if (bI (k_Desk_isIn p2 2)) = 0 then (if (bI (k_Desk_isIn p2 6)) = 0 then (-1) else 6) else 2) else 10
set_option maxHeartbeats 4000000 in
set_option maxRecDepth 100000 in
theorem c_Desk_firstOf_V (l : Launch) (G : gx) (tys : List (ClassId × FieldType)) (p2 : Int32) : ct_I l y_Desk_firstOf ws_Desk_firstOf ({ frames := 1, cells := 0, slots := 0, locals := 21 }) G tys [.ref G.2.2, .int p2] [] (k_Desk_firstOf_V p2) [] := by
  refine ct_hI (cc := cc_Desk_firstOf) (maxL := 3) (ret := (some .int)) (by decide) rfl (Nat.le_of_ble_eq_true rfl) ?_
  intro p e s m below meth c A ls hx hb hr hml hts hown hlocks hP hK hD hA hE hS hl
  have hl : lv_has ls 3 [(0, .ref G.2.2), (1, .int p2)] := hl
  have hown : s.vm.findClass R_Desk = some m.cls := hown
  refine lv_iconst (v := 0) hx hb d_Desk_firstOf_0 (by decide) ?_
  refine lv_istore_n (lv' := [(2, .int 0), (0, .ref G.2.2), (1, .int p2)]) hx hb d_Desk_firstOf_1 rfl hl (by decide) rfl (fun ls hl => ?_)
  refine lv_iload_n hx hb d_Desk_firstOf_2 rfl (lv_at hl 0 rfl) ?_
  refine lv_aload_n hx hb d_Desk_firstOf_3 rfl (lv_at hl 1 rfl) ?_
  refine va_tlen (v := 3) hx hb hE.2.2.2.1 hS (by decide) d_Desk_firstOf_4 ?_
  refine lv_icmp_ge (tgt := 28) hx hb d_Desk_firstOf_5 (by decide) (fun c9 => absurd c9 (by decide)) (fun _ => ?_)
  refine lv_iload_n hx hb d_Desk_firstOf_8 rfl (lv_at hl 2 rfl) ?_
  refine lv_aload_n hx hb d_Desk_firstOf_9 rfl (lv_at hl 1 rfl) ?_
  refine lv_iload_n hx hb d_Desk_firstOf_10 rfl (lv_at hl 0 rfl) ?_
  refine va_ti (v := .int 10) hx hb hE.2.2.2.1 hS (by unfold vp_in; decide) rfl d_Desk_firstOf_11 ?_
  refine ct_cSi (wr := []) (w1 := []) (w2 := []) (r := (bI (k_Desk_isIn p2 10))) (As := [.int p2, .int 10]) (rest := []) ⟨hx, hb, hml, hown, hts⟩ (c_Desk_isIn l G tys p2 10) (va_cwS 2 hts (gdS gd_gd q_514 q_515 q_41 q_516) rfl rfl rfl (by decide +kernel) ⟨Nat.le_of_ble_eq_true rfl, Nat.le_of_ble_eq_true rfl⟩) hE hK hP hD hS hA [] [] [] rfl (by decide) rfl (by decide) (by decide) rfl (by decide) rfl hl.1 rfl (Nat.le_of_ble_eq_true rfl) d_Desk_firstOf_12 ⟨Nat.zero_le _, Nat.zero_le _⟩ (fun H locs hP hD hS => ?_)
  refine lv_if_eq (tgt := 22) hx hb d_Desk_firstOf_15 (by decide) (fun c_676 => ?_) (fun c_676 => ?_)
  · refine lv_iinc (v := 1) (lv' := [(2, .int 1), (0, .ref G.2.2), (1, .int p2)]) hx hb d_Desk_firstOf_22 hl (k := 0) rfl (by decide) (by decide) rfl (fun ls hl => ?_)
    refine lv_goto (tgt := 2) hx hb d_Desk_firstOf_25 (by decide) ?_
    refine lv_iload_n hx hb d_Desk_firstOf_2 rfl (lv_at hl 0 rfl) ?_
    refine lv_aload_n hx hb d_Desk_firstOf_3 rfl (lv_at hl 1 rfl) ?_
    refine va_tlen (v := 3) hx hb hE.2.2.2.1 hS (by decide) d_Desk_firstOf_4 ?_
    refine lv_icmp_ge (tgt := 28) hx hb d_Desk_firstOf_5 (by decide) (fun c9 => absurd c9 (by decide)) (fun _ => ?_)
    refine lv_iload_n hx hb d_Desk_firstOf_8 rfl (lv_at hl 2 rfl) ?_
    refine lv_aload_n hx hb d_Desk_firstOf_9 rfl (lv_at hl 1 rfl) ?_
    refine lv_iload_n hx hb d_Desk_firstOf_10 rfl (lv_at hl 0 rfl) ?_
    refine va_ti (v := .int 2) hx hb hE.2.2.2.1 hS (by unfold vp_in; decide) rfl d_Desk_firstOf_11 ?_
    refine ct_cSi (wr := []) (w1 := []) (w2 := []) (r := (bI (k_Desk_isIn p2 2))) (As := [.int p2, .int 2]) (rest := []) ⟨hx, hb, hml, hown, hts⟩ (c_Desk_isIn l G tys p2 2) (va_cwS 2 hts (gdS gd_gd q_514 q_515 q_41 q_516) rfl rfl rfl (by decide +kernel) ⟨Nat.le_of_ble_eq_true rfl, Nat.le_of_ble_eq_true rfl⟩) hE hK hP hD hS hA [] [] [] rfl (by decide) rfl (by decide) (by decide) rfl (by decide) rfl hl.1 rfl (Nat.le_of_ble_eq_true rfl) d_Desk_firstOf_12 ⟨Nat.zero_le _, Nat.zero_le _⟩ (fun H locs hP hD hS => ?_)
    refine lv_if_eq (tgt := 22) hx hb d_Desk_firstOf_15 (by decide) (fun c_678 => ?_) (fun c_678 => ?_)
    · refine lv_iinc (v := 2) (lv' := [(2, .int 2), (0, .ref G.2.2), (1, .int p2)]) hx hb d_Desk_firstOf_22 hl (k := 0) rfl (by decide) (by decide) rfl (fun ls hl => ?_)
      refine lv_goto (tgt := 2) hx hb d_Desk_firstOf_25 (by decide) ?_
      refine lv_iload_n hx hb d_Desk_firstOf_2 rfl (lv_at hl 0 rfl) ?_
      refine lv_aload_n hx hb d_Desk_firstOf_3 rfl (lv_at hl 1 rfl) ?_
      refine va_tlen (v := 3) hx hb hE.2.2.2.1 hS (by decide) d_Desk_firstOf_4 ?_
      refine lv_icmp_ge (tgt := 28) hx hb d_Desk_firstOf_5 (by decide) (fun c9 => absurd c9 (by decide)) (fun _ => ?_)
      refine lv_iload_n hx hb d_Desk_firstOf_8 rfl (lv_at hl 2 rfl) ?_
      refine lv_aload_n hx hb d_Desk_firstOf_9 rfl (lv_at hl 1 rfl) ?_
      refine lv_iload_n hx hb d_Desk_firstOf_10 rfl (lv_at hl 0 rfl) ?_
      refine va_ti (v := .int 6) hx hb hE.2.2.2.1 hS (by unfold vp_in; decide) rfl d_Desk_firstOf_11 ?_
      refine ct_cSi (wr := []) (w1 := []) (w2 := []) (r := (bI (k_Desk_isIn p2 6))) (As := [.int p2, .int 6]) (rest := []) ⟨hx, hb, hml, hown, hts⟩ (c_Desk_isIn l G tys p2 6) (va_cwS 2 hts (gdS gd_gd q_514 q_515 q_41 q_516) rfl rfl rfl (by decide +kernel) ⟨Nat.le_of_ble_eq_true rfl, Nat.le_of_ble_eq_true rfl⟩) hE hK hP hD hS hA [] [] [] rfl (by decide) rfl (by decide) (by decide) rfl (by decide) rfl hl.1 rfl (Nat.le_of_ble_eq_true rfl) d_Desk_firstOf_12 ⟨Nat.zero_le _, Nat.zero_le _⟩ (fun H locs hP hD hS => ?_)
      refine lv_if_eq (tgt := 22) hx hb d_Desk_firstOf_15 (by decide) (fun c_680 => ?_) (fun c_680 => ?_)
      · refine lv_iinc (v := 3) (lv' := [(2, .int 3), (0, .ref G.2.2), (1, .int p2)]) hx hb d_Desk_firstOf_22 hl (k := 0) rfl (by decide) (by decide) rfl (fun ls hl => ?_)
        refine lv_goto (tgt := 2) hx hb d_Desk_firstOf_25 (by decide) ?_
        refine lv_iload_n hx hb d_Desk_firstOf_2 rfl (lv_at hl 0 rfl) ?_
        refine lv_aload_n hx hb d_Desk_firstOf_3 rfl (lv_at hl 1 rfl) ?_
        refine va_tlen (v := 3) hx hb hE.2.2.2.1 hS (by decide) d_Desk_firstOf_4 ?_
        refine lv_icmp_ge (tgt := 28) hx hb d_Desk_firstOf_5 (by decide) (fun _ => ?_) (fun c9 => absurd c9 (by decide))
        refine lv_iconst (v := (-1)) hx hb d_Desk_firstOf_28 (by decide) ?_
        have hk : k_Desk_firstOf_V p2 = (-1) := (by rw [k_Desk_firstOf_V]; rw [if_pos c_676]; rw [if_pos c_678]; rw [if_pos c_680]; try rfl)
        exact ct_ri hx hb hr hlocks hP hD hK hS d_Desk_firstOf_29 (by rw [hk]; first | done | rfl) rfl
      · refine lv_aload_n hx hb d_Desk_firstOf_18 rfl (lv_at hl 1 rfl) ?_
        refine lv_iload_n hx hb d_Desk_firstOf_19 rfl (lv_at hl 0 rfl) ?_
        refine va_ti (v := .int 6) hx hb hE.2.2.2.1 hS (by unfold vp_in; decide) rfl d_Desk_firstOf_20 ?_
        have hk : k_Desk_firstOf_V p2 = 6 := (by rw [k_Desk_firstOf_V]; rw [if_pos c_676]; rw [if_pos c_678]; rw [if_neg c_680]; try rfl)
        exact ct_ri hx hb hr hlocks hP hD hK hS d_Desk_firstOf_21 (by rw [hk]; first | done | rfl) rfl
    · refine lv_aload_n hx hb d_Desk_firstOf_18 rfl (lv_at hl 1 rfl) ?_
      refine lv_iload_n hx hb d_Desk_firstOf_19 rfl (lv_at hl 0 rfl) ?_
      refine va_ti (v := .int 2) hx hb hE.2.2.2.1 hS (by unfold vp_in; decide) rfl d_Desk_firstOf_20 ?_
      have hk : k_Desk_firstOf_V p2 = 2 := (by rw [k_Desk_firstOf_V]; rw [if_pos c_676]; rw [if_neg c_678]; try rfl)
      exact ct_ri hx hb hr hlocks hP hD hK hS d_Desk_firstOf_21 (by rw [hk]; first | done | rfl) rfl
  · refine lv_aload_n hx hb d_Desk_firstOf_18 rfl (lv_at hl 1 rfl) ?_
    refine lv_iload_n hx hb d_Desk_firstOf_19 rfl (lv_at hl 0 rfl) ?_
    refine va_ti (v := .int 10) hx hb hE.2.2.2.1 hS (by unfold vp_in; decide) rfl d_Desk_firstOf_20 ?_
    have hk : k_Desk_firstOf_V p2 = 10 := (by rw [k_Desk_firstOf_V]; rw [if_neg c_676]; try rfl)
    exact ct_ri hx hb hr hlocks hP hD hK hS d_Desk_firstOf_21 (by rw [hk]; first | done | rfl) rfl
def k_Desk_dueForVs_j30 (sx : ob) (sc : ob) (sgs : ob) (sy : ob) : Int32 :=
  if (k_Desk_firstOf_V (k_Controls_waitingForVs sc sy)) = (-1) then (-1) else ((k_Desk_firstOf_V (k_Controls_waitingForVs sc sy)) - 1)
def k_Desk_dueForVs (sx : ob) (sc : ob) (sgs : ob) (sy : ob) : Int32 :=
  if (bI (k_Desk_isVirtual sx)) = 0 then (-1) else (if (sx.1 3) = 3 then (if (bI (k_Bank_hasInterruptsOn sgs)) = 0 then (-1) else (k_Desk_dueForVs_j30 sx sc sgs sy)) else (k_Desk_dueForVs_j30 sx sc sgs sy))
set_option maxHeartbeats 4000000 in
set_option maxRecDepth 100000 in
theorem c_Desk_dueForVs (l : Launch) (G : gx) (tys : List (ClassId × FieldType)) (qx qc qgs qy qo qr qhs : Nat) (sx : ob) (sc : ob) (sgs : ob) (sy : ob) : ct_I l y_Desk_dueForVs ws_Desk_dueForVs ({ frames := 2, cells := 0, slots := 0, locals := 43 }) G tys [.ref qx] [(qx, .inr (5, f_Desk qc qo qr sx)), (qc, .inr (1, f_Controls qo qhs qgs qy sc)), (qgs, .inr (0, f_Bank sgs)), (qy, .inr (2, f_Hyper sy))] (k_Desk_dueForVs sx sc sgs sy) [(qx, .inr (5, f_Desk qc qo qr sx)), (qc, .inr (1, f_Controls qo qhs qgs qy sc)), (qgs, .inr (0, f_Bank sgs)), (qy, .inr (2, f_Hyper sy))] := by
  refine ct_hI (cc := cc_Desk_dueForVs) (maxL := 2) (ret := (some .int)) (by decide) rfl (Nat.le_of_ble_eq_true rfl) ?_
  intro p e s m below meth c A ls hx hb hr hml hts hown hlocks hP hK hD hA hE hS hl
  have hl : lv_has ls 2 [(0, .ref qx)] := hl
  have hown : s.vm.findClass R_Desk = some m.cls := hown
  have J30 : ∀ (H : Heap) (locs : List Loc) (ls : Array Slot), k_Desk_dueForVs sx sc sgs sy = k_Desk_dueForVs_j30 sx sc sgs sy → va_P G.1 vwCl [(qx, .inr (5, f_Desk qc qo qr sx)), (qc, .inr (1, f_Controls qo qhs qgs qy sc)), (qgs, .inr (0, f_Bank sgs)), (qy, .inr (2, f_Hyper sy))] H → va_D A [(qx, .inr (5, f_Desk qc qo qr sx)), (qc, .inr (1, f_Controls qo qhs qgs qy sc)), (qgs, .inr (0, f_Bank sgs)), (qy, .inr (2, f_Hyper sy))] → va_S A s.heap H locs → lv_has ls 2 [(0, .ref qx)] → W p l e ({ frames := 2, cells := 0, slots := 0, locals := 43 }) s m ([.ref qx] : List Value).toArray below meth c H locs 0 0 (MQ below (ct_qi G tys A (k_Desk_dueForVs sx sc sgs sy) [(qx, .inr (5, f_Desk qc qo qr sx)), (qc, .inr (1, f_Controls qo qhs qgs qy sc)), (qgs, .inr (0, f_Bank sgs)), (qy, .inr (2, f_Hyper sy))]) ([.ref qx] : List Value).toArray s 0 0 A) (F0 m 30 ls []) := by
    intro H locs ls hj hP hD hS hl
    refine va_gets hx hb hE.2.2.1 hS hown (hts _ (gd_sub _ q_578)) (fun _ h9 => h9) d_Desk_dueForVs_30 ?_
    refine lv_aload_n hx hb d_Desk_dueForVs_33 rfl (lv_at hl 0 rfl) ?_
    refine va_get (D := G.1) (ci := 5) (v := .ref qc) (C := R_Desk) (T := T_Desk) (N := 8) hx hb hts (fun w h => gd_sub _ (iw_Desk w h)) hown hK hP 0 rfl rfl 0 (by decide) (hts _ (gd_sub _ q_205)) (fun _ h9 => h9) rfl d_Desk_dueForVs_34 ?_
    refine ct_cVi (wr := [(qx, .inr (5, f_Desk qc qo qr sx)), (qgs, .inr (0, f_Bank sgs))]) (w1 := [(qc, .inr (1, f_Controls qo qhs qgs qy sc)), (qy, .inr (2, f_Hyper sy))]) (w2 := [(qx, .inr (5, f_Desk qc qo qr sx)), (qc, .inr (1, f_Controls qo qhs qgs qy sc)), (qgs, .inr (0, f_Bank sgs)), (qy, .inr (2, f_Hyper sy))]) (r := (k_Controls_waitingForVs sc sy)) (As := []) (rest := [.ref G.2.2]) (ci := 1) (q0 := 0) ⟨hx, hb, hml, hown, hts⟩ (c_Controls_waitingForVs l G tys qc qy qo qhs qgs sc sy) (cwV 0 hts (gdV gd_gd q_580 q_581 q_582 q_42 q_583) rfl rfl rfl (by decide +kernel) ⟨Nat.le_of_ble_eq_true rfl, Nat.le_of_ble_eq_true rfl⟩) hE hK hP hD hS hA [1, 3] [0, 2] [0, 2, 1, 3] rfl (by decide) rfl (by decide) (by decide) rfl (by decide) rfl rfl rfl hl.1 rfl (Nat.le_of_ble_eq_true rfl) d_Desk_dueForVs_37 ⟨Nat.zero_le _, Nat.zero_le _⟩ (fun H locs hP hD hS => ?_)
    refine ct_cSi (wr := [(qx, .inr (5, f_Desk qc qo qr sx)), (qc, .inr (1, f_Controls qo qhs qgs qy sc)), (qgs, .inr (0, f_Bank sgs)), (qy, .inr (2, f_Hyper sy))]) (w1 := []) (w2 := [(qx, .inr (5, f_Desk qc qo qr sx)), (qc, .inr (1, f_Controls qo qhs qgs qy sc)), (qgs, .inr (0, f_Bank sgs)), (qy, .inr (2, f_Hyper sy))]) (r := (k_Desk_firstOf_V (k_Controls_waitingForVs sc sy))) (As := [.ref G.2.2, .int (k_Controls_waitingForVs sc sy)]) (rest := []) ⟨hx, hb, hml, hown, hts⟩ (c_Desk_firstOf_V l G tys (k_Controls_waitingForVs sc sy)) (va_cwS 2 hts (gdS gd_gd q_570 q_571 q_41 q_572) rfl rfl rfl (by decide +kernel) ⟨Nat.le_of_ble_eq_true rfl, Nat.le_of_ble_eq_true rfl⟩) hE hK hP hD hS hA [] [0, 1, 2, 3] [0, 1, 2, 3] rfl (by decide) rfl (by decide) (by decide) rfl (by decide) rfl hl.1 rfl (Nat.le_of_ble_eq_true rfl) d_Desk_dueForVs_40 ⟨Nat.zero_le _, Nat.zero_le _⟩ (fun H locs hP hD hS => ?_)
    refine lv_istore_n (lv' := [(1, .int (k_Desk_firstOf_V (k_Controls_waitingForVs sc sy))), (0, .ref qx)]) hx hb d_Desk_dueForVs_43 rfl hl (by decide) rfl (fun ls hl => ?_)
    refine lv_iload_n hx hb d_Desk_dueForVs_44 rfl (lv_at hl 0 rfl) ?_
    refine lv_iconst (v := (-1)) hx hb d_Desk_dueForVs_45 (by decide) ?_
    refine lv_icmp_ne (tgt := 53) hx hb d_Desk_dueForVs_46 (by decide) (fun c_683 => ?_) (fun c_683 => ?_)
    · refine lv_iload_n hx hb d_Desk_dueForVs_53 rfl (lv_at hl 0 rfl) ?_
      refine lv_iconst (v := 1) hx hb d_Desk_dueForVs_54 (by decide) ?_
      refine lv_isub hx hb d_Desk_dueForVs_55 ?_
      have hk : k_Desk_dueForVs sx sc sgs sy = ((k_Desk_firstOf_V (k_Controls_waitingForVs sc sy)) - 1) := (hj.trans (by rw [k_Desk_dueForVs_j30]; rw [if_neg c_683]; try rfl))
      exact ct_ri hx hb hr hlocks hP hD hK hS d_Desk_dueForVs_56 (by rw [hk]; first | done | rfl) rfl
    · refine lv_iconst (v := (-1)) hx hb d_Desk_dueForVs_49 (by decide) ?_
      refine lv_goto (tgt := 56) hx hb d_Desk_dueForVs_50 (by decide) ?_
      have hk : k_Desk_dueForVs sx sc sgs sy = (-1) := (hj.trans (by rw [k_Desk_dueForVs_j30]; rw [if_pos c_683]; try rfl))
      exact ct_ri hx hb hr hlocks hP hD hK hS d_Desk_dueForVs_56 (by rw [hk]; first | done | rfl) rfl
  obtain ⟨H, eH⟩ : ∃ z, z = s.heap := ⟨_, rfl⟩
  obtain ⟨locs, eL⟩ : ∃ z, z = ([] : List Loc) := ⟨_, rfl⟩
  have hP : va_P G.1 vwCl [(qx, .inr (5, f_Desk qc qo qr sx)), (qc, .inr (1, f_Controls qo qhs qgs qy sc)), (qgs, .inr (0, f_Bank sgs)), (qy, .inr (2, f_Hyper sy))] H := by rw [eH]; exact hP
  have hS : va_S A s.heap H locs := by rw [eH, eL]; exact hS
  suffices hW : W p l e ({ frames := 2, cells := 0, slots := 0, locals := 43 }) s m ([.ref qx] : List Value).toArray below meth c H locs 0 0 (MQ below (ct_qi G tys A (k_Desk_dueForVs sx sc sgs sy) [(qx, .inr (5, f_Desk qc qo qr sx)), (qc, .inr (1, f_Controls qo qhs qgs qy sc)), (qgs, .inr (0, f_Bank sgs)), (qy, .inr (2, f_Hyper sy))]) ([.ref qx] : List Value).toArray s 0 0 A) (F0 m 0 ls []) by rw [eH, eL] at hW; exact hW
  refine lv_aload_n hx hb d_Desk_dueForVs_0 rfl (lv_at hl 0 rfl) ?_
  refine ct_cVi (wr := [(qc, .inr (1, f_Controls qo qhs qgs qy sc)), (qgs, .inr (0, f_Bank sgs)), (qy, .inr (2, f_Hyper sy))]) (w1 := [(qx, .inr (5, f_Desk qc qo qr sx))]) (w2 := [(qx, .inr (5, f_Desk qc qo qr sx)), (qc, .inr (1, f_Controls qo qhs qgs qy sc)), (qgs, .inr (0, f_Bank sgs)), (qy, .inr (2, f_Hyper sy))]) (r := (bI (k_Desk_isVirtual sx))) (As := []) (rest := []) (ci := 5) (q0 := 0) ⟨hx, hb, hml, hown, hts⟩ (c_Desk_isVirtual l G tys qx qc qo qr sx) (cwV 0 hts (gdV gd_gd q_434 q_436 q_6 q_41 q_437) rfl rfl rfl (by decide +kernel) ⟨Nat.le_of_ble_eq_true rfl, Nat.le_of_ble_eq_true rfl⟩) hE hK hP hD hS hA [0] [1, 2, 3] [3, 0, 1, 2] rfl (by decide) rfl (by decide) (by decide) rfl (by decide) rfl rfl rfl hl.1 rfl (Nat.le_of_ble_eq_true rfl) d_Desk_dueForVs_1 ⟨Nat.zero_le _, Nat.zero_le _⟩ (fun H locs hP hD hS => ?_)
  refine lv_if_eq (tgt := 28) hx hb d_Desk_dueForVs_4 (by decide) (fun c_684 => ?_) (fun c_684 => ?_)
  · refine lv_iconst (v := (-1)) hx hb d_Desk_dueForVs_28 (by decide) ?_
    have hk : k_Desk_dueForVs sx sc sgs sy = (-1) := (by rw [k_Desk_dueForVs]; rw [if_pos c_684]; try rfl)
    exact ct_ri hx hb hr hlocks hP hD hK hS d_Desk_dueForVs_29 (by rw [hk]; first | done | rfl) rfl
  · refine lv_aload_n hx hb d_Desk_dueForVs_7 rfl (lv_at hl 0 rfl) ?_
    refine va_get (D := G.1) (ci := 5) (v := .int (sx.1 3)) (C := R_Desk) (T := T_Desk) (N := 8) hx hb hts (fun w h => gd_sub _ (iw_Desk w h)) hown hK hP 0 rfl rfl 3 (by decide) (hts _ (gd_sub _ q_208)) (fun _ h9 => h9) rfl d_Desk_dueForVs_8 ?_
    refine lv_iconst (v := 3) hx hb d_Desk_dueForVs_11 (by decide) ?_
    refine lv_icmp_ne (tgt := 30) hx hb d_Desk_dueForVs_12 (by decide) (fun c_685 => ?_) (fun c_685 => ?_)
    · exact J30 H locs ls (by rw [k_Desk_dueForVs]; rw [if_neg c_684]; rw [if_neg c_685]; try rfl) hP hD hS (lv_sub hl [0] rfl)
    · refine lv_aload_n hx hb d_Desk_dueForVs_15 rfl (lv_at hl 0 rfl) ?_
      refine va_get (D := G.1) (ci := 5) (v := .ref qc) (C := R_Desk) (T := T_Desk) (N := 8) hx hb hts (fun w h => gd_sub _ (iw_Desk w h)) hown hK hP 0 rfl rfl 0 (by decide) (hts _ (gd_sub _ q_205)) (fun _ h9 => h9) rfl d_Desk_dueForVs_16 ?_
      refine va_get (D := G.1) (ci := 1) (v := .ref qgs) (C := R_Controls) (T := T_Controls) (N := 6) hx hb hts (fun w h => gd_sub _ (iw_Controls w h)) hown hK hP 1 rfl rfl 2 (by decide) (hts _ (gd_sub _ q_168)) (fun _ h9 => h9) rfl d_Desk_dueForVs_19 ?_
      refine ct_cVi (wr := [(qx, .inr (5, f_Desk qc qo qr sx)), (qc, .inr (1, f_Controls qo qhs qgs qy sc)), (qy, .inr (2, f_Hyper sy))]) (w1 := [(qgs, .inr (0, f_Bank sgs))]) (w2 := [(qx, .inr (5, f_Desk qc qo qr sx)), (qc, .inr (1, f_Controls qo qhs qgs qy sc)), (qgs, .inr (0, f_Bank sgs)), (qy, .inr (2, f_Hyper sy))]) (r := (bI (k_Bank_hasInterruptsOn sgs))) (As := []) (rest := []) (ci := 0) (q0 := 0) ⟨hx, hb, hml, hown, hts⟩ (c_Bank_hasInterruptsOn l G tys qgs sgs) (cwV 0 hts (gdV gd_gd q_563 q_530 q_531 q_44 q_532) rfl rfl rfl (by decide +kernel) ⟨Nat.le_of_ble_eq_true rfl, Nat.le_of_ble_eq_true rfl⟩) hE hK hP hD hS hA [2] [0, 1, 3] [0, 1, 3, 2] rfl (by decide) rfl (by decide) (by decide) rfl (by decide) rfl rfl rfl hl.1 rfl (Nat.le_of_ble_eq_true rfl) d_Desk_dueForVs_22 ⟨Nat.zero_le _, Nat.zero_le _⟩ (fun H locs hP hD hS => ?_)
      refine lv_if_ne (tgt := 30) hx hb d_Desk_dueForVs_25 (by decide) (fun c_686 => ?_) (fun c_686 => ?_)
      · exact J30 H locs ls (by rw [k_Desk_dueForVs]; rw [if_neg c_684]; rw [if_pos c_685]; rw [if_neg c_686]; try rfl) hP hD hS (lv_sub hl [0] rfl)
      · refine lv_iconst (v := (-1)) hx hb d_Desk_dueForVs_28 (by decide) ?_
        have hk : k_Desk_dueForVs sx sc sgs sy = (-1) := (by rw [k_Desk_dueForVs]; rw [if_neg c_684]; rw [if_pos c_685]; rw [if_pos c_686]; try rfl)
        exact ct_ri hx hb hr hlocks hP hD hK hS d_Desk_dueForVs_29 (by rw [hk]; first | done | rfl) rfl
