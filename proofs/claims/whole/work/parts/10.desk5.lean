def k_Desk_controlWord_j125 (sx : ob) (sc : ob) (so : ob) (shs : ob) (sgs : ob) (sy : ob) (sr : ob) (p1 : Int32) (p2 : Int32) (v3 : Int32) (v4 : Int32) (v5 : Int32) (v6 : Bool) (v7 : Int32) (v8 : Int32) (v9 : Int32) (v10 : Int32) (uc : ob) (uhs : ob) (ugs : ob) (uy : ob) : Int32 × ob × ob × ob × ob × ob × ob :=
  (((k_Desk_goOn sx).1), ((k_Desk_goOn sx).2), uc, uhs, ugs, uy, ((k_Registers_write sr (k_Desk_fieldD p1) v10)))
def k_Desk_controlWord_j89 (sx : ob) (sc : ob) (so : ob) (shs : ob) (sgs : ob) (sy : ob) (sr : ob) (p1 : Int32) (p2 : Int32) (v3 : Int32) (v4 : Int32) (v5 : Int32) (v6 : Bool) (v7 : Int32) (v8 : Int32) (t0 : Int32) : Int32 × ob × ob × ob × ob × ob × ob :=
  if (bI v6) = 0 then (k_Desk_controlWord_j125 sx sc so shs sgs sy sr p1 p2 v3 v4 v5 v6 v7 v8 t0 (k_Controls_read sc so shs sgs sy v8) sc shs sgs sy) else (k_Desk_controlWord_j125 sx sc so shs sgs sy sr p1 p2 v3 v4 v5 v6 v7 v8 t0 (k_Controls_read sc so shs sgs sy v8) ((k_Controls_write sc shs sgs sy v8 (k_Desk_combined v5 (k_Controls_read sc so shs sgs sy v8) t0)).1) ((k_Controls_write sc shs sgs sy v8 (k_Desk_combined v5 (k_Controls_read sc so shs sgs sy v8) t0)).2.1) ((k_Controls_write sc shs sgs sy v8 (k_Desk_combined v5 (k_Controls_read sc so shs sgs sy v8) t0)).2.2.1) ((k_Controls_write sc shs sgs sy v8 (k_Desk_combined v5 (k_Controls_read sc so shs sgs sy v8) t0)).2.2.2))
def k_Desk_controlWord_j68 (sx : ob) (sc : ob) (so : ob) (shs : ob) (sgs : ob) (sy : ob) (sr : ob) (p1 : Int32) (p2 : Int32) (v3 : Int32) (v4 : Int32) (v5 : Int32) (v6 : Bool) (v7 : Int32) (t0 : Int32) : Int32 × ob × ob × ob × ob × ob × ob :=
  if p2 ≤ 4 then (k_Desk_controlWord_j89 sx sc so shs sgs sy sr p1 p2 v3 v4 v5 v6 v7 t0 (k_Registers_read sr v4)) else (k_Desk_controlWord_j89 sx sc so shs sgs sy sr p1 p2 v3 v4 v5 v6 v7 t0 v4)
def k_Desk_controlWord_j32 (sx : ob) (sc : ob) (so : ob) (shs : ob) (sgs : ob) (sy : ob) (sr : ob) (p1 : Int32) (p2 : Int32) (v3 : Int32) (v4 : Int32) (v5 : Int32) (t0 : Bool) : Int32 × ob × ob × ob × ob × ob × ob :=
  if (k_Desk_refusalOfAccess sx sc sy v3 t0) = (-1) then (if (sx.1 3) = 3 then (k_Desk_controlWord_j68 sx sc so shs sgs sy sr p1 p2 v3 v4 v5 t0 (k_Desk_refusalOfAccess sx sc sy v3 t0) (k_Numbers_inVs v3)) else (k_Desk_controlWord_j68 sx sc so shs sgs sy sr p1 p2 v3 v4 v5 t0 (k_Desk_refusalOfAccess sx sc sy v3 t0) v3)) else ((k_Desk_refusalOfAccess sx sc sy v3 t0), sx, sc, shs, sgs, sy, sr)
def k_Desk_controlWord_j27 (sx : ob) (sc : ob) (so : ob) (shs : ob) (sgs : ob) (sy : ob) (sr : ob) (p1 : Int32) (p2 : Int32) (v3 : Int32) (v4 : Int32) (v5 : Int32) : Int32 × ob × ob × ob × ob × ob × ob :=
  k_Desk_controlWord_j32 sx sc so shs sgs sy sr p1 p2 v3 v4 v5 true
def k_Desk_controlWord (sx : ob) (sc : ob) (so : ob) (shs : ob) (sgs : ob) (sy : ob) (sr : ob) (p1 : Int32) (p2 : Int32) : Int32 × ob × ob × ob × ob × ob × ob :=
  if (p2 &&& 3) = 1 then (k_Desk_controlWord_j27 sx sc so shs sgs sy sr p1 p2 (ush p1 20) (k_Desk_fieldA p1) (p2 &&& 3)) else (if (k_Desk_fieldA p1) = 0 then (k_Desk_controlWord_j32 sx sc so shs sgs sy sr p1 p2 (ush p1 20) (k_Desk_fieldA p1) (p2 &&& 3) false) else (k_Desk_controlWord_j27 sx sc so shs sgs sy sr p1 p2 (ush p1 20) (k_Desk_fieldA p1) (p2 &&& 3)))
set_option maxHeartbeats 4000000 in
set_option maxRecDepth 100000 in
theorem c_Desk_controlWord (l : Launch) (G : gx) (tys : List (ClassId × FieldType)) (qx qc qo qhs qgs qy qr qa : Nat) (sx : ob) (sc : ob) (so : ob) (shs : ob) (sgs : ob) (sy : ob) (sr : ob) (p1 : Int32) (p2 : Int32) : ct_I l y_Desk_controlWord ws_Desk_controlWord ({ frames := 5, cells := 0, slots := 0, locals := 104 }) G tys [.ref qx, .int p1, .int p2] [(qx, .inr (5, f_Desk qc qo qr sx)), (qc, .inr (1, f_Controls qo qhs qgs qy sc)), (qo, .inr (3, f_Outside qa so)), (qhs, .inr (0, f_Bank shs)), (qgs, .inr (0, f_Bank sgs)), (qy, .inr (2, f_Hyper sy)), (qr, .inr (4, f_Registers sr))] ((k_Desk_controlWord sx sc so shs sgs sy sr p1 p2).1) [(qx, .inr (5, f_Desk qc qo qr ((k_Desk_controlWord sx sc so shs sgs sy sr p1 p2).2.1))), (qc, .inr (1, f_Controls qo qhs qgs qy ((k_Desk_controlWord sx sc so shs sgs sy sr p1 p2).2.2.1))), (qo, .inr (3, f_Outside qa so)), (qhs, .inr (0, f_Bank ((k_Desk_controlWord sx sc so shs sgs sy sr p1 p2).2.2.2.1))), (qgs, .inr (0, f_Bank ((k_Desk_controlWord sx sc so shs sgs sy sr p1 p2).2.2.2.2.1))), (qy, .inr (2, f_Hyper ((k_Desk_controlWord sx sc so shs sgs sy sr p1 p2).2.2.2.2.2.1))), (qr, .inr (4, f_Registers ((k_Desk_controlWord sx sc so shs sgs sy sr p1 p2).2.2.2.2.2.2)))] := by
  refine ct_hI (cc := cc_Desk_controlWord) (maxL := 11) (ret := (some .int)) (by decide) rfl (Nat.le_of_ble_eq_true rfl) ?_
  intro p e s m below meth c A ls hx hb hr hml hts hown hlocks hP hK hD hA hE hS hl
  have hl : lv_has ls 11 [(0, .ref qx), (1, .int p1), (2, .int p2)] := hl
  have hown : s.vm.findClass R_Desk = some m.cls := hown
  have J125 : ∀ (v3 : Int32) (v4 : Int32) (v5 : Int32) (v6 : Bool) (v7 : Int32) (v8 : Int32) (v9 : Int32) (v10 : Int32) (uc : ob) (uhs : ob) (ugs : ob) (uy : ob) (H : Heap) (locs : List Loc) (ls : Array Slot), k_Desk_controlWord sx sc so shs sgs sy sr p1 p2 = k_Desk_controlWord_j125 sx sc so shs sgs sy sr p1 p2 v3 v4 v5 v6 v7 v8 v9 v10 uc uhs ugs uy → va_P G.1 vwCl [(qx, .inr (5, f_Desk qc qo qr sx)), (qc, .inr (1, f_Controls qo qhs qgs qy uc)), (qo, .inr (3, f_Outside qa so)), (qhs, .inr (0, f_Bank uhs)), (qgs, .inr (0, f_Bank ugs)), (qy, .inr (2, f_Hyper uy)), (qr, .inr (4, f_Registers sr))] H → va_D A [(qx, .inr (5, f_Desk qc qo qr sx)), (qc, .inr (1, f_Controls qo qhs qgs qy uc)), (qo, .inr (3, f_Outside qa so)), (qhs, .inr (0, f_Bank uhs)), (qgs, .inr (0, f_Bank ugs)), (qy, .inr (2, f_Hyper uy)), (qr, .inr (4, f_Registers sr))] → va_S A s.heap H locs → lv_has ls 11 [(0, .ref qx), (1, .int p1), (2, .int p2), (3, .int v3), (4, .int v4), (5, .int v5), (6, .int (bI v6)), (7, .int v7), (8, .int v8), (9, .int v9), (10, .int v10)] → W p l e ({ frames := 5, cells := 0, slots := 0, locals := 104 }) s m ([.ref qx, .int p1, .int p2] : List Value).toArray below meth c H locs 0 0 (MQ below (ct_qi G tys A ((k_Desk_controlWord sx sc so shs sgs sy sr p1 p2).1) [(qx, .inr (5, f_Desk qc qo qr ((k_Desk_controlWord sx sc so shs sgs sy sr p1 p2).2.1))), (qc, .inr (1, f_Controls qo qhs qgs qy ((k_Desk_controlWord sx sc so shs sgs sy sr p1 p2).2.2.1))), (qo, .inr (3, f_Outside qa so)), (qhs, .inr (0, f_Bank ((k_Desk_controlWord sx sc so shs sgs sy sr p1 p2).2.2.2.1))), (qgs, .inr (0, f_Bank ((k_Desk_controlWord sx sc so shs sgs sy sr p1 p2).2.2.2.2.1))), (qy, .inr (2, f_Hyper ((k_Desk_controlWord sx sc so shs sgs sy sr p1 p2).2.2.2.2.2.1))), (qr, .inr (4, f_Registers ((k_Desk_controlWord sx sc so shs sgs sy sr p1 p2).2.2.2.2.2.2)))]) ([.ref qx, .int p1, .int p2] : List Value).toArray s 0 0 A) (F0 m 125 ls []) := by
    intro v3 v4 v5 v6 v7 v8 v9 v10 uc uhs ugs uy H locs ls hj hP hD hS hl
    refine lv_aload_n hx hb d_Desk_controlWord_125 rfl (lv_at hl 0 rfl) ?_
    refine va_get (D := G.1) (ci := 5) (v := .ref qr) (C := R_Desk) (T := T_Desk) (N := 8) hx hb hts (fun w h => gd_sub _ (iw_Desk w h)) hown hK hP 0 rfl rfl 2 (by decide) (hts _ (gd_sub _ q_207)) (fun _ h9 => h9) rfl d_Desk_controlWord_126 ?_
    refine lv_iload_n hx hb d_Desk_controlWord_129 rfl (lv_at hl 1 rfl) ?_
    refine ct_cSi (wr := [(qx, .inr (5, f_Desk qc qo qr sx)), (qc, .inr (1, f_Controls qo qhs qgs qy uc)), (qo, .inr (3, f_Outside qa so)), (qhs, .inr (0, f_Bank uhs)), (qgs, .inr (0, f_Bank ugs)), (qy, .inr (2, f_Hyper uy)), (qr, .inr (4, f_Registers sr))]) (w1 := []) (w2 := [(qx, .inr (5, f_Desk qc qo qr sx)), (qc, .inr (1, f_Controls qo qhs qgs qy uc)), (qo, .inr (3, f_Outside qa so)), (qhs, .inr (0, f_Bank uhs)), (qgs, .inr (0, f_Bank ugs)), (qy, .inr (2, f_Hyper uy)), (qr, .inr (4, f_Registers sr))]) (r := (k_Desk_fieldD p1)) (As := [.int p1]) (rest := [.ref qr]) ⟨hx, hb, hml, hown, hts⟩ (c_Desk_fieldD l G tys p1) (va_cwS 1 hts (gdS gd_gd q_407 q_408 q_41 q_409) rfl rfl rfl (by decide +kernel) ⟨Nat.le_of_ble_eq_true rfl, Nat.le_of_ble_eq_true rfl⟩) hE hK hP hD hS hA [] [0, 1, 2, 3, 4, 5, 6] [0, 1, 2, 3, 4, 5, 6] rfl (by decide) rfl (by decide) (by decide) rfl (by decide) rfl hl.1 rfl (Nat.le_of_ble_eq_true rfl) d_Desk_controlWord_130 ⟨Nat.zero_le _, Nat.zero_le _⟩ (fun H locs hP hD hS => ?_)
    refine lv_iload hx hb d_Desk_controlWord_133 (lv_at hl 10 rfl) ?_
    obtain ⟨sr_270, esr_270⟩ : ∃ z, z = (k_Registers_write sr (k_Desk_fieldD p1) v10) := ⟨_, rfl⟩
    have hM := c_Registers_write l G tys qr sr (k_Desk_fieldD p1) v10
    rw [← esr_270] at hM
    refine ct_cVv (wr := [(qx, .inr (5, f_Desk qc qo qr sx)), (qc, .inr (1, f_Controls qo qhs qgs qy uc)), (qo, .inr (3, f_Outside qa so)), (qhs, .inr (0, f_Bank uhs)), (qgs, .inr (0, f_Bank ugs)), (qy, .inr (2, f_Hyper uy))]) (w1 := [(qr, .inr (4, f_Registers sr_270))]) (w2 := [(qx, .inr (5, f_Desk qc qo qr sx)), (qc, .inr (1, f_Controls qo qhs qgs qy uc)), (qo, .inr (3, f_Outside qa so)), (qhs, .inr (0, f_Bank uhs)), (qgs, .inr (0, f_Bank ugs)), (qy, .inr (2, f_Hyper uy)), (qr, .inr (4, f_Registers sr_270))]) (As := [.int (k_Desk_fieldD p1), .int v10]) (rest := []) (ci := 4) (q0 := 0) ⟨hx, hb, hml, hown, hts⟩ hM (cwV 2 hts (gdV gd_gd q_387 q_388 q_389 q_46 q_390) rfl rfl rfl (by decide +kernel) ⟨Nat.le_of_ble_eq_true rfl, Nat.le_of_ble_eq_true rfl⟩) hE hK hP hD hS hA [6] [0, 1, 2, 3, 4, 5] [0, 1, 2, 3, 4, 5, 6] rfl (by decide) rfl (by decide) (by decide) rfl (by decide) rfl rfl rfl hl.1 rfl (Nat.le_of_ble_eq_true rfl) d_Desk_controlWord_135 ⟨Nat.zero_le _, Nat.zero_le _⟩ (fun H locs hP hD hS => ?_)
    refine lv_aload_n hx hb d_Desk_controlWord_138 rfl (lv_at hl 0 rfl) ?_
    obtain ⟨r_271, er_271⟩ : ∃ z, z = (k_Desk_goOn sx).1 := ⟨_, rfl⟩
    obtain ⟨sx_272, esx_272⟩ : ∃ z, z = (k_Desk_goOn sx).2 := ⟨_, rfl⟩
    have hM := c_Desk_goOn l G tys qx qc qo qr sx
    rw [← er_271, ← esx_272] at hM
    refine ct_cVi (wr := [(qc, .inr (1, f_Controls qo qhs qgs qy uc)), (qo, .inr (3, f_Outside qa so)), (qhs, .inr (0, f_Bank uhs)), (qgs, .inr (0, f_Bank ugs)), (qy, .inr (2, f_Hyper uy)), (qr, .inr (4, f_Registers sr_270))]) (w1 := [(qx, .inr (5, f_Desk qc qo qr sx_272))]) (w2 := [(qx, .inr (5, f_Desk qc qo qr sx_272)), (qc, .inr (1, f_Controls qo qhs qgs qy uc)), (qo, .inr (3, f_Outside qa so)), (qhs, .inr (0, f_Bank uhs)), (qgs, .inr (0, f_Bank ugs)), (qy, .inr (2, f_Hyper uy)), (qr, .inr (4, f_Registers sr_270))]) (r := r_271) (As := []) (rest := []) (ci := 5) (q0 := 0) ⟨hx, hb, hml, hown, hts⟩ hM (cwV 0 hts (gdV gd_gd q_426 q_428 q_4 q_41 q_429) rfl rfl rfl (by decide +kernel) ⟨Nat.le_of_ble_eq_true rfl, Nat.le_of_ble_eq_true rfl⟩) hE hK hP hD hS hA [0] [1, 2, 3, 4, 5, 6] [6, 0, 1, 2, 3, 4, 5] rfl (by decide) rfl (by decide) (by decide) rfl (by decide) rfl rfl rfl hl.1 rfl (Nat.le_of_ble_eq_true rfl) d_Desk_controlWord_139 ⟨Nat.zero_le _, Nat.zero_le _⟩ (fun H locs hP hD hS => ?_)
    have hk : k_Desk_controlWord sx sc so shs sgs sy sr p1 p2 = (r_271, sx_272, uc, uhs, ugs, uy, sr_270) := (hj.trans (by rw [k_Desk_controlWord_j125]; try rw [← esr_270]; try rw [← er_271]; try rw [← esx_272]; try rfl))
    exact ct_ri hx hb hr hlocks hP hD hK hS d_Desk_controlWord_142 (by rw [hk]; first | done | rfl) (by rw [hk]; first | done | rfl)
  have J89 : ∀ (v3 : Int32) (v4 : Int32) (v5 : Int32) (v6 : Bool) (v7 : Int32) (v8 : Int32) (t0 : Int32) (H : Heap) (locs : List Loc) (ls : Array Slot), k_Desk_controlWord sx sc so shs sgs sy sr p1 p2 = k_Desk_controlWord_j89 sx sc so shs sgs sy sr p1 p2 v3 v4 v5 v6 v7 v8 t0 → va_P G.1 vwCl [(qx, .inr (5, f_Desk qc qo qr sx)), (qc, .inr (1, f_Controls qo qhs qgs qy sc)), (qo, .inr (3, f_Outside qa so)), (qhs, .inr (0, f_Bank shs)), (qgs, .inr (0, f_Bank sgs)), (qy, .inr (2, f_Hyper sy)), (qr, .inr (4, f_Registers sr))] H → va_D A [(qx, .inr (5, f_Desk qc qo qr sx)), (qc, .inr (1, f_Controls qo qhs qgs qy sc)), (qo, .inr (3, f_Outside qa so)), (qhs, .inr (0, f_Bank shs)), (qgs, .inr (0, f_Bank sgs)), (qy, .inr (2, f_Hyper sy)), (qr, .inr (4, f_Registers sr))] → va_S A s.heap H locs → lv_has ls 11 [(0, .ref qx), (1, .int p1), (2, .int p2), (3, .int v3), (4, .int v4), (5, .int v5), (6, .int (bI v6)), (7, .int v7), (8, .int v8)] → W p l e ({ frames := 5, cells := 0, slots := 0, locals := 104 }) s m ([.ref qx, .int p1, .int p2] : List Value).toArray below meth c H locs 0 0 (MQ below (ct_qi G tys A ((k_Desk_controlWord sx sc so shs sgs sy sr p1 p2).1) [(qx, .inr (5, f_Desk qc qo qr ((k_Desk_controlWord sx sc so shs sgs sy sr p1 p2).2.1))), (qc, .inr (1, f_Controls qo qhs qgs qy ((k_Desk_controlWord sx sc so shs sgs sy sr p1 p2).2.2.1))), (qo, .inr (3, f_Outside qa so)), (qhs, .inr (0, f_Bank ((k_Desk_controlWord sx sc so shs sgs sy sr p1 p2).2.2.2.1))), (qgs, .inr (0, f_Bank ((k_Desk_controlWord sx sc so shs sgs sy sr p1 p2).2.2.2.2.1))), (qy, .inr (2, f_Hyper ((k_Desk_controlWord sx sc so shs sgs sy sr p1 p2).2.2.2.2.2.1))), (qr, .inr (4, f_Registers ((k_Desk_controlWord sx sc so shs sgs sy sr p1 p2).2.2.2.2.2.2)))]) ([.ref qx, .int p1, .int p2] : List Value).toArray s 0 0 A) (F0 m 89 ls [.int t0]) := by
    intro v3 v4 v5 v6 v7 v8 t0 H locs ls hj hP hD hS hl
    refine lv_istore (lv' := [(9, .int t0), (0, .ref qx), (1, .int p1), (2, .int p2), (3, .int v3), (4, .int v4), (5, .int v5), (6, .int (bI v6)), (7, .int v7), (8, .int v8)]) hx hb d_Desk_controlWord_89 hl (by decide) rfl (fun ls hl => ?_)
    refine lv_aload_n hx hb d_Desk_controlWord_91 rfl (lv_at hl 1 rfl) ?_
    refine va_get (D := G.1) (ci := 5) (v := .ref qc) (C := R_Desk) (T := T_Desk) (N := 8) hx hb hts (fun w h => gd_sub _ (iw_Desk w h)) hown hK hP 0 rfl rfl 0 (by decide) (hts _ (gd_sub _ q_205)) (fun _ h9 => h9) rfl d_Desk_controlWord_92 ?_
    refine lv_iload hx hb d_Desk_controlWord_95 (lv_at hl 9 rfl) ?_
    refine ct_cVi (wr := [(qx, .inr (5, f_Desk qc qo qr sx)), (qr, .inr (4, f_Registers sr))]) (w1 := [(qc, .inr (1, f_Controls qo qhs qgs qy sc)), (qo, .inr (3, f_Outside qa so)), (qhs, .inr (0, f_Bank shs)), (qgs, .inr (0, f_Bank sgs)), (qy, .inr (2, f_Hyper sy))]) (w2 := [(qx, .inr (5, f_Desk qc qo qr sx)), (qc, .inr (1, f_Controls qo qhs qgs qy sc)), (qo, .inr (3, f_Outside qa so)), (qhs, .inr (0, f_Bank shs)), (qgs, .inr (0, f_Bank sgs)), (qy, .inr (2, f_Hyper sy)), (qr, .inr (4, f_Registers sr))]) (r := (k_Controls_read sc so shs sgs sy v8)) (As := [.int v8]) (rest := []) (ci := 1) (q0 := 0) ⟨hx, hb, hml, hown, hts⟩ (c_Controls_read l G tys qc qo qhs qgs qy qa sc so shs sgs sy v8) (cwV 1 hts (gdV gd_gd q_334 q_335 q_336 q_42 q_337) rfl rfl rfl (by decide +kernel) ⟨Nat.le_of_ble_eq_true rfl, Nat.le_of_ble_eq_true rfl⟩) hE hK hP hD hS hA [1, 2, 3, 4, 5] [0, 6] [0, 2, 3, 4, 5, 6, 1] rfl (by decide) rfl (by decide) (by decide) rfl (by decide) rfl rfl rfl hl.1 rfl (Nat.le_of_ble_eq_true rfl) d_Desk_controlWord_97 ⟨Nat.zero_le _, Nat.zero_le _⟩ (fun H locs hP hD hS => ?_)
    refine lv_istore (lv' := [(10, .int (k_Controls_read sc so shs sgs sy v8)), (9, .int t0), (0, .ref qx), (1, .int p1), (2, .int p2), (3, .int v3), (4, .int v4), (5, .int v5), (6, .int (bI v6)), (7, .int v7), (8, .int v8)]) hx hb d_Desk_controlWord_100 hl (by decide) rfl (fun ls hl => ?_)
    refine lv_iload hx hb d_Desk_controlWord_102 (lv_at hl 8 rfl) ?_
    refine lv_if_eq (tgt := 125) hx hb d_Desk_controlWord_104 (by decide) (fun c_273 => ?_) (fun c_273 => ?_)
    · exact J125 v3 v4 v5 v6 v7 v8 t0 (k_Controls_read sc so shs sgs sy v8) sc shs sgs sy H locs ls (hj.trans (by rw [k_Desk_controlWord_j89]; rw [if_pos c_273]; try rfl)) hP hD hS (lv_sub hl [2, 3, 4, 5, 6, 7, 8, 9, 10, 1, 0] rfl)
    · refine lv_aload_n hx hb d_Desk_controlWord_107 rfl (lv_at hl 2 rfl) ?_
      refine va_get (D := G.1) (ci := 5) (v := .ref qc) (C := R_Desk) (T := T_Desk) (N := 8) hx hb hts (fun w h => gd_sub _ (iw_Desk w h)) hown hK hP 0 rfl rfl 0 (by decide) (hts _ (gd_sub _ q_205)) (fun _ h9 => h9) rfl d_Desk_controlWord_108 ?_
      refine lv_iload hx hb d_Desk_controlWord_111 (lv_at hl 10 rfl) ?_
      refine lv_iload hx hb d_Desk_controlWord_113 (lv_at hl 7 rfl) ?_
      refine lv_iload hx hb d_Desk_controlWord_115 (lv_at hl 0 rfl) ?_
      refine lv_iload hx hb d_Desk_controlWord_117 (lv_at hl 1 rfl) ?_
      refine ct_cSi (wr := [(qx, .inr (5, f_Desk qc qo qr sx)), (qc, .inr (1, f_Controls qo qhs qgs qy sc)), (qo, .inr (3, f_Outside qa so)), (qhs, .inr (0, f_Bank shs)), (qgs, .inr (0, f_Bank sgs)), (qy, .inr (2, f_Hyper sy)), (qr, .inr (4, f_Registers sr))]) (w1 := []) (w2 := [(qx, .inr (5, f_Desk qc qo qr sx)), (qc, .inr (1, f_Controls qo qhs qgs qy sc)), (qo, .inr (3, f_Outside qa so)), (qhs, .inr (0, f_Bank shs)), (qgs, .inr (0, f_Bank sgs)), (qy, .inr (2, f_Hyper sy)), (qr, .inr (4, f_Registers sr))]) (r := (k_Desk_combined v5 (k_Controls_read sc so shs sgs sy v8) t0)) (As := [.int v5, .int (k_Controls_read sc so shs sgs sy v8), .int t0]) (rest := [.int v8, .ref qc]) ⟨hx, hb, hml, hown, hts⟩ (c_Desk_combined l G tys v5 (k_Controls_read sc so shs sgs sy v8) t0) (va_cwS 3 hts (gdS gd_gd q_503 q_504 q_41 q_505) rfl rfl rfl (by decide +kernel) ⟨Nat.le_of_ble_eq_true rfl, Nat.le_of_ble_eq_true rfl⟩) hE hK hP hD hS hA [] [0, 1, 2, 3, 4, 5, 6] [0, 1, 2, 3, 4, 5, 6] rfl (by decide) rfl (by decide) (by decide) rfl (by decide) rfl hl.1 rfl (Nat.le_of_ble_eq_true rfl) d_Desk_controlWord_119 ⟨Nat.zero_le _, Nat.zero_le _⟩ (fun H locs hP hD hS => ?_)
      obtain ⟨sc_274, esc_274⟩ : ∃ z, z = (k_Controls_write sc shs sgs sy v8 (k_Desk_combined v5 (k_Controls_read sc so shs sgs sy v8) t0)).1 := ⟨_, rfl⟩
      obtain ⟨shs_275, eshs_275⟩ : ∃ z, z = (k_Controls_write sc shs sgs sy v8 (k_Desk_combined v5 (k_Controls_read sc so shs sgs sy v8) t0)).2.1 := ⟨_, rfl⟩
      obtain ⟨sgs_276, esgs_276⟩ : ∃ z, z = (k_Controls_write sc shs sgs sy v8 (k_Desk_combined v5 (k_Controls_read sc so shs sgs sy v8) t0)).2.2.1 := ⟨_, rfl⟩
      obtain ⟨sy_277, esy_277⟩ : ∃ z, z = (k_Controls_write sc shs sgs sy v8 (k_Desk_combined v5 (k_Controls_read sc so shs sgs sy v8) t0)).2.2.2 := ⟨_, rfl⟩
      have hM := c_Controls_write l G tys qc qhs qgs qy qo sc shs sgs sy v8 (k_Desk_combined v5 (k_Controls_read sc so shs sgs sy v8) t0)
      rw [← esc_274, ← eshs_275, ← esgs_276, ← esy_277] at hM
      refine ct_cVv (wr := [(qx, .inr (5, f_Desk qc qo qr sx)), (qo, .inr (3, f_Outside qa so)), (qr, .inr (4, f_Registers sr))]) (w1 := [(qc, .inr (1, f_Controls qo qhs qgs qy sc_274)), (qhs, .inr (0, f_Bank shs_275)), (qgs, .inr (0, f_Bank sgs_276)), (qy, .inr (2, f_Hyper sy_277))]) (w2 := [(qx, .inr (5, f_Desk qc qo qr sx)), (qc, .inr (1, f_Controls qo qhs qgs qy sc_274)), (qo, .inr (3, f_Outside qa so)), (qhs, .inr (0, f_Bank shs_275)), (qgs, .inr (0, f_Bank sgs_276)), (qy, .inr (2, f_Hyper sy_277)), (qr, .inr (4, f_Registers sr))]) (As := [.int v8, .int (k_Desk_combined v5 (k_Controls_read sc so shs sgs sy v8) t0)]) (rest := []) (ci := 1) (q0 := 0) ⟨hx, hb, hml, hown, hts⟩ hM (cwV 2 hts (gdV gd_gd q_291 q_292 q_293 q_42 q_294) rfl rfl rfl (by decide +kernel) ⟨Nat.le_of_ble_eq_true rfl, Nat.le_of_ble_eq_true rfl⟩) hE hK hP hD hS hA [1, 3, 4, 5] [0, 2, 6] [0, 3, 1, 4, 5, 6, 2] rfl (by decide) rfl (by decide) (by decide) rfl (by decide) rfl rfl rfl hl.1 rfl (Nat.le_of_ble_eq_true rfl) d_Desk_controlWord_122 ⟨Nat.zero_le _, Nat.zero_le _⟩ (fun H locs hP hD hS => ?_)
      exact J125 v3 v4 v5 v6 v7 v8 t0 (k_Controls_read sc so shs sgs sy v8) sc_274 shs_275 sgs_276 sy_277 H locs ls (hj.trans (by rw [k_Desk_controlWord_j89]; rw [if_neg c_273]; try rw [← esc_274]; try rw [← eshs_275]; try rw [← esgs_276]; try rw [← esy_277]; try rfl)) hP hD hS (lv_sub hl [2, 3, 4, 5, 6, 7, 8, 9, 10, 1, 0] rfl)
  have J68 : ∀ (v3 : Int32) (v4 : Int32) (v5 : Int32) (v6 : Bool) (v7 : Int32) (t0 : Int32) (H : Heap) (locs : List Loc) (ls : Array Slot), k_Desk_controlWord sx sc so shs sgs sy sr p1 p2 = k_Desk_controlWord_j68 sx sc so shs sgs sy sr p1 p2 v3 v4 v5 v6 v7 t0 → va_P G.1 vwCl [(qx, .inr (5, f_Desk qc qo qr sx)), (qc, .inr (1, f_Controls qo qhs qgs qy sc)), (qo, .inr (3, f_Outside qa so)), (qhs, .inr (0, f_Bank shs)), (qgs, .inr (0, f_Bank sgs)), (qy, .inr (2, f_Hyper sy)), (qr, .inr (4, f_Registers sr))] H → va_D A [(qx, .inr (5, f_Desk qc qo qr sx)), (qc, .inr (1, f_Controls qo qhs qgs qy sc)), (qo, .inr (3, f_Outside qa so)), (qhs, .inr (0, f_Bank shs)), (qgs, .inr (0, f_Bank sgs)), (qy, .inr (2, f_Hyper sy)), (qr, .inr (4, f_Registers sr))] → va_S A s.heap H locs → lv_has ls 11 [(0, .ref qx), (1, .int p1), (2, .int p2), (3, .int v3), (4, .int v4), (5, .int v5), (6, .int (bI v6)), (7, .int v7)] → W p l e ({ frames := 5, cells := 0, slots := 0, locals := 104 }) s m ([.ref qx, .int p1, .int p2] : List Value).toArray below meth c H locs 0 0 (MQ below (ct_qi G tys A ((k_Desk_controlWord sx sc so shs sgs sy sr p1 p2).1) [(qx, .inr (5, f_Desk qc qo qr ((k_Desk_controlWord sx sc so shs sgs sy sr p1 p2).2.1))), (qc, .inr (1, f_Controls qo qhs qgs qy ((k_Desk_controlWord sx sc so shs sgs sy sr p1 p2).2.2.1))), (qo, .inr (3, f_Outside qa so)), (qhs, .inr (0, f_Bank ((k_Desk_controlWord sx sc so shs sgs sy sr p1 p2).2.2.2.1))), (qgs, .inr (0, f_Bank ((k_Desk_controlWord sx sc so shs sgs sy sr p1 p2).2.2.2.2.1))), (qy, .inr (2, f_Hyper ((k_Desk_controlWord sx sc so shs sgs sy sr p1 p2).2.2.2.2.2.1))), (qr, .inr (4, f_Registers ((k_Desk_controlWord sx sc so shs sgs sy sr p1 p2).2.2.2.2.2.2)))]) ([.ref qx, .int p1, .int p2] : List Value).toArray s 0 0 A) (F0 m 68 ls [.int t0]) := by
    intro v3 v4 v5 v6 v7 t0 H locs ls hj hP hD hS hl
    refine lv_istore (lv' := [(8, .int t0), (0, .ref qx), (1, .int p1), (2, .int p2), (3, .int v3), (4, .int v4), (5, .int v5), (6, .int (bI v6)), (7, .int v7)]) hx hb d_Desk_controlWord_68 hl (by decide) rfl (fun ls hl => ?_)
    refine lv_iload_n hx hb d_Desk_controlWord_70 rfl (lv_at hl 3 rfl) ?_
    refine lv_iconst (v := 4) hx hb d_Desk_controlWord_71 (by decide) ?_
    refine lv_icmp_le (tgt := 80) hx hb d_Desk_controlWord_72 (by decide) (fun c_278 => ?_) (fun c_278 => ?_)
    · refine lv_aload_n hx hb d_Desk_controlWord_80 rfl (lv_at hl 1 rfl) ?_
      refine va_get (D := G.1) (ci := 5) (v := .ref qr) (C := R_Desk) (T := T_Desk) (N := 8) hx hb hts (fun w h => gd_sub _ (iw_Desk w h)) hown hK hP 0 rfl rfl 2 (by decide) (hts _ (gd_sub _ q_207)) (fun _ h9 => h9) rfl d_Desk_controlWord_81 ?_
      refine lv_iload hx hb d_Desk_controlWord_84 (lv_at hl 5 rfl) ?_
      refine ct_cVi (wr := [(qx, .inr (5, f_Desk qc qo qr sx)), (qc, .inr (1, f_Controls qo qhs qgs qy sc)), (qo, .inr (3, f_Outside qa so)), (qhs, .inr (0, f_Bank shs)), (qgs, .inr (0, f_Bank sgs)), (qy, .inr (2, f_Hyper sy))]) (w1 := [(qr, .inr (4, f_Registers sr))]) (w2 := [(qx, .inr (5, f_Desk qc qo qr sx)), (qc, .inr (1, f_Controls qo qhs qgs qy sc)), (qo, .inr (3, f_Outside qa so)), (qhs, .inr (0, f_Bank shs)), (qgs, .inr (0, f_Bank sgs)), (qy, .inr (2, f_Hyper sy)), (qr, .inr (4, f_Registers sr))]) (r := (k_Registers_read sr v4)) (As := [.int v4]) (rest := []) (ci := 4) (q0 := 0) ⟨hx, hb, hml, hown, hts⟩ (c_Registers_read l G tys qr sr v4) (cwV 1 hts (gdV gd_gd q_383 q_384 q_385 q_46 q_386) rfl rfl rfl (by decide +kernel) ⟨Nat.le_of_ble_eq_true rfl, Nat.le_of_ble_eq_true rfl⟩) hE hK hP hD hS hA [6] [0, 1, 2, 3, 4, 5] [0, 1, 2, 3, 4, 5, 6] rfl (by decide) rfl (by decide) (by decide) rfl (by decide) rfl rfl rfl hl.1 rfl (Nat.le_of_ble_eq_true rfl) d_Desk_controlWord_86 ⟨Nat.zero_le _, Nat.zero_le _⟩ (fun H locs hP hD hS => ?_)
      exact J89 v3 v4 v5 v6 v7 t0 (k_Registers_read sr v4) H locs ls (hj.trans (by rw [k_Desk_controlWord_j68]; rw [if_pos c_278]; try rfl)) hP hD hS (lv_sub hl [1, 2, 3, 4, 5, 6, 7, 8, 0] rfl)
    · refine lv_iload hx hb d_Desk_controlWord_75 (lv_at hl 5 rfl) ?_
      refine lv_goto (tgt := 89) hx hb d_Desk_controlWord_77 (by decide) ?_
      exact J89 v3 v4 v5 v6 v7 t0 v4 H locs ls (hj.trans (by rw [k_Desk_controlWord_j68]; rw [if_neg c_278]; try rfl)) hP hD hS (lv_sub hl [1, 2, 3, 4, 5, 6, 7, 8, 0] rfl)
  have J32 : ∀ (v3 : Int32) (v4 : Int32) (v5 : Int32) (t0 : Bool) (H : Heap) (locs : List Loc) (ls : Array Slot), k_Desk_controlWord sx sc so shs sgs sy sr p1 p2 = k_Desk_controlWord_j32 sx sc so shs sgs sy sr p1 p2 v3 v4 v5 t0 → va_P G.1 vwCl [(qx, .inr (5, f_Desk qc qo qr sx)), (qc, .inr (1, f_Controls qo qhs qgs qy sc)), (qo, .inr (3, f_Outside qa so)), (qhs, .inr (0, f_Bank shs)), (qgs, .inr (0, f_Bank sgs)), (qy, .inr (2, f_Hyper sy)), (qr, .inr (4, f_Registers sr))] H → va_D A [(qx, .inr (5, f_Desk qc qo qr sx)), (qc, .inr (1, f_Controls qo qhs qgs qy sc)), (qo, .inr (3, f_Outside qa so)), (qhs, .inr (0, f_Bank shs)), (qgs, .inr (0, f_Bank sgs)), (qy, .inr (2, f_Hyper sy)), (qr, .inr (4, f_Registers sr))] → va_S A s.heap H locs → lv_has ls 11 [(0, .ref qx), (1, .int p1), (2, .int p2), (3, .int v3), (4, .int v4), (5, .int v5)] → W p l e ({ frames := 5, cells := 0, slots := 0, locals := 104 }) s m ([.ref qx, .int p1, .int p2] : List Value).toArray below meth c H locs 0 0 (MQ below (ct_qi G tys A ((k_Desk_controlWord sx sc so shs sgs sy sr p1 p2).1) [(qx, .inr (5, f_Desk qc qo qr ((k_Desk_controlWord sx sc so shs sgs sy sr p1 p2).2.1))), (qc, .inr (1, f_Controls qo qhs qgs qy ((k_Desk_controlWord sx sc so shs sgs sy sr p1 p2).2.2.1))), (qo, .inr (3, f_Outside qa so)), (qhs, .inr (0, f_Bank ((k_Desk_controlWord sx sc so shs sgs sy sr p1 p2).2.2.2.1))), (qgs, .inr (0, f_Bank ((k_Desk_controlWord sx sc so shs sgs sy sr p1 p2).2.2.2.2.1))), (qy, .inr (2, f_Hyper ((k_Desk_controlWord sx sc so shs sgs sy sr p1 p2).2.2.2.2.2.1))), (qr, .inr (4, f_Registers ((k_Desk_controlWord sx sc so shs sgs sy sr p1 p2).2.2.2.2.2.2)))]) ([.ref qx, .int p1, .int p2] : List Value).toArray s 0 0 A) (F0 m 32 ls [.int (bI t0)]) := by
    intro v3 v4 v5 t0 H locs ls hj hP hD hS hl
    refine lv_istore (lv' := [(6, .int (bI t0)), (0, .ref qx), (1, .int p1), (2, .int p2), (3, .int v3), (4, .int v4), (5, .int v5)]) hx hb d_Desk_controlWord_32 hl (by decide) rfl (fun ls hl => ?_)
    refine lv_aload_n hx hb d_Desk_controlWord_34 rfl (lv_at hl 1 rfl) ?_
    refine lv_iload_n hx hb d_Desk_controlWord_35 rfl (lv_at hl 4 rfl) ?_
    refine lv_iload hx hb d_Desk_controlWord_36 (lv_at hl 0 rfl) ?_
    refine ct_cVi (wr := [(qo, .inr (3, f_Outside qa so)), (qhs, .inr (0, f_Bank shs)), (qgs, .inr (0, f_Bank sgs)), (qr, .inr (4, f_Registers sr))]) (w1 := [(qx, .inr (5, f_Desk qc qo qr sx)), (qc, .inr (1, f_Controls qo qhs qgs qy sc)), (qy, .inr (2, f_Hyper sy))]) (w2 := [(qx, .inr (5, f_Desk qc qo qr sx)), (qc, .inr (1, f_Controls qo qhs qgs qy sc)), (qo, .inr (3, f_Outside qa so)), (qhs, .inr (0, f_Bank shs)), (qgs, .inr (0, f_Bank sgs)), (qy, .inr (2, f_Hyper sy)), (qr, .inr (4, f_Registers sr))]) (r := (k_Desk_refusalOfAccess sx sc sy v3 t0)) (As := [.int v3, .int (bI t0)]) (rest := []) (ci := 5) (q0 := 0) ⟨hx, hb, hml, hown, hts⟩ (c_Desk_refusalOfAccess l G tys qx qc qy qo qr qhs qgs sx sc sy v3 t0) (cwV 2 hts (gdV gd_gd q_491 q_493 q_12 q_41 q_494) rfl rfl rfl (by decide +kernel) ⟨Nat.le_of_ble_eq_true rfl, Nat.le_of_ble_eq_true rfl⟩) hE hK hP hD hS hA [0, 1, 5] [2, 3, 4, 6] [4, 5, 0, 1, 2, 6, 3] rfl (by decide) rfl (by decide) (by decide) rfl (by decide) rfl rfl rfl hl.1 rfl (Nat.le_of_ble_eq_true rfl) d_Desk_controlWord_38 ⟨Nat.zero_le _, Nat.zero_le _⟩ (fun H locs hP hD hS => ?_)
    refine lv_istore (lv' := [(7, .int (k_Desk_refusalOfAccess sx sc sy v3 t0)), (6, .int (bI t0)), (0, .ref qx), (1, .int p1), (2, .int p2), (3, .int v3), (4, .int v4), (5, .int v5)]) hx hb d_Desk_controlWord_41 hl (by decide) rfl (fun ls hl => ?_)
    refine lv_iload hx hb d_Desk_controlWord_43 (lv_at hl 0 rfl) ?_
    refine lv_iconst (v := (-1)) hx hb d_Desk_controlWord_45 (by decide) ?_
    refine lv_icmp_eq (tgt := 52) hx hb d_Desk_controlWord_46 (by decide) (fun c_279 => ?_) (fun c_279 => ?_)
    · refine lv_aload_n hx hb d_Desk_controlWord_52 rfl (lv_at hl 2 rfl) ?_
      refine va_get (D := G.1) (ci := 5) (v := .int (sx.1 3)) (C := R_Desk) (T := T_Desk) (N := 8) hx hb hts (fun w h => gd_sub _ (iw_Desk w h)) hown hK hP 0 rfl rfl 3 (by decide) (hts _ (gd_sub _ q_208)) (fun _ h9 => h9) rfl d_Desk_controlWord_53 ?_
      refine lv_iconst (v := 3) hx hb d_Desk_controlWord_56 (by decide) ?_
      refine lv_icmp_ne (tgt := 67) hx hb d_Desk_controlWord_57 (by decide) (fun c_280 => ?_) (fun c_280 => ?_)
      · refine lv_iload_n hx hb d_Desk_controlWord_67 rfl (lv_at hl 5 rfl) ?_
        exact J68 v3 v4 v5 t0 (k_Desk_refusalOfAccess sx sc sy v3 t0) v3 H locs ls (hj.trans (by rw [k_Desk_controlWord_j32]; rw [if_pos c_279]; rw [if_neg c_280]; try rfl)) hP hD hS (lv_sub hl [2, 3, 4, 5, 6, 7, 1, 0] rfl)
      · refine lv_iload_n hx hb d_Desk_controlWord_60 rfl (lv_at hl 5 rfl) ?_
        refine ct_cSi (wr := [(qx, .inr (5, f_Desk qc qo qr sx)), (qc, .inr (1, f_Controls qo qhs qgs qy sc)), (qo, .inr (3, f_Outside qa so)), (qhs, .inr (0, f_Bank shs)), (qgs, .inr (0, f_Bank sgs)), (qy, .inr (2, f_Hyper sy)), (qr, .inr (4, f_Registers sr))]) (w1 := []) (w2 := [(qx, .inr (5, f_Desk qc qo qr sx)), (qc, .inr (1, f_Controls qo qhs qgs qy sc)), (qo, .inr (3, f_Outside qa so)), (qhs, .inr (0, f_Bank shs)), (qgs, .inr (0, f_Bank sgs)), (qy, .inr (2, f_Hyper sy)), (qr, .inr (4, f_Registers sr))]) (r := (k_Numbers_inVs v3)) (As := [.int v3]) (rest := []) ⟨hx, hb, hml, hown, hts⟩ (c_Numbers_inVs l G tys v3) (va_cwS 1 hts (gdS gd_gd q_500 q_501 q_48 q_502) rfl rfl rfl (by decide +kernel) ⟨Nat.le_of_ble_eq_true rfl, Nat.le_of_ble_eq_true rfl⟩) hE hK hP hD hS hA [] [0, 1, 2, 3, 4, 5, 6] [0, 1, 2, 3, 4, 5, 6] rfl (by decide) rfl (by decide) (by decide) rfl (by decide) rfl hl.1 rfl (Nat.le_of_ble_eq_true rfl) d_Desk_controlWord_61 ⟨Nat.zero_le _, Nat.zero_le _⟩ (fun H locs hP hD hS => ?_)
        refine lv_goto (tgt := 68) hx hb d_Desk_controlWord_64 (by decide) ?_
        exact J68 v3 v4 v5 t0 (k_Desk_refusalOfAccess sx sc sy v3 t0) (k_Numbers_inVs v3) H locs ls (hj.trans (by rw [k_Desk_controlWord_j32]; rw [if_pos c_279]; rw [if_pos c_280]; try rfl)) hP hD hS (lv_sub hl [2, 3, 4, 5, 6, 7, 1, 0] rfl)
    · refine lv_iload hx hb d_Desk_controlWord_49 (lv_at hl 0 rfl) ?_
      have hk : k_Desk_controlWord sx sc so shs sgs sy sr p1 p2 = ((k_Desk_refusalOfAccess sx sc sy v3 t0), sx, sc, shs, sgs, sy, sr) := (hj.trans (by rw [k_Desk_controlWord_j32]; rw [if_neg c_279]; try rfl))
      exact ct_ri hx hb hr hlocks hP hD hK hS d_Desk_controlWord_51 (by rw [hk]; first | done | rfl) (by rw [hk]; first | done | rfl)
  have J27 : ∀ (v3 : Int32) (v4 : Int32) (v5 : Int32) (H : Heap) (locs : List Loc) (ls : Array Slot), k_Desk_controlWord sx sc so shs sgs sy sr p1 p2 = k_Desk_controlWord_j27 sx sc so shs sgs sy sr p1 p2 v3 v4 v5 → va_P G.1 vwCl [(qx, .inr (5, f_Desk qc qo qr sx)), (qc, .inr (1, f_Controls qo qhs qgs qy sc)), (qo, .inr (3, f_Outside qa so)), (qhs, .inr (0, f_Bank shs)), (qgs, .inr (0, f_Bank sgs)), (qy, .inr (2, f_Hyper sy)), (qr, .inr (4, f_Registers sr))] H → va_D A [(qx, .inr (5, f_Desk qc qo qr sx)), (qc, .inr (1, f_Controls qo qhs qgs qy sc)), (qo, .inr (3, f_Outside qa so)), (qhs, .inr (0, f_Bank shs)), (qgs, .inr (0, f_Bank sgs)), (qy, .inr (2, f_Hyper sy)), (qr, .inr (4, f_Registers sr))] → va_S A s.heap H locs → lv_has ls 11 [(0, .ref qx), (1, .int p1), (2, .int p2), (3, .int v3), (4, .int v4), (5, .int v5)] → W p l e ({ frames := 5, cells := 0, slots := 0, locals := 104 }) s m ([.ref qx, .int p1, .int p2] : List Value).toArray below meth c H locs 0 0 (MQ below (ct_qi G tys A ((k_Desk_controlWord sx sc so shs sgs sy sr p1 p2).1) [(qx, .inr (5, f_Desk qc qo qr ((k_Desk_controlWord sx sc so shs sgs sy sr p1 p2).2.1))), (qc, .inr (1, f_Controls qo qhs qgs qy ((k_Desk_controlWord sx sc so shs sgs sy sr p1 p2).2.2.1))), (qo, .inr (3, f_Outside qa so)), (qhs, .inr (0, f_Bank ((k_Desk_controlWord sx sc so shs sgs sy sr p1 p2).2.2.2.1))), (qgs, .inr (0, f_Bank ((k_Desk_controlWord sx sc so shs sgs sy sr p1 p2).2.2.2.2.1))), (qy, .inr (2, f_Hyper ((k_Desk_controlWord sx sc so shs sgs sy sr p1 p2).2.2.2.2.2.1))), (qr, .inr (4, f_Registers ((k_Desk_controlWord sx sc so shs sgs sy sr p1 p2).2.2.2.2.2.2)))]) ([.ref qx, .int p1, .int p2] : List Value).toArray s 0 0 A) (F0 m 27 ls []) := by
    intro v3 v4 v5 H locs ls hj hP hD hS hl
    refine lv_iconst (v := 1) hx hb d_Desk_controlWord_27 (by decide) ?_
    refine lv_goto (tgt := 32) hx hb d_Desk_controlWord_28 (by decide) ?_
    exact J32 v3 v4 v5 true H locs ls (hj.trans (by rw [k_Desk_controlWord_j27]; try rfl)) hP hD hS (lv_sub hl [0, 1, 2, 3, 4, 5] rfl)
  obtain ⟨H, eH⟩ : ∃ z, z = s.heap := ⟨_, rfl⟩
  obtain ⟨locs, eL⟩ : ∃ z, z = ([] : List Loc) := ⟨_, rfl⟩
  have hP : va_P G.1 vwCl [(qx, .inr (5, f_Desk qc qo qr sx)), (qc, .inr (1, f_Controls qo qhs qgs qy sc)), (qo, .inr (3, f_Outside qa so)), (qhs, .inr (0, f_Bank shs)), (qgs, .inr (0, f_Bank sgs)), (qy, .inr (2, f_Hyper sy)), (qr, .inr (4, f_Registers sr))] H := by rw [eH]; exact hP
  have hS : va_S A s.heap H locs := by rw [eH, eL]; exact hS
  suffices hW : W p l e ({ frames := 5, cells := 0, slots := 0, locals := 104 }) s m ([.ref qx, .int p1, .int p2] : List Value).toArray below meth c H locs 0 0 (MQ below (ct_qi G tys A ((k_Desk_controlWord sx sc so shs sgs sy sr p1 p2).1) [(qx, .inr (5, f_Desk qc qo qr ((k_Desk_controlWord sx sc so shs sgs sy sr p1 p2).2.1))), (qc, .inr (1, f_Controls qo qhs qgs qy ((k_Desk_controlWord sx sc so shs sgs sy sr p1 p2).2.2.1))), (qo, .inr (3, f_Outside qa so)), (qhs, .inr (0, f_Bank ((k_Desk_controlWord sx sc so shs sgs sy sr p1 p2).2.2.2.1))), (qgs, .inr (0, f_Bank ((k_Desk_controlWord sx sc so shs sgs sy sr p1 p2).2.2.2.2.1))), (qy, .inr (2, f_Hyper ((k_Desk_controlWord sx sc so shs sgs sy sr p1 p2).2.2.2.2.2.1))), (qr, .inr (4, f_Registers ((k_Desk_controlWord sx sc so shs sgs sy sr p1 p2).2.2.2.2.2.2)))]) ([.ref qx, .int p1, .int p2] : List Value).toArray s 0 0 A) (F0 m 0 ls []) by rw [eH, eL] at hW; exact hW
  refine lv_iload_n hx hb d_Desk_controlWord_0 rfl (lv_at hl 1 rfl) ?_
  refine lv_bipush (v := 20) hx hb d_Desk_controlWord_1 (by decide) ?_
  refine lv_iushr (v := (ush p1 20)) hx hb d_Desk_controlWord_3 rfl ?_
  refine lv_istore_n (lv' := [(3, .int (ush p1 20)), (0, .ref qx), (1, .int p1), (2, .int p2)]) hx hb d_Desk_controlWord_4 rfl hl (by decide) rfl (fun ls hl => ?_)
  refine lv_iload_n hx hb d_Desk_controlWord_5 rfl (lv_at hl 2 rfl) ?_
  refine ct_cSi (wr := [(qx, .inr (5, f_Desk qc qo qr sx)), (qc, .inr (1, f_Controls qo qhs qgs qy sc)), (qo, .inr (3, f_Outside qa so)), (qhs, .inr (0, f_Bank shs)), (qgs, .inr (0, f_Bank sgs)), (qy, .inr (2, f_Hyper sy)), (qr, .inr (4, f_Registers sr))]) (w1 := []) (w2 := [(qx, .inr (5, f_Desk qc qo qr sx)), (qc, .inr (1, f_Controls qo qhs qgs qy sc)), (qo, .inr (3, f_Outside qa so)), (qhs, .inr (0, f_Bank shs)), (qgs, .inr (0, f_Bank sgs)), (qy, .inr (2, f_Hyper sy)), (qr, .inr (4, f_Registers sr))]) (r := (k_Desk_fieldA p1)) (As := [.int p1]) (rest := []) ⟨hx, hb, hml, hown, hts⟩ (c_Desk_fieldA l G tys p1) (va_cwS 1 hts (gdS gd_gd q_442 q_443 q_41 q_444) rfl rfl rfl (by decide +kernel) ⟨Nat.le_of_ble_eq_true rfl, Nat.le_of_ble_eq_true rfl⟩) hE hK hP hD hS hA [] [0, 1, 2, 3, 4, 5, 6] [0, 1, 2, 3, 4, 5, 6] rfl (by decide) rfl (by decide) (by decide) rfl (by decide) rfl hl.1 rfl (Nat.le_of_ble_eq_true rfl) d_Desk_controlWord_6 ⟨Nat.zero_le _, Nat.zero_le _⟩ (fun H locs hP hD hS => ?_)
  refine lv_istore (lv' := [(4, .int (k_Desk_fieldA p1)), (3, .int (ush p1 20)), (0, .ref qx), (1, .int p1), (2, .int p2)]) hx hb d_Desk_controlWord_9 hl (by decide) rfl (fun ls hl => ?_)
  refine lv_iload_n hx hb d_Desk_controlWord_11 rfl (lv_at hl 4 rfl) ?_
  refine lv_iconst (v := 3) hx hb d_Desk_controlWord_12 (by decide) ?_
  refine lv_iand hx hb d_Desk_controlWord_13 ?_
  refine lv_istore (lv' := [(5, .int (p2 &&& 3)), (4, .int (k_Desk_fieldA p1)), (3, .int (ush p1 20)), (0, .ref qx), (1, .int p1), (2, .int p2)]) hx hb d_Desk_controlWord_14 hl (by decide) rfl (fun ls hl => ?_)
  refine lv_iload hx hb d_Desk_controlWord_16 (lv_at hl 0 rfl) ?_
  refine lv_iconst (v := 1) hx hb d_Desk_controlWord_18 (by decide) ?_
  refine lv_icmp_eq (tgt := 27) hx hb d_Desk_controlWord_19 (by decide) (fun c_281 => ?_) (fun c_281 => ?_)
  · exact J27 (ush p1 20) (k_Desk_fieldA p1) (p2 &&& 3) H locs ls (by rw [k_Desk_controlWord]; rw [if_pos c_281]; try rfl) hP hD hS (lv_sub hl [3, 4, 5, 2, 1, 0] rfl)
  · refine lv_iload hx hb d_Desk_controlWord_22 (lv_at hl 1 rfl) ?_
    refine lv_if_eq (tgt := 31) hx hb d_Desk_controlWord_24 (by decide) (fun c_282 => ?_) (fun c_282 => ?_)
    · refine lv_iconst (v := 0) hx hb d_Desk_controlWord_31 (by decide) ?_
      exact J32 (ush p1 20) (k_Desk_fieldA p1) (p2 &&& 3) false H locs ls (by rw [k_Desk_controlWord]; rw [if_neg c_281]; rw [if_pos c_282]; try rfl) hP hD hS (lv_sub hl [3, 4, 5, 2, 1, 0] rfl)
    · exact J27 (ush p1 20) (k_Desk_fieldA p1) (p2 &&& 3) H locs ls (by rw [k_Desk_controlWord]; rw [if_neg c_281]; rw [if_neg c_282]; try rfl) hP hD hS (lv_sub hl [3, 4, 5, 2, 1, 0] rfl)
def k_Desk_fieldG (p1 : Int32) : Int32 :=
  (ush p1 25)
set_option maxHeartbeats 4000000 in
set_option maxRecDepth 100000 in
theorem c_Desk_fieldG (l : Launch) (G : gx) (tys : List (ClassId × FieldType)) (p1 : Int32) : ct_I l y_Desk_fieldG ws_Desk_fieldG ({ frames := 0, cells := 0, slots := 0, locals := 0 }) G tys [.int p1] [] (k_Desk_fieldG p1) [] := by
  refine ct_hI (cc := cc_Desk_fieldG) (maxL := 1) (ret := (some .int)) (by decide) rfl (Nat.le_of_ble_eq_true rfl) ?_
  intro p e s m below meth c A ls hx hb hr hml hts hown hlocks hP hK hD hA hE hS hl
  have hl : lv_has ls 1 [(0, .int p1)] := hl
  have hown : s.vm.findClass R_Desk = some m.cls := hown
  refine lv_iload_n hx hb d_Desk_fieldG_0 rfl (lv_at hl 0 rfl) ?_
  refine lv_bipush (v := 25) hx hb d_Desk_fieldG_1 (by decide) ?_
  refine lv_iushr (v := (ush p1 25)) hx hb d_Desk_fieldG_3 rfl ?_
  have hk : k_Desk_fieldG p1 = (ush p1 25) := (by rw [k_Desk_fieldG]; try rfl)
  exact ct_ri hx hb hr hlocks hP hD hK hS d_Desk_fieldG_4 (by rw [hk]; first | done | rfl) rfl
def k_Desk_fieldB (p1 : Int32) : Int32 :=
  ((ush p1 20) &&& 31)
set_option maxHeartbeats 4000000 in
set_option maxRecDepth 100000 in
theorem c_Desk_fieldB (l : Launch) (G : gx) (tys : List (ClassId × FieldType)) (p1 : Int32) : ct_I l y_Desk_fieldB ws_Desk_fieldB ({ frames := 0, cells := 0, slots := 0, locals := 0 }) G tys [.int p1] [] (k_Desk_fieldB p1) [] := by
  refine ct_hI (cc := cc_Desk_fieldB) (maxL := 1) (ret := (some .int)) (by decide) rfl (Nat.le_of_ble_eq_true rfl) ?_
  intro p e s m below meth c A ls hx hb hr hml hts hown hlocks hP hK hD hA hE hS hl
  have hl : lv_has ls 1 [(0, .int p1)] := hl
  have hown : s.vm.findClass R_Desk = some m.cls := hown
  refine lv_iload_n hx hb d_Desk_fieldB_0 rfl (lv_at hl 0 rfl) ?_
  refine lv_bipush (v := 20) hx hb d_Desk_fieldB_1 (by decide) ?_
  refine lv_iushr (v := (ush p1 20)) hx hb d_Desk_fieldB_3 rfl ?_
  refine lv_bipush (v := 31) hx hb d_Desk_fieldB_4 (by decide) ?_
  refine lv_iand hx hb d_Desk_fieldB_6 ?_
  have hk : k_Desk_fieldB p1 = ((ush p1 20) &&& 31) := (by rw [k_Desk_fieldB]; try rfl)
  exact ct_ri hx hb hr hlocks hP hD hK hS d_Desk_fieldB_7 (by rw [hk]; first | done | rfl) rfl
def k_Desk_isFarAccess (p1 : Int32) (p2 : Int32) (p3 : Int32) : Bool :=
  if p1 = 48 then (if p2 = 0 then true else (if p2 = 1 then true else false)) else if p1 = 49 then (if p3 = 0 then true else false) else if p1 = 50 then (if p2 = 0 then true else (if p2 = 1 then true else (if p2 = 3 then true else false))) else if p1 = 51 then (if p3 = 0 then true else false) else if p1 = 52 then (if p2 = 0 then true else (if p2 = 3 then true else false)) else if p1 = 53 then (if p3 = 0 then true else false) else false
set_option maxHeartbeats 4000000 in
set_option maxRecDepth 100000 in
theorem c_Desk_isFarAccess (l : Launch) (G : gx) (tys : List (ClassId × FieldType)) (p1 : Int32) (p2 : Int32) (p3 : Int32) : ct_I l y_Desk_isFarAccess ws_Desk_isFarAccess ({ frames := 0, cells := 0, slots := 0, locals := 0 }) G tys [.int p1, .int p2, .int p3] [] (bI (k_Desk_isFarAccess p1 p2 p3)) [] := by
  refine ct_hI (cc := cc_Desk_isFarAccess) (maxL := 3) (ret := (some .boolean)) (by decide) rfl (Nat.le_of_ble_eq_true rfl) ?_
  intro p e s m below meth c A ls hx hb hr hml hts hown hlocks hP hK hD hA hE hS hl
  have hl : lv_has ls 3 [(0, .int p1), (1, .int p2), (2, .int p3)] := hl
  have hown : s.vm.findClass R_Desk = some m.cls := hown
  refine lv_iload_n hx hb d_Desk_isFarAccess_0 rfl (lv_at hl 0 rfl) ?_
  by_cases c_306 : p1 = 48
  · refine lv_tableIn (off := 39) (tgt := 40) hx hb d_Desk_isFarAccess_1 (by rw [c_306]; decide) (by rw [c_306]; decide) (by rw [c_306]; decide) (by decide) ?_
    refine lv_iload_n hx hb d_Desk_isFarAccess_40 rfl (lv_at hl 1 rfl) ?_
    refine lv_if_eq (tgt := 49) hx hb d_Desk_isFarAccess_41 (by decide) (fun c_307 => ?_) (fun c_307 => ?_)
    · refine lv_iconst (v := 1) hx hb d_Desk_isFarAccess_49 (by decide) ?_
      refine lv_goto (tgt := 54) hx hb d_Desk_isFarAccess_50 (by decide) ?_
      have hk : k_Desk_isFarAccess p1 p2 p3 = true := (by rw [k_Desk_isFarAccess]; rw [if_pos c_306]; rw [if_pos c_307]; try rfl)
      exact ct_rz hx hb hr hlocks hP hD hK hS d_Desk_isFarAccess_54 rfl (by rw [hk]; first | done | rfl) rfl
    · refine lv_iload_n hx hb d_Desk_isFarAccess_44 rfl (lv_at hl 1 rfl) ?_
      refine lv_iconst (v := 1) hx hb d_Desk_isFarAccess_45 (by decide) ?_
      refine lv_icmp_ne (tgt := 53) hx hb d_Desk_isFarAccess_46 (by decide) (fun c_308 => ?_) (fun c_308 => ?_)
      · refine lv_iconst (v := 0) hx hb d_Desk_isFarAccess_53 (by decide) ?_
        have hk : k_Desk_isFarAccess p1 p2 p3 = false := (by rw [k_Desk_isFarAccess]; rw [if_pos c_306]; rw [if_neg c_307]; rw [if_neg c_308]; try rfl)
        exact ct_rz hx hb hr hlocks hP hD hK hS d_Desk_isFarAccess_54 rfl (by rw [hk]; first | done | rfl) rfl
      · refine lv_iconst (v := 1) hx hb d_Desk_isFarAccess_49 (by decide) ?_
        refine lv_goto (tgt := 54) hx hb d_Desk_isFarAccess_50 (by decide) ?_
        have hk : k_Desk_isFarAccess p1 p2 p3 = true := (by rw [k_Desk_isFarAccess]; rw [if_pos c_306]; rw [if_neg c_307]; rw [if_pos c_308]; try rfl)
        exact ct_rz hx hb hr hlocks hP hD hK hS d_Desk_isFarAccess_54 rfl (by rw [hk]; first | done | rfl) rfl
  · by_cases c_309 : p1 = 49
    · refine lv_tableIn (off := 89) (tgt := 90) hx hb d_Desk_isFarAccess_1 (by rw [c_309]; decide) (by rw [c_309]; decide) (by rw [c_309]; decide) (by decide) ?_
      refine lv_iload_n hx hb d_Desk_isFarAccess_90 rfl (lv_at hl 2 rfl) ?_
      refine lv_if_ne (tgt := 98) hx hb d_Desk_isFarAccess_91 (by decide) (fun c_310 => ?_) (fun c_310 => ?_)
      · refine lv_iconst (v := 0) hx hb d_Desk_isFarAccess_98 (by decide) ?_
        have hk : k_Desk_isFarAccess p1 p2 p3 = false := (by rw [k_Desk_isFarAccess]; rw [if_neg c_306]; rw [if_pos c_309]; rw [if_neg c_310]; try rfl)
        exact ct_rz hx hb hr hlocks hP hD hK hS d_Desk_isFarAccess_99 rfl (by rw [hk]; first | done | rfl) rfl
      · refine lv_iconst (v := 1) hx hb d_Desk_isFarAccess_94 (by decide) ?_
        refine lv_goto (tgt := 99) hx hb d_Desk_isFarAccess_95 (by decide) ?_
        have hk : k_Desk_isFarAccess p1 p2 p3 = true := (by rw [k_Desk_isFarAccess]; rw [if_neg c_306]; rw [if_pos c_309]; rw [if_pos c_310]; try rfl)
        exact ct_rz hx hb hr hlocks hP hD hK hS d_Desk_isFarAccess_99 rfl (by rw [hk]; first | done | rfl) rfl
    · by_cases c_311 : p1 = 50
      · refine lv_tableIn (off := 54) (tgt := 55) hx hb d_Desk_isFarAccess_1 (by rw [c_311]; decide) (by rw [c_311]; decide) (by rw [c_311]; decide) (by decide) ?_
        refine lv_iload_n hx hb d_Desk_isFarAccess_55 rfl (lv_at hl 1 rfl) ?_
        refine lv_if_eq (tgt := 69) hx hb d_Desk_isFarAccess_56 (by decide) (fun c_312 => ?_) (fun c_312 => ?_)
        · refine lv_iconst (v := 1) hx hb d_Desk_isFarAccess_69 (by decide) ?_
          refine lv_goto (tgt := 74) hx hb d_Desk_isFarAccess_70 (by decide) ?_
          have hk : k_Desk_isFarAccess p1 p2 p3 = true := (by rw [k_Desk_isFarAccess]; rw [if_neg c_306]; rw [if_neg c_309]; rw [if_pos c_311]; rw [if_pos c_312]; try rfl)
          exact ct_rz hx hb hr hlocks hP hD hK hS d_Desk_isFarAccess_74 rfl (by rw [hk]; first | done | rfl) rfl
        · refine lv_iload_n hx hb d_Desk_isFarAccess_59 rfl (lv_at hl 1 rfl) ?_
          refine lv_iconst (v := 1) hx hb d_Desk_isFarAccess_60 (by decide) ?_
          refine lv_icmp_eq (tgt := 69) hx hb d_Desk_isFarAccess_61 (by decide) (fun c_313 => ?_) (fun c_313 => ?_)
          · refine lv_iconst (v := 1) hx hb d_Desk_isFarAccess_69 (by decide) ?_
            refine lv_goto (tgt := 74) hx hb d_Desk_isFarAccess_70 (by decide) ?_
            have hk : k_Desk_isFarAccess p1 p2 p3 = true := (by rw [k_Desk_isFarAccess]; rw [if_neg c_306]; rw [if_neg c_309]; rw [if_pos c_311]; rw [if_neg c_312]; rw [if_pos c_313]; try rfl)
            exact ct_rz hx hb hr hlocks hP hD hK hS d_Desk_isFarAccess_74 rfl (by rw [hk]; first | done | rfl) rfl
          · refine lv_iload_n hx hb d_Desk_isFarAccess_64 rfl (lv_at hl 1 rfl) ?_
            refine lv_iconst (v := 3) hx hb d_Desk_isFarAccess_65 (by decide) ?_
            refine lv_icmp_ne (tgt := 73) hx hb d_Desk_isFarAccess_66 (by decide) (fun c_314 => ?_) (fun c_314 => ?_)
            · refine lv_iconst (v := 0) hx hb d_Desk_isFarAccess_73 (by decide) ?_
              have hk : k_Desk_isFarAccess p1 p2 p3 = false := (by rw [k_Desk_isFarAccess]; rw [if_neg c_306]; rw [if_neg c_309]; rw [if_pos c_311]; rw [if_neg c_312]; rw [if_neg c_313]; rw [if_neg c_314]; try rfl)
              exact ct_rz hx hb hr hlocks hP hD hK hS d_Desk_isFarAccess_74 rfl (by rw [hk]; first | done | rfl) rfl
            · refine lv_iconst (v := 1) hx hb d_Desk_isFarAccess_69 (by decide) ?_
              refine lv_goto (tgt := 74) hx hb d_Desk_isFarAccess_70 (by decide) ?_
              have hk : k_Desk_isFarAccess p1 p2 p3 = true := (by rw [k_Desk_isFarAccess]; rw [if_neg c_306]; rw [if_neg c_309]; rw [if_pos c_311]; rw [if_neg c_312]; rw [if_neg c_313]; rw [if_pos c_314]; try rfl)
              exact ct_rz hx hb hr hlocks hP hD hK hS d_Desk_isFarAccess_74 rfl (by rw [hk]; first | done | rfl) rfl
      · by_cases c_315 : p1 = 51
        · refine lv_tableIn (off := 89) (tgt := 90) hx hb d_Desk_isFarAccess_1 (by rw [c_315]; decide) (by rw [c_315]; decide) (by rw [c_315]; decide) (by decide) ?_
          refine lv_iload_n hx hb d_Desk_isFarAccess_90 rfl (lv_at hl 2 rfl) ?_
          refine lv_if_ne (tgt := 98) hx hb d_Desk_isFarAccess_91 (by decide) (fun c_316 => ?_) (fun c_316 => ?_)
          · refine lv_iconst (v := 0) hx hb d_Desk_isFarAccess_98 (by decide) ?_
            have hk : k_Desk_isFarAccess p1 p2 p3 = false := (by rw [k_Desk_isFarAccess]; rw [if_neg c_306]; rw [if_neg c_309]; rw [if_neg c_311]; rw [if_pos c_315]; rw [if_neg c_316]; try rfl)
            exact ct_rz hx hb hr hlocks hP hD hK hS d_Desk_isFarAccess_99 rfl (by rw [hk]; first | done | rfl) rfl
          · refine lv_iconst (v := 1) hx hb d_Desk_isFarAccess_94 (by decide) ?_
            refine lv_goto (tgt := 99) hx hb d_Desk_isFarAccess_95 (by decide) ?_
            have hk : k_Desk_isFarAccess p1 p2 p3 = true := (by rw [k_Desk_isFarAccess]; rw [if_neg c_306]; rw [if_neg c_309]; rw [if_neg c_311]; rw [if_pos c_315]; rw [if_pos c_316]; try rfl)
            exact ct_rz hx hb hr hlocks hP hD hK hS d_Desk_isFarAccess_99 rfl (by rw [hk]; first | done | rfl) rfl
        · by_cases c_317 : p1 = 52
          · refine lv_tableIn (off := 74) (tgt := 75) hx hb d_Desk_isFarAccess_1 (by rw [c_317]; decide) (by rw [c_317]; decide) (by rw [c_317]; decide) (by decide) ?_
            refine lv_iload_n hx hb d_Desk_isFarAccess_75 rfl (lv_at hl 1 rfl) ?_
            refine lv_if_eq (tgt := 84) hx hb d_Desk_isFarAccess_76 (by decide) (fun c_318 => ?_) (fun c_318 => ?_)
            · refine lv_iconst (v := 1) hx hb d_Desk_isFarAccess_84 (by decide) ?_
              refine lv_goto (tgt := 89) hx hb d_Desk_isFarAccess_85 (by decide) ?_
              have hk : k_Desk_isFarAccess p1 p2 p3 = true := (by rw [k_Desk_isFarAccess]; rw [if_neg c_306]; rw [if_neg c_309]; rw [if_neg c_311]; rw [if_neg c_315]; rw [if_pos c_317]; rw [if_pos c_318]; try rfl)
              exact ct_rz hx hb hr hlocks hP hD hK hS d_Desk_isFarAccess_89 rfl (by rw [hk]; first | done | rfl) rfl
            · refine lv_iload_n hx hb d_Desk_isFarAccess_79 rfl (lv_at hl 1 rfl) ?_
              refine lv_iconst (v := 3) hx hb d_Desk_isFarAccess_80 (by decide) ?_
              refine lv_icmp_ne (tgt := 88) hx hb d_Desk_isFarAccess_81 (by decide) (fun c_319 => ?_) (fun c_319 => ?_)
              · refine lv_iconst (v := 0) hx hb d_Desk_isFarAccess_88 (by decide) ?_
                have hk : k_Desk_isFarAccess p1 p2 p3 = false := (by rw [k_Desk_isFarAccess]; rw [if_neg c_306]; rw [if_neg c_309]; rw [if_neg c_311]; rw [if_neg c_315]; rw [if_pos c_317]; rw [if_neg c_318]; rw [if_neg c_319]; try rfl)
                exact ct_rz hx hb hr hlocks hP hD hK hS d_Desk_isFarAccess_89 rfl (by rw [hk]; first | done | rfl) rfl
              · refine lv_iconst (v := 1) hx hb d_Desk_isFarAccess_84 (by decide) ?_
                refine lv_goto (tgt := 89) hx hb d_Desk_isFarAccess_85 (by decide) ?_
                have hk : k_Desk_isFarAccess p1 p2 p3 = true := (by rw [k_Desk_isFarAccess]; rw [if_neg c_306]; rw [if_neg c_309]; rw [if_neg c_311]; rw [if_neg c_315]; rw [if_pos c_317]; rw [if_neg c_318]; rw [if_pos c_319]; try rfl)
                exact ct_rz hx hb hr hlocks hP hD hK hS d_Desk_isFarAccess_89 rfl (by rw [hk]; first | done | rfl) rfl
          · by_cases c_320 : p1 = 53
            · refine lv_tableIn (off := 89) (tgt := 90) hx hb d_Desk_isFarAccess_1 (by rw [c_320]; decide) (by rw [c_320]; decide) (by rw [c_320]; decide) (by decide) ?_
              refine lv_iload_n hx hb d_Desk_isFarAccess_90 rfl (lv_at hl 2 rfl) ?_
              refine lv_if_ne (tgt := 98) hx hb d_Desk_isFarAccess_91 (by decide) (fun c_321 => ?_) (fun c_321 => ?_)
              · refine lv_iconst (v := 0) hx hb d_Desk_isFarAccess_98 (by decide) ?_
                have hk : k_Desk_isFarAccess p1 p2 p3 = false := (by rw [k_Desk_isFarAccess]; rw [if_neg c_306]; rw [if_neg c_309]; rw [if_neg c_311]; rw [if_neg c_315]; rw [if_neg c_317]; rw [if_pos c_320]; rw [if_neg c_321]; try rfl)
                exact ct_rz hx hb hr hlocks hP hD hK hS d_Desk_isFarAccess_99 rfl (by rw [hk]; first | done | rfl) rfl
              · refine lv_iconst (v := 1) hx hb d_Desk_isFarAccess_94 (by decide) ?_
                refine lv_goto (tgt := 99) hx hb d_Desk_isFarAccess_95 (by decide) ?_
                have hk : k_Desk_isFarAccess p1 p2 p3 = true := (by rw [k_Desk_isFarAccess]; rw [if_neg c_306]; rw [if_neg c_309]; rw [if_neg c_311]; rw [if_neg c_315]; rw [if_neg c_317]; rw [if_pos c_320]; rw [if_pos c_321]; try rfl)
                exact ct_rz hx hb hr hlocks hP hD hK hS d_Desk_isFarAccess_99 rfl (by rw [hk]; first | done | rfl) rfl
            · refine lv_tableOut (tgt := 100) hx hb d_Desk_isFarAccess_1 (by have := lv_neT (a := 48) c_306 (by decide); have := lv_neT (a := 49) c_309 (by decide); have := lv_neT (a := 50) c_311 (by decide); have := lv_neT (a := 51) c_315 (by decide); have := lv_neT (a := 52) c_317 (by decide); have := lv_neT (a := 53) c_320 (by decide); omega) (by decide) ?_
              refine lv_iconst (v := 0) hx hb d_Desk_isFarAccess_100 (by decide) ?_
              have hk : k_Desk_isFarAccess p1 p2 p3 = false := (by rw [k_Desk_isFarAccess]; rw [if_neg c_306]; rw [if_neg c_309]; rw [if_neg c_311]; rw [if_neg c_315]; rw [if_neg c_317]; rw [if_neg c_320]; try rfl)
              exact ct_rz hx hb hr hlocks hP hD hK hS d_Desk_isFarAccess_101 rfl (by rw [hk]; first | done | rfl) rfl
def k_Desk_isVirtual (sx : ob) : Bool :=
  if (sx.1 3) = 2 then true else (if (sx.1 3) = 3 then true else false)
set_option maxHeartbeats 4000000 in
set_option maxRecDepth 100000 in
theorem c_Desk_isVirtual (l : Launch) (G : gx) (tys : List (ClassId × FieldType)) (qx qc qo qr : Nat) (sx : ob) : ct_I l y_Desk_isVirtual ws_Desk_isVirtual ({ frames := 0, cells := 0, slots := 0, locals := 0 }) G tys [.ref qx] [(qx, .inr (5, f_Desk qc qo qr sx))] (bI (k_Desk_isVirtual sx)) [(qx, .inr (5, f_Desk qc qo qr sx))] := by
  refine ct_hI (cc := cc_Desk_isVirtual) (maxL := 1) (ret := (some .boolean)) (by decide) rfl (Nat.le_of_ble_eq_true rfl) ?_
  intro p e s m below meth c A ls hx hb hr hml hts hown hlocks hP hK hD hA hE hS hl
  have hl : lv_has ls 1 [(0, .ref qx)] := hl
  have hown : s.vm.findClass R_Desk = some m.cls := hown
  refine lv_aload_n hx hb d_Desk_isVirtual_0 rfl (lv_at hl 0 rfl) ?_
  refine va_get (D := G.1) (ci := 5) (v := .int (sx.1 3)) (C := R_Desk) (T := T_Desk) (N := 8) hx hb hts (fun w h => gd_sub _ (iw_Desk w h)) hown hK hP 0 rfl rfl 3 (by decide) (hts _ (gd_sub _ q_208)) (fun _ h9 => h9) rfl d_Desk_isVirtual_1 ?_
  refine lv_iconst (v := 2) hx hb d_Desk_isVirtual_4 (by decide) ?_
  refine lv_icmp_eq (tgt := 16) hx hb d_Desk_isVirtual_5 (by decide) (fun c_325 => ?_) (fun c_325 => ?_)
  · refine lv_iconst (v := 1) hx hb d_Desk_isVirtual_16 (by decide) ?_
    refine lv_goto (tgt := 21) hx hb d_Desk_isVirtual_17 (by decide) ?_
    have hk : k_Desk_isVirtual sx = true := (by rw [k_Desk_isVirtual]; rw [if_pos c_325]; try rfl)
    exact ct_rz hx hb hr hlocks hP hD hK hS d_Desk_isVirtual_21 rfl (by rw [hk]; first | done | rfl) rfl
  · refine lv_aload_n hx hb d_Desk_isVirtual_8 rfl (lv_at hl 0 rfl) ?_
    refine va_get (D := G.1) (ci := 5) (v := .int (sx.1 3)) (C := R_Desk) (T := T_Desk) (N := 8) hx hb hts (fun w h => gd_sub _ (iw_Desk w h)) hown hK hP 0 rfl rfl 3 (by decide) (hts _ (gd_sub _ q_208)) (fun _ h9 => h9) rfl d_Desk_isVirtual_9 ?_
    refine lv_iconst (v := 3) hx hb d_Desk_isVirtual_12 (by decide) ?_
    refine lv_icmp_ne (tgt := 20) hx hb d_Desk_isVirtual_13 (by decide) (fun c_326 => ?_) (fun c_326 => ?_)
    · refine lv_iconst (v := 0) hx hb d_Desk_isVirtual_20 (by decide) ?_
      have hk : k_Desk_isVirtual sx = false := (by rw [k_Desk_isVirtual]; rw [if_neg c_325]; rw [if_neg c_326]; try rfl)
      exact ct_rz hx hb hr hlocks hP hD hK hS d_Desk_isVirtual_21 rfl (by rw [hk]; first | done | rfl) rfl
    · refine lv_iconst (v := 1) hx hb d_Desk_isVirtual_16 (by decide) ?_
      refine lv_goto (tgt := 21) hx hb d_Desk_isVirtual_17 (by decide) ?_
      have hk : k_Desk_isVirtual sx = true := (by rw [k_Desk_isVirtual]; rw [if_neg c_325]; rw [if_pos c_326]; try rfl)
      exact ct_rz hx hb hr hlocks hP hD hK hS d_Desk_isVirtual_21 rfl (by rw [hk]; first | done | rfl) rfl
def k_Desk_farAccessWord (sx : ob) (sc : ob) (sy : ob) (p1 : Int32) : Int32 :=
  if (bI (k_Desk_isFarAccess (k_Desk_fieldG p1) (k_Desk_fieldB p1) (k_Desk_fieldD p1))) = 0 then 2 else (if (bI (k_Desk_isVirtual sx)) = 0 then (if (sx.1 3) = 0 then (if (bI (k_Hyper_hasStatus sy 512)) = 0 then 2 else (-2)) else (-2)) else 22)
set_option maxHeartbeats 4000000 in
set_option maxRecDepth 100000 in
theorem c_Desk_farAccessWord (l : Launch) (G : gx) (tys : List (ClassId × FieldType)) (qx qc qy qo qr qhs qgs : Nat) (sx : ob) (sc : ob) (sy : ob) (p1 : Int32) : ct_I l y_Desk_farAccessWord ws_Desk_farAccessWord ({ frames := 1, cells := 0, slots := 0, locals := 22 }) G tys [.ref qx, .int p1] [(qx, .inr (5, f_Desk qc qo qr sx)), (qc, .inr (1, f_Controls qo qhs qgs qy sc)), (qy, .inr (2, f_Hyper sy))] (k_Desk_farAccessWord sx sc sy p1) [(qx, .inr (5, f_Desk qc qo qr sx)), (qc, .inr (1, f_Controls qo qhs qgs qy sc)), (qy, .inr (2, f_Hyper sy))] := by
  refine ct_hI (cc := cc_Desk_farAccessWord) (maxL := 2) (ret := (some .int)) (by decide) rfl (Nat.le_of_ble_eq_true rfl) ?_
  intro p e s m below meth c A ls hx hb hr hml hts hown hlocks hP hK hD hA hE hS hl
  have hl : lv_has ls 2 [(0, .ref qx), (1, .int p1)] := hl
  have hown : s.vm.findClass R_Desk = some m.cls := hown
  refine lv_iload_n hx hb d_Desk_farAccessWord_0 rfl (lv_at hl 1 rfl) ?_
  refine ct_cSi (wr := [(qx, .inr (5, f_Desk qc qo qr sx)), (qc, .inr (1, f_Controls qo qhs qgs qy sc)), (qy, .inr (2, f_Hyper sy))]) (w1 := []) (w2 := [(qx, .inr (5, f_Desk qc qo qr sx)), (qc, .inr (1, f_Controls qo qhs qgs qy sc)), (qy, .inr (2, f_Hyper sy))]) (r := (k_Desk_fieldG p1)) (As := [.int p1]) (rest := []) ⟨hx, hb, hml, hown, hts⟩ (c_Desk_fieldG l G tys p1) (va_cwS 1 hts (gdS gd_gd q_410 q_411 q_41 q_412) rfl rfl rfl (by decide +kernel) ⟨Nat.le_of_ble_eq_true rfl, Nat.le_of_ble_eq_true rfl⟩) hE hK hP hD hS hA [] [0, 1, 2] [0, 1, 2] rfl (by decide) rfl (by decide) (by decide) rfl (by decide) rfl hl.1 rfl (Nat.le_of_ble_eq_true rfl) d_Desk_farAccessWord_1 ⟨Nat.zero_le _, Nat.zero_le _⟩ (fun H locs hP hD hS => ?_)
  refine lv_iload_n hx hb d_Desk_farAccessWord_4 rfl (lv_at hl 1 rfl) ?_
  refine ct_cSi (wr := [(qx, .inr (5, f_Desk qc qo qr sx)), (qc, .inr (1, f_Controls qo qhs qgs qy sc)), (qy, .inr (2, f_Hyper sy))]) (w1 := []) (w2 := [(qx, .inr (5, f_Desk qc qo qr sx)), (qc, .inr (1, f_Controls qo qhs qgs qy sc)), (qy, .inr (2, f_Hyper sy))]) (r := (k_Desk_fieldB p1)) (As := [.int p1]) (rest := [.int (k_Desk_fieldG p1)]) ⟨hx, hb, hml, hown, hts⟩ (c_Desk_fieldB l G tys p1) (va_cwS 1 hts (gdS gd_gd q_481 q_482 q_41 q_483) rfl rfl rfl (by decide +kernel) ⟨Nat.le_of_ble_eq_true rfl, Nat.le_of_ble_eq_true rfl⟩) hE hK hP hD hS hA [] [0, 1, 2] [0, 1, 2] rfl (by decide) rfl (by decide) (by decide) rfl (by decide) rfl hl.1 rfl (Nat.le_of_ble_eq_true rfl) d_Desk_farAccessWord_5 ⟨Nat.zero_le _, Nat.zero_le _⟩ (fun H locs hP hD hS => ?_)
  refine lv_iload_n hx hb d_Desk_farAccessWord_8 rfl (lv_at hl 1 rfl) ?_
  refine ct_cSi (wr := [(qx, .inr (5, f_Desk qc qo qr sx)), (qc, .inr (1, f_Controls qo qhs qgs qy sc)), (qy, .inr (2, f_Hyper sy))]) (w1 := []) (w2 := [(qx, .inr (5, f_Desk qc qo qr sx)), (qc, .inr (1, f_Controls qo qhs qgs qy sc)), (qy, .inr (2, f_Hyper sy))]) (r := (k_Desk_fieldD p1)) (As := [.int p1]) (rest := [.int (k_Desk_fieldB p1), .int (k_Desk_fieldG p1)]) ⟨hx, hb, hml, hown, hts⟩ (c_Desk_fieldD l G tys p1) (va_cwS 1 hts (gdS gd_gd q_407 q_408 q_41 q_409) rfl rfl rfl (by decide +kernel) ⟨Nat.le_of_ble_eq_true rfl, Nat.le_of_ble_eq_true rfl⟩) hE hK hP hD hS hA [] [0, 1, 2] [0, 1, 2] rfl (by decide) rfl (by decide) (by decide) rfl (by decide) rfl hl.1 rfl (Nat.le_of_ble_eq_true rfl) d_Desk_farAccessWord_9 ⟨Nat.zero_le _, Nat.zero_le _⟩ (fun H locs hP hD hS => ?_)
  refine ct_cSi (wr := [(qx, .inr (5, f_Desk qc qo qr sx)), (qc, .inr (1, f_Controls qo qhs qgs qy sc)), (qy, .inr (2, f_Hyper sy))]) (w1 := []) (w2 := [(qx, .inr (5, f_Desk qc qo qr sx)), (qc, .inr (1, f_Controls qo qhs qgs qy sc)), (qy, .inr (2, f_Hyper sy))]) (r := (bI (k_Desk_isFarAccess (k_Desk_fieldG p1) (k_Desk_fieldB p1) (k_Desk_fieldD p1)))) (As := [.int (k_Desk_fieldG p1), .int (k_Desk_fieldB p1), .int (k_Desk_fieldD p1)]) (rest := []) ⟨hx, hb, hml, hown, hts⟩ (c_Desk_isFarAccess l G tys (k_Desk_fieldG p1) (k_Desk_fieldB p1) (k_Desk_fieldD p1)) (va_cwS 3 hts (gdS gd_gd q_484 q_485 q_41 q_486) rfl rfl rfl (by decide +kernel) ⟨Nat.le_of_ble_eq_true rfl, Nat.le_of_ble_eq_true rfl⟩) hE hK hP hD hS hA [] [0, 1, 2] [0, 1, 2] rfl (by decide) rfl (by decide) (by decide) rfl (by decide) rfl hl.1 rfl (Nat.le_of_ble_eq_true rfl) d_Desk_farAccessWord_12 ⟨Nat.zero_le _, Nat.zero_le _⟩ (fun H locs hP hD hS => ?_)
  refine lv_if_ne (tgt := 20) hx hb d_Desk_farAccessWord_15 (by decide) (fun c_330 => ?_) (fun c_330 => ?_)
  · refine lv_aload_n hx hb d_Desk_farAccessWord_20 rfl (lv_at hl 0 rfl) ?_
    refine ct_cVi (wr := [(qc, .inr (1, f_Controls qo qhs qgs qy sc)), (qy, .inr (2, f_Hyper sy))]) (w1 := [(qx, .inr (5, f_Desk qc qo qr sx))]) (w2 := [(qx, .inr (5, f_Desk qc qo qr sx)), (qc, .inr (1, f_Controls qo qhs qgs qy sc)), (qy, .inr (2, f_Hyper sy))]) (r := (bI (k_Desk_isVirtual sx))) (As := []) (rest := []) (ci := 5) (q0 := 0) ⟨hx, hb, hml, hown, hts⟩ (c_Desk_isVirtual l G tys qx qc qo qr sx) (cwV 0 hts (gdV gd_gd q_434 q_436 q_6 q_41 q_437) rfl rfl rfl (by decide +kernel) ⟨Nat.le_of_ble_eq_true rfl, Nat.le_of_ble_eq_true rfl⟩) hE hK hP hD hS hA [0] [1, 2] [2, 0, 1] rfl (by decide) rfl (by decide) (by decide) rfl (by decide) rfl rfl rfl hl.1 rfl (Nat.le_of_ble_eq_true rfl) d_Desk_farAccessWord_21 ⟨Nat.zero_le _, Nat.zero_le _⟩ (fun H locs hP hD hS => ?_)
    refine lv_if_eq (tgt := 30) hx hb d_Desk_farAccessWord_24 (by decide) (fun c_331 => ?_) (fun c_331 => ?_)
    · refine lv_aload_n hx hb d_Desk_farAccessWord_30 rfl (lv_at hl 0 rfl) ?_
      refine va_get (D := G.1) (ci := 5) (v := .int (sx.1 3)) (C := R_Desk) (T := T_Desk) (N := 8) hx hb hts (fun w h => gd_sub _ (iw_Desk w h)) hown hK hP 0 rfl rfl 3 (by decide) (hts _ (gd_sub _ q_208)) (fun _ h9 => h9) rfl d_Desk_farAccessWord_31 ?_
      refine lv_if_ne (tgt := 55) hx hb d_Desk_farAccessWord_34 (by decide) (fun c_332 => ?_) (fun c_332 => ?_)
      · refine lv_bipush (v := (-2)) hx hb d_Desk_farAccessWord_55 (by decide) ?_
        have hk : k_Desk_farAccessWord sx sc sy p1 = (-2) := (by rw [k_Desk_farAccessWord]; rw [if_neg c_330]; rw [if_pos c_331]; rw [if_neg c_332]; try rfl)
        exact ct_ri hx hb hr hlocks hP hD hK hS d_Desk_farAccessWord_57 (by rw [hk]; first | done | rfl) rfl
      · refine lv_aload_n hx hb d_Desk_farAccessWord_37 rfl (lv_at hl 0 rfl) ?_
        refine va_get (D := G.1) (ci := 5) (v := .ref qc) (C := R_Desk) (T := T_Desk) (N := 8) hx hb hts (fun w h => gd_sub _ (iw_Desk w h)) hown hK hP 0 rfl rfl 0 (by decide) (hts _ (gd_sub _ q_205)) (fun _ h9 => h9) rfl d_Desk_farAccessWord_38 ?_
        refine va_get (D := G.1) (ci := 1) (v := .ref qy) (C := R_Controls) (T := T_Controls) (N := 6) hx hb hts (fun w h => gd_sub _ (iw_Controls w h)) hown hK hP 1 rfl rfl 3 (by decide) (hts _ (gd_sub _ q_170)) (fun _ h9 => h9) rfl d_Desk_farAccessWord_41 ?_
        refine lv_sipush (v := 512) hx hb d_Desk_farAccessWord_44 (by decide) ?_
        refine ct_cVi (wr := [(qx, .inr (5, f_Desk qc qo qr sx)), (qc, .inr (1, f_Controls qo qhs qgs qy sc))]) (w1 := [(qy, .inr (2, f_Hyper sy))]) (w2 := [(qx, .inr (5, f_Desk qc qo qr sx)), (qc, .inr (1, f_Controls qo qhs qgs qy sc)), (qy, .inr (2, f_Hyper sy))]) (r := (bI (k_Hyper_hasStatus sy 512))) (As := [.int 512]) (rest := []) (ci := 2) (q0 := 0) ⟨hx, hb, hml, hown, hts⟩ (c_Hyper_hasStatus l G tys qy sy 512) (cwV 1 hts (gdV gd_gd q_422 q_423 q_424 q_45 q_425) rfl rfl rfl (by decide +kernel) ⟨Nat.le_of_ble_eq_true rfl, Nat.le_of_ble_eq_true rfl⟩) hE hK hP hD hS hA [2] [0, 1] [0, 1, 2] rfl (by decide) rfl (by decide) (by decide) rfl (by decide) rfl rfl rfl hl.1 rfl (Nat.le_of_ble_eq_true rfl) d_Desk_farAccessWord_47 ⟨Nat.zero_le _, Nat.zero_le _⟩ (fun H locs hP hD hS => ?_)
        refine lv_if_ne (tgt := 55) hx hb d_Desk_farAccessWord_50 (by decide) (fun c_333 => ?_) (fun c_333 => ?_)
        · refine lv_bipush (v := (-2)) hx hb d_Desk_farAccessWord_55 (by decide) ?_
          have hk : k_Desk_farAccessWord sx sc sy p1 = (-2) := (by rw [k_Desk_farAccessWord]; rw [if_neg c_330]; rw [if_pos c_331]; rw [if_pos c_332]; rw [if_neg c_333]; try rfl)
          exact ct_ri hx hb hr hlocks hP hD hK hS d_Desk_farAccessWord_57 (by rw [hk]; first | done | rfl) rfl
        · refine lv_iconst (v := 2) hx hb d_Desk_farAccessWord_53 (by decide) ?_
          have hk : k_Desk_farAccessWord sx sc sy p1 = 2 := (by rw [k_Desk_farAccessWord]; rw [if_neg c_330]; rw [if_pos c_331]; rw [if_pos c_332]; rw [if_pos c_333]; try rfl)
          exact ct_ri hx hb hr hlocks hP hD hK hS d_Desk_farAccessWord_54 (by rw [hk]; first | done | rfl) rfl
    · refine lv_bipush (v := 22) hx hb d_Desk_farAccessWord_27 (by decide) ?_
      have hk : k_Desk_farAccessWord sx sc sy p1 = 22 := (by rw [k_Desk_farAccessWord]; rw [if_neg c_330]; rw [if_neg c_331]; try rfl)
      exact ct_ri hx hb hr hlocks hP hD hK hS d_Desk_farAccessWord_29 (by rw [hk]; first | done | rfl) rfl
  · refine lv_iconst (v := 2) hx hb d_Desk_farAccessWord_18 (by decide) ?_
    have hk : k_Desk_farAccessWord sx sc sy p1 = 2 := (by rw [k_Desk_farAccessWord]; rw [if_pos c_330]; try rfl)
    exact ct_ri hx hb hr hlocks hP hD hK hS d_Desk_farAccessWord_19 (by rw [hk]; first | done | rfl) rfl
def k_Desk_refusalOfSupervisorWord (sx : ob) (sc : ob) (sy : ob) (p1 : Int32) : Int32 :=
  if (sx.1 3) = 1 then (-1) else if (sx.1 3) = 2 then 22 else if (sx.1 3) = 3 then (if (bI (k_Hyper_hasStatus sy p1)) = 0 then (-1) else 22) else 2
set_option maxHeartbeats 4000000 in
set_option maxRecDepth 100000 in
theorem c_Desk_refusalOfSupervisorWord (l : Launch) (G : gx) (tys : List (ClassId × FieldType)) (qx qc qy qo qr qhs qgs : Nat) (sx : ob) (sc : ob) (sy : ob) (p1 : Int32) : ct_I l y_Desk_refusalOfSupervisorWord ws_Desk_refusalOfSupervisorWord ({ frames := 1, cells := 0, slots := 0, locals := 21 }) G tys [.ref qx, .int p1] [(qx, .inr (5, f_Desk qc qo qr sx)), (qc, .inr (1, f_Controls qo qhs qgs qy sc)), (qy, .inr (2, f_Hyper sy))] (k_Desk_refusalOfSupervisorWord sx sc sy p1) [(qx, .inr (5, f_Desk qc qo qr sx)), (qc, .inr (1, f_Controls qo qhs qgs qy sc)), (qy, .inr (2, f_Hyper sy))] := by
  refine ct_hI (cc := cc_Desk_refusalOfSupervisorWord) (maxL := 2) (ret := (some .int)) (by decide) rfl (Nat.le_of_ble_eq_true rfl) ?_
  intro p e s m below meth c A ls hx hb hr hml hts hown hlocks hP hK hD hA hE hS hl
  have hl : lv_has ls 2 [(0, .ref qx), (1, .int p1)] := hl
  have hown : s.vm.findClass R_Desk = some m.cls := hown
  refine lv_aload_n hx hb d_Desk_refusalOfSupervisorWord_0 rfl (lv_at hl 0 rfl) ?_
  refine va_get (D := G.1) (ci := 5) (v := .int (sx.1 3)) (C := R_Desk) (T := T_Desk) (N := 8) hx hb hts (fun w h => gd_sub _ (iw_Desk w h)) hown hK hP 0 rfl rfl 3 (by decide) (hts _ (gd_sub _ q_208)) (fun _ h9 => h9) rfl d_Desk_refusalOfSupervisorWord_1 ?_
  by_cases c_340 : (sx.1 3) = 1
  · refine lv_tableIn (off := 28) (tgt := 32) hx hb d_Desk_refusalOfSupervisorWord_4 (by rw [c_340]; decide) (by rw [c_340]; decide) (by rw [c_340]; decide) (by decide) ?_
    refine lv_iconst (v := (-1)) hx hb d_Desk_refusalOfSupervisorWord_32 (by decide) ?_
    have hk : k_Desk_refusalOfSupervisorWord sx sc sy p1 = (-1) := (by rw [k_Desk_refusalOfSupervisorWord]; rw [if_pos c_340]; try rfl)
    exact ct_ri hx hb hr hlocks hP hD hK hS d_Desk_refusalOfSupervisorWord_33 (by rw [hk]; first | done | rfl) rfl
  · by_cases c_341 : (sx.1 3) = 2
    · refine lv_tableIn (off := 51) (tgt := 55) hx hb d_Desk_refusalOfSupervisorWord_4 (by rw [c_341]; decide) (by rw [c_341]; decide) (by rw [c_341]; decide) (by decide) ?_
      refine lv_bipush (v := 22) hx hb d_Desk_refusalOfSupervisorWord_55 (by decide) ?_
      have hk : k_Desk_refusalOfSupervisorWord sx sc sy p1 = 22 := (by rw [k_Desk_refusalOfSupervisorWord]; rw [if_neg c_340]; rw [if_pos c_341]; try rfl)
      exact ct_ri hx hb hr hlocks hP hD hK hS d_Desk_refusalOfSupervisorWord_57 (by rw [hk]; first | done | rfl) rfl
    · by_cases c_342 : (sx.1 3) = 3
      · refine lv_tableIn (off := 30) (tgt := 34) hx hb d_Desk_refusalOfSupervisorWord_4 (by rw [c_342]; decide) (by rw [c_342]; decide) (by rw [c_342]; decide) (by decide) ?_
        refine lv_aload_n hx hb d_Desk_refusalOfSupervisorWord_34 rfl (lv_at hl 0 rfl) ?_
        refine va_get (D := G.1) (ci := 5) (v := .ref qc) (C := R_Desk) (T := T_Desk) (N := 8) hx hb hts (fun w h => gd_sub _ (iw_Desk w h)) hown hK hP 0 rfl rfl 0 (by decide) (hts _ (gd_sub _ q_205)) (fun _ h9 => h9) rfl d_Desk_refusalOfSupervisorWord_35 ?_
        refine va_get (D := G.1) (ci := 1) (v := .ref qy) (C := R_Controls) (T := T_Controls) (N := 6) hx hb hts (fun w h => gd_sub _ (iw_Controls w h)) hown hK hP 1 rfl rfl 3 (by decide) (hts _ (gd_sub _ q_170)) (fun _ h9 => h9) rfl d_Desk_refusalOfSupervisorWord_38 ?_
        refine lv_iload_n hx hb d_Desk_refusalOfSupervisorWord_41 rfl (lv_at hl 1 rfl) ?_
        refine ct_cVi (wr := [(qx, .inr (5, f_Desk qc qo qr sx)), (qc, .inr (1, f_Controls qo qhs qgs qy sc))]) (w1 := [(qy, .inr (2, f_Hyper sy))]) (w2 := [(qx, .inr (5, f_Desk qc qo qr sx)), (qc, .inr (1, f_Controls qo qhs qgs qy sc)), (qy, .inr (2, f_Hyper sy))]) (r := (bI (k_Hyper_hasStatus sy p1))) (As := [.int p1]) (rest := []) (ci := 2) (q0 := 0) ⟨hx, hb, hml, hown, hts⟩ (c_Hyper_hasStatus l G tys qy sy p1) (cwV 1 hts (gdV gd_gd q_422 q_423 q_424 q_45 q_425) rfl rfl rfl (by decide +kernel) ⟨Nat.le_of_ble_eq_true rfl, Nat.le_of_ble_eq_true rfl⟩) hE hK hP hD hS hA [2] [0, 1] [0, 1, 2] rfl (by decide) rfl (by decide) (by decide) rfl (by decide) rfl rfl rfl hl.1 rfl (Nat.le_of_ble_eq_true rfl) d_Desk_refusalOfSupervisorWord_42 ⟨Nat.zero_le _, Nat.zero_le _⟩ (fun H locs hP hD hS => ?_)
        refine lv_if_eq (tgt := 53) hx hb d_Desk_refusalOfSupervisorWord_45 (by decide) (fun c_343 => ?_) (fun c_343 => ?_)
        · refine lv_iconst (v := (-1)) hx hb d_Desk_refusalOfSupervisorWord_53 (by decide) ?_
          have hk : k_Desk_refusalOfSupervisorWord sx sc sy p1 = (-1) := (by rw [k_Desk_refusalOfSupervisorWord]; rw [if_neg c_340]; rw [if_neg c_341]; rw [if_pos c_342]; rw [if_pos c_343]; try rfl)
          exact ct_ri hx hb hr hlocks hP hD hK hS d_Desk_refusalOfSupervisorWord_54 (by rw [hk]; first | done | rfl) rfl
        · refine lv_bipush (v := 22) hx hb d_Desk_refusalOfSupervisorWord_48 (by decide) ?_
          refine lv_goto (tgt := 54) hx hb d_Desk_refusalOfSupervisorWord_50 (by decide) ?_
          have hk : k_Desk_refusalOfSupervisorWord sx sc sy p1 = 22 := (by rw [k_Desk_refusalOfSupervisorWord]; rw [if_neg c_340]; rw [if_neg c_341]; rw [if_pos c_342]; rw [if_neg c_343]; try rfl)
          exact ct_ri hx hb hr hlocks hP hD hK hS d_Desk_refusalOfSupervisorWord_54 (by rw [hk]; first | done | rfl) rfl
      · refine lv_tableOut (tgt := 58) hx hb d_Desk_refusalOfSupervisorWord_4 (by have := lv_neT (a := 1) c_340 (by decide); have := lv_neT (a := 2) c_341 (by decide); have := lv_neT (a := 3) c_342 (by decide); omega) (by decide) ?_
        refine lv_iconst (v := 2) hx hb d_Desk_refusalOfSupervisorWord_58 (by decide) ?_
        have hk : k_Desk_refusalOfSupervisorWord sx sc sy p1 = 2 := (by rw [k_Desk_refusalOfSupervisorWord]; rw [if_neg c_340]; rw [if_neg c_341]; rw [if_neg c_342]; try rfl)
        exact ct_ri hx hb hr hlocks hP hD hK hS d_Desk_refusalOfSupervisorWord_59 (by rw [hk]; first | done | rfl) rfl
