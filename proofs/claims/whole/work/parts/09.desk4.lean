def k_Desk_set (sx : ob) (sr : ob) (p1 : Int32) (p2 : Int32) : Int32 × ob :=
  ((k_Registers_read sr p1), ((k_Registers_write sr p1 p2)))
set_option maxHeartbeats 4000000 in
set_option maxRecDepth 100000 in
theorem c_Desk_set (l : Launch) (G : gx) (tys : List (ClassId × FieldType)) (qx qr qc qo : Nat) (sx : ob) (sr : ob) (p1 : Int32) (p2 : Int32) : ct_I l y_Desk_set ws_Desk_set ({ frames := 1, cells := 0, slots := 0, locals := 22 }) G tys [.ref qx, .int p1, .int p2] [(qx, .inr (5, f_Desk qc qo qr sx)), (qr, .inr (4, f_Registers sr))] ((k_Desk_set sx sr p1 p2).1) [(qx, .inr (5, f_Desk qc qo qr sx)), (qr, .inr (4, f_Registers ((k_Desk_set sx sr p1 p2).2)))] := by
  refine ct_hI (cc := cc_Desk_set) (maxL := 4) (ret := (some .int)) (by decide) rfl (Nat.le_of_ble_eq_true rfl) ?_
  intro p e s m below meth c A ls hx hb hr hml hts hown hlocks hP hK hD hA hE hS hl
  have hl : lv_has ls 4 [(0, .ref qx), (1, .int p1), (2, .int p2)] := hl
  have hown : s.vm.findClass R_Desk = some m.cls := hown
  refine lv_aload_n hx hb d_Desk_set_0 rfl (lv_at hl 0 rfl) ?_
  refine va_get (D := G.1) (ci := 5) (v := .ref qr) (C := R_Desk) (T := T_Desk) (N := 8) hx hb hts (fun w h => gd_sub _ (iw_Desk w h)) hown hK hP 0 rfl rfl 2 (by decide) (hts _ (gd_sub _ q_207)) (fun _ h9 => h9) rfl d_Desk_set_1 ?_
  refine lv_iload_n hx hb d_Desk_set_4 rfl (lv_at hl 1 rfl) ?_
  refine ct_cVi (wr := [(qx, .inr (5, f_Desk qc qo qr sx))]) (w1 := [(qr, .inr (4, f_Registers sr))]) (w2 := [(qx, .inr (5, f_Desk qc qo qr sx)), (qr, .inr (4, f_Registers sr))]) (r := (k_Registers_read sr p1)) (As := [.int p1]) (rest := []) (ci := 4) (q0 := 0) ⟨hx, hb, hml, hown, hts⟩ (c_Registers_read l G tys qr sr p1) (cwV 1 hts (gdV gd_gd q_383 q_384 q_385 q_46 q_386) rfl rfl rfl (by decide +kernel) ⟨Nat.le_of_ble_eq_true rfl, Nat.le_of_ble_eq_true rfl⟩) hE hK hP hD hS hA [1] [0] [0, 1] rfl (by decide) rfl (by decide) (by decide) rfl (by decide) rfl rfl rfl hl.1 rfl (Nat.le_of_ble_eq_true rfl) d_Desk_set_5 ⟨Nat.zero_le _, Nat.zero_le _⟩ (fun H locs hP hD hS => ?_)
  refine lv_istore_n (lv' := [(3, .int (k_Registers_read sr p1)), (0, .ref qx), (1, .int p1), (2, .int p2)]) hx hb d_Desk_set_8 rfl hl (by decide) rfl (fun ls hl => ?_)
  refine lv_aload_n hx hb d_Desk_set_9 rfl (lv_at hl 1 rfl) ?_
  refine va_get (D := G.1) (ci := 5) (v := .ref qr) (C := R_Desk) (T := T_Desk) (N := 8) hx hb hts (fun w h => gd_sub _ (iw_Desk w h)) hown hK hP 0 rfl rfl 2 (by decide) (hts _ (gd_sub _ q_207)) (fun _ h9 => h9) rfl d_Desk_set_10 ?_
  refine lv_iload_n hx hb d_Desk_set_13 rfl (lv_at hl 2 rfl) ?_
  refine lv_iload_n hx hb d_Desk_set_14 rfl (lv_at hl 3 rfl) ?_
  obtain ⟨sr_222, esr_222⟩ : ∃ z, z = (k_Registers_write sr p1 p2) := ⟨_, rfl⟩
  have hM := c_Registers_write l G tys qr sr p1 p2
  rw [← esr_222] at hM
  refine ct_cVv (wr := [(qx, .inr (5, f_Desk qc qo qr sx))]) (w1 := [(qr, .inr (4, f_Registers sr_222))]) (w2 := [(qx, .inr (5, f_Desk qc qo qr sx)), (qr, .inr (4, f_Registers sr_222))]) (As := [.int p1, .int p2]) (rest := []) (ci := 4) (q0 := 0) ⟨hx, hb, hml, hown, hts⟩ hM (cwV 2 hts (gdV gd_gd q_387 q_388 q_389 q_46 q_390) rfl rfl rfl (by decide +kernel) ⟨Nat.le_of_ble_eq_true rfl, Nat.le_of_ble_eq_true rfl⟩) hE hK hP hD hS hA [1] [0] [0, 1] rfl (by decide) rfl (by decide) (by decide) rfl (by decide) rfl rfl rfl hl.1 rfl (Nat.le_of_ble_eq_true rfl) d_Desk_set_15 ⟨Nat.zero_le _, Nat.zero_le _⟩ (fun H locs hP hD hS => ?_)
  refine lv_iload_n hx hb d_Desk_set_18 rfl (lv_at hl 0 rfl) ?_
  have hk : k_Desk_set sx sr p1 p2 = ((k_Registers_read sr p1), sr_222) := (by rw [k_Desk_set]; try rw [← esr_222]; try rfl)
  exact ct_ri hx hb hr hlocks hP hD hK hS d_Desk_set_19 (by rw [hk]; first | done | rfl) (by rw [hk]; first | done | rfl)
def k_Desk_register (sx : ob) (sr : ob) (p1 : Int32) : Int32 :=
  (k_Registers_read sr p1)
set_option maxHeartbeats 4000000 in
set_option maxRecDepth 100000 in
theorem c_Desk_register (l : Launch) (G : gx) (tys : List (ClassId × FieldType)) (qx qr qc qo : Nat) (sx : ob) (sr : ob) (p1 : Int32) : ct_I l y_Desk_register ws_Desk_register ({ frames := 1, cells := 0, slots := 0, locals := 21 }) G tys [.ref qx, .int p1] [(qx, .inr (5, f_Desk qc qo qr sx)), (qr, .inr (4, f_Registers sr))] (k_Desk_register sx sr p1) [(qx, .inr (5, f_Desk qc qo qr sx)), (qr, .inr (4, f_Registers sr))] := by
  refine ct_hI (cc := cc_Desk_register) (maxL := 2) (ret := (some .int)) (by decide) rfl (Nat.le_of_ble_eq_true rfl) ?_
  intro p e s m below meth c A ls hx hb hr hml hts hown hlocks hP hK hD hA hE hS hl
  have hl : lv_has ls 2 [(0, .ref qx), (1, .int p1)] := hl
  have hown : s.vm.findClass R_Desk = some m.cls := hown
  refine lv_aload_n hx hb d_Desk_register_0 rfl (lv_at hl 0 rfl) ?_
  refine va_get (D := G.1) (ci := 5) (v := .ref qr) (C := R_Desk) (T := T_Desk) (N := 8) hx hb hts (fun w h => gd_sub _ (iw_Desk w h)) hown hK hP 0 rfl rfl 2 (by decide) (hts _ (gd_sub _ q_207)) (fun _ h9 => h9) rfl d_Desk_register_1 ?_
  refine lv_iload_n hx hb d_Desk_register_4 rfl (lv_at hl 1 rfl) ?_
  refine ct_cVi (wr := [(qx, .inr (5, f_Desk qc qo qr sx))]) (w1 := [(qr, .inr (4, f_Registers sr))]) (w2 := [(qx, .inr (5, f_Desk qc qo qr sx)), (qr, .inr (4, f_Registers sr))]) (r := (k_Registers_read sr p1)) (As := [.int p1]) (rest := []) (ci := 4) (q0 := 0) ⟨hx, hb, hml, hown, hts⟩ (c_Registers_read l G tys qr sr p1) (cwV 1 hts (gdV gd_gd q_383 q_384 q_385 q_46 q_386) rfl rfl rfl (by decide +kernel) ⟨Nat.le_of_ble_eq_true rfl, Nat.le_of_ble_eq_true rfl⟩) hE hK hP hD hS hA [1] [0] [0, 1] rfl (by decide) rfl (by decide) (by decide) rfl (by decide) rfl rfl rfl hl.1 rfl (Nat.le_of_ble_eq_true rfl) d_Desk_register_5 ⟨Nat.zero_le _, Nat.zero_le _⟩ (fun H locs hP hD hS => ?_)
  have hk : k_Desk_register sx sr p1 = (k_Registers_read sr p1) := (by rw [k_Desk_register]; try rfl)
  exact ct_ri hx hb hr hlocks hP hD hK hS d_Desk_register_8 (by rw [hk]; first | done | rfl) rfl
def k_Desk_fieldA (p1 : Int32) : Int32 :=
  ((ush p1 15) &&& 31)
set_option maxHeartbeats 4000000 in
set_option maxRecDepth 100000 in
theorem c_Desk_fieldA (l : Launch) (G : gx) (tys : List (ClassId × FieldType)) (p1 : Int32) : ct_I l y_Desk_fieldA ws_Desk_fieldA ({ frames := 0, cells := 0, slots := 0, locals := 0 }) G tys [.int p1] [] (k_Desk_fieldA p1) [] := by
  refine ct_hI (cc := cc_Desk_fieldA) (maxL := 1) (ret := (some .int)) (by decide) rfl (Nat.le_of_ble_eq_true rfl) ?_
  intro p e s m below meth c A ls hx hb hr hml hts hown hlocks hP hK hD hA hE hS hl
  have hl : lv_has ls 1 [(0, .int p1)] := hl
  have hown : s.vm.findClass R_Desk = some m.cls := hown
  refine lv_iload_n hx hb d_Desk_fieldA_0 rfl (lv_at hl 0 rfl) ?_
  refine lv_bipush (v := 15) hx hb d_Desk_fieldA_1 (by decide) ?_
  refine lv_iushr (v := (ush p1 15)) hx hb d_Desk_fieldA_3 rfl ?_
  refine lv_bipush (v := 31) hx hb d_Desk_fieldA_4 (by decide) ?_
  refine lv_iand hx hb d_Desk_fieldA_6 ?_
  have hk : k_Desk_fieldA p1 = ((ush p1 15) &&& 31) := (by rw [k_Desk_fieldA]; try rfl)
  exact ct_ri hx hb hr hlocks hP hD hK hS d_Desk_fieldA_7 (by rw [hk]; first | done | rfl) rfl
def k_Hyper_hasStatus (sy : ob) (p1 : Int32) : Bool :=
  if ((sy.1 0) &&& p1) = 0 then false else true
set_option maxHeartbeats 4000000 in
set_option maxRecDepth 100000 in
theorem c_Hyper_hasStatus (l : Launch) (G : gx) (tys : List (ClassId × FieldType)) (qy : Nat) (sy : ob) (p1 : Int32) : ct_I l y_Hyper_hasStatus ws_Hyper_hasStatus ({ frames := 0, cells := 0, slots := 0, locals := 0 }) G tys [.ref qy, .int p1] [(qy, .inr (2, f_Hyper sy))] (bI (k_Hyper_hasStatus sy p1)) [(qy, .inr (2, f_Hyper sy))] := by
  refine ct_hI (cc := cc_Hyper_hasStatus) (maxL := 2) (ret := (some .boolean)) (by decide) rfl (Nat.le_of_ble_eq_true rfl) ?_
  intro p e s m below meth c A ls hx hb hr hml hts hown hlocks hP hK hD hA hE hS hl
  have hl : lv_has ls 2 [(0, .ref qy), (1, .int p1)] := hl
  have hown : s.vm.findClass R_Hyper = some m.cls := hown
  refine lv_aload_n hx hb d_Hyper_hasStatus_0 rfl (lv_at hl 0 rfl) ?_
  refine va_get (D := G.1) (ci := 2) (v := .int (sy.1 0)) (C := R_Hyper) (T := T_Hyper) (N := 8) hx hb hts (fun w h => gd_sub _ (iw_Hyper w h)) hown hK hP 0 rfl rfl 0 (by decide) (hts _ (gd_sub _ q_132)) (fun _ h9 => h9) rfl d_Hyper_hasStatus_1 ?_
  refine lv_iload_n hx hb d_Hyper_hasStatus_4 rfl (lv_at hl 1 rfl) ?_
  refine lv_iand hx hb d_Hyper_hasStatus_5 ?_
  refine lv_if_eq (tgt := 13) hx hb d_Hyper_hasStatus_6 (by decide) (fun c_238 => ?_) (fun c_238 => ?_)
  · refine lv_iconst (v := 0) hx hb d_Hyper_hasStatus_13 (by decide) ?_
    have hk : k_Hyper_hasStatus sy p1 = false := (by rw [k_Hyper_hasStatus]; rw [if_pos c_238]; try rfl)
    exact ct_rz hx hb hr hlocks hP hD hK hS d_Hyper_hasStatus_14 rfl (by rw [hk]; first | done | rfl) rfl
  · refine lv_iconst (v := 1) hx hb d_Hyper_hasStatus_9 (by decide) ?_
    refine lv_goto (tgt := 14) hx hb d_Hyper_hasStatus_10 (by decide) ?_
    have hk : k_Hyper_hasStatus sy p1 = true := (by rw [k_Hyper_hasStatus]; rw [if_neg c_238]; try rfl)
    exact ct_rz hx hb hr hlocks hP hD hK hS d_Hyper_hasStatus_14 rfl (by rw [hk]; first | done | rfl) rfl
def k_Desk_isOpenToVs (sx : ob) (sc : ob) (sy : ob) (p1 : Int32) : Bool :=
  if (bI (k_Numbers_isOfS p1)) = 0 then false else (if p1 = 384 then (if (bI (k_Hyper_hasStatus sy 1048576)) = 0 then true else false) else true)
set_option maxHeartbeats 4000000 in
set_option maxRecDepth 100000 in
theorem c_Desk_isOpenToVs (l : Launch) (G : gx) (tys : List (ClassId × FieldType)) (qx qc qy qo qr qhs qgs : Nat) (sx : ob) (sc : ob) (sy : ob) (p1 : Int32) : ct_I l y_Desk_isOpenToVs ws_Desk_isOpenToVs ({ frames := 3, cells := 0, slots := 0, locals := 61 }) G tys [.ref qx, .int p1] [(qx, .inr (5, f_Desk qc qo qr sx)), (qc, .inr (1, f_Controls qo qhs qgs qy sc)), (qy, .inr (2, f_Hyper sy))] (bI (k_Desk_isOpenToVs sx sc sy p1)) [(qx, .inr (5, f_Desk qc qo qr sx)), (qc, .inr (1, f_Controls qo qhs qgs qy sc)), (qy, .inr (2, f_Hyper sy))] := by
  refine ct_hI (cc := cc_Desk_isOpenToVs) (maxL := 2) (ret := (some .boolean)) (by decide) rfl (Nat.le_of_ble_eq_true rfl) ?_
  intro p e s m below meth c A ls hx hb hr hml hts hown hlocks hP hK hD hA hE hS hl
  have hl : lv_has ls 2 [(0, .ref qx), (1, .int p1)] := hl
  have hown : s.vm.findClass R_Desk = some m.cls := hown
  refine lv_iload_n hx hb d_Desk_isOpenToVs_0 rfl (lv_at hl 1 rfl) ?_
  refine ct_cSi (wr := [(qx, .inr (5, f_Desk qc qo qr sx)), (qc, .inr (1, f_Controls qo qhs qgs qy sc)), (qy, .inr (2, f_Hyper sy))]) (w1 := []) (w2 := [(qx, .inr (5, f_Desk qc qo qr sx)), (qc, .inr (1, f_Controls qo qhs qgs qy sc)), (qy, .inr (2, f_Hyper sy))]) (r := (bI (k_Numbers_isOfS p1))) (As := [.int p1]) (rest := []) ⟨hx, hb, hml, hown, hts⟩ (c_Numbers_isOfS l G tys p1) (va_cwS 1 hts (gdS gd_gd q_499 q_270 q_48 q_271) rfl rfl rfl (by decide +kernel) ⟨Nat.le_of_ble_eq_true rfl, Nat.le_of_ble_eq_true rfl⟩) hE hK hP hD hS hA [] [0, 1, 2] [0, 1, 2] rfl (by decide) rfl (by decide) (by decide) rfl (by decide) rfl hl.1 rfl (Nat.le_of_ble_eq_true rfl) d_Desk_isOpenToVs_1 ⟨Nat.zero_le _, Nat.zero_le _⟩ (fun H locs hP hD hS => ?_)
  refine lv_if_ne (tgt := 9) hx hb d_Desk_isOpenToVs_4 (by decide) (fun c_240 => ?_) (fun c_240 => ?_)
  · refine lv_iload_n hx hb d_Desk_isOpenToVs_9 rfl (lv_at hl 1 rfl) ?_
    refine lv_sipush (v := 384) hx hb d_Desk_isOpenToVs_10 (by decide) ?_
    refine lv_icmp_ne (tgt := 31) hx hb d_Desk_isOpenToVs_13 (by decide) (fun c_241 => ?_) (fun c_241 => ?_)
    · refine lv_iconst (v := 1) hx hb d_Desk_isOpenToVs_31 (by decide) ?_
      refine lv_goto (tgt := 36) hx hb d_Desk_isOpenToVs_32 (by decide) ?_
      have hk : k_Desk_isOpenToVs sx sc sy p1 = true := (by rw [k_Desk_isOpenToVs]; rw [if_neg c_240]; rw [if_neg c_241]; try rfl)
      exact ct_rz hx hb hr hlocks hP hD hK hS d_Desk_isOpenToVs_36 rfl (by rw [hk]; first | done | rfl) rfl
    · refine lv_aload_n hx hb d_Desk_isOpenToVs_16 rfl (lv_at hl 0 rfl) ?_
      refine va_get (D := G.1) (ci := 5) (v := .ref qc) (C := R_Desk) (T := T_Desk) (N := 8) hx hb hts (fun w h => gd_sub _ (iw_Desk w h)) hown hK hP 0 rfl rfl 0 (by decide) (hts _ (gd_sub _ q_205)) (fun _ h9 => h9) rfl d_Desk_isOpenToVs_17 ?_
      refine va_get (D := G.1) (ci := 1) (v := .ref qy) (C := R_Controls) (T := T_Controls) (N := 6) hx hb hts (fun w h => gd_sub _ (iw_Controls w h)) hown hK hP 1 rfl rfl 3 (by decide) (hts _ (gd_sub _ q_170)) (fun _ h9 => h9) rfl d_Desk_isOpenToVs_20 ?_
      refine lv_ldc (v := 1048576) hx hb hown (hts _ (gd_sub _ q_413)) d_Desk_isOpenToVs_23 ?_
      refine ct_cVi (wr := [(qx, .inr (5, f_Desk qc qo qr sx)), (qc, .inr (1, f_Controls qo qhs qgs qy sc))]) (w1 := [(qy, .inr (2, f_Hyper sy))]) (w2 := [(qx, .inr (5, f_Desk qc qo qr sx)), (qc, .inr (1, f_Controls qo qhs qgs qy sc)), (qy, .inr (2, f_Hyper sy))]) (r := (bI (k_Hyper_hasStatus sy 1048576))) (As := [.int 1048576]) (rest := []) (ci := 2) (q0 := 0) ⟨hx, hb, hml, hown, hts⟩ (c_Hyper_hasStatus l G tys qy sy 1048576) (cwV 1 hts (gdV gd_gd q_422 q_423 q_424 q_45 q_425) rfl rfl rfl (by decide +kernel) ⟨Nat.le_of_ble_eq_true rfl, Nat.le_of_ble_eq_true rfl⟩) hE hK hP hD hS hA [2] [0, 1] [0, 1, 2] rfl (by decide) rfl (by decide) (by decide) rfl (by decide) rfl rfl rfl hl.1 rfl (Nat.le_of_ble_eq_true rfl) d_Desk_isOpenToVs_25 ⟨Nat.zero_le _, Nat.zero_le _⟩ (fun H locs hP hD hS => ?_)
      refine lv_if_ne (tgt := 35) hx hb d_Desk_isOpenToVs_28 (by decide) (fun c_242 => ?_) (fun c_242 => ?_)
      · refine lv_iconst (v := 0) hx hb d_Desk_isOpenToVs_35 (by decide) ?_
        have hk : k_Desk_isOpenToVs sx sc sy p1 = false := (by rw [k_Desk_isOpenToVs]; rw [if_neg c_240]; rw [if_pos c_241]; rw [if_neg c_242]; try rfl)
        exact ct_rz hx hb hr hlocks hP hD hK hS d_Desk_isOpenToVs_36 rfl (by rw [hk]; first | done | rfl) rfl
      · refine lv_iconst (v := 1) hx hb d_Desk_isOpenToVs_31 (by decide) ?_
        refine lv_goto (tgt := 36) hx hb d_Desk_isOpenToVs_32 (by decide) ?_
        have hk : k_Desk_isOpenToVs sx sc sy p1 = true := (by rw [k_Desk_isOpenToVs]; rw [if_neg c_240]; rw [if_pos c_241]; rw [if_pos c_242]; try rfl)
        exact ct_rz hx hb hr hlocks hP hD hK hS d_Desk_isOpenToVs_36 rfl (by rw [hk]; first | done | rfl) rfl
  · refine lv_iconst (v := 0) hx hb d_Desk_isOpenToVs_7 (by decide) ?_
    have hk : k_Desk_isOpenToVs sx sc sy p1 = false := (by rw [k_Desk_isOpenToVs]; rw [if_pos c_240]; try rfl)
    exact ct_rz hx hb hr hlocks hP hD hK hS d_Desk_isOpenToVs_8 rfl (by rw [hk]; first | done | rfl) rfl
def k_Desk_refusalOfAccess (sx : ob) (sc : ob) (sy : ob) (p1 : Int32) (p2 : Bool) : Int32 :=
  if (bI (k_Numbers_isKnown p1)) = 0 then 2 else (if (bI (k_Numbers_isTime p1)) = 0 then (if (sx.1 3) = 0 then 2 else if (sx.1 3) = 1 then (-1) else if (sx.1 3) = 2 then 22 else if (sx.1 3) = 3 then (if (bI (k_Desk_isOpenToVs sx sc sy p1)) = 0 then 22 else (-1)) else 22) else (if (bI p2) = 0 then (-1) else 2))
set_option maxHeartbeats 4000000 in
set_option maxRecDepth 100000 in
theorem c_Desk_refusalOfAccess (l : Launch) (G : gx) (tys : List (ClassId × FieldType)) (qx qc qy qo qr qhs qgs : Nat) (sx : ob) (sc : ob) (sy : ob) (p1 : Int32) (p2 : Bool) : ct_I l y_Desk_refusalOfAccess ws_Desk_refusalOfAccess ({ frames := 4, cells := 0, slots := 0, locals := 82 }) G tys [.ref qx, .int p1, .int (bI p2)] [(qx, .inr (5, f_Desk qc qo qr sx)), (qc, .inr (1, f_Controls qo qhs qgs qy sc)), (qy, .inr (2, f_Hyper sy))] (k_Desk_refusalOfAccess sx sc sy p1 p2) [(qx, .inr (5, f_Desk qc qo qr sx)), (qc, .inr (1, f_Controls qo qhs qgs qy sc)), (qy, .inr (2, f_Hyper sy))] := by
  refine ct_hI (cc := cc_Desk_refusalOfAccess) (maxL := 3) (ret := (some .int)) (by decide) rfl (Nat.le_of_ble_eq_true rfl) ?_
  intro p e s m below meth c A ls hx hb hr hml hts hown hlocks hP hK hD hA hE hS hl
  have hl : lv_has ls 3 [(0, .ref qx), (1, .int p1), (2, .int (bI p2))] := hl
  have hown : s.vm.findClass R_Desk = some m.cls := hown
  refine lv_iload_n hx hb d_Desk_refusalOfAccess_0 rfl (lv_at hl 1 rfl) ?_
  refine ct_cSi (wr := [(qx, .inr (5, f_Desk qc qo qr sx)), (qc, .inr (1, f_Controls qo qhs qgs qy sc)), (qy, .inr (2, f_Hyper sy))]) (w1 := []) (w2 := [(qx, .inr (5, f_Desk qc qo qr sx)), (qc, .inr (1, f_Controls qo qhs qgs qy sc)), (qy, .inr (2, f_Hyper sy))]) (r := (bI (k_Numbers_isKnown p1))) (As := [.int p1]) (rest := []) ⟨hx, hb, hml, hown, hts⟩ (c_Numbers_isKnown l G tys p1) (va_cwS 1 hts (gdS gd_gd q_266 q_267 q_48 q_268) rfl rfl rfl (by decide +kernel) ⟨Nat.le_of_ble_eq_true rfl, Nat.le_of_ble_eq_true rfl⟩) hE hK hP hD hS hA [] [0, 1, 2] [0, 1, 2] rfl (by decide) rfl (by decide) (by decide) rfl (by decide) rfl hl.1 rfl (Nat.le_of_ble_eq_true rfl) d_Desk_refusalOfAccess_1 ⟨Nat.zero_le _, Nat.zero_le _⟩ (fun H locs hP hD hS => ?_)
  refine lv_if_ne (tgt := 9) hx hb d_Desk_refusalOfAccess_4 (by decide) (fun c_245 => ?_) (fun c_245 => ?_)
  · refine lv_iload_n hx hb d_Desk_refusalOfAccess_9 rfl (lv_at hl 1 rfl) ?_
    refine ct_cSi (wr := [(qx, .inr (5, f_Desk qc qo qr sx)), (qc, .inr (1, f_Controls qo qhs qgs qy sc)), (qy, .inr (2, f_Hyper sy))]) (w1 := []) (w2 := [(qx, .inr (5, f_Desk qc qo qr sx)), (qc, .inr (1, f_Controls qo qhs qgs qy sc)), (qy, .inr (2, f_Hyper sy))]) (r := (bI (k_Numbers_isTime p1))) (As := [.int p1]) (rest := []) ⟨hx, hb, hml, hown, hts⟩ (c_Numbers_isTime l G tys p1) (va_cwS 1 hts (gdS gd_gd q_290 q_288 q_48 q_289) rfl rfl rfl (by decide +kernel) ⟨Nat.le_of_ble_eq_true rfl, Nat.le_of_ble_eq_true rfl⟩) hE hK hP hD hS hA [] [0, 1, 2] [0, 1, 2] rfl (by decide) rfl (by decide) (by decide) rfl (by decide) rfl hl.1 rfl (Nat.le_of_ble_eq_true rfl) d_Desk_refusalOfAccess_10 ⟨Nat.zero_le _, Nat.zero_le _⟩ (fun H locs hP hD hS => ?_)
    refine lv_if_eq (tgt := 26) hx hb d_Desk_refusalOfAccess_13 (by decide) (fun c_246 => ?_) (fun c_246 => ?_)
    · refine lv_aload_n hx hb d_Desk_refusalOfAccess_26 rfl (lv_at hl 0 rfl) ?_
      refine va_get (D := G.1) (ci := 5) (v := .int (sx.1 3)) (C := R_Desk) (T := T_Desk) (N := 8) hx hb hts (fun w h => gd_sub _ (iw_Desk w h)) hown hK hP 0 rfl rfl 3 (by decide) (hts _ (gd_sub _ q_208)) (fun _ h9 => h9) rfl d_Desk_refusalOfAccess_27 ?_
      by_cases c_247 : (sx.1 3) = 0
      · refine lv_tableIn (off := 32) (tgt := 62) hx hb d_Desk_refusalOfAccess_30 (by rw [c_247]; decide) (by rw [c_247]; decide) (by rw [c_247]; decide) (by decide) ?_
        refine lv_iconst (v := 2) hx hb d_Desk_refusalOfAccess_62 (by decide) ?_
        have hk : k_Desk_refusalOfAccess sx sc sy p1 p2 = 2 := (by rw [k_Desk_refusalOfAccess]; rw [if_neg c_245]; rw [if_pos c_246]; rw [if_pos c_247]; try rfl)
        exact ct_ri hx hb hr hlocks hP hD hK hS d_Desk_refusalOfAccess_63 (by rw [hk]; first | done | rfl) rfl
      · by_cases c_248 : (sx.1 3) = 1
        · refine lv_tableIn (off := 30) (tgt := 60) hx hb d_Desk_refusalOfAccess_30 (by rw [c_248]; decide) (by rw [c_248]; decide) (by rw [c_248]; decide) (by decide) ?_
          refine lv_iconst (v := (-1)) hx hb d_Desk_refusalOfAccess_60 (by decide) ?_
          have hk : k_Desk_refusalOfAccess sx sc sy p1 p2 = (-1) := (by rw [k_Desk_refusalOfAccess]; rw [if_neg c_245]; rw [if_pos c_246]; rw [if_neg c_247]; rw [if_pos c_248]; try rfl)
          exact ct_ri hx hb hr hlocks hP hD hK hS d_Desk_refusalOfAccess_61 (by rw [hk]; first | done | rfl) rfl
        · by_cases c_249 : (sx.1 3) = 2
          · refine lv_tableIn (off := 49) (tgt := 79) hx hb d_Desk_refusalOfAccess_30 (by rw [c_249]; decide) (by rw [c_249]; decide) (by rw [c_249]; decide) (by decide) ?_
            refine lv_bipush (v := 22) hx hb d_Desk_refusalOfAccess_79 (by decide) ?_
            have hk : k_Desk_refusalOfAccess sx sc sy p1 p2 = 22 := (by rw [k_Desk_refusalOfAccess]; rw [if_neg c_245]; rw [if_pos c_246]; rw [if_neg c_247]; rw [if_neg c_248]; rw [if_pos c_249]; try rfl)
            exact ct_ri hx hb hr hlocks hP hD hK hS d_Desk_refusalOfAccess_81 (by rw [hk]; first | done | rfl) rfl
          · by_cases c_250 : (sx.1 3) = 3
            · refine lv_tableIn (off := 34) (tgt := 64) hx hb d_Desk_refusalOfAccess_30 (by rw [c_250]; decide) (by rw [c_250]; decide) (by rw [c_250]; decide) (by decide) ?_
              refine lv_aload_n hx hb d_Desk_refusalOfAccess_64 rfl (lv_at hl 0 rfl) ?_
              refine lv_iload_n hx hb d_Desk_refusalOfAccess_65 rfl (lv_at hl 1 rfl) ?_
              refine ct_cVi (wr := []) (w1 := [(qx, .inr (5, f_Desk qc qo qr sx)), (qc, .inr (1, f_Controls qo qhs qgs qy sc)), (qy, .inr (2, f_Hyper sy))]) (w2 := [(qx, .inr (5, f_Desk qc qo qr sx)), (qc, .inr (1, f_Controls qo qhs qgs qy sc)), (qy, .inr (2, f_Hyper sy))]) (r := (bI (k_Desk_isOpenToVs sx sc sy p1))) (As := [.int p1]) (rest := []) (ci := 5) (q0 := 0) ⟨hx, hb, hml, hown, hts⟩ (c_Desk_isOpenToVs l G tys qx qc qy qo qr qhs qgs sx sc sy p1) (cwV 1 hts (gdV gd_gd q_495 q_497 q_13 q_41 q_498) rfl rfl rfl (by decide +kernel) ⟨Nat.le_of_ble_eq_true rfl, Nat.le_of_ble_eq_true rfl⟩) hE hK hP hD hS hA [0, 1, 2] [] [0, 1, 2] rfl (by decide) rfl (by decide) (by decide) rfl (by decide) rfl rfl rfl hl.1 rfl (Nat.le_of_ble_eq_true rfl) d_Desk_refusalOfAccess_66 ⟨Nat.zero_le _, Nat.zero_le _⟩ (fun H locs hP hD hS => ?_)
              refine lv_if_eq (tgt := 76) hx hb d_Desk_refusalOfAccess_69 (by decide) (fun c_251 => ?_) (fun c_251 => ?_)
              · refine lv_bipush (v := 22) hx hb d_Desk_refusalOfAccess_76 (by decide) ?_
                have hk : k_Desk_refusalOfAccess sx sc sy p1 p2 = 22 := (by rw [k_Desk_refusalOfAccess]; rw [if_neg c_245]; rw [if_pos c_246]; rw [if_neg c_247]; rw [if_neg c_248]; rw [if_neg c_249]; rw [if_pos c_250]; rw [if_pos c_251]; try rfl)
                exact ct_ri hx hb hr hlocks hP hD hK hS d_Desk_refusalOfAccess_78 (by rw [hk]; first | done | rfl) rfl
              · refine lv_iconst (v := (-1)) hx hb d_Desk_refusalOfAccess_72 (by decide) ?_
                refine lv_goto (tgt := 78) hx hb d_Desk_refusalOfAccess_73 (by decide) ?_
                have hk : k_Desk_refusalOfAccess sx sc sy p1 p2 = (-1) := (by rw [k_Desk_refusalOfAccess]; rw [if_neg c_245]; rw [if_pos c_246]; rw [if_neg c_247]; rw [if_neg c_248]; rw [if_neg c_249]; rw [if_pos c_250]; rw [if_neg c_251]; try rfl)
                exact ct_ri hx hb hr hlocks hP hD hK hS d_Desk_refusalOfAccess_78 (by rw [hk]; first | done | rfl) rfl
            · refine lv_tableOut (tgt := 79) hx hb d_Desk_refusalOfAccess_30 (by have := lv_neT (a := 0) c_247 (by decide); have := lv_neT (a := 1) c_248 (by decide); have := lv_neT (a := 2) c_249 (by decide); have := lv_neT (a := 3) c_250 (by decide); omega) (by decide) ?_
              refine lv_bipush (v := 22) hx hb d_Desk_refusalOfAccess_79 (by decide) ?_
              have hk : k_Desk_refusalOfAccess sx sc sy p1 p2 = 22 := (by rw [k_Desk_refusalOfAccess]; rw [if_neg c_245]; rw [if_pos c_246]; rw [if_neg c_247]; rw [if_neg c_248]; rw [if_neg c_249]; rw [if_neg c_250]; try rfl)
              exact ct_ri hx hb hr hlocks hP hD hK hS d_Desk_refusalOfAccess_81 (by rw [hk]; first | done | rfl) rfl
    · refine lv_iload_n hx hb d_Desk_refusalOfAccess_16 rfl (lv_at hl 2 rfl) ?_
      refine lv_if_eq (tgt := 24) hx hb d_Desk_refusalOfAccess_17 (by decide) (fun c_252 => ?_) (fun c_252 => ?_)
      · refine lv_iconst (v := (-1)) hx hb d_Desk_refusalOfAccess_24 (by decide) ?_
        have hk : k_Desk_refusalOfAccess sx sc sy p1 p2 = (-1) := (by rw [k_Desk_refusalOfAccess]; rw [if_neg c_245]; rw [if_neg c_246]; rw [if_pos c_252]; try rfl)
        exact ct_ri hx hb hr hlocks hP hD hK hS d_Desk_refusalOfAccess_25 (by rw [hk]; first | done | rfl) rfl
      · refine lv_iconst (v := 2) hx hb d_Desk_refusalOfAccess_20 (by decide) ?_
        refine lv_goto (tgt := 25) hx hb d_Desk_refusalOfAccess_21 (by decide) ?_
        have hk : k_Desk_refusalOfAccess sx sc sy p1 p2 = 2 := (by rw [k_Desk_refusalOfAccess]; rw [if_neg c_245]; rw [if_neg c_246]; rw [if_neg c_252]; try rfl)
        exact ct_ri hx hb hr hlocks hP hD hK hS d_Desk_refusalOfAccess_25 (by rw [hk]; first | done | rfl) rfl
  · refine lv_iconst (v := 2) hx hb d_Desk_refusalOfAccess_7 (by decide) ?_
    have hk : k_Desk_refusalOfAccess sx sc sy p1 p2 = 2 := (by rw [k_Desk_refusalOfAccess]; rw [if_pos c_245]; try rfl)
    exact ct_ri hx hb hr hlocks hP hD hK hS d_Desk_refusalOfAccess_8 (by rw [hk]; first | done | rfl) rfl
def k_Numbers_inVs (p1 : Int32) : Int32 :=
  if (bI (k_Numbers_isOfS p1)) = 0 then p1 else (512 ||| (k_Numbers_kindOf p1))
set_option maxHeartbeats 4000000 in
set_option maxRecDepth 100000 in
theorem c_Numbers_inVs (l : Launch) (G : gx) (tys : List (ClassId × FieldType)) (p1 : Int32) : ct_I l y_Numbers_inVs ws_Numbers_inVs ({ frames := 3, cells := 0, slots := 0, locals := 61 }) G tys [.int p1] [] (k_Numbers_inVs p1) [] := by
  refine ct_hI (cc := cc_Numbers_inVs) (maxL := 1) (ret := (some .int)) (by decide) rfl (Nat.le_of_ble_eq_true rfl) ?_
  intro p e s m below meth c A ls hx hb hr hml hts hown hlocks hP hK hD hA hE hS hl
  have hl : lv_has ls 1 [(0, .int p1)] := hl
  have hown : s.vm.findClass R_Numbers = some m.cls := hown
  refine lv_iload_n hx hb d_Numbers_inVs_0 rfl (lv_at hl 0 rfl) ?_
  refine ct_cSi (wr := []) (w1 := []) (w2 := []) (r := (bI (k_Numbers_isOfS p1))) (As := [.int p1]) (rest := []) ⟨hx, hb, hml, hown, hts⟩ (c_Numbers_isOfS l G tys p1) (va_cwS 1 hts (gdS gd_gd q_269 q_270 q_48 q_271) rfl rfl rfl (by decide +kernel) ⟨Nat.le_of_ble_eq_true rfl, Nat.le_of_ble_eq_true rfl⟩) hE hK hP hD hS hA [] [] [] rfl (by decide) rfl (by decide) (by decide) rfl (by decide) rfl hl.1 rfl (Nat.le_of_ble_eq_true rfl) d_Numbers_inVs_1 ⟨Nat.zero_le _, Nat.zero_le _⟩ (fun H locs hP hD hS => ?_)
  refine lv_if_eq (tgt := 18) hx hb d_Numbers_inVs_4 (by decide) (fun c_256 => ?_) (fun c_256 => ?_)
  · refine lv_iload_n hx hb d_Numbers_inVs_18 rfl (lv_at hl 0 rfl) ?_
    have hk : k_Numbers_inVs p1 = p1 := (by rw [k_Numbers_inVs]; rw [if_pos c_256]; try rfl)
    exact ct_ri hx hb hr hlocks hP hD hK hS d_Numbers_inVs_19 (by rw [hk]; first | done | rfl) rfl
  · refine lv_sipush (v := 512) hx hb d_Numbers_inVs_7 (by decide) ?_
    refine lv_iload_n hx hb d_Numbers_inVs_10 rfl (lv_at hl 0 rfl) ?_
    refine ct_cSi (wr := []) (w1 := []) (w2 := []) (r := (k_Numbers_kindOf p1)) (As := [.int p1]) (rest := [.int 512]) ⟨hx, hb, hml, hown, hts⟩ (c_Numbers_kindOf l G tys p1) (va_cwS 1 hts (gdS gd_gd q_275 q_276 q_48 q_277) rfl rfl rfl (by decide +kernel) ⟨Nat.le_of_ble_eq_true rfl, Nat.le_of_ble_eq_true rfl⟩) hE hK hP hD hS hA [] [] [] rfl (by decide) rfl (by decide) (by decide) rfl (by decide) rfl hl.1 rfl (Nat.le_of_ble_eq_true rfl) d_Numbers_inVs_11 ⟨Nat.zero_le _, Nat.zero_le _⟩ (fun H locs hP hD hS => ?_)
    refine lv_ior hx hb d_Numbers_inVs_14 ?_
    refine lv_goto (tgt := 19) hx hb d_Numbers_inVs_15 (by decide) ?_
    have hk : k_Numbers_inVs p1 = (512 ||| (k_Numbers_kindOf p1)) := (by rw [k_Numbers_inVs]; rw [if_neg c_256]; try rfl)
    exact ct_ri hx hb hr hlocks hP hD hK hS d_Numbers_inVs_19 (by rw [hk]; first | done | rfl) rfl
def k_Desk_combined (p1 : Int32) (p2 : Int32) (p3 : Int32) : Int32 :=
  if p1 = 1 then p3 else if p1 = 2 then (p2 ||| p3) else (p2 &&& (p3 ^^^ (-1)))
set_option maxHeartbeats 4000000 in
set_option maxRecDepth 100000 in
theorem c_Desk_combined (l : Launch) (G : gx) (tys : List (ClassId × FieldType)) (p1 : Int32) (p2 : Int32) (p3 : Int32) : ct_I l y_Desk_combined ws_Desk_combined ({ frames := 0, cells := 0, slots := 0, locals := 0 }) G tys [.int p1, .int p2, .int p3] [] (k_Desk_combined p1 p2 p3) [] := by
  refine ct_hI (cc := cc_Desk_combined) (maxL := 3) (ret := (some .int)) (by decide) rfl (Nat.le_of_ble_eq_true rfl) ?_
  intro p e s m below meth c A ls hx hb hr hml hts hown hlocks hP hK hD hA hE hS hl
  have hl : lv_has ls 3 [(0, .int p1), (1, .int p2), (2, .int p3)] := hl
  have hown : s.vm.findClass R_Desk = some m.cls := hown
  refine lv_iload_n hx hb d_Desk_combined_0 rfl (lv_at hl 0 rfl) ?_
  by_cases c_261 : p1 = 1
  · refine lv_lookup (off := 27) (tgt := 28) hx hb d_Desk_combined_1 (by decide) (by rw [c_261]; decide) (by decide) ?_
    refine lv_iload_n hx hb d_Desk_combined_28 rfl (lv_at hl 2 rfl) ?_
    have hk : k_Desk_combined p1 p2 p3 = p3 := (by rw [k_Desk_combined]; rw [if_pos c_261]; try rfl)
    exact ct_ri hx hb hr hlocks hP hD hK hS d_Desk_combined_29 (by rw [hk]; first | done | rfl) rfl
  · by_cases c_262 : p1 = 2
    · refine lv_lookup (off := 29) (tgt := 30) hx hb d_Desk_combined_1 (by decide) (by rw [c_262]; decide) (by decide) ?_
      refine lv_iload_n hx hb d_Desk_combined_30 rfl (lv_at hl 1 rfl) ?_
      refine lv_iload_n hx hb d_Desk_combined_31 rfl (lv_at hl 2 rfl) ?_
      refine lv_ior hx hb d_Desk_combined_32 ?_
      have hk : k_Desk_combined p1 p2 p3 = (p2 ||| p3) := (by rw [k_Desk_combined]; rw [if_neg c_261]; rw [if_pos c_262]; try rfl)
      exact ct_ri hx hb hr hlocks hP hD hK hS d_Desk_combined_33 (by rw [hk]; first | done | rfl) rfl
    · refine lv_lookup (off := 33) (tgt := 34) hx hb d_Desk_combined_1 (by decide) ((lv_osw c_261 (by decide)).trans ((lv_osw c_262 (by decide)).trans rfl)) (by decide) ?_
      refine lv_iload_n hx hb d_Desk_combined_34 rfl (lv_at hl 1 rfl) ?_
      refine lv_iload_n hx hb d_Desk_combined_35 rfl (lv_at hl 2 rfl) ?_
      refine lv_iconst (v := (-1)) hx hb d_Desk_combined_36 (by decide) ?_
      refine lv_ixor hx hb d_Desk_combined_37 ?_
      refine lv_iand hx hb d_Desk_combined_38 ?_
      have hk : k_Desk_combined p1 p2 p3 = (p2 &&& (p3 ^^^ (-1))) := (by rw [k_Desk_combined]; rw [if_neg c_261]; rw [if_neg c_262]; try rfl)
      exact ct_ri hx hb hr hlocks hP hD hK hS d_Desk_combined_39 (by rw [hk]; first | done | rfl) rfl
def k_Desk_fieldD (p1 : Int32) : Int32 :=
  ((ush p1 7) &&& 31)
set_option maxHeartbeats 4000000 in
set_option maxRecDepth 100000 in
theorem c_Desk_fieldD (l : Launch) (G : gx) (tys : List (ClassId × FieldType)) (p1 : Int32) : ct_I l y_Desk_fieldD ws_Desk_fieldD ({ frames := 0, cells := 0, slots := 0, locals := 0 }) G tys [.int p1] [] (k_Desk_fieldD p1) [] := by
  refine ct_hI (cc := cc_Desk_fieldD) (maxL := 1) (ret := (some .int)) (by decide) rfl (Nat.le_of_ble_eq_true rfl) ?_
  intro p e s m below meth c A ls hx hb hr hml hts hown hlocks hP hK hD hA hE hS hl
  have hl : lv_has ls 1 [(0, .int p1)] := hl
  have hown : s.vm.findClass R_Desk = some m.cls := hown
  refine lv_iload_n hx hb d_Desk_fieldD_0 rfl (lv_at hl 0 rfl) ?_
  refine lv_bipush (v := 7) hx hb d_Desk_fieldD_1 (by decide) ?_
  refine lv_iushr (v := (ush p1 7)) hx hb d_Desk_fieldD_3 rfl ?_
  refine lv_bipush (v := 31) hx hb d_Desk_fieldD_4 (by decide) ?_
  refine lv_iand hx hb d_Desk_fieldD_6 ?_
  have hk : k_Desk_fieldD p1 = ((ush p1 7) &&& 31) := (by rw [k_Desk_fieldD]; try rfl)
  exact ct_ri hx hb hr hlocks hP hD hK hS d_Desk_fieldD_7 (by rw [hk]; first | done | rfl) rfl
def k_Desk_goOn (sx : ob) : Int32 × ob :=
  ((-1), (oi sx 4 ((sx.1 4) + 4)))
set_option maxHeartbeats 4000000 in
set_option maxRecDepth 100000 in
theorem c_Desk_goOn (l : Launch) (G : gx) (tys : List (ClassId × FieldType)) (qx qc qo qr : Nat) (sx : ob) : ct_I l y_Desk_goOn ws_Desk_goOn ({ frames := 0, cells := 0, slots := 0, locals := 0 }) G tys [.ref qx] [(qx, .inr (5, f_Desk qc qo qr sx))] ((k_Desk_goOn sx).1) [(qx, .inr (5, f_Desk qc qo qr ((k_Desk_goOn sx).2)))] := by
  refine ct_hI (cc := cc_Desk_goOn) (maxL := 1) (ret := (some .int)) (by decide) rfl (Nat.le_of_ble_eq_true rfl) ?_
  intro p e s m below meth c A ls hx hb hr hml hts hown hlocks hP hK hD hA hE hS hl
  have hl : lv_has ls 1 [(0, .ref qx)] := hl
  have hown : s.vm.findClass R_Desk = some m.cls := hown
  refine lv_aload_n hx hb d_Desk_goOn_0 rfl (lv_at hl 0 rfl) ?_
  refine lv_dup hx hb d_Desk_goOn_1 rfl ?_
  refine va_get (D := G.1) (ci := 5) (v := .int (sx.1 4)) (C := R_Desk) (T := T_Desk) (N := 8) hx hb hts (fun w h => gd_sub _ (iw_Desk w h)) hown hK hP 0 rfl rfl 4 (by decide) (hts _ (gd_sub _ q_209)) (fun _ h9 => h9) rfl d_Desk_goOn_2 ?_
  refine lv_iconst (v := 4) hx hb d_Desk_goOn_5 (by decide) ?_
  refine lv_iadd hx hb d_Desk_goOn_6 ?_
  refine va_put (D := G.1) (ci := 5) (v := .int ((sx.1 4) + 4)) (ty := .int) (C := R_Desk) (T := T_Desk) (N := 8) hx hb hts (fun w h => gd_sub _ (iw_Desk w h)) ty_Desk tyok_Desk nm_Desk hown hK hP hD hS 0 rfl rfl 4 (by decide) (hts _ (gd_sub _ q_209)) (fun _ h9 => h9) rfl (by decide +kernel) rfl rfl (Nat.le_of_ble_eq_true rfl) d_Desk_goOn_7 (fun H locs hP hD hS => ?_)
  have hP : va_P G.1 vwCl [(qx, .inr (5, f_Desk qc qo qr (oi sx 4 ((sx.1 4) + 4))))] H := hP
  have hD : va_D A [(qx, .inr (5, f_Desk qc qo qr (oi sx 4 ((sx.1 4) + 4))))] := hD
  refine lv_iconst (v := (-1)) hx hb d_Desk_goOn_10 (by decide) ?_
  have hk : k_Desk_goOn sx = ((-1), (oi sx 4 ((sx.1 4) + 4))) := (by rw [k_Desk_goOn]; try rfl)
  exact ct_ri hx hb hr hlocks hP hD hK hS d_Desk_goOn_11 (by rw [hk]; first | done | rfl) (by rw [hk]; first | done | rfl)
def k_Desk_controlWord_j125 (sx : ob) (sc : ob) (so : ob) (shs : ob) (sgs : ob) (sy : ob) (sr : ob) (p1 : Int32) (p2 : Int32) (v3 : Int32) (v4 : Int32) (v5 : Int32) (v6 : Bool) (v7 : Int32) (v8 : Int32) (v9 : Int32) (v10 : Int32) (uc : ob) (uhs : ob) (ugs : ob) (uy : ob) : Int32 × ob × ob × ob × ob × ob × ob :=
  (((k_Desk_goOn sx).1), ((k_Desk_goOn sx).2), uc, uhs, ugs, uy, ((k_Registers_write sr (k_Desk_fieldD p1) v10)))
def k_Desk_controlWord_j89 (sx : ob) (sc : ob) (so : ob) (shs : ob) (sgs : ob) (sy : ob) (sr : ob) (p1 : Int32) (p2 : Int32) (v3 : Int32) (v4 : Int32) (v5 : Int32) (v6 : Bool) (v7 : Int32) (v8 : Int32) (t0 : Int32) : Int32 × ob × ob × ob × ob × ob × ob :=
  if (bI v6) = 0 then (k_Desk_controlWord_j125 sx sc so shs sgs sy sr p1 p2 v3 v4 v5 v6 v7 v8 t0 (k_Controls_read sc so shs sgs sy v8) sc shs sgs sy) else (k_Desk_controlWord_j125 sx sc so shs sgs sy sr p1 p2 v3 v4 v5 v6 v7 v8 t0 (k_Controls_read sc so shs sgs sy v8) ((k_Controls_write sc shs sgs sy v8 (k_Desk_combined v5 (k_Controls_read sc so shs sgs sy v8) t0)).1) ((k_Controls_write sc shs sgs sy v8 (k_Desk_combined v5 (k_Controls_read sc so shs sgs sy v8) t0)).2.1) ((k_Controls_write sc shs sgs sy v8 (k_Desk_combined v5 (k_Controls_read sc so shs sgs sy v8) t0)).2.2.1) ((k_Controls_write sc shs sgs sy v8 (k_Desk_combined v5 (k_Controls_read sc so shs sgs sy v8) t0)).2.2.2))
def k_Desk_controlWord_j68 (sx : ob) (sc : ob) (so : ob) (shs : ob) (sgs : ob) (sy : ob) (sr : ob) (p1 : Int32) (p2 : Int32) (v3 : Int32) (v4 : Int32) (v5 : Int32) (v6 : Bool) (v7 : Int32) (t0 : Int32) : Int32 × ob × ob × ob × ob × ob × ob :=
  if p2 ≤ 4 then (k_Desk_controlWord_j89 sx sc so shs sgs sy sr p1 p2 v3 v4 v5 v6 v7 t0 (k_Registers_read sr v4)) else (k_Desk_controlWord_j89 sx sc so shs sgs sy sr p1 p2 v3 v4 v5 v6 v7 t0 v4)
def k_Desk_controlWord_j32 (sx : ob) (sc : ob) (so : ob) (shs : ob) (sgs : ob) (sy : ob) (sr : ob) (p1 : Int32) (p2 : Int32) (v3 : Int32) (v4 : Int32) (v5 : Int32) (t0 : Bool) : Int32 × ob × ob × ob × ob × ob × ob :=
  if (k_Desk_refusalOfAccess sx sc sy v3 t0) = (-1) then (if (sx.1 3) = 3 then (k_Desk_controlWord_j68 sx sc so shs sgs sy sr p1 p2 v3 v4 v5 t0 (k_Desk_refusalOfAccess sx sc sy v3 t0) (k_Numbers_inVs v3)) else (k_Desk_controlWord_j68 sx sc so shs sgs sy sr p1 p2 v3 v4 v5 t0 (k_Desk_refusalOfAccess sx sc sy v3 t0) v3)) else ((k_Desk_refusalOfAccess sx sc sy v3 t0), sx, sc, shs, sgs, sy, sr)
def k_Desk_controlWord_j27 (sx : ob) (sc : ob) (so : ob) (shs : ob) (sgs : ob) (sy : ob) (sr : ob) (p1 : Int32) (p2 : Int32) (v3 : Int32) (v4 : Int32) (v5 : Int32) : Int32 × ob × ob × ob × ob × ob × ob :=
  k_Desk_controlWord_j32 sx sc so shs sgs sy sr p1 p2 v3 v4 v5 true
def k_Desk_controlWord (sx : ob) (sc : ob) (so : ob) (shs : ob) (sgs : ob) (sy : ob) (sr : ob) (p1 : Int32) (p2 : Int32) : Int32 × ob × ob × ob × ob × ob × ob :=
  if (p2 &&& 3) = 1 then (k_Desk_controlWord_j27 sx sc so shs sgs sy sr p1 p2 (ush p1 20) (k_Desk_fieldA p1) (p2 &&& 3)) else (if (k_Desk_fieldA p1) = 0 then (k_Desk_controlWord_j32 sx sc so shs sgs sy sr p1 p2 (ush p1 20) (k_Desk_fieldA p1) (p2 &&& 3) false) else (k_Desk_controlWord_j27 sx sc so shs sgs sy sr p1 p2 (ush p1 20) (k_Desk_fieldA p1) (p2 &&& 3)))
set_option maxHeartbeats 4000000 in
set_option maxRecDepth 100000 in
theorem c_Desk_controlWord (l : Launch) (G : gx) (tys : List (ClassId × FieldType)) (qx qc qo qhs qgs qy qr qa : Nat) (sx : ob) (sc : ob) (so : ob) (shs : ob) (sgs : ob) (sy : ob) (sr : ob) (p1 : Int32) (p2 : Int32) : ct_I l y_Desk_controlWord ws_Desk_controlWord ({ frames := 5, cells := 0, slots := 0, locals := 104 }) G tys [.ref qx, .int p1, .int p2] [(qx, .inr (5, f_Desk qc qo qr sx)), (qc, .inr (1, f_Controls qo qhs qgs qy sc)), (qo, .inr (3, f_Outside qa so)), (qhs, .inr (0, f_Bank shs)), (qgs, .inr (0, f_Bank sgs)), (qy, .inr (2, f_Hyper sy)), (qr, .inr (4, f_Registers sr))] ((k_Desk_controlWord sx sc so shs sgs sy sr p1 p2).1) [(qx, .inr (5, f_Desk qc qo qr ((k_Desk_controlWord sx sc so shs sgs sy sr p1 p2).2.1))), (qc, .inr (1, f_Controls qo qhs qgs qy ((k_Desk_controlWord sx sc so shs sgs sy sr p1 p2).2.2.1))), (qo, .inr (3, f_Outside qa so)), (qhs, .inr (0, f_Bank ((k_Desk_controlWord sx sc so shs sgs sy sr p1 p2).2.2.2.1))), (qgs, .inr (0, f_Bank ((k_Desk_controlWord sx sc so shs sgs sy sr p1 p2).2.2.2.2.1))), (qy, .inr (2, f_Hyper ((k_Desk_controlWord sx sc so shs sgs sy sr p1 p2).2.2.2.2.2.1))), (qr, .inr (4, f_Registers ((k_Desk_controlWord sx sc so shs sgs sy sr p1 p2).2.2.2.2.2.2)))] := by
  refine ct_hI (cc := cc_Desk_controlWord) (maxL := 11) (ret := (some .int)) (by decide) rfl (Nat.le_of_ble_eq_true rfl) ?_
  intro p e s m below meth c A ls hx hb hr hml hts hown hlocks hP hK hD hA hE hS hl
  have hl : lv_has ls 11 [(0, .ref qx), (1, .int p1), (2, .int p2)] := hl
  have hown : s.vm.findClass R_Desk = some m.cls := hown
  have J125 : ∀ (v3 : Int32) (v4 : Int32) (v5 : Int32) (v6 : Bool) (v7 : Int32) (v8 : Int32) (v9 : Int32) (v10 : Int32) (uc : ob) (uhs : ob) (ugs : ob) (uy : ob) (H : Heap) (locs : List Loc) (ls : Array Slot), k_Desk_controlWord sx sc so shs sgs sy sr p1 p2 = k_Desk_controlWord_j125 sx sc so shs sgs sy sr p1 p2 v3 v4 v5 v6 v7 v8 v9 v10 uc uhs ugs uy → va_P G.1 vwCl [(qx, .inr (5, f_Desk qc qo qr sx)), (qc, .inr (1, f_Controls qo qhs qgs qy uc)), (qo, .inr (3, f_Outside qa so)), (qhs, .inr (0, f_Bank uhs)), (qgs, .inr (0, f_Bank ugs)), (qy, .inr (2, f_Hyper uy)), (qr, .inr (4, f_Registers sr))] H → va_D A [(qx, .inr (5, f_Desk qc qo qr sx)), (qc, .inr (1, f_Controls qo qhs qgs qy uc)), (qo, .inr (3, f_Outside qa so)), (qhs, .inr (0, f_Bank uhs)), (qgs, .inr (0, f_Bank ugs)), (qy, .inr (2, f_Hyper uy)), (qr, .inr (4, f_Registers sr))] → va_S A s.heap H locs → lv_has ls 11 [(0, .ref qx), (1, .int p1), (2, .int p2), (3, .int v3), (4, .int v4), (5, .int v5), (6, .int (bI v6)), (7, .int v7), (8, .int v8), (9, .int v9), (10, .int v10)] → W p l e ({ frames := 5, cells := 0, slots := 0, locals := 104 }) s m ([.ref qx, .int p1, .int p2] : List Value).toArray below meth c H locs 0 0 (MQ below (ct_qi G tys A ((k_Desk_controlWord sx sc so shs sgs sy sr p1 p2).1) [(qx, .inr (5, f_Desk qc qo qr ((k_Desk_controlWord sx sc so shs sgs sy sr p1 p2).2.1))), (qc, .inr (1, f_Controls qo qhs qgs qy ((k_Desk_controlWord sx sc so shs sgs sy sr p1 p2).2.2.1))), (qo, .inr (3, f_Outside qa so)), (qhs, .inr (0, f_Bank ((k_Desk_controlWord sx sc so shs sgs sy sr p1 p2).2.2.2.1))), (qgs, .inr (0, f_Bank ((k_Desk_controlWord sx sc so shs sgs sy sr p1 p2).2.2.2.2.1))), (qy, .inr (2, f_Hyper ((k_Desk_controlWord sx sc so shs sgs sy sr p1 p2).2.2.2.2.2.1))), (qr, .inr (4, f_Registers ((k_Desk_controlWord sx sc so shs sgs sy sr p1 p2).2.2.2.2.2.2)))]) ([.ref qx, .int p1, .int p2] : List Value).toArray s 0 0 A) (F0 m 125 ls []) := by
    intro v3 v4 v5 v6 v7 v8 v9 v10 uc uhs ugs uy H locs ls hj hP hD hS hl
    refine lv_aload_n hx hb d_Desk_controlWord_125 rfl (lv_at hl 0 rfl) ?_
    refine va_get (D := G.1) (ci := 5) (v := .ref qr) (C := R_Desk) (T := T_Desk) (N := 8) hx hb hts (fun w h => gd_sub _ (iw_Desk w h)) hown hK hP 0 rfl rfl 2 (by decide) (hts _ (gd_sub _ q_207)) (fun _ h9 => h9) rfl d_Desk_controlWord_126 ?_
    refine lv_iload_n hx hb d_Desk_controlWord_129 rfl (lv_at hl 1 rfl) ?_
    refine ct_cSi (wr := [(qx, .inr (5, f_Desk qc qo qr sx)), (qc, .inr (1, f_Controls qo qhs qgs qy uc)), (qo, .inr (3, f_Outside qa so)), (qhs, .inr (0, f_Bank uhs)), (qgs, .inr (0, f_Bank ugs)), (qy, .inr (2, f_Hyper uy)), (qr, .inr (4, f_Registers sr))]) (w1 := []) (w2 := [(qx, .inr (5, f_Desk qc qo qr sx)), (qc, .inr (1, f_Controls qo qhs qgs qy uc)), (qo, .inr (3, f_Outside qa so)), (qhs, .inr (0, f_Bank uhs)), (qgs, .inr (0, f_Bank ugs)), (qy, .inr (2, f_Hyper uy)), (qr, .inr (4, f_Registers sr))]) (r := (k_Desk_fieldD p1)) (As := [.int p1]) (rest := [.ref qr]) ⟨hx, hb, hml, hown, hts⟩ (c_Desk_fieldD l G tys p1) (va_cwS 1 hts (gdS gd_gd q_407 q_408 q_41 q_409) rfl rfl rfl (by decide +kernel) ⟨Nat.le_of_ble_eq_true rfl, Nat.le_of_ble_eq_true rfl⟩) hE hK hP hD hS hA [] [0, 1, 2, 3, 4, 5, 6] [0, 1, 2, 3, 4, 5, 6] rfl (by decide) rfl (by decide) (by decide) rfl (by decide) rfl hl.1 rfl (Nat.le_of_ble_eq_true rfl) d_Desk_controlWord_130 ⟨Nat.zero_le _, Nat.zero_le _⟩ (fun H locs hP hD hS => ?_)
    refine lv_iload hx hb d_Desk_controlWord_133 (lv_at hl 10 rfl) ?_
    obtain ⟨sr_270, esr_270⟩ : ∃ z, z = (k_Registers_write sr (k_Desk_fieldD p1) v10) := ⟨_, rfl⟩
    have hM := c_Registers_write l G tys qr sr (k_Desk_fieldD p1) v10
    rw [← esr_270] at hM
    refine ct_cVv (wr := [(qx, .inr (5, f_Desk qc qo qr sx)), (qc, .inr (1, f_Controls qo qhs qgs qy uc)), (qo, .inr (3, f_Outside qa so)), (qhs, .inr (0, f_Bank uhs)), (qgs, .inr (0, f_Bank ugs)), (qy, .inr (2, f_Hyper uy))]) (w1 := [(qr, .inr (4, f_Registers sr_270))]) (w2 := [(qx, .inr (5, f_Desk qc qo qr sx)), (qc, .inr (1, f_Controls qo qhs qgs qy uc)), (qo, .inr (3, f_Outside qa so)), (qhs, .inr (0, f_Bank uhs)), (qgs, .inr (0, f_Bank ugs)), (qy, .inr (2, f_Hyper uy)), (qr, .inr (4, f_Registers sr_270))]) (As := [.int (k_Desk_fieldD p1), .int v10]) (rest := []) (ci := 4) (q0 := 0) ⟨hx, hb, hml, hown, hts⟩ hM (cwV 2 hts (gdV gd_gd q_387 q_388 q_389 q_46 q_390) rfl rfl rfl (by decide +kernel) ⟨Nat.le_of_ble_eq_true rfl, Nat.le_of_ble_eq_true rfl⟩) hE hK hP hD hS hA [6] [0, 1, 2, 3, 4, 5] [0, 1, 2, 3, 4, 5, 6] rfl (by decide) rfl (by decide) (by decide) rfl (by decide) rfl rfl rfl hl.1 rfl (Nat.le_of_ble_eq_true rfl) d_Desk_controlWord_135 ⟨Nat.zero_le _, Nat.zero_le _⟩ (fun H locs hP hD hS => ?_)
    refine lv_aload_n hx hb d_Desk_controlWord_138 rfl (lv_at hl 0 rfl) ?_
    obtain ⟨r_271, er_271⟩ : ∃ z, z = (k_Desk_goOn sx).1 := ⟨_, rfl⟩
    obtain ⟨sx_272, esx_272⟩ : ∃ z, z = (k_Desk_goOn sx).2 := ⟨_, rfl⟩
    have hM := c_Desk_goOn l G tys qx qc qo qr sx
    rw [← er_271, ← esx_272] at hM
    refine ct_cVi (wr := [(qc, .inr (1, f_Controls qo qhs qgs qy uc)), (qo, .inr (3, f_Outside qa so)), (qhs, .inr (0, f_Bank uhs)), (qgs, .inr (0, f_Bank ugs)), (qy, .inr (2, f_Hyper uy)), (qr, .inr (4, f_Registers sr_270))]) (w1 := [(qx, .inr (5, f_Desk qc qo qr sx_272))]) (w2 := [(qx, .inr (5, f_Desk qc qo qr sx_272)), (qc, .inr (1, f_Controls qo qhs qgs qy uc)), (qo, .inr (3, f_Outside qa so)), (qhs, .inr (0, f_Bank uhs)), (qgs, .inr (0, f_Bank ugs)), (qy, .inr (2, f_Hyper uy)), (qr, .inr (4, f_Registers sr_270))]) (r := r_271) (As := []) (rest := []) (ci := 5) (q0 := 0) ⟨hx, hb, hml, hown, hts⟩ hM (cwV 0 hts (gdV gd_gd q_426 q_428 q_4 q_41 q_429) rfl rfl rfl (by decide +kernel) ⟨Nat.le_of_ble_eq_true rfl, Nat.le_of_ble_eq_true rfl⟩) hE hK hP hD hS hA [0] [1, 2, 3, 4, 5, 6] [6, 0, 1, 2, 3, 4, 5] rfl (by decide) rfl (by decide) (by decide) rfl (by decide) rfl rfl rfl hl.1 rfl (Nat.le_of_ble_eq_true rfl) d_Desk_controlWord_139 ⟨Nat.zero_le _, Nat.zero_le _⟩ (fun H locs hP hD hS => ?_)
    have hk : k_Desk_controlWord sx sc so shs sgs sy sr p1 p2 = (r_271, sx_272, uc, uhs, ugs, uy, sr_270) := (hj.trans (by rw [k_Desk_controlWord_j125]; try rw [← esr_270]; try rw [← er_271]; try rw [← esx_272]; try rfl))
    exact ct_ri hx hb hr hlocks hP hD hK hS d_Desk_controlWord_142 (by rw [hk]; first | done | rfl) (by rw [hk]; first | done | rfl)
  have J89 : ∀ (v3 : Int32) (v4 : Int32) (v5 : Int32) (v6 : Bool) (v7 : Int32) (v8 : Int32) (t0 : Int32) (H : Heap) (locs : List Loc) (ls : Array Slot), k_Desk_controlWord sx sc so shs sgs sy sr p1 p2 = k_Desk_controlWord_j89 sx sc so shs sgs sy sr p1 p2 v3 v4 v5 v6 v7 v8 t0 → va_P G.1 vwCl [(qx, .inr (5, f_Desk qc qo qr sx)), (qc, .inr (1, f_Controls qo qhs qgs qy sc)), (qo, .inr (3, f_Outside qa so)), (qhs, .inr (0, f_Bank shs)), (qgs, .inr (0, f_Bank sgs)), (qy, .inr (2, f_Hyper sy)), (qr, .inr (4, f_Registers sr))] H → va_D A [(qx, .inr (5, f_Desk qc qo qr sx)), (qc, .inr (1, f_Controls qo qhs qgs qy sc)), (qo, .inr (3, f_Outside qa so)), (qhs, .inr (0, f_Bank shs)), (qgs, .inr (0, f_Bank sgs)), (qy, .inr (2, f_Hyper sy)), (qr, .inr (4, f_Registers sr))] → va_S A s.heap H locs → lv_has ls 11 [(0, .ref qx), (1, .int p1), (2, .int p2), (3, .int v3), (4, .int v4), (5, .int v5), (6, .int (bI v6)), (7, .int v7), (8, .int v8)] → W p l e ({ frames := 5, cells := 0, slots := 0, locals := 104 }) s m ([.ref qx, .int p1, .int p2] : List Value).toArray below meth c H locs 0 0 (MQ below (ct_qi G tys A ((k_Desk_controlWord sx sc so shs sgs sy sr p1 p2).1) [(qx, .inr (5, f_Desk qc qo qr ((k_Desk_controlWord sx sc so shs sgs sy sr p1 p2).2.1))), (qc, .inr (1, f_Controls qo qhs qgs qy ((k_Desk_controlWord sx sc so shs sgs sy sr p1 p2).2.2.1))), (qo, .inr (3, f_Outside qa so)), (qhs, .inr (0, f_Bank ((k_Desk_controlWord sx sc so shs sgs sy sr p1 p2).2.2.2.1))), (qgs, .inr (0, f_Bank ((k_Desk_controlWord sx sc so shs sgs sy sr p1 p2).2.2.2.2.1))), (qy, .inr (2, f_Hyper ((k_Desk_controlWord sx sc so shs sgs sy sr p1 p2).2.2.2.2.2.1))), (qr, .inr (4, f_Registers ((k_Desk_controlWord sx sc so shs sgs sy sr p1 p2).2.2.2.2.2.2)))]) ([.ref qx, .int p1, .int p2] : List Value).toArray s 0 0 A) (F0 m 89 ls [.int t0]) := by
    intro v3 v4 v5 v6 v7 v8 t0 H locs ls hj hP hD hS hl
    refine lv_istore (lv' := [(9, .int t0), (0, .ref qx), (1, .int p1), (2, .int p2), (3, .int v3), (4, .int v4), (5, .int v5), (6, .int (bI v6)), (7, .int v7), (8, .int v8)]) hx hb d_Desk_controlWord_89 hl (by decide) rfl (fun ls hl => ?_)
    refine lv_aload_n hx hb d_Desk_controlWord_91 rfl (lv_at hl 1 rfl) ?_
    refine va_get (D := G.1) (ci := 5) (v := .ref qc) (C := R_Desk) (T := T_Desk) (N := 8) hx hb hts (fun w h => gd_sub _ (iw_Desk w h)) hown hK hP 0 rfl rfl 0 (by decide) (hts _ (gd_sub _ q_205)) (fun _ h9 => h9) rfl d_Desk_controlWord_92 ?_
    refine lv_iload hx hb d_Desk_controlWord_95 (lv_at hl 9 rfl) ?_
    refine ct_cVi (wr := [(qx, .inr (5, f_Desk qc qo qr sx)), (qr, .inr (4, f_Registers sr))]) (w1 := [(qc, .inr (1, f_Controls qo qhs qgs qy sc)), (qo, .inr (3, f_Outside qa so)), (qhs, .inr (0, f_Bank shs)), (qgs, .inr (0, f_Bank sgs)), (qy, .inr (2, f_Hyper sy))]) (w2 := [(qx, .inr (5, f_Desk qc qo qr sx)), (qc, .inr (1, f_Controls qo qhs qgs qy sc)), (qo, .inr (3, f_Outside qa so)), (qhs, .inr (0, f_Bank shs)), (qgs, .inr (0, f_Bank sgs)), (qy, .inr (2, f_Hyper sy)), (qr, .inr (4, f_Registers sr))]) (r := (k_Controls_read sc so shs sgs sy v8)) (As := [.int v8]) (rest := []) (ci := 1) (q0 := 0) ⟨hx, hb, hml, hown, hts⟩ (c_Controls_read l G tys qc qo qhs qgs qy qa sc so shs sgs sy v8) (cwV 1 hts (gdV gd_gd q_334 q_335 q_336 q_42 q_337) rfl rfl rfl (by decide +kernel) ⟨Nat.le_of_ble_eq_true rfl, Nat.le_of_ble_eq_true rfl⟩) hE hK hP hD hS hA [1, 2, 3, 4, 5] [0, 6] [0, 2, 3, 4, 5, 6, 1] rfl (by decide) rfl (by decide) (by decide) rfl (by decide) rfl rfl rfl hl.1 rfl (Nat.le_of_ble_eq_true rfl) d_Desk_controlWord_97 ⟨Nat.zero_le _, Nat.zero_le _⟩ (fun H locs hP hD hS => ?_)
    refine lv_istore (lv' := [(10, .int (k_Controls_read sc so shs sgs sy v8)), (9, .int t0), (0, .ref qx), (1, .int p1), (2, .int p2), (3, .int v3), (4, .int v4), (5, .int v5), (6, .int (bI v6)), (7, .int v7), (8, .int v8)]) hx hb d_Desk_controlWord_100 hl (by decide) rfl (fun ls hl => ?_)
    refine lv_iload hx hb d_Desk_controlWord_102 (lv_at hl 8 rfl) ?_
    refine lv_if_eq (tgt := 125) hx hb d_Desk_controlWord_104 (by decide) (fun c_273 => ?_) (fun c_273 => ?_)
    · exact J125 v3 v4 v5 v6 v7 v8 t0 (k_Controls_read sc so shs sgs sy v8) sc shs sgs sy H locs ls (hj.trans (by rw [k_Desk_controlWord_j89]; rw [if_pos c_273]; try rfl)) hP hD hS (lv_sub hl [2, 3, 4, 5, 6, 7, 8, 9, 10, 1, 0] rfl)
    · refine lv_aload_n hx hb d_Desk_controlWord_107 rfl (lv_at hl 2 rfl) ?_
      refine va_get (D := G.1) (ci := 5) (v := .ref qc) (C := R_Desk) (T := T_Desk) (N := 8) hx hb hts (fun w h => gd_sub _ (iw_Desk w h)) hown hK hP 0 rfl rfl 0 (by decide) (hts _ (gd_sub _ q_205)) (fun _ h9 => h9) rfl d_Desk_controlWord_108 ?_
      refine lv_iload hx hb d_Desk_controlWord_111 (lv_at hl 10 rfl) ?_
      refine lv_iload hx hb d_Desk_controlWord_113 (lv_at hl 7 rfl) ?_
      refine lv_iload hx hb d_Desk_controlWord_115 (lv_at hl 0 rfl) ?_
      refine lv_iload hx hb d_Desk_controlWord_117 (lv_at hl 1 rfl) ?_
      refine ct_cSi (wr := [(qx, .inr (5, f_Desk qc qo qr sx)), (qc, .inr (1, f_Controls qo qhs qgs qy sc)), (qo, .inr (3, f_Outside qa so)), (qhs, .inr (0, f_Bank shs)), (qgs, .inr (0, f_Bank sgs)), (qy, .inr (2, f_Hyper sy)), (qr, .inr (4, f_Registers sr))]) (w1 := []) (w2 := [(qx, .inr (5, f_Desk qc qo qr sx)), (qc, .inr (1, f_Controls qo qhs qgs qy sc)), (qo, .inr (3, f_Outside qa so)), (qhs, .inr (0, f_Bank shs)), (qgs, .inr (0, f_Bank sgs)), (qy, .inr (2, f_Hyper sy)), (qr, .inr (4, f_Registers sr))]) (r := (k_Desk_combined v5 (k_Controls_read sc so shs sgs sy v8) t0)) (As := [.int v5, .int (k_Controls_read sc so shs sgs sy v8), .int t0]) (rest := [.int v8, .ref qc]) ⟨hx, hb, hml, hown, hts⟩ (c_Desk_combined l G tys v5 (k_Controls_read sc so shs sgs sy v8) t0) (va_cwS 3 hts (gdS gd_gd q_503 q_504 q_41 q_505) rfl rfl rfl (by decide +kernel) ⟨Nat.le_of_ble_eq_true rfl, Nat.le_of_ble_eq_true rfl⟩) hE hK hP hD hS hA [] [0, 1, 2, 3, 4, 5, 6] [0, 1, 2, 3, 4, 5, 6] rfl (by decide) rfl (by decide) (by decide) rfl (by decide) rfl hl.1 rfl (Nat.le_of_ble_eq_true rfl) d_Desk_controlWord_119 ⟨Nat.zero_le _, Nat.zero_le _⟩ (fun H locs hP hD hS => ?_)
      obtain ⟨sc_274, esc_274⟩ : ∃ z, z = (k_Controls_write sc shs sgs sy v8 (k_Desk_combined v5 (k_Controls_read sc so shs sgs sy v8) t0)).1 := ⟨_, rfl⟩
      obtain ⟨shs_275, eshs_275⟩ : ∃ z, z = (k_Controls_write sc shs sgs sy v8 (k_Desk_combined v5 (k_Controls_read sc so shs sgs sy v8) t0)).2.1 := ⟨_, rfl⟩
      obtain ⟨sgs_276, esgs_276⟩ : ∃ z, z = (k_Controls_write sc shs sgs sy v8 (k_Desk_combined v5 (k_Controls_read sc so shs sgs sy v8) t0)).2.2.1 := ⟨_, rfl⟩
      obtain ⟨sy_277, esy_277⟩ : ∃ z, z = (k_Controls_write sc shs sgs sy v8 (k_Desk_combined v5 (k_Controls_read sc so shs sgs sy v8) t0)).2.2.2 := ⟨_, rfl⟩
      have hM := c_Controls_write l G tys qc qhs qgs qy qo sc shs sgs sy v8 (k_Desk_combined v5 (k_Controls_read sc so shs sgs sy v8) t0)
      rw [← esc_274, ← eshs_275, ← esgs_276, ← esy_277] at hM
      refine ct_cVv (wr := [(qx, .inr (5, f_Desk qc qo qr sx)), (qo, .inr (3, f_Outside qa so)), (qr, .inr (4, f_Registers sr))]) (w1 := [(qc, .inr (1, f_Controls qo qhs qgs qy sc_274)), (qhs, .inr (0, f_Bank shs_275)), (qgs, .inr (0, f_Bank sgs_276)), (qy, .inr (2, f_Hyper sy_277))]) (w2 := [(qx, .inr (5, f_Desk qc qo qr sx)), (qc, .inr (1, f_Controls qo qhs qgs qy sc_274)), (qo, .inr (3, f_Outside qa so)), (qhs, .inr (0, f_Bank shs_275)), (qgs, .inr (0, f_Bank sgs_276)), (qy, .inr (2, f_Hyper sy_277)), (qr, .inr (4, f_Registers sr))]) (As := [.int v8, .int (k_Desk_combined v5 (k_Controls_read sc so shs sgs sy v8) t0)]) (rest := []) (ci := 1) (q0 := 0) ⟨hx, hb, hml, hown, hts⟩ hM (cwV 2 hts (gdV gd_gd q_291 q_292 q_293 q_42 q_294) rfl rfl rfl (by decide +kernel) ⟨Nat.le_of_ble_eq_true rfl, Nat.le_of_ble_eq_true rfl⟩) hE hK hP hD hS hA [1, 3, 4, 5] [0, 2, 6] [0, 3, 1, 4, 5, 6, 2] rfl (by decide) rfl (by decide) (by decide) rfl (by decide) rfl rfl rfl hl.1 rfl (Nat.le_of_ble_eq_true rfl) d_Desk_controlWord_122 ⟨Nat.zero_le _, Nat.zero_le _⟩ (fun H locs hP hD hS => ?_)
      exact J125 v3 v4 v5 v6 v7 v8 t0 (k_Controls_read sc so shs sgs sy v8) sc_274 shs_275 sgs_276 sy_277 H locs ls (hj.trans (by rw [k_Desk_controlWord_j89]; rw [if_neg c_273]; try rw [← esc_274]; try rw [← eshs_275]; try rw [← esgs_276]; try rw [← esy_277]; try rfl)) hP hD hS (lv_sub hl [2, 3, 4, 5, 6, 7, 8, 9, 10, 1, 0] rfl)
  have J68 : ∀ (v3 : Int32) (v4 : Int32) (v5 : Int32) (v6 : Bool) (v7 : Int32) (t0 : Int32) (H : Heap) (locs : List Loc) (ls : Array Slot), k_Desk_controlWord sx sc so shs sgs sy sr p1 p2 = k_Desk_controlWord_j68 sx sc so shs sgs sy sr p1 p2 v3 v4 v5 v6 v7 t0 → va_P G.1 vwCl [(qx, .inr (5, f_Desk qc qo qr sx)), (qc, .inr (1, f_Controls qo qhs qgs qy sc)), (qo, .inr (3, f_Outside qa so)), (qhs, .inr (0, f_Bank shs)), (qgs, .inr (0, f_Bank sgs)), (qy, .inr (2, f_Hyper sy)), (qr, .inr (4, f_Registers sr))] H → va_D A [(qx, .inr (5, f_Desk qc qo qr sx)), (qc, .inr (1, f_Controls qo qhs qgs qy sc)), (qo, .inr (3, f_Outside qa so)), (qhs, .inr (0, f_Bank shs)), (qgs, .inr (0, f_Bank sgs)), (qy, .inr (2, f_Hyper sy)), (qr, .inr (4, f_Registers sr))] → va_S A s.heap H locs → lv_has ls 11 [(0, .ref qx), (1, .int p1), (2, .int p2), (3, .int v3), (4, .int v4), (5, .int v5), (6, .int (bI v6)), (7, .int v7)] → W p l e ({ frames := 5, cells := 0, slots := 0, locals := 104 }) s m ([.ref qx, .int p1, .int p2] : List Value).toArray below meth c H locs 0 0 (MQ below (ct_qi G tys A ((k_Desk_controlWord sx sc so shs sgs sy sr p1 p2).1) [(qx, .inr (5, f_Desk qc qo qr ((k_Desk_controlWord sx sc so shs sgs sy sr p1 p2).2.1))), (qc, .inr (1, f_Controls qo qhs qgs qy ((k_Desk_controlWord sx sc so shs sgs sy sr p1 p2).2.2.1))), (qo, .inr (3, f_Outside qa so)), (qhs, .inr (0, f_Bank ((k_Desk_controlWord sx sc so shs sgs sy sr p1 p2).2.2.2.1))), (qgs, .inr (0, f_Bank ((k_Desk_controlWord sx sc so shs sgs sy sr p1 p2).2.2.2.2.1))), (qy, .inr (2, f_Hyper ((k_Desk_controlWord sx sc so shs sgs sy sr p1 p2).2.2.2.2.2.1))), (qr, .inr (4, f_Registers ((k_Desk_controlWord sx sc so shs sgs sy sr p1 p2).2.2.2.2.2.2)))]) ([.ref qx, .int p1, .int p2] : List Value).toArray s 0 0 A) (F0 m 68 ls [.int t0]) := by
    intro v3 v4 v5 v6 v7 t0 H locs ls hj hP hD hS hl
    refine lv_istore (lv' := [(8, .int t0), (0, .ref qx), (1, .int p1), (2, .int p2), (3, .int v3), (4, .int v4), (5, .int v5), (6, .int (bI v6)), (7, .int v7)]) hx hb d_Desk_controlWord_68 hl (by decide) rfl (fun ls hl => ?_)
    refine lv_iload_n hx hb d_Desk_controlWord_70 rfl (lv_at hl 3 rfl) ?_
    refine lv_iconst (v := 4) hx hb d_Desk_controlWord_71 (by decide) ?_
    refine lv_icmp_le (tgt := 80) hx hb d_Desk_controlWord_72 (by decide) (fun c_278 => ?_) (fun c_278 => ?_)
    · refine lv_aload_n hx hb d_Desk_controlWord_80 rfl (lv_at hl 1 rfl) ?_
      refine va_get (D := G.1) (ci := 5) (v := .ref qr) (C := R_Desk) (T := T_Desk) (N := 8) hx hb hts (fun w h => gd_sub _ (iw_Desk w h)) hown hK hP 0 rfl rfl 2 (by decide) (hts _ (gd_sub _ q_207)) (fun _ h9 => h9) rfl d_Desk_controlWord_81 ?_
      refine lv_iload hx hb d_Desk_controlWord_84 (lv_at hl 5 rfl) ?_
      refine ct_cVi (wr := [(qx, .inr (5, f_Desk qc qo qr sx)), (qc, .inr (1, f_Controls qo qhs qgs qy sc)), (qo, .inr (3, f_Outside qa so)), (qhs, .inr (0, f_Bank shs)), (qgs, .inr (0, f_Bank sgs)), (qy, .inr (2, f_Hyper sy))]) (w1 := [(qr, .inr (4, f_Registers sr))]) (w2 := [(qx, .inr (5, f_Desk qc qo qr sx)), (qc, .inr (1, f_Controls qo qhs qgs qy sc)), (qo, .inr (3, f_Outside qa so)), (qhs, .inr (0, f_Bank shs)), (qgs, .inr (0, f_Bank sgs)), (qy, .inr (2, f_Hyper sy)), (qr, .inr (4, f_Registers sr))]) (r := (k_Registers_read sr v4)) (As := [.int v4]) (rest := []) (ci := 4) (q0 := 0) ⟨hx, hb, hml, hown, hts⟩ (c_Registers_read l G tys qr sr v4) (cwV 1 hts (gdV gd_gd q_383 q_384 q_385 q_46 q_386) rfl rfl rfl (by decide +kernel) ⟨Nat.le_of_ble_eq_true rfl, Nat.le_of_ble_eq_true rfl⟩) hE hK hP hD hS hA [6] [0, 1, 2, 3, 4, 5] [0, 1, 2, 3, 4, 5, 6] rfl (by decide) rfl (by decide) (by decide) rfl (by decide) rfl rfl rfl hl.1 rfl (Nat.le_of_ble_eq_true rfl) d_Desk_controlWord_86 ⟨Nat.zero_le _, Nat.zero_le _⟩ (fun H locs hP hD hS => ?_)
      exact J89 v3 v4 v5 v6 v7 t0 (k_Registers_read sr v4) H locs ls (hj.trans (by rw [k_Desk_controlWord_j68]; rw [if_pos c_278]; try rfl)) hP hD hS (lv_sub hl [1, 2, 3, 4, 5, 6, 7, 8, 0] rfl)
    · refine lv_iload hx hb d_Desk_controlWord_75 (lv_at hl 5 rfl) ?_
      refine lv_goto (tgt := 89) hx hb d_Desk_controlWord_77 (by decide) ?_
      exact J89 v3 v4 v5 v6 v7 t0 v4 H locs ls (hj.trans (by rw [k_Desk_controlWord_j68]; rw [if_neg c_278]; try rfl)) hP hD hS (lv_sub hl [1, 2, 3, 4, 5, 6, 7, 8, 0] rfl)
  have J32 : ∀ (v3 : Int32) (v4 : Int32) (v5 : Int32) (t0 : Bool) (H : Heap) (locs : List Loc) (ls : Array Slot), k_Desk_controlWord sx sc so shs sgs sy sr p1 p2 = k_Desk_controlWord_j32 sx sc so shs sgs sy sr p1 p2 v3 v4 v5 t0 → va_P G.1 vwCl [(qx, .inr (5, f_Desk qc qo qr sx)), (qc, .inr (1, f_Controls qo qhs qgs qy sc)), (qo, .inr (3, f_Outside qa so)), (qhs, .inr (0, f_Bank shs)), (qgs, .inr (0, f_Bank sgs)), (qy, .inr (2, f_Hyper sy)), (qr, .inr (4, f_Registers sr))] H → va_D A [(qx, .inr (5, f_Desk qc qo qr sx)), (qc, .inr (1, f_Controls qo qhs qgs qy sc)), (qo, .inr (3, f_Outside qa so)), (qhs, .inr (0, f_Bank shs)), (qgs, .inr (0, f_Bank sgs)), (qy, .inr (2, f_Hyper sy)), (qr, .inr (4, f_Registers sr))] → va_S A s.heap H locs → lv_has ls 11 [(0, .ref qx), (1, .int p1), (2, .int p2), (3, .int v3), (4, .int v4), (5, .int v5)] → W p l e ({ frames := 5, cells := 0, slots := 0, locals := 104 }) s m ([.ref qx, .int p1, .int p2] : List Value).toArray below meth c H locs 0 0 (MQ below (ct_qi G tys A ((k_Desk_controlWord sx sc so shs sgs sy sr p1 p2).1) [(qx, .inr (5, f_Desk qc qo qr ((k_Desk_controlWord sx sc so shs sgs sy sr p1 p2).2.1))), (qc, .inr (1, f_Controls qo qhs qgs qy ((k_Desk_controlWord sx sc so shs sgs sy sr p1 p2).2.2.1))), (qo, .inr (3, f_Outside qa so)), (qhs, .inr (0, f_Bank ((k_Desk_controlWord sx sc so shs sgs sy sr p1 p2).2.2.2.1))), (qgs, .inr (0, f_Bank ((k_Desk_controlWord sx sc so shs sgs sy sr p1 p2).2.2.2.2.1))), (qy, .inr (2, f_Hyper ((k_Desk_controlWord sx sc so shs sgs sy sr p1 p2).2.2.2.2.2.1))), (qr, .inr (4, f_Registers ((k_Desk_controlWord sx sc so shs sgs sy sr p1 p2).2.2.2.2.2.2)))]) ([.ref qx, .int p1, .int p2] : List Value).toArray s 0 0 A) (F0 m 32 ls [.int (bI t0)]) := by
    intro v3 v4 v5 t0 H locs ls hj hP hD hS hl
    refine lv_istore (lv' := [(6, .int (bI t0)), (0, .ref qx), (1, .int p1), (2, .int p2), (3, .int v3), (4, .int v4), (5, .int v5)]) hx hb d_Desk_controlWord_32 hl (by decide) rfl (fun ls hl => ?_)
    refine lv_aload_n hx hb d_Desk_controlWord_34 rfl (lv_at hl 1 rfl) ?_
    refine lv_iload_n hx hb d_Desk_controlWord_35 rfl (lv_at hl 4 rfl) ?_
    refine lv_iload hx hb d_Desk_controlWord_36 (lv_at hl 0 rfl) ?_
    refine ct_cVi (wr := [(qo, .inr (3, f_Outside qa so)), (qhs, .inr (0, f_Bank shs)), (qgs, .inr (0, f_Bank sgs)), (qr, .inr (4, f_Registers sr))]) (w1 := [(qx, .inr (5, f_Desk qc qo qr sx)), (qc, .inr (1, f_Controls qo qhs qgs qy sc)), (qy, .inr (2, f_Hyper sy))]) (w2 := [(qx, .inr (5, f_Desk qc qo qr sx)), (qc, .inr (1, f_Controls qo qhs qgs qy sc)), (qo, .inr (3, f_Outside qa so)), (qhs, .inr (0, f_Bank shs)), (qgs, .inr (0, f_Bank sgs)), (qy, .inr (2, f_Hyper sy)), (qr, .inr (4, f_Registers sr))]) (r := (k_Desk_refusalOfAccess sx sc sy v3 t0)) (As := [.int v3, .int (bI t0)]) (rest := []) (ci := 5) (q0 := 0) ⟨hx, hb, hml, hown, hts⟩ (c_Desk_refusalOfAccess l G tys qx qc qy qo qr qhs qgs sx sc sy v3 t0) (cwV 2 hts (gdV gd_gd q_491 q_493 q_12 q_41 q_494) rfl rfl rfl (by decide +kernel) ⟨Nat.le_of_ble_eq_true rfl, Nat.le_of_ble_eq_true rfl⟩) hE hK hP hD hS hA [0, 1, 5] [2, 3, 4, 6] [4, 5, 0, 1, 2, 6, 3] rfl (by decide) rfl (by decide) (by decide) rfl (by decide) rfl rfl rfl hl.1 rfl (Nat.le_of_ble_eq_true rfl) d_Desk_controlWord_38 ⟨Nat.zero_le _, Nat.zero_le _⟩ (fun H locs hP hD hS => ?_)
    refine lv_istore (lv' := [(7, .int (k_Desk_refusalOfAccess sx sc sy v3 t0)), (6, .int (bI t0)), (0, .ref qx), (1, .int p1), (2, .int p2), (3, .int v3), (4, .int v4), (5, .int v5)]) hx hb d_Desk_controlWord_41 hl (by decide) rfl (fun ls hl => ?_)
    refine lv_iload hx hb d_Desk_controlWord_43 (lv_at hl 0 rfl) ?_
    refine lv_iconst (v := (-1)) hx hb d_Desk_controlWord_45 (by decide) ?_
    refine lv_icmp_eq (tgt := 52) hx hb d_Desk_controlWord_46 (by decide) (fun c_279 => ?_) (fun c_279 => ?_)
    · refine lv_aload_n hx hb d_Desk_controlWord_52 rfl (lv_at hl 2 rfl) ?_
      refine va_get (D := G.1) (ci := 5) (v := .int (sx.1 3)) (C := R_Desk) (T := T_Desk) (N := 8) hx hb hts (fun w h => gd_sub _ (iw_Desk w h)) hown hK hP 0 rfl rfl 3 (by decide) (hts _ (gd_sub _ q_208)) (fun _ h9 => h9) rfl d_Desk_controlWord_53 ?_
      refine lv_iconst (v := 3) hx hb d_Desk_controlWord_56 (by decide) ?_
      refine lv_icmp_ne (tgt := 67) hx hb d_Desk_controlWord_57 (by decide) (fun c_280 => ?_) (fun c_280 => ?_)
      · refine lv_iload_n hx hb d_Desk_controlWord_67 rfl (lv_at hl 5 rfl) ?_
        exact J68 v3 v4 v5 t0 (k_Desk_refusalOfAccess sx sc sy v3 t0) v3 H locs ls (hj.trans (by rw [k_Desk_controlWord_j32]; rw [if_pos c_279]; rw [if_neg c_280]; try rfl)) hP hD hS (lv_sub hl [2, 3, 4, 5, 6, 7, 1, 0] rfl)
      · refine lv_iload_n hx hb d_Desk_controlWord_60 rfl (lv_at hl 5 rfl) ?_
        refine ct_cSi (wr := [(qx, .inr (5, f_Desk qc qo qr sx)), (qc, .inr (1, f_Controls qo qhs qgs qy sc)), (qo, .inr (3, f_Outside qa so)), (qhs, .inr (0, f_Bank shs)), (qgs, .inr (0, f_Bank sgs)), (qy, .inr (2, f_Hyper sy)), (qr, .inr (4, f_Registers sr))]) (w1 := []) (w2 := [(qx, .inr (5, f_Desk qc qo qr sx)), (qc, .inr (1, f_Controls qo qhs qgs qy sc)), (qo, .inr (3, f_Outside qa so)), (qhs, .inr (0, f_Bank shs)), (qgs, .inr (0, f_Bank sgs)), (qy, .inr (2, f_Hyper sy)), (qr, .inr (4, f_Registers sr))]) (r := (k_Numbers_inVs v3)) (As := [.int v3]) (rest := []) ⟨hx, hb, hml, hown, hts⟩ (c_Numbers_inVs l G tys v3) (va_cwS 1 hts (gdS gd_gd q_500 q_501 q_48 q_502) rfl rfl rfl (by decide +kernel) ⟨Nat.le_of_ble_eq_true rfl, Nat.le_of_ble_eq_true rfl⟩) hE hK hP hD hS hA [] [0, 1, 2, 3, 4, 5, 6] [0, 1, 2, 3, 4, 5, 6] rfl (by decide) rfl (by decide) (by decide) rfl (by decide) rfl hl.1 rfl (Nat.le_of_ble_eq_true rfl) d_Desk_controlWord_61 ⟨Nat.zero_le _, Nat.zero_le _⟩ (fun H locs hP hD hS => ?_)
        refine lv_goto (tgt := 68) hx hb d_Desk_controlWord_64 (by decide) ?_
        exact J68 v3 v4 v5 t0 (k_Desk_refusalOfAccess sx sc sy v3 t0) (k_Numbers_inVs v3) H locs ls (hj.trans (by rw [k_Desk_controlWord_j32]; rw [if_pos c_279]; rw [if_pos c_280]; try rfl)) hP hD hS (lv_sub hl [2, 3, 4, 5, 6, 7, 1, 0] rfl)
    · refine lv_iload hx hb d_Desk_controlWord_49 (lv_at hl 0 rfl) ?_
      have hk : k_Desk_controlWord sx sc so shs sgs sy sr p1 p2 = ((k_Desk_refusalOfAccess sx sc sy v3 t0), sx, sc, shs, sgs, sy, sr) := (hj.trans (by rw [k_Desk_controlWord_j32]; rw [if_neg c_279]; try rfl))
      exact ct_ri hx hb hr hlocks hP hD hK hS d_Desk_controlWord_51 (by rw [hk]; first | done | rfl) (by rw [hk]; first | done | rfl)
  have J27 : ∀ (v3 : Int32) (v4 : Int32) (v5 : Int32) (H : Heap) (locs : List Loc) (ls : Array Slot), k_Desk_controlWord sx sc so shs sgs sy sr p1 p2 = k_Desk_controlWord_j27 sx sc so shs sgs sy sr p1 p2 v3 v4 v5 → va_P G.1 vwCl [(qx, .inr (5, f_Desk qc qo qr sx)), (qc, .inr (1, f_Controls qo qhs qgs qy sc)), (qo, .inr (3, f_Outside qa so)), (qhs, .inr (0, f_Bank shs)), (qgs, .inr (0, f_Bank sgs)), (qy, .inr (2, f_Hyper sy)), (qr, .inr (4, f_Registers sr))] H → va_D A [(qx, .inr (5, f_Desk qc qo qr sx)), (qc, .inr (1, f_Controls qo qhs qgs qy sc)), (qo, .inr (3, f_Outside qa so)), (qhs, .inr (0, f_Bank shs)), (qgs, .inr (0, f_Bank sgs)), (qy, .inr (2, f_Hyper sy)), (qr, .inr (4, f_Registers sr))] → va_S A s.heap H locs → lv_has ls 11 [(0, .ref qx), (1, .int p1), (2, .int p2), (3, .int v3), (4, .int v4), (5, .int v5)] → W p l e ({ frames := 5, cells := 0, slots := 0, locals := 104 }) s m ([.ref qx, .int p1, .int p2] : List Value).toArray below meth c H locs 0 0 (MQ below (ct_qi G tys A ((k_Desk_controlWord sx sc so shs sgs sy sr p1 p2).1) [(qx, .inr (5, f_Desk qc qo qr ((k_Desk_controlWord sx sc so shs sgs sy sr p1 p2).2.1))), (qc, .inr (1, f_Controls qo qhs qgs qy ((k_Desk_controlWord sx sc so shs sgs sy sr p1 p2).2.2.1))), (qo, .inr (3, f_Outside qa so)), (qhs, .inr (0, f_Bank ((k_Desk_controlWord sx sc so shs sgs sy sr p1 p2).2.2.2.1))), (qgs, .inr (0, f_Bank ((k_Desk_controlWord sx sc so shs sgs sy sr p1 p2).2.2.2.2.1))), (qy, .inr (2, f_Hyper ((k_Desk_controlWord sx sc so shs sgs sy sr p1 p2).2.2.2.2.2.1))), (qr, .inr (4, f_Registers ((k_Desk_controlWord sx sc so shs sgs sy sr p1 p2).2.2.2.2.2.2)))]) ([.ref qx, .int p1, .int p2] : List Value).toArray s 0 0 A) (F0 m 27 ls []) := by
    intro v3 v4 v5 H locs ls hj hP hD hS hl
    refine lv_iconst (v := 1) hx hb d_Desk_controlWord_27 (by decide) ?_
    refine lv_goto (tgt := 32) hx hb d_Desk_controlWord_28 (by decide) ?_
    exact J32 v3 v4 v5 true H locs ls (hj.trans (by rw [k_Desk_controlWord_j27]; try rfl)) hP hD hS (lv_sub hl [0, 1, 2, 3, 4, 5] rfl)
  obtain ⟨H, eH⟩ : ∃ z, z = s.heap := ⟨_, rfl⟩
  obtain ⟨locs, eL⟩ : ∃ z, z = ([] : List Loc) := ⟨_, rfl⟩
  have hP : va_P G.1 vwCl [(qx, .inr (5, f_Desk qc qo qr sx)), (qc, .inr (1, f_Controls qo qhs qgs qy sc)), (qo, .inr (3, f_Outside qa so)), (qhs, .inr (0, f_Bank shs)), (qgs, .inr (0, f_Bank sgs)), (qy, .inr (2, f_Hyper sy)), (qr, .inr (4, f_Registers sr))] H := by rw [eH]; exact hP
  have hS : va_S A s.heap H locs := by rw [eH, eL]; exact hS
  suffices hW : W p l e ({ frames := 5, cells := 0, slots := 0, locals := 104 }) s m ([.ref qx, .int p1, .int p2] : List Value).toArray below meth c H locs 0 0 (MQ below (ct_qi G tys A ((k_Desk_controlWord sx sc so shs sgs sy sr p1 p2).1) [(qx, .inr (5, f_Desk qc qo qr ((k_Desk_controlWord sx sc so shs sgs sy sr p1 p2).2.1))), (qc, .inr (1, f_Controls qo qhs qgs qy ((k_Desk_controlWord sx sc so shs sgs sy sr p1 p2).2.2.1))), (qo, .inr (3, f_Outside qa so)), (qhs, .inr (0, f_Bank ((k_Desk_controlWord sx sc so shs sgs sy sr p1 p2).2.2.2.1))), (qgs, .inr (0, f_Bank ((k_Desk_controlWord sx sc so shs sgs sy sr p1 p2).2.2.2.2.1))), (qy, .inr (2, f_Hyper ((k_Desk_controlWord sx sc so shs sgs sy sr p1 p2).2.2.2.2.2.1))), (qr, .inr (4, f_Registers ((k_Desk_controlWord sx sc so shs sgs sy sr p1 p2).2.2.2.2.2.2)))]) ([.ref qx, .int p1, .int p2] : List Value).toArray s 0 0 A) (F0 m 0 ls []) by rw [eH, eL] at hW; exact hW
  refine lv_iload_n hx hb d_Desk_controlWord_0 rfl (lv_at hl 1 rfl) ?_
  refine lv_bipush (v := 20) hx hb d_Desk_controlWord_1 (by decide) ?_
  refine lv_iushr (v := (ush p1 20)) hx hb d_Desk_controlWord_3 rfl ?_
  refine lv_istore_n (lv' := [(3, .int (ush p1 20)), (0, .ref qx), (1, .int p1), (2, .int p2)]) hx hb d_Desk_controlWord_4 rfl hl (by decide) rfl (fun ls hl => ?_)
  refine lv_iload_n hx hb d_Desk_controlWord_5 rfl (lv_at hl 2 rfl) ?_
  refine ct_cSi (wr := [(qx, .inr (5, f_Desk qc qo qr sx)), (qc, .inr (1, f_Controls qo qhs qgs qy sc)), (qo, .inr (3, f_Outside qa so)), (qhs, .inr (0, f_Bank shs)), (qgs, .inr (0, f_Bank sgs)), (qy, .inr (2, f_Hyper sy)), (qr, .inr (4, f_Registers sr))]) (w1 := []) (w2 := [(qx, .inr (5, f_Desk qc qo qr sx)), (qc, .inr (1, f_Controls qo qhs qgs qy sc)), (qo, .inr (3, f_Outside qa so)), (qhs, .inr (0, f_Bank shs)), (qgs, .inr (0, f_Bank sgs)), (qy, .inr (2, f_Hyper sy)), (qr, .inr (4, f_Registers sr))]) (r := (k_Desk_fieldA p1)) (As := [.int p1]) (rest := []) ⟨hx, hb, hml, hown, hts⟩ (c_Desk_fieldA l G tys p1) (va_cwS 1 hts (gdS gd_gd q_442 q_443 q_41 q_444) rfl rfl rfl (by decide +kernel) ⟨Nat.le_of_ble_eq_true rfl, Nat.le_of_ble_eq_true rfl⟩) hE hK hP hD hS hA [] [0, 1, 2, 3, 4, 5, 6] [0, 1, 2, 3, 4, 5, 6] rfl (by decide) rfl (by decide) (by decide) rfl (by decide) rfl hl.1 rfl (Nat.le_of_ble_eq_true rfl) d_Desk_controlWord_6 ⟨Nat.zero_le _, Nat.zero_le _⟩ (fun H locs hP hD hS => ?_)
  refine lv_istore (lv' := [(4, .int (k_Desk_fieldA p1)), (3, .int (ush p1 20)), (0, .ref qx), (1, .int p1), (2, .int p2)]) hx hb d_Desk_controlWord_9 hl (by decide) rfl (fun ls hl => ?_)
  refine lv_iload_n hx hb d_Desk_controlWord_11 rfl (lv_at hl 4 rfl) ?_
  refine lv_iconst (v := 3) hx hb d_Desk_controlWord_12 (by decide) ?_
  refine lv_iand hx hb d_Desk_controlWord_13 ?_
  refine lv_istore (lv' := [(5, .int (p2 &&& 3)), (4, .int (k_Desk_fieldA p1)), (3, .int (ush p1 20)), (0, .ref qx), (1, .int p1), (2, .int p2)]) hx hb d_Desk_controlWord_14 hl (by decide) rfl (fun ls hl => ?_)
  refine lv_iload hx hb d_Desk_controlWord_16 (lv_at hl 0 rfl) ?_
  refine lv_iconst (v := 1) hx hb d_Desk_controlWord_18 (by decide) ?_
  refine lv_icmp_eq (tgt := 27) hx hb d_Desk_controlWord_19 (by decide) (fun c_281 => ?_) (fun c_281 => ?_)
  · exact J27 (ush p1 20) (k_Desk_fieldA p1) (p2 &&& 3) H locs ls (by rw [k_Desk_controlWord]; rw [if_pos c_281]; try rfl) hP hD hS (lv_sub hl [3, 4, 5, 2, 1, 0] rfl)
  · refine lv_iload hx hb d_Desk_controlWord_22 (lv_at hl 1 rfl) ?_
    refine lv_if_eq (tgt := 31) hx hb d_Desk_controlWord_24 (by decide) (fun c_282 => ?_) (fun c_282 => ?_)
    · refine lv_iconst (v := 0) hx hb d_Desk_controlWord_31 (by decide) ?_
      exact J32 (ush p1 20) (k_Desk_fieldA p1) (p2 &&& 3) false H locs ls (by rw [k_Desk_controlWord]; rw [if_neg c_281]; rw [if_pos c_282]; try rfl) hP hD hS (lv_sub hl [3, 4, 5, 2, 1, 0] rfl)
    · exact J27 (ush p1 20) (k_Desk_fieldA p1) (p2 &&& 3) H locs ls (by rw [k_Desk_controlWord]; rw [if_neg c_281]; rw [if_neg c_282]; try rfl) hP hD hS (lv_sub hl [3, 4, 5, 2, 1, 0] rfl)
