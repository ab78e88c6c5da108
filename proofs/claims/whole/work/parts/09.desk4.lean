def k_Registers_read (sr : ob) (p1 : Int32) : Int32 :=
  if p1 = 10 then (sr.1 0) else if p1 = 11 then (sr.1 1) else if p1 = 17 then (sr.1 2) else 0
set_option maxHeartbeats 4000000 in
set_option maxRecDepth 100000 in
theorem c_Registers_read (l : Launch) (G : gx) (tys : List (ClassId × FieldType)) (qr : Nat) (sr : ob) (p1 : Int32) : ct_I l y_Registers_read ws_Registers_read ({ frames := 0, cells := 0, slots := 0, locals := 0 }) G tys [.ref qr, .int p1] [(qr, .inr (4, f_Registers sr))] (k_Registers_read sr p1) [(qr, .inr (4, f_Registers sr))] := by
  refine ct_hI (cc := cc_Registers_read) (maxL := 2) (ret := (some .int)) (by decide) rfl (Nat.le_of_ble_eq_true rfl) ?_
  intro p e s m below meth c A ls hx hb hr hml hts hown hlocks hP hK hD hA hE hS hl
  have hl : lv_has ls 2 [(0, .ref qr), (1, .int p1)] := hl
  have hown : s.vm.findClass R_Registers = some m.cls := hown
  refine lv_iload_n hx hb d_Registers_read_0 rfl (lv_at hl 1 rfl) ?_
  by_cases c_212 : p1 = 10
  · refine lv_lookup (off := 35) (tgt := 36) hx hb d_Registers_read_1 (by decide) (by rw [c_212]; decide) (by decide) ?_
    refine lv_aload_n hx hb d_Registers_read_36 rfl (lv_at hl 0 rfl) ?_
    refine va_get (D := G.1) (ci := 4) (v := .int (sr.1 0)) (C := R_Registers) (T := T_Registers) (N := 3) hx hb hts (fun w h => gd_sub _ (iw_Registers w h)) hown hK hP 0 rfl rfl 0 (by decide) (hts _ (gd_sub _ q_192)) (fun _ h9 => h9) rfl d_Registers_read_37 ?_
    have hk : k_Registers_read sr p1 = (sr.1 0) := (by rw [k_Registers_read]; rw [if_pos c_212]; try rfl)
    exact ct_ri hx hb hr hlocks hP hD hK hS d_Registers_read_40 (by rw [hk]; first | done | rfl) rfl
  · by_cases c_213 : p1 = 11
    · refine lv_lookup (off := 40) (tgt := 41) hx hb d_Registers_read_1 (by decide) (by rw [c_213]; decide) (by decide) ?_
      refine lv_aload_n hx hb d_Registers_read_41 rfl (lv_at hl 0 rfl) ?_
      refine va_get (D := G.1) (ci := 4) (v := .int (sr.1 1)) (C := R_Registers) (T := T_Registers) (N := 3) hx hb hts (fun w h => gd_sub _ (iw_Registers w h)) hown hK hP 0 rfl rfl 1 (by decide) (hts _ (gd_sub _ q_194)) (fun _ h9 => h9) rfl d_Registers_read_42 ?_
      have hk : k_Registers_read sr p1 = (sr.1 1) := (by rw [k_Registers_read]; rw [if_neg c_212]; rw [if_pos c_213]; try rfl)
      exact ct_ri hx hb hr hlocks hP hD hK hS d_Registers_read_45 (by rw [hk]; first | done | rfl) rfl
    · by_cases c_214 : p1 = 17
      · refine lv_lookup (off := 45) (tgt := 46) hx hb d_Registers_read_1 (by decide) (by rw [c_214]; decide) (by decide) ?_
        refine lv_aload_n hx hb d_Registers_read_46 rfl (lv_at hl 0 rfl) ?_
        refine va_get (D := G.1) (ci := 4) (v := .int (sr.1 2)) (C := R_Registers) (T := T_Registers) (N := 3) hx hb hts (fun w h => gd_sub _ (iw_Registers w h)) hown hK hP 0 rfl rfl 2 (by decide) (hts _ (gd_sub _ q_196)) (fun _ h9 => h9) rfl d_Registers_read_47 ?_
        have hk : k_Registers_read sr p1 = (sr.1 2) := (by rw [k_Registers_read]; rw [if_neg c_212]; rw [if_neg c_213]; rw [if_pos c_214]; try rfl)
        exact ct_ri hx hb hr hlocks hP hD hK hS d_Registers_read_50 (by rw [hk]; first | done | rfl) rfl
      · refine lv_lookup (off := 50) (tgt := 51) hx hb d_Registers_read_1 (by decide) ((lv_osw c_212 (by decide)).trans ((lv_osw c_213 (by decide)).trans ((lv_osw c_214 (by decide)).trans rfl))) (by decide) ?_
        refine lv_iconst (v := 0) hx hb d_Registers_read_51 (by decide) ?_
        have hk : k_Registers_read sr p1 = 0 := (by rw [k_Registers_read]; rw [if_neg c_212]; rw [if_neg c_213]; rw [if_neg c_214]; try rfl)
        exact ct_ri hx hb hr hlocks hP hD hK hS d_Registers_read_52 (by rw [hk]; first | done | rfl) rfl
def k_Registers_write (sr : ob) (p1 : Int32) (p2 : Int32) : ob :=
  if p1 = 10 then (oi sr 0 p2) else if p1 = 11 then (oi sr 1 p2) else if p1 = 17 then (oi sr 2 p2) else sr
set_option maxHeartbeats 4000000 in
set_option maxRecDepth 100000 in
theorem c_Registers_write (l : Launch) (G : gx) (tys : List (ClassId × FieldType)) (qr : Nat) (sr : ob) (p1 : Int32) (p2 : Int32) : ct_V l y_Registers_write ws_Registers_write ({ frames := 0, cells := 0, slots := 0, locals := 0 }) G tys [.ref qr, .int p1, .int p2] [(qr, .inr (4, f_Registers sr))] [(qr, .inr (4, f_Registers (k_Registers_write sr p1 p2)))] := by
  refine ct_hV (cc := cc_Registers_write) (maxL := 3) (ret := none) (by decide) rfl (Nat.le_of_ble_eq_true rfl) ?_
  intro p e s m below meth c A ls hx hb hr hml hts hown hlocks hP hK hD hA hE hS hl
  have hl : lv_has ls 3 [(0, .ref qr), (1, .int p1), (2, .int p2)] := hl
  have hown : s.vm.findClass R_Registers = some m.cls := hown
  refine lv_iload_n hx hb d_Registers_write_0 rfl (lv_at hl 1 rfl) ?_
  by_cases c_218 : p1 = 10
  · refine lv_lookup (off := 35) (tgt := 36) hx hb d_Registers_write_1 (by decide) (by rw [c_218]; decide) (by decide) ?_
    refine lv_aload_n hx hb d_Registers_write_36 rfl (lv_at hl 0 rfl) ?_
    refine lv_iload_n hx hb d_Registers_write_37 rfl (lv_at hl 2 rfl) ?_
    refine va_put (D := G.1) (ci := 4) (v := .int p2) (ty := .int) (C := R_Registers) (T := T_Registers) (N := 3) hx hb hts (fun w h => gd_sub _ (iw_Registers w h)) ty_Registers tyok_Registers nm_Registers hown hK hP hD hS 0 rfl rfl 0 (by decide) (hts _ (gd_sub _ q_192)) (fun _ h9 => h9) rfl (by decide +kernel) rfl rfl (Nat.le_of_ble_eq_true rfl) d_Registers_write_38 (fun H locs hP hD hS => ?_)
    have hP : va_P G.1 vwCl [(qr, .inr (4, f_Registers (oi sr 0 p2)))] H := hP
    have hD : va_D A [(qr, .inr (4, f_Registers (oi sr 0 p2)))] := hD
    refine lv_goto (tgt := 60) hx hb d_Registers_write_41 (by decide) ?_
    have hk : k_Registers_write sr p1 p2 = (oi sr 0 p2) := (by rw [k_Registers_write]; rw [if_pos c_218]; try rfl)
    exact ct_rv hx hb hr hlocks hP hD hK hS d_Registers_write_60 (by rw [hk]; first | done | rfl)
  · by_cases c_219 : p1 = 11
    · refine lv_lookup (off := 43) (tgt := 44) hx hb d_Registers_write_1 (by decide) (by rw [c_219]; decide) (by decide) ?_
      refine lv_aload_n hx hb d_Registers_write_44 rfl (lv_at hl 0 rfl) ?_
      refine lv_iload_n hx hb d_Registers_write_45 rfl (lv_at hl 2 rfl) ?_
      refine va_put (D := G.1) (ci := 4) (v := .int p2) (ty := .int) (C := R_Registers) (T := T_Registers) (N := 3) hx hb hts (fun w h => gd_sub _ (iw_Registers w h)) ty_Registers tyok_Registers nm_Registers hown hK hP hD hS 0 rfl rfl 1 (by decide) (hts _ (gd_sub _ q_194)) (fun _ h9 => h9) rfl (by decide +kernel) rfl rfl (Nat.le_of_ble_eq_true rfl) d_Registers_write_46 (fun H locs hP hD hS => ?_)
      have hP : va_P G.1 vwCl [(qr, .inr (4, f_Registers (oi sr 1 p2)))] H := hP
      have hD : va_D A [(qr, .inr (4, f_Registers (oi sr 1 p2)))] := hD
      refine lv_goto (tgt := 60) hx hb d_Registers_write_49 (by decide) ?_
      have hk : k_Registers_write sr p1 p2 = (oi sr 1 p2) := (by rw [k_Registers_write]; rw [if_neg c_218]; rw [if_pos c_219]; try rfl)
      exact ct_rv hx hb hr hlocks hP hD hK hS d_Registers_write_60 (by rw [hk]; first | done | rfl)
    · by_cases c_220 : p1 = 17
      · refine lv_lookup (off := 51) (tgt := 52) hx hb d_Registers_write_1 (by decide) (by rw [c_220]; decide) (by decide) ?_
        refine lv_aload_n hx hb d_Registers_write_52 rfl (lv_at hl 0 rfl) ?_
        refine lv_iload_n hx hb d_Registers_write_53 rfl (lv_at hl 2 rfl) ?_
        refine va_put (D := G.1) (ci := 4) (v := .int p2) (ty := .int) (C := R_Registers) (T := T_Registers) (N := 3) hx hb hts (fun w h => gd_sub _ (iw_Registers w h)) ty_Registers tyok_Registers nm_Registers hown hK hP hD hS 0 rfl rfl 2 (by decide) (hts _ (gd_sub _ q_196)) (fun _ h9 => h9) rfl (by decide +kernel) rfl rfl (Nat.le_of_ble_eq_true rfl) d_Registers_write_54 (fun H locs hP hD hS => ?_)
        have hP : va_P G.1 vwCl [(qr, .inr (4, f_Registers (oi sr 2 p2)))] H := hP
        have hD : va_D A [(qr, .inr (4, f_Registers (oi sr 2 p2)))] := hD
        refine lv_goto (tgt := 60) hx hb d_Registers_write_57 (by decide) ?_
        have hk : k_Registers_write sr p1 p2 = (oi sr 2 p2) := (by rw [k_Registers_write]; rw [if_neg c_218]; rw [if_neg c_219]; rw [if_pos c_220]; try rfl)
        exact ct_rv hx hb hr hlocks hP hD hK hS d_Registers_write_60 (by rw [hk]; first | done | rfl)
      · refine lv_lookup (off := 59) (tgt := 60) hx hb d_Registers_write_1 (by decide) ((lv_osw c_218 (by decide)).trans ((lv_osw c_219 (by decide)).trans ((lv_osw c_220 (by decide)).trans rfl))) (by decide) ?_
        have hk : k_Registers_write sr p1 p2 = sr := (by rw [k_Registers_write]; rw [if_neg c_218]; rw [if_neg c_219]; rw [if_neg c_220]; try rfl)
        exact ct_rv hx hb hr hlocks hP hD hK hS d_Registers_write_60 (by rw [hk]; first | done | rfl)
def k_Desk_set (sx : ob) (sr : ob) (p1 : Int32) (p2 : Int32) : Int32 × ob :=
  ((k_Registers_read sr p1), ((k_Registers_write sr p1 p2)))
set_option maxHeartbeats 4000000 in
set_option maxRecDepth 100000 in
theorem c_Desk_set (l : Launch) (G : gx) (tys : List (ClassId × FieldType)) (qx qr qc qo : Nat) (sx : ob) (sr : ob) (p1 : Int32) (p2 : Int32) : ct_I l y_Desk_set ws_Desk_set ({ frames := 1, cells := 0, slots := 0, locals := 22 }) G tys [.ref qx, .int p1, .int p2] [(qx, .inr (5, f_Desk qc qo qr sx)), (qr, .inr (4, f_Registers sr))] ((k_Desk_set sx sr p1 p2).1) [(qx, .inr (5, f_Desk qc qo qr sx)), (qr, .inr (4, f_Registers ((k_Desk_set sx sr p1 p2).2)))] := by
  refine ct_hI (cc := cc_Desk_set) (maxL := 4) (ret := (some .int)) (by decide) rfl (Nat.le_of_ble_eq_true rfl) ?_
  intro p e s m below meth c A ls hx hb hr hml hts hown hlocks hP hK hD hA hE hS hl
  have hl : lv_has ls 4 [(0, .ref qx), (1, .int p1), (2, .int p2)] := hl
  have hown : s.vm.findClass R_Desk = some m.cls := hown
  refine lv_aload_n hx hb d_Desk_set_0 rfl (lv_at hl 0 rfl) ?_
  refine va_get (D := G.1) (ci := 5) (v := .ref qr) (C := R_Desk) (T := T_Desk) (N := 8) hx hb hts (fun w h => gd_sub _ (iw_Desk w h)) hown hK hP 0 rfl rfl 2 (by decide) (hts _ (gd_sub _ q_207)) (fun _ h9 => h9) rfl d_Desk_set_1 ?_
  refine lv_iload_n hx hb d_Desk_set_4 rfl (lv_at hl 1 rfl) ?_
  refine ct_cVi (wr := [(qx, .inr (5, f_Desk qc qo qr sx))]) (w1 := [(qr, .inr (4, f_Registers sr))]) (w2 := [(qx, .inr (5, f_Desk qc qo qr sx)), (qr, .inr (4, f_Registers sr))]) (r := (k_Registers_read sr p1)) (As := [.int p1]) (rest := []) (ci := 4) (q0 := 0) ⟨hx, hb, hml, hown, hts⟩ (c_Registers_read l G tys qr sr p1) (cwV 1 hts (gdV gd_gd q_383 q_384 q_385 q_46 q_386) rfl rfl rfl (by decide +kernel) ⟨Nat.le_of_ble_eq_true rfl, Nat.le_of_ble_eq_true rfl⟩) hE hK hP hD hS hA [1] [0] [0, 1] rfl (by decide) rfl (by decide) (by decide) rfl (by decide) rfl rfl rfl hl.1 rfl (Nat.le_of_ble_eq_true rfl) d_Desk_set_5 ⟨Nat.zero_le _, Nat.zero_le _⟩ (fun H locs hP hD hS => ?_)
  refine lv_istore_n (lv' := [(3, .int (k_Registers_read sr p1)), (0, .ref qx), (1, .int p1), (2, .int p2)]) hx hb d_Desk_set_8 rfl hl (by decide) rfl (fun ls hl => ?_)
  refine lv_aload_n hx hb d_Desk_set_9 rfl (lv_at hl 1 rfl) ?_
  refine va_get (D := G.1) (ci := 5) (v := .ref qr) (C := R_Desk) (T := T_Desk) (N := 8) hx hb hts (fun w h => gd_sub _ (iw_Desk w h)) hown hK hP 0 rfl rfl 2 (by decide) (hts _ (gd_sub _ q_207)) (fun _ h9 => h9) rfl d_Desk_set_10 ?_
  refine lv_iload_n hx hb d_Desk_set_13 rfl (lv_at hl 2 rfl) ?_
  refine lv_iload_n hx hb d_Desk_set_14 rfl (lv_at hl 3 rfl) ?_
  obtain ⟨sr_222, esr_222⟩ : ∃ z, z = (k_Registers_write sr p1 p2) := ⟨_, rfl⟩
  have hM := c_Registers_write l G tys qr sr p1 p2
  rw [← esr_222] at hM
  refine ct_cVv (wr := [(qx, .inr (5, f_Desk qc qo qr sx))]) (w1 := [(qr, .inr (4, f_Registers sr_222))]) (w2 := [(qx, .inr (5, f_Desk qc qo qr sx)), (qr, .inr (4, f_Registers sr_222))]) (As := [.int p1, .int p2]) (rest := []) (ci := 4) (q0 := 0) ⟨hx, hb, hml, hown, hts⟩ hM (cwV 2 hts (gdV gd_gd q_387 q_388 q_389 q_46 q_390) rfl rfl rfl (by decide +kernel) ⟨Nat.le_of_ble_eq_true rfl, Nat.le_of_ble_eq_true rfl⟩) hE hK hP hD hS hA [1] [0] [0, 1] rfl (by decide) rfl (by decide) (by decide) rfl (by decide) rfl rfl rfl hl.1 rfl (Nat.le_of_ble_eq_true rfl) d_Desk_set_15 ⟨Nat.zero_le _, Nat.zero_le _⟩ (fun H locs hP hD hS => ?_)
  refine lv_iload_n hx hb d_Desk_set_18 rfl (lv_at hl 0 rfl) ?_
  have hk : k_Desk_set sx sr p1 p2 = ((k_Registers_read sr p1), sr_222) := (by rw [k_Desk_set]; try rw [← esr_222]; try rfl)
  exact ct_ri hx hb hr hlocks hP hD hK hS d_Desk_set_19 (by rw [hk]; first | done | rfl) (by rw [hk]; first | done | rfl)
def k_Desk_register (sx : ob) (sr : ob) (p1 : Int32) : Int32 :=
  (k_Registers_read sr p1)
set_option maxHeartbeats 4000000 in
set_option maxRecDepth 100000 in
theorem c_Desk_register (l : Launch) (G : gx) (tys : List (ClassId × FieldType)) (qx qr qc qo : Nat) (sx : ob) (sr : ob) (p1 : Int32) : ct_I l y_Desk_register ws_Desk_register ({ frames := 1, cells := 0, slots := 0, locals := 21 }) G tys [.ref qx, .int p1] [(qx, .inr (5, f_Desk qc qo qr sx)), (qr, .inr (4, f_Registers sr))] (k_Desk_register sx sr p1) [(qx, .inr (5, f_Desk qc qo qr sx)), (qr, .inr (4, f_Registers sr))] := by
  refine ct_hI (cc := cc_Desk_register) (maxL := 2) (ret := (some .int)) (by decide) rfl (Nat.le_of_ble_eq_true rfl) ?_
  intro p e s m below meth c A ls hx hb hr hml hts hown hlocks hP hK hD hA hE hS hl
  have hl : lv_has ls 2 [(0, .ref qx), (1, .int p1)] := hl
  have hown : s.vm.findClass R_Desk = some m.cls := hown
  refine lv_aload_n hx hb d_Desk_register_0 rfl (lv_at hl 0 rfl) ?_
  refine va_get (D := G.1) (ci := 5) (v := .ref qr) (C := R_Desk) (T := T_Desk) (N := 8) hx hb hts (fun w h => gd_sub _ (iw_Desk w h)) hown hK hP 0 rfl rfl 2 (by decide) (hts _ (gd_sub _ q_207)) (fun _ h9 => h9) rfl d_Desk_register_1 ?_
  refine lv_iload_n hx hb d_Desk_register_4 rfl (lv_at hl 1 rfl) ?_
  refine ct_cVi (wr := [(qx, .inr (5, f_Desk qc qo qr sx))]) (w1 := [(qr, .inr (4, f_Registers sr))]) (w2 := [(qx, .inr (5, f_Desk qc qo qr sx)), (qr, .inr (4, f_Registers sr))]) (r := (k_Registers_read sr p1)) (As := [.int p1]) (rest := []) (ci := 4) (q0 := 0) ⟨hx, hb, hml, hown, hts⟩ (c_Registers_read l G tys qr sr p1) (cwV 1 hts (gdV gd_gd q_383 q_384 q_385 q_46 q_386) rfl rfl rfl (by decide +kernel) ⟨Nat.le_of_ble_eq_true rfl, Nat.le_of_ble_eq_true rfl⟩) hE hK hP hD hS hA [1] [0] [0, 1] rfl (by decide) rfl (by decide) (by decide) rfl (by decide) rfl rfl rfl hl.1 rfl (Nat.le_of_ble_eq_true rfl) d_Desk_register_5 ⟨Nat.zero_le _, Nat.zero_le _⟩ (fun H locs hP hD hS => ?_)
  have hk : k_Desk_register sx sr p1 = (k_Registers_read sr p1) := (by rw [k_Desk_register]; try rfl)
  exact ct_ri hx hb hr hlocks hP hD hK hS d_Desk_register_8 (by rw [hk]; first | done | rfl) rfl
def k_Desk_fieldA (p1 : Int32) : Int32 :=
  ((ush p1 15) &&& 31)
set_option maxHeartbeats 4000000 in
set_option maxRecDepth 100000 in
theorem c_Desk_fieldA (l : Launch) (G : gx) (tys : List (ClassId × FieldType)) (p1 : Int32) : ct_I l y_Desk_fieldA ws_Desk_fieldA ({ frames := 0, cells := 0, slots := 0, locals := 0 }) G tys [.int p1] [] (k_Desk_fieldA p1) [] := by
  refine ct_hI (cc := cc_Desk_fieldA) (maxL := 1) (ret := (some .int)) (by decide) rfl (Nat.le_of_ble_eq_true rfl) ?_
  intro p e s m below meth c A ls hx hb hr hml hts hown hlocks hP hK hD hA hE hS hl
  have hl : lv_has ls 1 [(0, .int p1)] := hl
  have hown : s.vm.findClass R_Desk = some m.cls := hown
  refine lv_iload_n hx hb d_Desk_fieldA_0 rfl (lv_at hl 0 rfl) ?_
  refine lv_bipush (v := 15) hx hb d_Desk_fieldA_1 (by decide) ?_
  refine lv_iushr (v := (ush p1 15)) hx hb d_Desk_fieldA_3 rfl ?_
  refine lv_bipush (v := 31) hx hb d_Desk_fieldA_4 (by decide) ?_
  refine lv_iand hx hb d_Desk_fieldA_6 ?_
  have hk : k_Desk_fieldA p1 = ((ush p1 15) &&& 31) := (by rw [k_Desk_fieldA]; try rfl)
  exact ct_ri hx hb hr hlocks hP hD hK hS d_Desk_fieldA_7 (by rw [hk]; first | done | rfl) rfl
def k_Hyper_hasStatus (sy : ob) (p1 : Int32) : Bool :=
  if ((sy.1 0) &&& p1) = 0 then false else true
set_option maxHeartbeats 4000000 in
set_option maxRecDepth 100000 in
theorem c_Hyper_hasStatus (l : Launch) (G : gx) (tys : List (ClassId × FieldType)) (qy : Nat) (sy : ob) (p1 : Int32) : ct_I l y_Hyper_hasStatus ws_Hyper_hasStatus ({ frames := 0, cells := 0, slots := 0, locals := 0 }) G tys [.ref qy, .int p1] [(qy, .inr (2, f_Hyper sy))] (bI (k_Hyper_hasStatus sy p1)) [(qy, .inr (2, f_Hyper sy))] := by
  refine ct_hI (cc := cc_Hyper_hasStatus) (maxL := 2) (ret := (some .boolean)) (by decide) rfl (Nat.le_of_ble_eq_true rfl) ?_
  intro p e s m below meth c A ls hx hb hr hml hts hown hlocks hP hK hD hA hE hS hl
  have hl : lv_has ls 2 [(0, .ref qy), (1, .int p1)] := hl
  have hown : s.vm.findClass R_Hyper = some m.cls := hown
  refine lv_aload_n hx hb d_Hyper_hasStatus_0 rfl (lv_at hl 0 rfl) ?_
  refine va_get (D := G.1) (ci := 2) (v := .int (sy.1 0)) (C := R_Hyper) (T := T_Hyper) (N := 8) hx hb hts (fun w h => gd_sub _ (iw_Hyper w h)) hown hK hP 0 rfl rfl 0 (by decide) (hts _ (gd_sub _ q_132)) (fun _ h9 => h9) rfl d_Hyper_hasStatus_1 ?_
  refine lv_iload_n hx hb d_Hyper_hasStatus_4 rfl (lv_at hl 1 rfl) ?_
  refine lv_iand hx hb d_Hyper_hasStatus_5 ?_
  refine lv_if_eq (tgt := 13) hx hb d_Hyper_hasStatus_6 (by decide) (fun c_238 => ?_) (fun c_238 => ?_)
  · refine lv_iconst (v := 0) hx hb d_Hyper_hasStatus_13 (by decide) ?_
    have hk : k_Hyper_hasStatus sy p1 = false := (by rw [k_Hyper_hasStatus]; rw [if_pos c_238]; try rfl)
    exact ct_rz hx hb hr hlocks hP hD hK hS d_Hyper_hasStatus_14 rfl (by rw [hk]; first | done | rfl) rfl
  · refine lv_iconst (v := 1) hx hb d_Hyper_hasStatus_9 (by decide) ?_
    refine lv_goto (tgt := 14) hx hb d_Hyper_hasStatus_10 (by decide) ?_
    have hk : k_Hyper_hasStatus sy p1 = true := (by rw [k_Hyper_hasStatus]; rw [if_neg c_238]; try rfl)
    exact ct_rz hx hb hr hlocks hP hD hK hS d_Hyper_hasStatus_14 rfl (by rw [hk]; first | done | rfl) rfl
def k_Desk_isOpenToVs (sx : ob) (sc : ob) (sy : ob) (p1 : Int32) : Bool :=
  if (bI (k_Numbers_isOfS p1)) = 0 then false else (if p1 = 384 then (if (bI (k_Hyper_hasStatus sy 1048576)) = 0 then true else false) else true)
set_option maxHeartbeats 4000000 in
set_option maxRecDepth 100000 in
theorem c_Desk_isOpenToVs (l : Launch) (G : gx) (tys : List (ClassId × FieldType)) (qx qc qy qo qr qhs qgs : Nat) (sx : ob) (sc : ob) (sy : ob) (p1 : Int32) : ct_I l y_Desk_isOpenToVs ws_Desk_isOpenToVs ({ frames := 3, cells := 0, slots := 0, locals := 61 }) G tys [.ref qx, .int p1] [(qx, .inr (5, f_Desk qc qo qr sx)), (qc, .inr (1, f_Controls qo qhs qgs qy sc)), (qy, .inr (2, f_Hyper sy))] (bI (k_Desk_isOpenToVs sx sc sy p1)) [(qx, .inr (5, f_Desk qc qo qr sx)), (qc, .inr (1, f_Controls qo qhs qgs qy sc)), (qy, .inr (2, f_Hyper sy))] := by
  refine ct_hI (cc := cc_Desk_isOpenToVs) (maxL := 2) (ret := (some .boolean)) (by decide) rfl (Nat.le_of_ble_eq_true rfl) ?_
  intro p e s m below meth c A ls hx hb hr hml hts hown hlocks hP hK hD hA hE hS hl
  have hl : lv_has ls 2 [(0, .ref qx), (1, .int p1)] := hl
  have hown : s.vm.findClass R_Desk = some m.cls := hown
  refine lv_iload_n hx hb d_Desk_isOpenToVs_0 rfl (lv_at hl 1 rfl) ?_
  refine ct_cSi (wr := [(qx, .inr (5, f_Desk qc qo qr sx)), (qc, .inr (1, f_Controls qo qhs qgs qy sc)), (qy, .inr (2, f_Hyper sy))]) (w1 := []) (w2 := [(qx, .inr (5, f_Desk qc qo qr sx)), (qc, .inr (1, f_Controls qo qhs qgs qy sc)), (qy, .inr (2, f_Hyper sy))]) (r := (bI (k_Numbers_isOfS p1))) (As := [.int p1]) (rest := []) ⟨hx, hb, hml, hown, hts⟩ (c_Numbers_isOfS l G tys p1) (va_cwS 1 hts (gdS gd_gd q_499 q_270 q_48 q_271) rfl rfl rfl (by decide +kernel) ⟨Nat.le_of_ble_eq_true rfl, Nat.le_of_ble_eq_true rfl⟩) hE hK hP hD hS hA [] [0, 1, 2] [0, 1, 2] rfl (by decide) rfl (by decide) (by decide) rfl (by decide) rfl hl.1 rfl (Nat.le_of_ble_eq_true rfl) d_Desk_isOpenToVs_1 ⟨Nat.zero_le _, Nat.zero_le _⟩ (fun H locs hP hD hS => ?_)
  refine lv_if_ne (tgt := 9) hx hb d_Desk_isOpenToVs_4 (by decide) (fun c_240 => ?_) (fun c_240 => ?_)
  · refine lv_iload_n hx hb d_Desk_isOpenToVs_9 rfl (lv_at hl 1 rfl) ?_
    refine lv_sipush (v := 384) hx hb d_Desk_isOpenToVs_10 (by decide) ?_
    refine lv_icmp_ne (tgt := 31) hx hb d_Desk_isOpenToVs_13 (by decide) (fun c_241 => ?_) (fun c_241 => ?_)
    · refine lv_iconst (v := 1) hx hb d_Desk_isOpenToVs_31 (by decide) ?_
      refine lv_goto (tgt := 36) hx hb d_Desk_isOpenToVs_32 (by decide) ?_
      have hk : k_Desk_isOpenToVs sx sc sy p1 = true := (by rw [k_Desk_isOpenToVs]; rw [if_neg c_240]; rw [if_neg c_241]; try rfl)
      exact ct_rz hx hb hr hlocks hP hD hK hS d_Desk_isOpenToVs_36 rfl (by rw [hk]; first | done | rfl) rfl
    · refine lv_aload_n hx hb d_Desk_isOpenToVs_16 rfl (lv_at hl 0 rfl) ?_
      refine va_get (D := G.1) (ci := 5) (v := .ref qc) (C := R_Desk) (T := T_Desk) (N := 8) hx hb hts (fun w h => gd_sub _ (iw_Desk w h)) hown hK hP 0 rfl rfl 0 (by decide) (hts _ (gd_sub _ q_205)) (fun _ h9 => h9) rfl d_Desk_isOpenToVs_17 ?_
      refine va_get (D := G.1) (ci := 1) (v := .ref qy) (C := R_Controls) (T := T_Controls) (N := 6) hx hb hts (fun w h => gd_sub _ (iw_Controls w h)) hown hK hP 1 rfl rfl 3 (by decide) (hts _ (gd_sub _ q_170)) (fun _ h9 => h9) rfl d_Desk_isOpenToVs_20 ?_
      refine lv_ldc (v := 1048576) hx hb hown (hts _ (gd_sub _ q_413)) d_Desk_isOpenToVs_23 ?_
      refine ct_cVi (wr := [(qx, .inr (5, f_Desk qc qo qr sx)), (qc, .inr (1, f_Controls qo qhs qgs qy sc))]) (w1 := [(qy, .inr (2, f_Hyper sy))]) (w2 := [(qx, .inr (5, f_Desk qc qo qr sx)), (qc, .inr (1, f_Controls qo qhs qgs qy sc)), (qy, .inr (2, f_Hyper sy))]) (r := (bI (k_Hyper_hasStatus sy 1048576))) (As := [.int 1048576]) (rest := []) (ci := 2) (q0 := 0) ⟨hx, hb, hml, hown, hts⟩ (c_Hyper_hasStatus l G tys qy sy 1048576) (cwV 1 hts (gdV gd_gd q_422 q_423 q_424 q_45 q_425) rfl rfl rfl (by decide +kernel) ⟨Nat.le_of_ble_eq_true rfl, Nat.le_of_ble_eq_true rfl⟩) hE hK hP hD hS hA [2] [0, 1] [0, 1, 2] rfl (by decide) rfl (by decide) (by decide) rfl (by decide) rfl rfl rfl hl.1 rfl (Nat.le_of_ble_eq_true rfl) d_Desk_isOpenToVs_25 ⟨Nat.zero_le _, Nat.zero_le _⟩ (fun H locs hP hD hS => ?_)
      refine lv_if_ne (tgt := 35) hx hb d_Desk_isOpenToVs_28 (by decide) (fun c_242 => ?_) (fun c_242 => ?_)
      · refine lv_iconst (v := 0) hx hb d_Desk_isOpenToVs_35 (by decide) ?_
        have hk : k_Desk_isOpenToVs sx sc sy p1 = false := (by rw [k_Desk_isOpenToVs]; rw [if_neg c_240]; rw [if_pos c_241]; rw [if_neg c_242]; try rfl)
        exact ct_rz hx hb hr hlocks hP hD hK hS d_Desk_isOpenToVs_36 rfl (by rw [hk]; first | done | rfl) rfl
      · refine lv_iconst (v := 1) hx hb d_Desk_isOpenToVs_31 (by decide) ?_
        refine lv_goto (tgt := 36) hx hb d_Desk_isOpenToVs_32 (by decide) ?_
        have hk : k_Desk_isOpenToVs sx sc sy p1 = true := (by rw [k_Desk_isOpenToVs]; rw [if_neg c_240]; rw [if_pos c_241]; rw [if_pos c_242]; try rfl)
        exact ct_rz hx hb hr hlocks hP hD hK hS d_Desk_isOpenToVs_36 rfl (by rw [hk]; first | done | rfl) rfl
  · refine lv_iconst (v := 0) hx hb d_Desk_isOpenToVs_7 (by decide) ?_
    have hk : k_Desk_isOpenToVs sx sc sy p1 = false := (by rw [k_Desk_isOpenToVs]; rw [if_pos c_240]; try rfl)
    exact ct_rz hx hb hr hlocks hP hD hK hS d_Desk_isOpenToVs_8 rfl (by rw [hk]; first | done | rfl) rfl
def k_Desk_refusalOfAccess (sx : ob) (sc : ob) (sy : ob) (p1 : Int32) (p2 : Bool) : Int32 :=
  if (bI (k_Numbers_isKnown p1)) = 0 then 2 else (if (bI (k_Numbers_isTime p1)) = 0 then (if (sx.1 3) = 0 then 2 else if (sx.1 3) = 1 then (-1) else if (sx.1 3) = 2 then 22 else if (sx.1 3) = 3 then (if (bI (k_Desk_isOpenToVs sx sc sy p1)) = 0 then 22 else (-1)) else 22) else (if (bI p2) = 0 then (-1) else 2))
set_option maxHeartbeats 4000000 in
set_option maxRecDepth 100000 in
theorem c_Desk_refusalOfAccess (l : Launch) (G : gx) (tys : List (ClassId × FieldType)) (qx qc qy qo qr qhs qgs : Nat) (sx : ob) (sc : ob) (sy : ob) (p1 : Int32) (p2 : Bool) : ct_I l y_Desk_refusalOfAccess ws_Desk_refusalOfAccess ({ frames := 4, cells := 0, slots := 0, locals := 82 }) G tys [.ref qx, .int p1, .int (bI p2)] [(qx, .inr (5, f_Desk qc qo qr sx)), (qc, .inr (1, f_Controls qo qhs qgs qy sc)), (qy, .inr (2, f_Hyper sy))] (k_Desk_refusalOfAccess sx sc sy p1 p2) [(qx, .inr (5, f_Desk qc qo qr sx)), (qc, .inr (1, f_Controls qo qhs qgs qy sc)), (qy, .inr (2, f_Hyper sy))] := by
  refine ct_hI (cc := cc_Desk_refusalOfAccess) (maxL := 3) (ret := (some .int)) (by decide) rfl (Nat.le_of_ble_eq_true rfl) ?_
  intro p e s m below meth c A ls hx hb hr hml hts hown hlocks hP hK hD hA hE hS hl
  have hl : lv_has ls 3 [(0, .ref qx), (1, .int p1), (2, .int (bI p2))] := hl
  have hown : s.vm.findClass R_Desk = some m.cls := hown
  refine lv_iload_n hx hb d_Desk_refusalOfAccess_0 rfl (lv_at hl 1 rfl) ?_
  refine ct_cSi (wr := [(qx, .inr (5, f_Desk qc qo qr sx)), (qc, .inr (1, f_Controls qo qhs qgs qy sc)), (qy, .inr (2, f_Hyper sy))]) (w1 := []) (w2 := [(qx, .inr (5, f_Desk qc qo qr sx)), (qc, .inr (1, f_Controls qo qhs qgs qy sc)), (qy, .inr (2, f_Hyper sy))]) (r := (bI (k_Numbers_isKnown p1))) (As := [.int p1]) (rest := []) ⟨hx, hb, hml, hown, hts⟩ (c_Numbers_isKnown l G tys p1) (va_cwS 1 hts (gdS gd_gd q_266 q_267 q_48 q_268) rfl rfl rfl (by decide +kernel) ⟨Nat.le_of_ble_eq_true rfl, Nat.le_of_ble_eq_true rfl⟩) hE hK hP hD hS hA [] [0, 1, 2] [0, 1, 2] rfl (by decide) rfl (by decide) (by decide) rfl (by decide) rfl hl.1 rfl (Nat.le_of_ble_eq_true rfl) d_Desk_refusalOfAccess_1 ⟨Nat.zero_le _, Nat.zero_le _⟩ (fun H locs hP hD hS => ?_)
  refine lv_if_ne (tgt := 9) hx hb d_Desk_refusalOfAccess_4 (by decide) (fun c_245 => ?_) (fun c_245 => ?_)
  · refine lv_iload_n hx hb d_Desk_refusalOfAccess_9 rfl (lv_at hl 1 rfl) ?_
    refine ct_cSi (wr := [(qx, .inr (5, f_Desk qc qo qr sx)), (qc, .inr (1, f_Controls qo qhs qgs qy sc)), (qy, .inr (2, f_Hyper sy))]) (w1 := []) (w2 := [(qx, .inr (5, f_Desk qc qo qr sx)), (qc, .inr (1, f_Controls qo qhs qgs qy sc)), (qy, .inr (2, f_Hyper sy))]) (r := (bI (k_Numbers_isTime p1))) (As := [.int p1]) (rest := []) ⟨hx, hb, hml, hown, hts⟩ (c_Numbers_isTime l G tys p1) (va_cwS 1 hts (gdS gd_gd q_290 q_288 q_48 q_289) rfl rfl rfl (by decide +kernel) ⟨Nat.le_of_ble_eq_true rfl, Nat.le_of_ble_eq_true rfl⟩) hE hK hP hD hS hA [] [0, 1, 2] [0, 1, 2] rfl (by decide) rfl (by decide) (by decide) rfl (by decide) rfl hl.1 rfl (Nat.le_of_ble_eq_true rfl) d_Desk_refusalOfAccess_10 ⟨Nat.zero_le _, Nat.zero_le _⟩ (fun H locs hP hD hS => ?_)
    refine lv_if_eq (tgt := 26) hx hb d_Desk_refusalOfAccess_13 (by decide) (fun c_246 => ?_) (fun c_246 => ?_)
    · refine lv_aload_n hx hb d_Desk_refusalOfAccess_26 rfl (lv_at hl 0 rfl) ?_
      refine va_get (D := G.1) (ci := 5) (v := .int (sx.1 3)) (C := R_Desk) (T := T_Desk) (N := 8) hx hb hts (fun w h => gd_sub _ (iw_Desk w h)) hown hK hP 0 rfl rfl 3 (by decide) (hts _ (gd_sub _ q_208)) (fun _ h9 => h9) rfl d_Desk_refusalOfAccess_27 ?_
      by_cases c_247 : (sx.1 3) = 0
      · refine lv_tableIn (off := 32) (tgt := 62) hx hb d_Desk_refusalOfAccess_30 (by rw [c_247]; decide) (by rw [c_247]; decide) (by rw [c_247]; decide) (by decide) ?_
        refine lv_iconst (v := 2) hx hb d_Desk_refusalOfAccess_62 (by decide) ?_
        have hk : k_Desk_refusalOfAccess sx sc sy p1 p2 = 2 := (by rw [k_Desk_refusalOfAccess]; rw [if_neg c_245]; rw [if_pos c_246]; rw [if_pos c_247]; try rfl)
        exact ct_ri hx hb hr hlocks hP hD hK hS d_Desk_refusalOfAccess_63 (by rw [hk]; first | done | rfl) rfl
      · by_cases c_248 : (sx.1 3) = 1
        · refine lv_tableIn (off := 30) (tgt := 60) hx hb d_Desk_refusalOfAccess_30 (by rw [c_248]; decide) (by rw [c_248]; decide) (by rw [c_248]; decide) (by decide) ?_
          refine lv_iconst (v := (-1)) hx hb d_Desk_refusalOfAccess_60 (by decide) ?_
          have hk : k_Desk_refusalOfAccess sx sc sy p1 p2 = (-1) := (by rw [k_Desk_refusalOfAccess]; rw [if_neg c_245]; rw [if_pos c_246]; rw [if_neg c_247]; rw [if_pos c_248]; try rfl)
          exact ct_ri hx hb hr hlocks hP hD hK hS d_Desk_refusalOfAccess_61 (by rw [hk]; first | done | rfl) rfl
        · by_cases c_249 : (sx.1 3) = 2
          · refine lv_tableIn (off := 49) (tgt := 79) hx hb d_Desk_refusalOfAccess_30 (by rw [c_249]; decide) (by rw [c_249]; decide) (by rw [c_249]; decide) (by decide) ?_
            refine lv_bipush (v := 22) hx hb d_Desk_refusalOfAccess_79 (by decide) ?_
            have hk : k_Desk_refusalOfAccess sx sc sy p1 p2 = 22 := (by rw [k_Desk_refusalOfAccess]; rw [if_neg c_245]; rw [if_pos c_246]; rw [if_neg c_247]; rw [if_neg c_248]; rw [if_pos c_249]; try rfl)
            exact ct_ri hx hb hr hlocks hP hD hK hS d_Desk_refusalOfAccess_81 (by rw [hk]; first | done | rfl) rfl
          · by_cases c_250 : (sx.1 3) = 3
            · refine lv_tableIn (off := 34) (tgt := 64) hx hb d_Desk_refusalOfAccess_30 (by rw [c_250]; decide) (by rw [c_250]; decide) (by rw [c_250]; decide) (by decide) ?_
              refine lv_aload_n hx hb d_Desk_refusalOfAccess_64 rfl (lv_at hl 0 rfl) ?_
              refine lv_iload_n hx hb d_Desk_refusalOfAccess_65 rfl (lv_at hl 1 rfl) ?_
              refine ct_cVi (wr := []) (w1 := [(qx, .inr (5, f_Desk qc qo qr sx)), (qc, .inr (1, f_Controls qo qhs qgs qy sc)), (qy, .inr (2, f_Hyper sy))]) (w2 := [(qx, .inr (5, f_Desk qc qo qr sx)), (qc, .inr (1, f_Controls qo qhs qgs qy sc)), (qy, .inr (2, f_Hyper sy))]) (r := (bI (k_Desk_isOpenToVs sx sc sy p1))) (As := [.int p1]) (rest := []) (ci := 5) (q0 := 0) ⟨hx, hb, hml, hown, hts⟩ (c_Desk_isOpenToVs l G tys qx qc qy qo qr qhs qgs sx sc sy p1) (cwV 1 hts (gdV gd_gd q_495 q_497 q_13 q_41 q_498) rfl rfl rfl (by decide +kernel) ⟨Nat.le_of_ble_eq_true rfl, Nat.le_of_ble_eq_true rfl⟩) hE hK hP hD hS hA [0, 1, 2] [] [0, 1, 2] rfl (by decide) rfl (by decide) (by decide) rfl (by decide) rfl rfl rfl hl.1 rfl (Nat.le_of_ble_eq_true rfl) d_Desk_refusalOfAccess_66 ⟨Nat.zero_le _, Nat.zero_le _⟩ (fun H locs hP hD hS => ?_)
              refine lv_if_eq (tgt := 76) hx hb d_Desk_refusalOfAccess_69 (by decide) (fun c_251 => ?_) (fun c_251 => ?_)
              · refine lv_bipush (v := 22) hx hb d_Desk_refusalOfAccess_76 (by decide) ?_
                have hk : k_Desk_refusalOfAccess sx sc sy p1 p2 = 22 := (by rw [k_Desk_refusalOfAccess]; rw [if_neg c_245]; rw [if_pos c_246]; rw [if_neg c_247]; rw [if_neg c_248]; rw [if_neg c_249]; rw [if_pos c_250]; rw [if_pos c_251]; try rfl)
                exact ct_ri hx hb hr hlocks hP hD hK hS d_Desk_refusalOfAccess_78 (by rw [hk]; first | done | rfl) rfl
              · refine lv_iconst (v := (-1)) hx hb d_Desk_refusalOfAccess_72 (by decide) ?_
                refine lv_goto (tgt := 78) hx hb d_Desk_refusalOfAccess_73 (by decide) ?_
                have hk : k_Desk_refusalOfAccess sx sc sy p1 p2 = (-1) := (by rw [k_Desk_refusalOfAccess]; rw [if_neg c_245]; rw [if_pos c_246]; rw [if_neg c_247]; rw [if_neg c_248]; rw [if_neg c_249]; rw [if_pos c_250]; rw [if_neg c_251]; try rfl)
                exact ct_ri hx hb hr hlocks hP hD hK hS d_Desk_refusalOfAccess_78 (by rw [hk]; first | done | rfl) rfl
            · refine lv_tableOut (tgt := 79) hx hb d_Desk_refusalOfAccess_30 (by have := lv_neT (a := 0) c_247 (by decide); have := lv_neT (a := 1) c_248 (by decide); have := lv_neT (a := 2) c_249 (by decide); have := lv_neT (a := 3) c_250 (by decide); omega) (by decide) ?_
              refine lv_bipush (v := 22) hx hb d_Desk_refusalOfAccess_79 (by decide) ?_
              have hk : k_Desk_refusalOfAccess sx sc sy p1 p2 = 22 := (by rw [k_Desk_refusalOfAccess]; rw [if_neg c_245]; rw [if_pos c_246]; rw [if_neg c_247]; rw [if_neg c_248]; rw [if_neg c_249]; rw [if_neg c_250]; try rfl)
              exact ct_ri hx hb hr hlocks hP hD hK hS d_Desk_refusalOfAccess_81 (by rw [hk]; first | done | rfl) rfl
    · refine lv_iload_n hx hb d_Desk_refusalOfAccess_16 rfl (lv_at hl 2 rfl) ?_
      refine lv_if_eq (tgt := 24) hx hb d_Desk_refusalOfAccess_17 (by decide) (fun c_252 => ?_) (fun c_252 => ?_)
      · refine lv_iconst (v := (-1)) hx hb d_Desk_refusalOfAccess_24 (by decide) ?_
        have hk : k_Desk_refusalOfAccess sx sc sy p1 p2 = (-1) := (by rw [k_Desk_refusalOfAccess]; rw [if_neg c_245]; rw [if_neg c_246]; rw [if_pos c_252]; try rfl)
        exact ct_ri hx hb hr hlocks hP hD hK hS d_Desk_refusalOfAccess_25 (by rw [hk]; first | done | rfl) rfl
      · refine lv_iconst (v := 2) hx hb d_Desk_refusalOfAccess_20 (by decide) ?_
        refine lv_goto (tgt := 25) hx hb d_Desk_refusalOfAccess_21 (by decide) ?_
        have hk : k_Desk_refusalOfAccess sx sc sy p1 p2 = 2 := (by rw [k_Desk_refusalOfAccess]; rw [if_neg c_245]; rw [if_neg c_246]; rw [if_neg c_252]; try rfl)
        exact ct_ri hx hb hr hlocks hP hD hK hS d_Desk_refusalOfAccess_25 (by rw [hk]; first | done | rfl) rfl
  · refine lv_iconst (v := 2) hx hb d_Desk_refusalOfAccess_7 (by decide) ?_
    have hk : k_Desk_refusalOfAccess sx sc sy p1 p2 = 2 := (by rw [k_Desk_refusalOfAccess]; rw [if_pos c_245]; try rfl)
    exact ct_ri hx hb hr hlocks hP hD hK hS d_Desk_refusalOfAccess_8 (by rw [hk]; first | done | rfl) rfl
def k_Numbers_inVs (p1 : Int32) : Int32 :=
  if (bI (k_Numbers_isOfS p1)) = 0 then p1 else (512 ||| (k_Numbers_kindOf p1))
set_option maxHeartbeats 4000000 in
set_option maxRecDepth 100000 in
theorem c_Numbers_inVs (l : Launch) (G : gx) (tys : List (ClassId × FieldType)) (p1 : Int32) : ct_I l y_Numbers_inVs ws_Numbers_inVs ({ frames := 3, cells := 0, slots := 0, locals := 61 }) G tys [.int p1] [] (k_Numbers_inVs p1) [] := by
  refine ct_hI (cc := cc_Numbers_inVs) (maxL := 1) (ret := (some .int)) (by decide) rfl (Nat.le_of_ble_eq_true rfl) ?_
  intro p e s m below meth c A ls hx hb hr hml hts hown hlocks hP hK hD hA hE hS hl
  have hl : lv_has ls 1 [(0, .int p1)] := hl
  have hown : s.vm.findClass R_Numbers = some m.cls := hown
  refine lv_iload_n hx hb d_Numbers_inVs_0 rfl (lv_at hl 0 rfl) ?_
  refine ct_cSi (wr := []) (w1 := []) (w2 := []) (r := (bI (k_Numbers_isOfS p1))) (As := [.int p1]) (rest := []) ⟨hx, hb, hml, hown, hts⟩ (c_Numbers_isOfS l G tys p1) (va_cwS 1 hts (gdS gd_gd q_269 q_270 q_48 q_271) rfl rfl rfl (by decide +kernel) ⟨Nat.le_of_ble_eq_true rfl, Nat.le_of_ble_eq_true rfl⟩) hE hK hP hD hS hA [] [] [] rfl (by decide) rfl (by decide) (by decide) rfl (by decide) rfl hl.1 rfl (Nat.le_of_ble_eq_true rfl) d_Numbers_inVs_1 ⟨Nat.zero_le _, Nat.zero_le _⟩ (fun H locs hP hD hS => ?_)
  refine lv_if_eq (tgt := 18) hx hb d_Numbers_inVs_4 (by decide) (fun c_256 => ?_) (fun c_256 => ?_)
  · refine lv_iload_n hx hb d_Numbers_inVs_18 rfl (lv_at hl 0 rfl) ?_
    have hk : k_Numbers_inVs p1 = p1 := (by rw [k_Numbers_inVs]; rw [if_pos c_256]; try rfl)
    exact ct_ri hx hb hr hlocks hP hD hK hS d_Numbers_inVs_19 (by rw [hk]; first | done | rfl) rfl
  · refine lv_sipush (v := 512) hx hb d_Numbers_inVs_7 (by decide) ?_
    refine lv_iload_n hx hb d_Numbers_inVs_10 rfl (lv_at hl 0 rfl) ?_
    refine ct_cSi (wr := []) (w1 := []) (w2 := []) (r := (k_Numbers_kindOf p1)) (As := [.int p1]) (rest := [.int 512]) ⟨hx, hb, hml, hown, hts⟩ (c_Numbers_kindOf l G tys p1) (va_cwS 1 hts (gdS gd_gd q_275 q_276 q_48 q_277) rfl rfl rfl (by decide +kernel) ⟨Nat.le_of_ble_eq_true rfl, Nat.le_of_ble_eq_true rfl⟩) hE hK hP hD hS hA [] [] [] rfl (by decide) rfl (by decide) (by decide) rfl (by decide) rfl hl.1 rfl (Nat.le_of_ble_eq_true rfl) d_Numbers_inVs_11 ⟨Nat.zero_le _, Nat.zero_le _⟩ (fun H locs hP hD hS => ?_)
    refine lv_ior hx hb d_Numbers_inVs_14 ?_
    refine lv_goto (tgt := 19) hx hb d_Numbers_inVs_15 (by decide) ?_
    have hk : k_Numbers_inVs p1 = (512 ||| (k_Numbers_kindOf p1)) := (by rw [k_Numbers_inVs]; rw [if_neg c_256]; try rfl)
    exact ct_ri hx hb hr hlocks hP hD hK hS d_Numbers_inVs_19 (by rw [hk]; first | done | rfl) rfl
def k_Desk_combined (p1 : Int32) (p2 : Int32) (p3 : Int32) : Int32 :=
  if p1 = 1 then p3 else if p1 = 2 then (p2 ||| p3) else (p2 &&& (p3 ^^^ (-1)))
set_option maxHeartbeats 4000000 in
set_option maxRecDepth 100000 in
theorem c_Desk_combined (l : Launch) (G : gx) (tys : List (ClassId × FieldType)) (p1 : Int32) (p2 : Int32) (p3 : Int32) : ct_I l y_Desk_combined ws_Desk_combined ({ frames := 0, cells := 0, slots := 0, locals := 0 }) G tys [.int p1, .int p2, .int p3] [] (k_Desk_combined p1 p2 p3) [] := by
  refine ct_hI (cc := cc_Desk_combined) (maxL := 3) (ret := (some .int)) (by decide) rfl (Nat.le_of_ble_eq_true rfl) ?_
  intro p e s m below meth c A ls hx hb hr hml hts hown hlocks hP hK hD hA hE hS hl
  have hl : lv_has ls 3 [(0, .int p1), (1, .int p2), (2, .int p3)] := hl
  have hown : s.vm.findClass R_Desk = some m.cls := hown
  refine lv_iload_n hx hb d_Desk_combined_0 rfl (lv_at hl 0 rfl) ?_
  by_cases c_261 : p1 = 1
  · refine lv_lookup (off := 27) (tgt := 28) hx hb d_Desk_combined_1 (by decide) (by rw [c_261]; decide) (by decide) ?_
    refine lv_iload_n hx hb d_Desk_combined_28 rfl (lv_at hl 2 rfl) ?_
    have hk : k_Desk_combined p1 p2 p3 = p3 := (by rw [k_Desk_combined]; rw [if_pos c_261]; try rfl)
    exact ct_ri hx hb hr hlocks hP hD hK hS d_Desk_combined_29 (by rw [hk]; first | done | rfl) rfl
  · by_cases c_262 : p1 = 2
    · refine lv_lookup (off := 29) (tgt := 30) hx hb d_Desk_combined_1 (by decide) (by rw [c_262]; decide) (by decide) ?_
      refine lv_iload_n hx hb d_Desk_combined_30 rfl (lv_at hl 1 rfl) ?_
      refine lv_iload_n hx hb d_Desk_combined_31 rfl (lv_at hl 2 rfl) ?_
      refine lv_ior hx hb d_Desk_combined_32 ?_
      have hk : k_Desk_combined p1 p2 p3 = (p2 ||| p3) := (by rw [k_Desk_combined]; rw [if_neg c_261]; rw [if_pos c_262]; try rfl)
      exact ct_ri hx hb hr hlocks hP hD hK hS d_Desk_combined_33 (by rw [hk]; first | done | rfl) rfl
    · refine lv_lookup (off := 33) (tgt := 34) hx hb d_Desk_combined_1 (by decide) ((lv_osw c_261 (by decide)).trans ((lv_osw c_262 (by decide)).trans rfl)) (by decide) ?_
      refine lv_iload_n hx hb d_Desk_combined_34 rfl (lv_at hl 1 rfl) ?_
      refine lv_iload_n hx hb d_Desk_combined_35 rfl (lv_at hl 2 rfl) ?_
      refine lv_iconst (v := (-1)) hx hb d_Desk_combined_36 (by decide) ?_
      refine lv_ixor hx hb d_Desk_combined_37 ?_
      refine lv_iand hx hb d_Desk_combined_38 ?_
      have hk : k_Desk_combined p1 p2 p3 = (p2 &&& (p3 ^^^ (-1))) := (by rw [k_Desk_combined]; rw [if_neg c_261]; rw [if_neg c_262]; try rfl)
      exact ct_ri hx hb hr hlocks hP hD hK hS d_Desk_combined_39 (by rw [hk]; first | done | rfl) rfl
def k_Desk_fieldD (p1 : Int32) : Int32 :=
  ((ush p1 7) &&& 31)
set_option maxHeartbeats 4000000 in
set_option maxRecDepth 100000 in
theorem c_Desk_fieldD (l : Launch) (G : gx) (tys : List (ClassId × FieldType)) (p1 : Int32) : ct_I l y_Desk_fieldD ws_Desk_fieldD ({ frames := 0, cells := 0, slots := 0, locals := 0 }) G tys [.int p1] [] (k_Desk_fieldD p1) [] := by
  refine ct_hI (cc := cc_Desk_fieldD) (maxL := 1) (ret := (some .int)) (by decide) rfl (Nat.le_of_ble_eq_true rfl) ?_
  intro p e s m below meth c A ls hx hb hr hml hts hown hlocks hP hK hD hA hE hS hl
  have hl : lv_has ls 1 [(0, .int p1)] := hl
  have hown : s.vm.findClass R_Desk = some m.cls := hown
  refine lv_iload_n hx hb d_Desk_fieldD_0 rfl (lv_at hl 0 rfl) ?_
  refine lv_bipush (v := 7) hx hb d_Desk_fieldD_1 (by decide) ?_
  refine lv_iushr (v := (ush p1 7)) hx hb d_Desk_fieldD_3 rfl ?_
  refine lv_bipush (v := 31) hx hb d_Desk_fieldD_4 (by decide) ?_
  refine lv_iand hx hb d_Desk_fieldD_6 ?_
  have hk : k_Desk_fieldD p1 = ((ush p1 7) &&& 31) := (by rw [k_Desk_fieldD]; try rfl)
  exact ct_ri hx hb hr hlocks hP hD hK hS d_Desk_fieldD_7 (by rw [hk]; first | done | rfl) rfl
def k_Desk_goOn (sx : ob) : Int32 × ob :=
  ((-1), (oi sx 4 ((sx.1 4) + 4)))
set_option maxHeartbeats 4000000 in
set_option maxRecDepth 100000 in
theorem c_Desk_goOn (l : Launch) (G : gx) (tys : List (ClassId × FieldType)) (qx qc qo qr : Nat) (sx : ob) : ct_I l y_Desk_goOn ws_Desk_goOn ({ frames := 0, cells := 0, slots := 0, locals := 0 }) G tys [.ref qx] [(qx, .inr (5, f_Desk qc qo qr sx))] ((k_Desk_goOn sx).1) [(qx, .inr (5, f_Desk qc qo qr ((k_Desk_goOn sx).2)))] := by
  refine ct_hI (cc := cc_Desk_goOn) (maxL := 1) (ret := (some .int)) (by decide) rfl (Nat.le_of_ble_eq_true rfl) ?_
  intro p e s m below meth c A ls hx hb hr hml hts hown hlocks hP hK hD hA hE hS hl
  have hl : lv_has ls 1 [(0, .ref qx)] := hl
  have hown : s.vm.findClass R_Desk = some m.cls := hown
  refine lv_aload_n hx hb d_Desk_goOn_0 rfl (lv_at hl 0 rfl) ?_
  refine lv_dup hx hb d_Desk_goOn_1 rfl ?_
  refine va_get (D := G.1) (ci := 5) (v := .int (sx.1 4)) (C := R_Desk) (T := T_Desk) (N := 8) hx hb hts (fun w h => gd_sub _ (iw_Desk w h)) hown hK hP 0 rfl rfl 4 (by decide) (hts _ (gd_sub _ q_209)) (fun _ h9 => h9) rfl d_Desk_goOn_2 ?_
  refine lv_iconst (v := 4) hx hb d_Desk_goOn_5 (by decide) ?_
  refine lv_iadd hx hb d_Desk_goOn_6 ?_
  refine va_put (D := G.1) (ci := 5) (v := .int ((sx.1 4) + 4)) (ty := .int) (C := R_Desk) (T := T_Desk) (N := 8) hx hb hts (fun w h => gd_sub _ (iw_Desk w h)) ty_Desk tyok_Desk nm_Desk hown hK hP hD hS 0 rfl rfl 4 (by decide) (hts _ (gd_sub _ q_209)) (fun _ h9 => h9) rfl (by decide +kernel) rfl rfl (Nat.le_of_ble_eq_true rfl) d_Desk_goOn_7 (fun H locs hP hD hS => ?_)
  have hP : va_P G.1 vwCl [(qx, .inr (5, f_Desk qc qo qr (oi sx 4 ((sx.1 4) + 4))))] H := hP
  have hD : va_D A [(qx, .inr (5, f_Desk qc qo qr (oi sx 4 ((sx.1 4) + 4))))] := hD
  refine lv_iconst (v := (-1)) hx hb d_Desk_goOn_10 (by decide) ?_
  have hk : k_Desk_goOn sx = ((-1), (oi sx 4 ((sx.1 4) + 4))) := (by rw [k_Desk_goOn]; try rfl)
  exact ct_ri hx hb hr hlocks hP hD hK hS d_Desk_goOn_11 (by rw [hk]; first | done | rfl) (by rw [hk]; first | done | rfl)
