def k_Model_mode (sm : ob) (p1 : Int32) : Int32 × ob :=
  if p1 < 0 then ((-1), sm) else (if p1 ≤ 3 then ((sm.1 0), (oi sm 0 p1)) else ((-1), sm))
set_option maxHeartbeats 4000000 in
set_option maxRecDepth 100000 in
theorem c_Model_mode (l : Launch) (G : gx) (tys : List (ClassId × FieldType)) (qm qp qk : Nat) (sm : ob) (p1 : Int32) : ct_I l y_Model_mode ws_Model_mode ({ frames := 0, cells := 0, slots := 0, locals := 0 }) G tys [.ref qm, .int p1] [(qm, .inr (6, f_Model qp qk sm))] ((k_Model_mode sm p1).1) [(qm, .inr (6, f_Model qp qk ((k_Model_mode sm p1).2)))] := by
  refine ct_hI (cc := cc_Model_mode) (maxL := 3) (ret := (some .int)) (by decide) rfl (Nat.le_of_ble_eq_true rfl) ?_
  intro p e s m below meth c A ls hx hb hr hml hts hown hlocks hP hK hD hA hE hS hl
  have hl : lv_has ls 3 [(0, .ref qm), (1, .int p1)] := hl
  have hown : s.vm.findClass R_Model = some m.cls := hown
  refine lv_iload_n hx hb d_Model_mode_0 rfl (lv_at hl 1 rfl) ?_
  refine lv_if_lt (tgt := 9) hx hb d_Model_mode_1 (by decide) (fun c_1209 => ?_) (fun c_1209 => ?_)
  · refine lv_iconst (v := (-1)) hx hb d_Model_mode_9 (by decide) ?_
    have hk : k_Model_mode sm p1 = ((-1), sm) := (by rw [k_Model_mode]; rw [if_pos c_1209]; try rfl)
    exact ct_ri hx hb hr hlocks hP hD hK hS d_Model_mode_10 (by rw [hk]; first | done | rfl) (by rw [hk]; first | done | rfl)
  · refine lv_iload_n hx hb d_Model_mode_4 rfl (lv_at hl 1 rfl) ?_
    refine lv_iconst (v := 3) hx hb d_Model_mode_5 (by decide) ?_
    refine lv_icmp_le (tgt := 11) hx hb d_Model_mode_6 (by decide) (fun c_1210 => ?_) (fun c_1210 => ?_)
    · refine lv_aload_n hx hb d_Model_mode_11 rfl (lv_at hl 0 rfl) ?_
      refine va_get (D := G.1) (ci := 6) (v := .int (sm.1 0)) (C := R_Model) (T := T_Model) (N := 23) hx hb hts (fun w h => gd_sub _ (iw_Model w h)) hown hK hP 0 rfl rfl 0 (by decide) (hts _ (gd_sub _ q_607)) (fun _ h9 => h9) rfl d_Model_mode_12 ?_
      refine lv_istore_n (lv' := [(2, .int (sm.1 0)), (0, .ref qm), (1, .int p1)]) hx hb d_Model_mode_15 rfl hl (by decide) rfl (fun ls hl => ?_)
      refine lv_aload_n hx hb d_Model_mode_16 rfl (lv_at hl 1 rfl) ?_
      refine lv_iload_n hx hb d_Model_mode_17 rfl (lv_at hl 2 rfl) ?_
      refine va_put (D := G.1) (ci := 6) (v := .int p1) (ty := .int) (C := R_Model) (T := T_Model) (N := 23) hx hb hts (fun w h => gd_sub _ (iw_Model w h)) ty_Model tyok_Model nm_Model hown hK hP hD hS 0 rfl rfl 0 (by decide) (hts _ (gd_sub _ q_607)) (fun _ h9 => h9) rfl (by decide +kernel) rfl rfl (Nat.le_of_ble_eq_true rfl) d_Model_mode_18 (fun H locs hP hD hS => ?_)
      have hP : va_P G.1 vwCl [(qm, .inr (6, f_Model qp qk (oi sm 0 p1)))] H := hP
      have hD : va_D A [(qm, .inr (6, f_Model qp qk (oi sm 0 p1)))] := hD
      refine lv_iload_n hx hb d_Model_mode_21 rfl (lv_at hl 0 rfl) ?_
      have hk : k_Model_mode sm p1 = ((sm.1 0), (oi sm 0 p1)) := (by rw [k_Model_mode]; rw [if_neg c_1209]; rw [if_pos c_1210]; try rfl)
      exact ct_ri hx hb hr hlocks hP hD hK hS d_Model_mode_22 (by rw [hk]; first | done | rfl) (by rw [hk]; first | done | rfl)
    · refine lv_iconst (v := (-1)) hx hb d_Model_mode_9 (by decide) ?_
      have hk : k_Model_mode sm p1 = ((-1), sm) := (by rw [k_Model_mode]; rw [if_neg c_1209]; rw [if_neg c_1210]; try rfl)
      exact ct_ri hx hb hr hlocks hP hD hK hS d_Model_mode_10 (by rw [hk]; first | done | rfl) (by rw [hk]; first | done | rfl)
def k_Model_go (sm : ob) (p1 : Int32) : Int32 × ob :=
  if (p1 - p1 / 4 * 4) = 0 then (0, (oi sm 1 p1)) else ((-1), sm)
set_option maxHeartbeats 4000000 in
set_option maxRecDepth 100000 in
theorem c_Model_go (l : Launch) (G : gx) (tys : List (ClassId × FieldType)) (qm qp qk : Nat) (sm : ob) (p1 : Int32) : ct_I l y_Model_go ws_Model_go ({ frames := 0, cells := 0, slots := 0, locals := 0 }) G tys [.ref qm, .int p1] [(qm, .inr (6, f_Model qp qk sm))] ((k_Model_go sm p1).1) [(qm, .inr (6, f_Model qp qk ((k_Model_go sm p1).2)))] := by
  refine ct_hI (cc := cc_Model_go) (maxL := 2) (ret := (some .int)) (by decide) rfl (Nat.le_of_ble_eq_true rfl) ?_
  intro p e s m below meth c A ls hx hb hr hml hts hown hlocks hP hK hD hA hE hS hl
  have hl : lv_has ls 2 [(0, .ref qm), (1, .int p1)] := hl
  have hown : s.vm.findClass R_Model = some m.cls := hown
  refine lv_iload_n hx hb d_Model_go_0 rfl (lv_at hl 1 rfl) ?_
  refine lv_iconst (v := 4) hx hb d_Model_go_1 (by decide) ?_
  refine lv_irem hx hb d_Model_go_2 (by decide) ?_
  refine lv_if_eq (tgt := 8) hx hb d_Model_go_3 (by decide) (fun c_1212 => ?_) (fun c_1212 => ?_)
  · refine lv_aload_n hx hb d_Model_go_8 rfl (lv_at hl 0 rfl) ?_
    refine lv_iload_n hx hb d_Model_go_9 rfl (lv_at hl 1 rfl) ?_
    refine va_put (D := G.1) (ci := 6) (v := .int p1) (ty := .int) (C := R_Model) (T := T_Model) (N := 23) hx hb hts (fun w h => gd_sub _ (iw_Model w h)) ty_Model tyok_Model nm_Model hown hK hP hD hS 0 rfl rfl 1 (by decide) (hts _ (gd_sub _ q_608)) (fun _ h9 => h9) rfl (by decide +kernel) rfl rfl (Nat.le_of_ble_eq_true rfl) d_Model_go_10 (fun H locs hP hD hS => ?_)
    have hP : va_P G.1 vwCl [(qm, .inr (6, f_Model qp qk (oi sm 1 p1)))] H := hP
    have hD : va_D A [(qm, .inr (6, f_Model qp qk (oi sm 1 p1)))] := hD
    refine lv_iconst (v := 0) hx hb d_Model_go_13 (by decide) ?_
    have hk : k_Model_go sm p1 = (0, (oi sm 1 p1)) := (by rw [k_Model_go]; rw [if_pos c_1212]; try rfl)
    exact ct_ri hx hb hr hlocks hP hD hK hS d_Model_go_14 (by rw [hk]; first | done | rfl) (by rw [hk]; first | done | rfl)
  · refine lv_iconst (v := (-1)) hx hb d_Model_go_6 (by decide) ?_
    have hk : k_Model_go sm p1 = ((-1), sm) := (by rw [k_Model_go]; rw [if_neg c_1212]; try rfl)
    exact ct_ri hx hb hr hlocks hP hD hK hS d_Model_go_7 (by rw [hk]; first | done | rfl) (by rw [hk]; first | done | rfl)
def k_Model_time (sm : ob) (p1 : Int64) : Int64 × ob :=
  if 0 ≤ (lg_cmp p1 0) then ((sm.2.1 2), (ol sm 2 p1)) else ((-1), sm)
set_option maxHeartbeats 4000000 in
set_option maxRecDepth 100000 in
theorem c_Model_time (l : Launch) (G : gx) (tys : List (ClassId × FieldType)) (qm qp qk : Nat) (sm : ob) (p1 : Int64) : ct_L l y_Model_time ws_Model_time ({ frames := 0, cells := 0, slots := 0, locals := 0 }) G tys [.ref qm, .long p1] [(qm, .inr (6, f_Model qp qk sm))] ((k_Model_time sm p1).1) [(qm, .inr (6, f_Model qp qk ((k_Model_time sm p1).2)))] := by
  refine ct_hL (cc := cc_Model_time) (maxL := 5) (ret := (some .long)) (by decide) rfl (Nat.le_of_ble_eq_true rfl) ?_
  intro p e s m below meth c A ls hx hb hr hml hts hown hlocks hP hK hD hA hE hS hl
  have hl : lv_has ls 5 [(0, .ref qm), (1, .long p1)] := hl
  have hown : s.vm.findClass R_Model = some m.cls := hown
  refine lv_lload_n hx hb d_Model_time_0 rfl (lv_at hl 1 rfl) ?_
  refine lv_lconst (v := 0) hx hb d_Model_time_1 (by decide) ?_
  refine W.lcmp hx hb d_Model_time_2 ?_
  refine lv_if_ge (tgt := 10) hx hb d_Model_time_3 (by decide) (fun c_1214 => ?_) (fun c_1214 => ?_)
  · refine lv_aload_n hx hb d_Model_time_10 rfl (lv_at hl 0 rfl) ?_
    refine va_get (D := G.1) (ci := 6) (v := .long (sm.2.1 2)) (C := R_Model) (T := T_Model) (N := 23) hx hb hts (fun w h => gd_sub _ (iw_Model w h)) hown hK hP 0 rfl rfl 2 (by decide) (hts _ (gd_sub _ q_609)) (fun _ h9 => h9) rfl d_Model_time_11 ?_
    refine lv_lstore_n (lv' := [(3, .long (sm.2.1 2)), (0, .ref qm), (1, .long p1)]) hx hb d_Model_time_14 rfl hl (by decide) rfl (fun ls hl => ?_)
    refine lv_aload_n hx hb d_Model_time_15 rfl (lv_at hl 1 rfl) ?_
    refine lv_lload_n hx hb d_Model_time_16 rfl (lv_at hl 2 rfl) ?_
    refine va_put (D := G.1) (ci := 6) (v := .long p1) (ty := .long) (C := R_Model) (T := T_Model) (N := 23) hx hb hts (fun w h => gd_sub _ (iw_Model w h)) ty_Model tyok_Model nm_Model hown hK hP hD hS 0 rfl rfl 2 (by decide) (hts _ (gd_sub _ q_609)) (fun _ h9 => h9) rfl (by decide +kernel) rfl rfl (Nat.le_of_ble_eq_true rfl) d_Model_time_17 (fun H locs hP hD hS => ?_)
    have hP : va_P G.1 vwCl [(qm, .inr (6, f_Model qp qk (ol sm 2 p1)))] H := hP
    have hD : va_D A [(qm, .inr (6, f_Model qp qk (ol sm 2 p1)))] := hD
    refine lv_lload_n hx hb d_Model_time_20 rfl (lv_at hl 0 rfl) ?_
    have hk : k_Model_time sm p1 = ((sm.2.1 2), (ol sm 2 p1)) := (by rw [k_Model_time]; rw [if_pos c_1214]; try rfl)
    exact ct_rl hx hb hr hlocks hP hD hK hS d_Model_time_21 (by rw [hk]; first | done | rfl) (by rw [hk]; first | done | rfl)
  · refine lv_ldc2 (v := (-1)) hx hb hown (hts _ (gd_sub _ q_823)) d_Model_time_6 ?_
    have hk : k_Model_time sm p1 = ((-1), sm) := (by rw [k_Model_time]; rw [if_neg c_1214]; try rfl)
    exact ct_rl hx hb hr hlocks hP hD hK hS d_Model_time_9 (by rw [hk]; first | done | rfl) (by rw [hk]; first | done | rfl)
def k_Model_line (sm : ob) (p1 : Bool) : Bool × ob :=
  ((sm.2.2 4), (oz sm 4 p1))
set_option maxHeartbeats 4000000 in
set_option maxRecDepth 100000 in
theorem c_Model_line (l : Launch) (G : gx) (tys : List (ClassId × FieldType)) (qm qp qk : Nat) (sm : ob) (p1 : Bool) : ct_I l y_Model_line ws_Model_line ({ frames := 0, cells := 0, slots := 0, locals := 0 }) G tys [.ref qm, .int (bI p1)] [(qm, .inr (6, f_Model qp qk sm))] (bI ((k_Model_line sm p1).1)) [(qm, .inr (6, f_Model qp qk ((k_Model_line sm p1).2)))] := by
  refine ct_hI (cc := cc_Model_line) (maxL := 3) (ret := (some .boolean)) (by decide) rfl (Nat.le_of_ble_eq_true rfl) ?_
  intro p e s m below meth c A ls hx hb hr hml hts hown hlocks hP hK hD hA hE hS hl
  have hl : lv_has ls 3 [(0, .ref qm), (1, .int (bI p1))] := hl
  have hown : s.vm.findClass R_Model = some m.cls := hown
  refine lv_aload_n hx hb d_Model_line_0 rfl (lv_at hl 0 rfl) ?_
  refine va_get (D := G.1) (ci := 6) (v := .int (bI (sm.2.2 4))) (C := R_Model) (T := T_Model) (N := 23) hx hb hts (fun w h => gd_sub _ (iw_Model w h)) hown hK hP 0 rfl rfl 4 (by decide) (hts _ (gd_sub _ q_611)) (fun _ h9 => h9) rfl d_Model_line_1 ?_
  refine lv_istore_n (lv' := [(2, .int (bI (sm.2.2 4))), (0, .ref qm), (1, .int (bI p1))]) hx hb d_Model_line_4 rfl hl (by decide) rfl (fun ls hl => ?_)
  refine lv_aload_n hx hb d_Model_line_5 rfl (lv_at hl 1 rfl) ?_
  refine lv_iload_n hx hb d_Model_line_6 rfl (lv_at hl 2 rfl) ?_
  refine va_put (D := G.1) (ci := 6) (v := .int (bI p1)) (ty := .boolean) (C := R_Model) (T := T_Model) (N := 23) hx hb hts (fun w h => gd_sub _ (iw_Model w h)) ty_Model tyok_Model nm_Model hown hK hP hD hS 0 rfl rfl 4 (by decide) (hts _ (gd_sub _ q_611)) (fun _ h9 => h9) rfl (by decide +kernel) (bI_n _) (bI_f _) (Nat.le_of_ble_eq_true rfl) d_Model_line_7 (fun H locs hP hD hS => ?_)
  have hP : va_P G.1 vwCl [(qm, .inr (6, f_Model qp qk (oz sm 4 p1)))] H := hP
  have hD : va_D A [(qm, .inr (6, f_Model qp qk (oz sm 4 p1)))] := hD
  refine lv_iload_n hx hb d_Model_line_10 rfl (lv_at hl 0 rfl) ?_
  have hk : k_Model_line sm p1 = ((sm.2.2 4), (oz sm 4 p1)) := (by rw [k_Model_line]; try rfl)
  exact ct_rz hx hb hr hlocks hP hD hK hS d_Model_line_11 (bI_n _) (by rw [hk]; first | done | rfl) (by rw [hk]; first | done | rfl)
def k_Model_set (sm : ob) (p1 : Int32) (p2 : Int32) : Int32 × ob :=
  ((k_Model_x sm p1), ((k_Model_setX sm p1 p2)))
set_option maxHeartbeats 4000000 in
set_option maxRecDepth 100000 in
theorem c_Model_set (l : Launch) (G : gx) (tys : List (ClassId × FieldType)) (qm qp qk : Nat) (sm : ob) (p1 : Int32) (p2 : Int32) : ct_I l y_Model_set ws_Model_set ({ frames := 1, cells := 0, slots := 0, locals := 22 }) G tys [.ref qm, .int p1, .int p2] [(qm, .inr (6, f_Model qp qk sm))] ((k_Model_set sm p1 p2).1) [(qm, .inr (6, f_Model qp qk ((k_Model_set sm p1 p2).2)))] := by
  refine ct_hI (cc := cc_Model_set) (maxL := 4) (ret := (some .int)) (by decide) rfl (Nat.le_of_ble_eq_true rfl) ?_
  intro p e s m below meth c A ls hx hb hr hml hts hown hlocks hP hK hD hA hE hS hl
  have hl : lv_has ls 4 [(0, .ref qm), (1, .int p1), (2, .int p2)] := hl
  have hown : s.vm.findClass R_Model = some m.cls := hown
  refine lv_aload_n hx hb d_Model_set_0 rfl (lv_at hl 0 rfl) ?_
  refine lv_iload_n hx hb d_Model_set_1 rfl (lv_at hl 1 rfl) ?_
  refine ct_cVi (wr := []) (w1 := [(qm, .inr (6, f_Model qp qk sm))]) (w2 := [(qm, .inr (6, f_Model qp qk sm))]) (r := (k_Model_x sm p1)) (As := [.int p1]) (rest := []) (ci := 6) (q0 := 0) ⟨hx, hb, hml, hown, hts⟩ (c_Model_x l G tys qm qp qk sm p1) (cwV 1 hts (gdV gd_gd q_803 q_805 q_38 q_47 q_806) rfl rfl rfl (by decide +kernel) ⟨Nat.le_of_ble_eq_true rfl, Nat.le_of_ble_eq_true rfl⟩) hE hK hP hD hS hA [0] [] [0] rfl (by decide) rfl (by decide) (by decide) rfl (by decide) rfl rfl rfl hl.1 rfl (Nat.le_of_ble_eq_true rfl) d_Model_set_2 ⟨Nat.zero_le _, Nat.zero_le _⟩ (fun H locs hP hD hS => ?_)
  refine lv_istore_n (lv' := [(3, .int (k_Model_x sm p1)), (0, .ref qm), (1, .int p1), (2, .int p2)]) hx hb d_Model_set_5 rfl hl (by decide) rfl (fun ls hl => ?_)
  refine lv_aload_n hx hb d_Model_set_6 rfl (lv_at hl 1 rfl) ?_
  refine lv_iload_n hx hb d_Model_set_7 rfl (lv_at hl 2 rfl) ?_
  refine lv_iload_n hx hb d_Model_set_8 rfl (lv_at hl 3 rfl) ?_
  obtain ⟨sm_1216, esm_1216⟩ : ∃ z, z = (k_Model_setX sm p1 p2) := ⟨_, rfl⟩
  have hM := c_Model_setX l G tys qm qp qk sm p1 p2
  rw [← esm_1216] at hM
  refine ct_cVv (wr := []) (w1 := [(qm, .inr (6, f_Model qp qk sm_1216))]) (w2 := [(qm, .inr (6, f_Model qp qk sm_1216))]) (As := [.int p1, .int p2]) (rest := []) (ci := 6) (q0 := 0) ⟨hx, hb, hml, hown, hts⟩ hM (cwV 2 hts (gdV gd_gd q_807 q_809 q_39 q_47 q_810) rfl rfl rfl (by decide +kernel) ⟨Nat.le_of_ble_eq_true rfl, Nat.le_of_ble_eq_true rfl⟩) hE hK hP hD hS hA [0] [] [0] rfl (by decide) rfl (by decide) (by decide) rfl (by decide) rfl rfl rfl hl.1 rfl (Nat.le_of_ble_eq_true rfl) d_Model_set_9 ⟨Nat.zero_le _, Nat.zero_le _⟩ (fun H locs hP hD hS => ?_)
  refine lv_iload_n hx hb d_Model_set_12 rfl (lv_at hl 0 rfl) ?_
  have hk : k_Model_set sm p1 p2 = ((k_Model_x sm p1), sm_1216) := (by rw [k_Model_set]; try rw [← esm_1216]; try rfl)
  exact ct_ri hx hb hr hlocks hP hD hK hS d_Model_set_13 (by rw [hk]; first | done | rfl) (by rw [hk]; first | done | rfl)
def k_Model_register (sm : ob) (p1 : Int32) : Int32 :=
  (k_Model_x sm p1)
set_option maxHeartbeats 4000000 in
set_option maxRecDepth 100000 in
theorem c_Model_register (l : Launch) (G : gx) (tys : List (ClassId × FieldType)) (qm qp qk : Nat) (sm : ob) (p1 : Int32) : ct_I l y_Model_register ws_Model_register ({ frames := 1, cells := 0, slots := 0, locals := 21 }) G tys [.ref qm, .int p1] [(qm, .inr (6, f_Model qp qk sm))] (k_Model_register sm p1) [(qm, .inr (6, f_Model qp qk sm))] := by
  refine ct_hI (cc := cc_Model_register) (maxL := 2) (ret := (some .int)) (by decide) rfl (Nat.le_of_ble_eq_true rfl) ?_
  intro p e s m below meth c A ls hx hb hr hml hts hown hlocks hP hK hD hA hE hS hl
  have hl : lv_has ls 2 [(0, .ref qm), (1, .int p1)] := hl
  have hown : s.vm.findClass R_Model = some m.cls := hown
  refine lv_aload_n hx hb d_Model_register_0 rfl (lv_at hl 0 rfl) ?_
  refine lv_iload_n hx hb d_Model_register_1 rfl (lv_at hl 1 rfl) ?_
  refine ct_cVi (wr := []) (w1 := [(qm, .inr (6, f_Model qp qk sm))]) (w2 := [(qm, .inr (6, f_Model qp qk sm))]) (r := (k_Model_x sm p1)) (As := [.int p1]) (rest := []) (ci := 6) (q0 := 0) ⟨hx, hb, hml, hown, hts⟩ (c_Model_x l G tys qm qp qk sm p1) (cwV 1 hts (gdV gd_gd q_803 q_805 q_38 q_47 q_806) rfl rfl rfl (by decide +kernel) ⟨Nat.le_of_ble_eq_true rfl, Nat.le_of_ble_eq_true rfl⟩) hE hK hP hD hS hA [0] [] [0] rfl (by decide) rfl (by decide) (by decide) rfl (by decide) rfl rfl rfl hl.1 rfl (Nat.le_of_ble_eq_true rfl) d_Model_register_2 ⟨Nat.zero_le _, Nat.zero_le _⟩ (fun H locs hP hD hS => ?_)
  have hk : k_Model_register sm p1 = (k_Model_x sm p1) := (by rw [k_Model_register]; try rfl)
  exact ct_ri hx hb hr hlocks hP hD hK hS d_Model_register_5 (by rw [hk]; first | done | rfl) rfl
def k_Model_count (sm : ob) (p1 : Int32) : Int32 :=
  if p1 = 0 then (sm.1 0) else if p1 = 1 then (sm.1 1) else if p1 = 2 then (sm.1 11) else if p1 = 3 then (sm.1 12) else if p1 = 4 then (sm.1 13) else if p1 = 5 then (sm.1 9) else if p1 = 6 then (if (bI (sm.2.2 10)) = 0 then 0 else 1) else if p1 = 7 then ((sm.2.1 3).toInt32) else if p1 = 8 then ((lshr (sm.2.1 3) 32).toInt32) else (-1)
set_option maxHeartbeats 4000000 in
set_option maxRecDepth 100000 in
theorem c_Model_count (l : Launch) (G : gx) (tys : List (ClassId × FieldType)) (qm qp qk : Nat) (sm : ob) (p1 : Int32) : ct_I l y_Model_count ws_Model_count ({ frames := 0, cells := 0, slots := 0, locals := 0 }) G tys [.ref qm, .int p1] [(qm, .inr (6, f_Model qp qk sm))] (k_Model_count sm p1) [(qm, .inr (6, f_Model qp qk sm))] := by
  refine ct_hI (cc := cc_Model_count) (maxL := 2) (ret := (some .int)) (by decide) rfl (Nat.le_of_ble_eq_true rfl) ?_
  intro p e s m below meth c A ls hx hb hr hml hts hown hlocks hP hK hD hA hE hS hl
  have hl : lv_has ls 2 [(0, .ref qm), (1, .int p1)] := hl
  have hown : s.vm.findClass R_Model = some m.cls := hown
  refine lv_iload_n hx hb d_Model_count_0 rfl (lv_at hl 1 rfl) ?_
  by_cases c_1227 : p1 = 0
  · refine lv_tableIn (off := 51) (tgt := 52) hx hb d_Model_count_1 (by rw [c_1227]; decide) (by rw [c_1227]; decide) (by rw [c_1227]; decide) (by decide) ?_
    refine lv_aload_n hx hb d_Model_count_52 rfl (lv_at hl 0 rfl) ?_
    refine va_get (D := G.1) (ci := 6) (v := .int (sm.1 0)) (C := R_Model) (T := T_Model) (N := 23) hx hb hts (fun w h => gd_sub _ (iw_Model w h)) hown hK hP 0 rfl rfl 0 (by decide) (hts _ (gd_sub _ q_607)) (fun _ h9 => h9) rfl d_Model_count_53 ?_
    have hk : k_Model_count sm p1 = (sm.1 0) := (by rw [k_Model_count]; rw [if_pos c_1227]; try rfl)
    exact ct_ri hx hb hr hlocks hP hD hK hS d_Model_count_56 (by rw [hk]; first | done | rfl) rfl
  · by_cases c_1228 : p1 = 1
    · refine lv_tableIn (off := 56) (tgt := 57) hx hb d_Model_count_1 (by rw [c_1228]; decide) (by rw [c_1228]; decide) (by rw [c_1228]; decide) (by decide) ?_
      refine lv_aload_n hx hb d_Model_count_57 rfl (lv_at hl 0 rfl) ?_
      refine va_get (D := G.1) (ci := 6) (v := .int (sm.1 1)) (C := R_Model) (T := T_Model) (N := 23) hx hb hts (fun w h => gd_sub _ (iw_Model w h)) hown hK hP 0 rfl rfl 1 (by decide) (hts _ (gd_sub _ q_608)) (fun _ h9 => h9) rfl d_Model_count_58 ?_
      have hk : k_Model_count sm p1 = (sm.1 1) := (by rw [k_Model_count]; rw [if_neg c_1227]; rw [if_pos c_1228]; try rfl)
      exact ct_ri hx hb hr hlocks hP hD hK hS d_Model_count_61 (by rw [hk]; first | done | rfl) rfl
    · by_cases c_1229 : p1 = 2
      · refine lv_tableIn (off := 61) (tgt := 62) hx hb d_Model_count_1 (by rw [c_1229]; decide) (by rw [c_1229]; decide) (by rw [c_1229]; decide) (by decide) ?_
        refine lv_aload_n hx hb d_Model_count_62 rfl (lv_at hl 0 rfl) ?_
        refine va_get (D := G.1) (ci := 6) (v := .int (sm.1 11)) (C := R_Model) (T := T_Model) (N := 23) hx hb hts (fun w h => gd_sub _ (iw_Model w h)) hown hK hP 0 rfl rfl 11 (by decide) (hts _ (gd_sub _ q_618)) (fun _ h9 => h9) rfl d_Model_count_63 ?_
        have hk : k_Model_count sm p1 = (sm.1 11) := (by rw [k_Model_count]; rw [if_neg c_1227]; rw [if_neg c_1228]; rw [if_pos c_1229]; try rfl)
        exact ct_ri hx hb hr hlocks hP hD hK hS d_Model_count_66 (by rw [hk]; first | done | rfl) rfl
      · by_cases c_1230 : p1 = 3
        · refine lv_tableIn (off := 66) (tgt := 67) hx hb d_Model_count_1 (by rw [c_1230]; decide) (by rw [c_1230]; decide) (by rw [c_1230]; decide) (by decide) ?_
          refine lv_aload_n hx hb d_Model_count_67 rfl (lv_at hl 0 rfl) ?_
          refine va_get (D := G.1) (ci := 6) (v := .int (sm.1 12)) (C := R_Model) (T := T_Model) (N := 23) hx hb hts (fun w h => gd_sub _ (iw_Model w h)) hown hK hP 0 rfl rfl 12 (by decide) (hts _ (gd_sub _ q_619)) (fun _ h9 => h9) rfl d_Model_count_68 ?_
          have hk : k_Model_count sm p1 = (sm.1 12) := (by rw [k_Model_count]; rw [if_neg c_1227]; rw [if_neg c_1228]; rw [if_neg c_1229]; rw [if_pos c_1230]; try rfl)
          exact ct_ri hx hb hr hlocks hP hD hK hS d_Model_count_71 (by rw [hk]; first | done | rfl) rfl
        · by_cases c_1231 : p1 = 4
          · refine lv_tableIn (off := 71) (tgt := 72) hx hb d_Model_count_1 (by rw [c_1231]; decide) (by rw [c_1231]; decide) (by rw [c_1231]; decide) (by decide) ?_
            refine lv_aload_n hx hb d_Model_count_72 rfl (lv_at hl 0 rfl) ?_
            refine va_get (D := G.1) (ci := 6) (v := .int (sm.1 13)) (C := R_Model) (T := T_Model) (N := 23) hx hb hts (fun w h => gd_sub _ (iw_Model w h)) hown hK hP 0 rfl rfl 13 (by decide) (hts _ (gd_sub _ q_620)) (fun _ h9 => h9) rfl d_Model_count_73 ?_
            have hk : k_Model_count sm p1 = (sm.1 13) := (by rw [k_Model_count]; rw [if_neg c_1227]; rw [if_neg c_1228]; rw [if_neg c_1229]; rw [if_neg c_1230]; rw [if_pos c_1231]; try rfl)
            exact ct_ri hx hb hr hlocks hP hD hK hS d_Model_count_76 (by rw [hk]; first | done | rfl) rfl
          · by_cases c_1232 : p1 = 5
            · refine lv_tableIn (off := 76) (tgt := 77) hx hb d_Model_count_1 (by rw [c_1232]; decide) (by rw [c_1232]; decide) (by rw [c_1232]; decide) (by decide) ?_
              refine lv_aload_n hx hb d_Model_count_77 rfl (lv_at hl 0 rfl) ?_
              refine va_get (D := G.1) (ci := 6) (v := .int (sm.1 9)) (C := R_Model) (T := T_Model) (N := 23) hx hb hts (fun w h => gd_sub _ (iw_Model w h)) hown hK hP 0 rfl rfl 9 (by decide) (hts _ (gd_sub _ q_616)) (fun _ h9 => h9) rfl d_Model_count_78 ?_
              have hk : k_Model_count sm p1 = (sm.1 9) := (by rw [k_Model_count]; rw [if_neg c_1227]; rw [if_neg c_1228]; rw [if_neg c_1229]; rw [if_neg c_1230]; rw [if_neg c_1231]; rw [if_pos c_1232]; try rfl)
              exact ct_ri hx hb hr hlocks hP hD hK hS d_Model_count_81 (by rw [hk]; first | done | rfl) rfl
            · by_cases c_1233 : p1 = 6
              · refine lv_tableIn (off := 81) (tgt := 82) hx hb d_Model_count_1 (by rw [c_1233]; decide) (by rw [c_1233]; decide) (by rw [c_1233]; decide) (by decide) ?_
                refine lv_aload_n hx hb d_Model_count_82 rfl (lv_at hl 0 rfl) ?_
                refine va_get (D := G.1) (ci := 6) (v := .int (bI (sm.2.2 10))) (C := R_Model) (T := T_Model) (N := 23) hx hb hts (fun w h => gd_sub _ (iw_Model w h)) hown hK hP 0 rfl rfl 10 (by decide) (hts _ (gd_sub _ q_617)) (fun _ h9 => h9) rfl d_Model_count_83 ?_
                refine lv_if_eq (tgt := 93) hx hb d_Model_count_86 (by decide) (fun c_1234 => ?_) (fun c_1234 => ?_)
                · refine lv_iconst (v := 0) hx hb d_Model_count_93 (by decide) ?_
                  have hk : k_Model_count sm p1 = 0 := (by rw [k_Model_count]; rw [if_neg c_1227]; rw [if_neg c_1228]; rw [if_neg c_1229]; rw [if_neg c_1230]; rw [if_neg c_1231]; rw [if_neg c_1232]; rw [if_pos c_1233]; rw [if_pos c_1234]; try rfl)
                  exact ct_ri hx hb hr hlocks hP hD hK hS d_Model_count_94 (by rw [hk]; first | done | rfl) rfl
                · refine lv_iconst (v := 1) hx hb d_Model_count_89 (by decide) ?_
                  refine lv_goto (tgt := 94) hx hb d_Model_count_90 (by decide) ?_
                  have hk : k_Model_count sm p1 = 1 := (by rw [k_Model_count]; rw [if_neg c_1227]; rw [if_neg c_1228]; rw [if_neg c_1229]; rw [if_neg c_1230]; rw [if_neg c_1231]; rw [if_neg c_1232]; rw [if_pos c_1233]; rw [if_neg c_1234]; try rfl)
                  exact ct_ri hx hb hr hlocks hP hD hK hS d_Model_count_94 (by rw [hk]; first | done | rfl) rfl
              · by_cases c_1235 : p1 = 7
                · refine lv_tableIn (off := 94) (tgt := 95) hx hb d_Model_count_1 (by rw [c_1235]; decide) (by rw [c_1235]; decide) (by rw [c_1235]; decide) (by decide) ?_
                  refine lv_aload_n hx hb d_Model_count_95 rfl (lv_at hl 0 rfl) ?_
                  refine va_get (D := G.1) (ci := 6) (v := .long (sm.2.1 3)) (C := R_Model) (T := T_Model) (N := 23) hx hb hts (fun w h => gd_sub _ (iw_Model w h)) hown hK hP 0 rfl rfl 3 (by decide) (hts _ (gd_sub _ q_610)) (fun _ h9 => h9) rfl d_Model_count_96 ?_
                  refine lv_l2i (v := (sm.2.1 3).toInt32) hx hb d_Model_count_99 rfl ?_
                  have hk : k_Model_count sm p1 = (sm.2.1 3).toInt32 := (by rw [k_Model_count]; rw [if_neg c_1227]; rw [if_neg c_1228]; rw [if_neg c_1229]; rw [if_neg c_1230]; rw [if_neg c_1231]; rw [if_neg c_1232]; rw [if_neg c_1233]; rw [if_pos c_1235]; try rfl)
                  exact ct_ri hx hb hr hlocks hP hD hK hS d_Model_count_100 (by rw [hk]; first | done | rfl) rfl
                · by_cases c_1236 : p1 = 8
                  · refine lv_tableIn (off := 100) (tgt := 101) hx hb d_Model_count_1 (by rw [c_1236]; decide) (by rw [c_1236]; decide) (by rw [c_1236]; decide) (by decide) ?_
                    refine lv_aload_n hx hb d_Model_count_101 rfl (lv_at hl 0 rfl) ?_
                    refine va_get (D := G.1) (ci := 6) (v := .long (sm.2.1 3)) (C := R_Model) (T := T_Model) (N := 23) hx hb hts (fun w h => gd_sub _ (iw_Model w h)) hown hK hP 0 rfl rfl 3 (by decide) (hts _ (gd_sub _ q_610)) (fun _ h9 => h9) rfl d_Model_count_102 ?_
                    refine lv_bipush (v := 32) hx hb d_Model_count_105 (by decide) ?_
                    refine lv_lshr (v := (lshr (sm.2.1 3) 32)) hx hb d_Model_count_107 rfl ?_
                    refine lv_l2i (v := (lshr (sm.2.1 3) 32).toInt32) hx hb d_Model_count_108 rfl ?_
                    have hk : k_Model_count sm p1 = (lshr (sm.2.1 3) 32).toInt32 := (by rw [k_Model_count]; rw [if_neg c_1227]; rw [if_neg c_1228]; rw [if_neg c_1229]; rw [if_neg c_1230]; rw [if_neg c_1231]; rw [if_neg c_1232]; rw [if_neg c_1233]; rw [if_neg c_1235]; rw [if_pos c_1236]; try rfl)
                    exact ct_ri hx hb hr hlocks hP hD hK hS d_Model_count_109 (by rw [hk]; first | done | rfl) rfl
                  · refine lv_tableOut (tgt := 110) hx hb d_Model_count_1 (by have := lv_neT (a := 0) c_1227 (by decide); have := lv_neT (a := 1) c_1228 (by decide); have := lv_neT (a := 2) c_1229 (by decide); have := lv_neT (a := 3) c_1230 (by decide); have := lv_neT (a := 4) c_1231 (by decide); have := lv_neT (a := 5) c_1232 (by decide); have := lv_neT (a := 6) c_1233 (by decide); have := lv_neT (a := 7) c_1235 (by decide); have := lv_neT (a := 8) c_1236 (by decide); omega) (by decide) ?_
                    refine lv_iconst (v := (-1)) hx hb d_Model_count_110 (by decide) ?_
                    have hk : k_Model_count sm p1 = (-1) := (by rw [k_Model_count]; rw [if_neg c_1227]; rw [if_neg c_1228]; rw [if_neg c_1229]; rw [if_neg c_1230]; rw [if_neg c_1231]; rw [if_neg c_1232]; rw [if_neg c_1233]; rw [if_neg c_1235]; rw [if_neg c_1236]; try rfl)
                    exact ct_ri hx hb hr hlocks hP hD hK hS d_Model_count_111 (by rw [hk]; first | done | rfl) rfl
def k_Model_console (sm : ob) (sp : Nat → Int32) (p1 : Int32) : Int32 :=
  if p1 < 0 then (-1) else (if (sm.1 9) ≤ p1 then (-1) else (sp p1.toNatClampNeg))
set_option maxHeartbeats 4000000 in
set_option maxRecDepth 100000 in
theorem c_Model_console (l : Launch) (G : gx) (tys : List (ClassId × FieldType)) {cB : ClassId} (ht1 : tys[1]? = some (cB, .int)) (qm qp qk : Nat) (sm : ob) (sp : Nat → Int32) (p1 : Int32) (hq8 : sm.1 9 ≤ 256) : ct_I l y_Model_console ws_Model_console ({ frames := 0, cells := 0, slots := 0, locals := 0 }) G tys [.ref qm, .int p1] [(qm, .inr (6, f_Model qp qk sm)), (qp, .inl (cB, 256, .inl sp))] (k_Model_console sm sp p1) [(qm, .inr (6, f_Model qp qk sm)), (qp, .inl (cB, 256, .inl sp))] := by
  refine ct_hI (cc := cc_Model_console) (maxL := 2) (ret := (some .int)) (by decide) rfl (Nat.le_of_ble_eq_true rfl) ?_
  intro p e s m below meth c A ls hx hb hr hml hts hown hlocks hP hK hD hA hE hS hl
  have hl : lv_has ls 2 [(0, .ref qm), (1, .int p1)] := hl
  have hown : s.vm.findClass R_Model = some m.cls := hown
  refine lv_iload_n hx hb d_Model_console_0 rfl (lv_at hl 1 rfl) ?_
  refine lv_if_lt (tgt := 21) hx hb d_Model_console_1 (by decide) (fun c_1239 => ?_) (fun c_1239 => ?_)
  · refine lv_iconst (v := (-1)) hx hb d_Model_console_21 (by decide) ?_
    have hk : k_Model_console sm sp p1 = (-1) := (by rw [k_Model_console]; rw [if_pos c_1239]; try rfl)
    exact ct_ri hx hb hr hlocks hP hD hK hS d_Model_console_22 (by rw [hk]; first | done | rfl) rfl
  · refine lv_iload_n hx hb d_Model_console_4 rfl (lv_at hl 1 rfl) ?_
    refine lv_aload_n hx hb d_Model_console_5 rfl (lv_at hl 0 rfl) ?_
    refine va_get (D := G.1) (ci := 6) (v := .int (sm.1 9)) (C := R_Model) (T := T_Model) (N := 23) hx hb hts (fun w h => gd_sub _ (iw_Model w h)) hown hK hP 0 rfl rfl 9 (by decide) (hts _ (gd_sub _ q_616)) (fun _ h9 => h9) rfl d_Model_console_6 ?_
    refine lv_icmp_ge (tgt := 21) hx hb d_Model_console_9 (by decide) (fun c_1240 => ?_) (fun c_1240 => ?_)
    · refine lv_iconst (v := (-1)) hx hb d_Model_console_21 (by decide) ?_
      have hk : k_Model_console sm sp p1 = (-1) := (by rw [k_Model_console]; rw [if_neg c_1239]; rw [if_pos c_1240]; try rfl)
      exact ct_ri hx hb hr hlocks hP hD hK hS d_Model_console_22 (by rw [hk]; first | done | rfl) rfl
    · refine lv_aload_n hx hb d_Model_console_12 rfl (lv_at hl 0 rfl) ?_
      refine va_get (D := G.1) (ci := 6) (v := .ref qp) (C := R_Model) (T := T_Model) (N := 23) hx hb hts (fun w h => gd_sub _ (iw_Model w h)) hown hK hP 0 rfl rfl 8 (by decide) (hts _ (gd_sub _ q_615)) (fun _ h9 => h9) rfl d_Model_console_13 ?_
      refine lv_iload_n hx hb d_Model_console_16 rfl (lv_at hl 1 rfl) ?_
      refine va_iald hx hb hK hP 1 1 rfl ht1 (in256b c_1239 c_1240 hq8) d_Model_console_17 ?_
      refine lv_goto (tgt := 22) hx hb d_Model_console_18 (by decide) ?_
      have hk : k_Model_console sm sp p1 = (sp p1.toNatClampNeg) := (by rw [k_Model_console]; rw [if_neg c_1239]; rw [if_neg c_1240]; try rfl)
      exact ct_ri hx hb hr hlocks hP hD hK hS d_Model_console_22 (by rw [hk]; first | done | rfl) rfl
