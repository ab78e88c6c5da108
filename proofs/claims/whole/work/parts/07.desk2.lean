def k_Numbers_isKnown (p1 : Int32) : Bool :=
  if (bI (k_Numbers_isOfS p1)) = 0 then (if (bI (k_Numbers_isOfVs p1)) = 0 then (if (bI (k_Numbers_isOfH p1)) = 0 then (if (bI (k_Numbers_isTime p1)) = 0 then false else true) else true) else true) else true
set_option maxHeartbeats 4000000 in
set_option maxRecDepth 100000 in
theorem c_Numbers_isKnown (l : Launch) (G : gx) (tys : List (ClassId × FieldType)) (p1 : Int32) : ct_I l y_Numbers_isKnown ws_Numbers_isKnown ({ frames := 3, cells := 0, slots := 0, locals := 61 }) G tys [.int p1] [] (bI (k_Numbers_isKnown p1)) [] := by
  refine ct_hI (cc := cc_Numbers_isKnown) (maxL := 1) (ret := (some .boolean)) (by decide) rfl (Nat.le_of_ble_eq_true rfl) ?_
  intro p e s m below meth c A ls hx hb hr hml hts hown hlocks hP hK hD hA hE hS hl
  have hl : lv_has ls 1 [(0, .int p1)] := hl
  have hown : s.vm.findClass R_Numbers = some m.cls := hown
  refine lv_iload_n hx hb d_Numbers_isKnown_0 rfl (lv_at hl 0 rfl) ?_
  refine ct_cSi (wr := []) (w1 := []) (w2 := []) (r := (bI (k_Numbers_isOfS p1))) (As := [.int p1]) (rest := []) ⟨hx, hb, hml, hown, hts⟩ (c_Numbers_isOfS l G tys p1) (va_cwS 1 hts (gdS gd_gd q_269 q_270 q_48 q_271) rfl rfl rfl (by decide +kernel) ⟨Nat.le_of_ble_eq_true rfl, Nat.le_of_ble_eq_true rfl⟩) hE hK hP hD hS hA [] [] [] rfl (by decide) rfl (by decide) (by decide) rfl (by decide) rfl hl.1 rfl (Nat.le_of_ble_eq_true rfl) d_Numbers_isKnown_1 ⟨Nat.zero_le _, Nat.zero_le _⟩ (fun H locs hP hD hS => ?_)
  refine lv_if_ne (tgt := 28) hx hb d_Numbers_isKnown_4 (by decide) (fun c_75 => ?_) (fun c_75 => ?_)
  · refine lv_iconst (v := 1) hx hb d_Numbers_isKnown_28 (by decide) ?_
    refine lv_goto (tgt := 33) hx hb d_Numbers_isKnown_29 (by decide) ?_
    have hk : k_Numbers_isKnown p1 = true := (by rw [k_Numbers_isKnown]; rw [if_neg c_75]; try rfl)
    exact ct_rz hx hb hr hlocks hP hD hK hS d_Numbers_isKnown_33 rfl (by rw [hk]; first | done | rfl) rfl
  · refine lv_iload_n hx hb d_Numbers_isKnown_7 rfl (lv_at hl 0 rfl) ?_
    refine ct_cSi (wr := []) (w1 := []) (w2 := []) (r := (bI (k_Numbers_isOfVs p1))) (As := [.int p1]) (rest := []) ⟨hx, hb, hml, hown, hts⟩ (c_Numbers_isOfVs l G tys p1) (va_cwS 1 hts (gdS gd_gd q_281 q_282 q_48 q_283) rfl rfl rfl (by decide +kernel) ⟨Nat.le_of_ble_eq_true rfl, Nat.le_of_ble_eq_true rfl⟩) hE hK hP hD hS hA [] [] [] rfl (by decide) rfl (by decide) (by decide) rfl (by decide) rfl hl.1 rfl (Nat.le_of_ble_eq_true rfl) d_Numbers_isKnown_8 ⟨Nat.zero_le _, Nat.zero_le _⟩ (fun H locs hP hD hS => ?_)
    refine lv_if_ne (tgt := 28) hx hb d_Numbers_isKnown_11 (by decide) (fun c_76 => ?_) (fun c_76 => ?_)
    · refine lv_iconst (v := 1) hx hb d_Numbers_isKnown_28 (by decide) ?_
      refine lv_goto (tgt := 33) hx hb d_Numbers_isKnown_29 (by decide) ?_
      have hk : k_Numbers_isKnown p1 = true := (by rw [k_Numbers_isKnown]; rw [if_pos c_75]; rw [if_neg c_76]; try rfl)
      exact ct_rz hx hb hr hlocks hP hD hK hS d_Numbers_isKnown_33 rfl (by rw [hk]; first | done | rfl) rfl
    · refine lv_iload_n hx hb d_Numbers_isKnown_14 rfl (lv_at hl 0 rfl) ?_
      refine ct_cSi (wr := []) (w1 := []) (w2 := []) (r := (bI (k_Numbers_isOfH p1))) (As := [.int p1]) (rest := []) ⟨hx, hb, hml, hown, hts⟩ (c_Numbers_isOfH l G tys p1) (va_cwS 1 hts (gdS gd_gd q_284 q_285 q_48 q_286) rfl rfl rfl (by decide +kernel) ⟨Nat.le_of_ble_eq_true rfl, Nat.le_of_ble_eq_true rfl⟩) hE hK hP hD hS hA [] [] [] rfl (by decide) rfl (by decide) (by decide) rfl (by decide) rfl hl.1 rfl (Nat.le_of_ble_eq_true rfl) d_Numbers_isKnown_15 ⟨Nat.zero_le _, Nat.zero_le _⟩ (fun H locs hP hD hS => ?_)
      refine lv_if_ne (tgt := 28) hx hb d_Numbers_isKnown_18 (by decide) (fun c_77 => ?_) (fun c_77 => ?_)
      · refine lv_iconst (v := 1) hx hb d_Numbers_isKnown_28 (by decide) ?_
        refine lv_goto (tgt := 33) hx hb d_Numbers_isKnown_29 (by decide) ?_
        have hk : k_Numbers_isKnown p1 = true := (by rw [k_Numbers_isKnown]; rw [if_pos c_75]; rw [if_pos c_76]; rw [if_neg c_77]; try rfl)
        exact ct_rz hx hb hr hlocks hP hD hK hS d_Numbers_isKnown_33 rfl (by rw [hk]; first | done | rfl) rfl
      · refine lv_iload_n hx hb d_Numbers_isKnown_21 rfl (lv_at hl 0 rfl) ?_
        refine ct_cSi (wr := []) (w1 := []) (w2 := []) (r := (bI (k_Numbers_isTime p1))) (As := [.int p1]) (rest := []) ⟨hx, hb, hml, hown, hts⟩ (c_Numbers_isTime l G tys p1) (va_cwS 1 hts (gdS gd_gd q_287 q_288 q_48 q_289) rfl rfl rfl (by decide +kernel) ⟨Nat.le_of_ble_eq_true rfl, Nat.le_of_ble_eq_true rfl⟩) hE hK hP hD hS hA [] [] [] rfl (by decide) rfl (by decide) (by decide) rfl (by decide) rfl hl.1 rfl (Nat.le_of_ble_eq_true rfl) d_Numbers_isKnown_22 ⟨Nat.zero_le _, Nat.zero_le _⟩ (fun H locs hP hD hS => ?_)
        refine lv_if_eq (tgt := 32) hx hb d_Numbers_isKnown_25 (by decide) (fun c_78 => ?_) (fun c_78 => ?_)
        · refine lv_iconst (v := 0) hx hb d_Numbers_isKnown_32 (by decide) ?_
          have hk : k_Numbers_isKnown p1 = false := (by rw [k_Numbers_isKnown]; rw [if_pos c_75]; rw [if_pos c_76]; rw [if_pos c_77]; rw [if_pos c_78]; try rfl)
          exact ct_rz hx hb hr hlocks hP hD hK hS d_Numbers_isKnown_33 rfl (by rw [hk]; first | done | rfl) rfl
        · refine lv_iconst (v := 1) hx hb d_Numbers_isKnown_28 (by decide) ?_
          refine lv_goto (tgt := 33) hx hb d_Numbers_isKnown_29 (by decide) ?_
          have hk : k_Numbers_isKnown p1 = true := (by rw [k_Numbers_isKnown]; rw [if_pos c_75]; rw [if_pos c_76]; rw [if_pos c_77]; rw [if_neg c_78]; try rfl)
          exact ct_rz hx hb hr hlocks hP hD hK hS d_Numbers_isKnown_33 rfl (by rw [hk]; first | done | rfl) rfl
def k_Hyper_replaced (p1 : Int32) (p2 : Int32) (p3 : Int32) : Int32 :=
  ((p1 &&& (p2 ^^^ (-1))) ||| (p3 &&& p2))
set_option maxHeartbeats 4000000 in
set_option maxRecDepth 100000 in
theorem c_Hyper_replaced (l : Launch) (G : gx) (tys : List (ClassId × FieldType)) (p1 : Int32) (p2 : Int32) (p3 : Int32) : ct_I l y_Hyper_replaced ws_Hyper_replaced ({ frames := 0, cells := 0, slots := 0, locals := 0 }) G tys [.int p1, .int p2, .int p3] [] (k_Hyper_replaced p1 p2 p3) [] := by
  refine ct_hI (cc := cc_Hyper_replaced) (maxL := 3) (ret := (some .int)) (by decide) rfl (Nat.le_of_ble_eq_true rfl) ?_
  intro p e s m below meth c A ls hx hb hr hml hts hown hlocks hP hK hD hA hE hS hl
  have hl : lv_has ls 3 [(0, .int p1), (1, .int p2), (2, .int p3)] := hl
  have hown : s.vm.findClass R_Hyper = some m.cls := hown
  refine lv_iload_n hx hb d_Hyper_replaced_0 rfl (lv_at hl 0 rfl) ?_
  refine lv_iload_n hx hb d_Hyper_replaced_1 rfl (lv_at hl 1 rfl) ?_
  refine lv_iconst (v := (-1)) hx hb d_Hyper_replaced_2 (by decide) ?_
  refine lv_ixor hx hb d_Hyper_replaced_3 ?_
  refine lv_iand hx hb d_Hyper_replaced_4 ?_
  refine lv_iload_n hx hb d_Hyper_replaced_5 rfl (lv_at hl 2 rfl) ?_
  refine lv_iload_n hx hb d_Hyper_replaced_6 rfl (lv_at hl 1 rfl) ?_
  refine lv_iand hx hb d_Hyper_replaced_7 ?_
  refine lv_ior hx hb d_Hyper_replaced_8 ?_
  have hk : k_Hyper_replaced p1 p2 p3 = ((p1 &&& (p2 ^^^ (-1))) ||| (p3 &&& p2)) := (by rw [k_Hyper_replaced]; try rfl)
  exact ct_ri hx hb hr hlocks hP hD hK hS d_Hyper_replaced_9 (by rw [hk]; first | done | rfl) rfl
def k_Hyper_write (sy : ob) (p1 : Int32) (p2 : Int32) : ob :=
  if p1 = 1536 then (oi sy 0 (p2 &&& 7340992)) else if p1 = 1538 then (oi sy 1 (p2 &&& 45567)) else if p1 = 1539 then (oi sy 2 (p2 &&& 1092)) else if p1 = 1540 then (oi sy 3 (p2 &&& 1092)) else if p1 = 1603 then (oi sy 4 p2) else if p1 = 1604 then (oi sy 5 (k_Hyper_replaced (sy.1 5) 4 p2)) else if p1 = 1605 then (oi sy 5 (p2 &&& 1092)) else if p1 = 1610 then (oi sy 6 p2) else if p1 = 1664 then (oi sy 7 (p2 &&& (-2143289348))) else sy
set_option maxHeartbeats 4000000 in
set_option maxRecDepth 100000 in
theorem c_Hyper_write (l : Launch) (G : gx) (tys : List (ClassId × FieldType)) (qy : Nat) (sy : ob) (p1 : Int32) (p2 : Int32) : ct_V l y_Hyper_write ws_Hyper_write ({ frames := 1, cells := 0, slots := 0, locals := 22 }) G tys [.ref qy, .int p1, .int p2] [(qy, .inr (2, f_Hyper sy))] [(qy, .inr (2, f_Hyper (k_Hyper_write sy p1 p2)))] := by
  refine ct_hV (cc := cc_Hyper_write) (maxL := 3) (ret := none) (by decide) rfl (Nat.le_of_ble_eq_true rfl) ?_
  intro p e s m below meth c A ls hx hb hr hml hts hown hlocks hP hK hD hA hE hS hl
  have hl : lv_has ls 3 [(0, .ref qy), (1, .int p1), (2, .int p2)] := hl
  have hown : s.vm.findClass R_Hyper = some m.cls := hown
  refine lv_iload_n hx hb d_Hyper_write_0 rfl (lv_at hl 1 rfl) ?_
  by_cases c_92 : p1 = 1536
  · refine lv_lookup (off := 83) (tgt := 84) hx hb d_Hyper_write_1 (by decide) (by rw [c_92]; decide) (by decide) ?_
    refine lv_aload_n hx hb d_Hyper_write_84 rfl (lv_at hl 0 rfl) ?_
    refine lv_iload_n hx hb d_Hyper_write_85 rfl (lv_at hl 2 rfl) ?_
    refine lv_ldc (v := 7340992) hx hb hown (hts _ (gd_sub _ q_327)) d_Hyper_write_86 ?_
    refine lv_iand hx hb d_Hyper_write_88 ?_
    refine va_put (D := G.1) (ci := 2) (v := .int (p2 &&& 7340992)) (ty := .int) (C := R_Hyper) (T := T_Hyper) (N := 8) hx hb hts (fun w h => gd_sub _ (iw_Hyper w h)) ty_Hyper tyok_Hyper nm_Hyper hown hK hP hD hS 0 rfl rfl 0 (by decide) (hts _ (gd_sub _ q_132)) (fun _ h9 => h9) rfl (by decide +kernel) rfl rfl (Nat.le_of_ble_eq_true rfl) d_Hyper_write_89 (fun H locs hP hD hS => ?_)
    have hP : va_P G.1 vwCl [(qy, .inr (2, f_Hyper (oi sy 0 (p2 &&& 7340992))))] H := hP
    have hD : va_D A [(qy, .inr (2, f_Hyper (oi sy 0 (p2 &&& 7340992))))] := hD
    refine lv_goto (tgt := 185) hx hb d_Hyper_write_92 (by decide) ?_
    have hk : k_Hyper_write sy p1 p2 = (oi sy 0 (p2 &&& 7340992)) := (by rw [k_Hyper_write]; rw [if_pos c_92]; try rfl)
    exact ct_rv hx hb hr hlocks hP hD hK hS d_Hyper_write_185 (by rw [hk]; first | done | rfl)
  · by_cases c_93 : p1 = 1538
    · refine lv_lookup (off := 94) (tgt := 95) hx hb d_Hyper_write_1 (by decide) (by rw [c_93]; decide) (by decide) ?_
      refine lv_aload_n hx hb d_Hyper_write_95 rfl (lv_at hl 0 rfl) ?_
      refine lv_iload_n hx hb d_Hyper_write_96 rfl (lv_at hl 2 rfl) ?_
      refine lv_ldc (v := 45567) hx hb hown (hts _ (gd_sub _ q_328)) d_Hyper_write_97 ?_
      refine lv_iand hx hb d_Hyper_write_99 ?_
      refine va_put (D := G.1) (ci := 2) (v := .int (p2 &&& 45567)) (ty := .int) (C := R_Hyper) (T := T_Hyper) (N := 8) hx hb hts (fun w h => gd_sub _ (iw_Hyper w h)) ty_Hyper tyok_Hyper nm_Hyper hown hK hP hD hS 0 rfl rfl 1 (by decide) (hts _ (gd_sub _ q_133)) (fun _ h9 => h9) rfl (by decide +kernel) rfl rfl (Nat.le_of_ble_eq_true rfl) d_Hyper_write_100 (fun H locs hP hD hS => ?_)
      have hP : va_P G.1 vwCl [(qy, .inr (2, f_Hyper (oi sy 1 (p2 &&& 45567))))] H := hP
      have hD : va_D A [(qy, .inr (2, f_Hyper (oi sy 1 (p2 &&& 45567))))] := hD
      refine lv_goto (tgt := 185) hx hb d_Hyper_write_103 (by decide) ?_
      have hk : k_Hyper_write sy p1 p2 = (oi sy 1 (p2 &&& 45567)) := (by rw [k_Hyper_write]; rw [if_neg c_92]; rw [if_pos c_93]; try rfl)
      exact ct_rv hx hb hr hlocks hP hD hK hS d_Hyper_write_185 (by rw [hk]; first | done | rfl)
    · by_cases c_94 : p1 = 1539
      · refine lv_lookup (off := 105) (tgt := 106) hx hb d_Hyper_write_1 (by decide) (by rw [c_94]; decide) (by decide) ?_
        refine lv_aload_n hx hb d_Hyper_write_106 rfl (lv_at hl 0 rfl) ?_
        refine lv_iload_n hx hb d_Hyper_write_107 rfl (lv_at hl 2 rfl) ?_
        refine lv_sipush (v := 1092) hx hb d_Hyper_write_108 (by decide) ?_
        refine lv_iand hx hb d_Hyper_write_111 ?_
        refine va_put (D := G.1) (ci := 2) (v := .int (p2 &&& 1092)) (ty := .int) (C := R_Hyper) (T := T_Hyper) (N := 8) hx hb hts (fun w h => gd_sub _ (iw_Hyper w h)) ty_Hyper tyok_Hyper nm_Hyper hown hK hP hD hS 0 rfl rfl 2 (by decide) (hts _ (gd_sub _ q_135)) (fun _ h9 => h9) rfl (by decide +kernel) rfl rfl (Nat.le_of_ble_eq_true rfl) d_Hyper_write_112 (fun H locs hP hD hS => ?_)
        have hP : va_P G.1 vwCl [(qy, .inr (2, f_Hyper (oi sy 2 (p2 &&& 1092))))] H := hP
        have hD : va_D A [(qy, .inr (2, f_Hyper (oi sy 2 (p2 &&& 1092))))] := hD
        refine lv_goto (tgt := 185) hx hb d_Hyper_write_115 (by decide) ?_
        have hk : k_Hyper_write sy p1 p2 = (oi sy 2 (p2 &&& 1092)) := (by rw [k_Hyper_write]; rw [if_neg c_92]; rw [if_neg c_93]; rw [if_pos c_94]; try rfl)
        exact ct_rv hx hb hr hlocks hP hD hK hS d_Hyper_write_185 (by rw [hk]; first | done | rfl)
      · by_cases c_95 : p1 = 1540
        · refine lv_lookup (off := 117) (tgt := 118) hx hb d_Hyper_write_1 (by decide) (by rw [c_95]; decide) (by decide) ?_
          refine lv_aload_n hx hb d_Hyper_write_118 rfl (lv_at hl 0 rfl) ?_
          refine lv_iload_n hx hb d_Hyper_write_119 rfl (lv_at hl 2 rfl) ?_
          refine lv_sipush (v := 1092) hx hb d_Hyper_write_120 (by decide) ?_
          refine lv_iand hx hb d_Hyper_write_123 ?_
          refine va_put (D := G.1) (ci := 2) (v := .int (p2 &&& 1092)) (ty := .int) (C := R_Hyper) (T := T_Hyper) (N := 8) hx hb hts (fun w h => gd_sub _ (iw_Hyper w h)) ty_Hyper tyok_Hyper nm_Hyper hown hK hP hD hS 0 rfl rfl 3 (by decide) (hts _ (gd_sub _ q_137)) (fun _ h9 => h9) rfl (by decide +kernel) rfl rfl (Nat.le_of_ble_eq_true rfl) d_Hyper_write_124 (fun H locs hP hD hS => ?_)
          have hP : va_P G.1 vwCl [(qy, .inr (2, f_Hyper (oi sy 3 (p2 &&& 1092))))] H := hP
          have hD : va_D A [(qy, .inr (2, f_Hyper (oi sy 3 (p2 &&& 1092))))] := hD
          refine lv_goto (tgt := 185) hx hb d_Hyper_write_127 (by decide) ?_
          have hk : k_Hyper_write sy p1 p2 = (oi sy 3 (p2 &&& 1092)) := (by rw [k_Hyper_write]; rw [if_neg c_92]; rw [if_neg c_93]; rw [if_neg c_94]; rw [if_pos c_95]; try rfl)
          exact ct_rv hx hb hr hlocks hP hD hK hS d_Hyper_write_185 (by rw [hk]; first | done | rfl)
        · by_cases c_96 : p1 = 1603
          · refine lv_lookup (off := 129) (tgt := 130) hx hb d_Hyper_write_1 (by decide) (by rw [c_96]; decide) (by decide) ?_
            refine lv_aload_n hx hb d_Hyper_write_130 rfl (lv_at hl 0 rfl) ?_
            refine lv_iload_n hx hb d_Hyper_write_131 rfl (lv_at hl 2 rfl) ?_
            refine va_put (D := G.1) (ci := 2) (v := .int p2) (ty := .int) (C := R_Hyper) (T := T_Hyper) (N := 8) hx hb hts (fun w h => gd_sub _ (iw_Hyper w h)) ty_Hyper tyok_Hyper nm_Hyper hown hK hP hD hS 0 rfl rfl 4 (by decide) (hts _ (gd_sub _ q_139)) (fun _ h9 => h9) rfl (by decide +kernel) rfl rfl (Nat.le_of_ble_eq_true rfl) d_Hyper_write_132 (fun H locs hP hD hS => ?_)
            have hP : va_P G.1 vwCl [(qy, .inr (2, f_Hyper (oi sy 4 p2)))] H := hP
            have hD : va_D A [(qy, .inr (2, f_Hyper (oi sy 4 p2)))] := hD
            refine lv_goto (tgt := 185) hx hb d_Hyper_write_135 (by decide) ?_
            have hk : k_Hyper_write sy p1 p2 = (oi sy 4 p2) := (by rw [k_Hyper_write]; rw [if_neg c_92]; rw [if_neg c_93]; rw [if_neg c_94]; rw [if_neg c_95]; rw [if_pos c_96]; try rfl)
            exact ct_rv hx hb hr hlocks hP hD hK hS d_Hyper_write_185 (by rw [hk]; first | done | rfl)
          · by_cases c_97 : p1 = 1604
            · refine lv_lookup (off := 137) (tgt := 138) hx hb d_Hyper_write_1 (by decide) (by rw [c_97]; decide) (by decide) ?_
              refine lv_aload_n hx hb d_Hyper_write_138 rfl (lv_at hl 0 rfl) ?_
              refine lv_aload_n hx hb d_Hyper_write_139 rfl (lv_at hl 0 rfl) ?_
              refine va_get (D := G.1) (ci := 2) (v := .int (sy.1 5)) (C := R_Hyper) (T := T_Hyper) (N := 8) hx hb hts (fun w h => gd_sub _ (iw_Hyper w h)) hown hK hP 0 rfl rfl 5 (by decide) (hts _ (gd_sub _ q_141)) (fun _ h9 => h9) rfl d_Hyper_write_140 ?_
              refine lv_iconst (v := 4) hx hb d_Hyper_write_143 (by decide) ?_
              refine lv_iload_n hx hb d_Hyper_write_144 rfl (lv_at hl 2 rfl) ?_
              refine ct_cSi (wr := [(qy, .inr (2, f_Hyper sy))]) (w1 := []) (w2 := [(qy, .inr (2, f_Hyper sy))]) (r := (k_Hyper_replaced (sy.1 5) 4 p2)) (As := [.int (sy.1 5), .int 4, .int p2]) (rest := [.ref qy]) ⟨hx, hb, hml, hown, hts⟩ (c_Hyper_replaced l G tys (sy.1 5) 4 p2) (va_cwS 3 hts (gdS gd_gd q_316 q_317 q_45 q_318) rfl rfl rfl (by decide +kernel) ⟨Nat.le_of_ble_eq_true rfl, Nat.le_of_ble_eq_true rfl⟩) hE hK hP hD hS hA [] [0] [0] rfl (by decide) rfl (by decide) (by decide) rfl (by decide) rfl hl.1 rfl (Nat.le_of_ble_eq_true rfl) d_Hyper_write_145 ⟨Nat.zero_le _, Nat.zero_le _⟩ (fun H locs hP hD hS => ?_)
              refine va_put (D := G.1) (ci := 2) (v := .int (k_Hyper_replaced (sy.1 5) 4 p2)) (ty := .int) (C := R_Hyper) (T := T_Hyper) (N := 8) hx hb hts (fun w h => gd_sub _ (iw_Hyper w h)) ty_Hyper tyok_Hyper nm_Hyper hown hK hP hD hS 0 rfl rfl 5 (by decide) (hts _ (gd_sub _ q_141)) (fun _ h9 => h9) rfl (by decide +kernel) rfl rfl (Nat.le_of_ble_eq_true rfl) d_Hyper_write_148 (fun H locs hP hD hS => ?_)
              have hP : va_P G.1 vwCl [(qy, .inr (2, f_Hyper (oi sy 5 (k_Hyper_replaced (sy.1 5) 4 p2))))] H := hP
              have hD : va_D A [(qy, .inr (2, f_Hyper (oi sy 5 (k_Hyper_replaced (sy.1 5) 4 p2))))] := hD
              refine lv_goto (tgt := 185) hx hb d_Hyper_write_151 (by decide) ?_
              have hk : k_Hyper_write sy p1 p2 = (oi sy 5 (k_Hyper_replaced (sy.1 5) 4 p2)) := (by rw [k_Hyper_write]; rw [if_neg c_92]; rw [if_neg c_93]; rw [if_neg c_94]; rw [if_neg c_95]; rw [if_neg c_96]; rw [if_pos c_97]; try rfl)
              exact ct_rv hx hb hr hlocks hP hD hK hS d_Hyper_write_185 (by rw [hk]; first | done | rfl)
            · by_cases c_98 : p1 = 1605
              · refine lv_lookup (off := 153) (tgt := 154) hx hb d_Hyper_write_1 (by decide) (by rw [c_98]; decide) (by decide) ?_
                refine lv_aload_n hx hb d_Hyper_write_154 rfl (lv_at hl 0 rfl) ?_
                refine lv_iload_n hx hb d_Hyper_write_155 rfl (lv_at hl 2 rfl) ?_
                refine lv_sipush (v := 1092) hx hb d_Hyper_write_156 (by decide) ?_
                refine lv_iand hx hb d_Hyper_write_159 ?_
                refine va_put (D := G.1) (ci := 2) (v := .int (p2 &&& 1092)) (ty := .int) (C := R_Hyper) (T := T_Hyper) (N := 8) hx hb hts (fun w h => gd_sub _ (iw_Hyper w h)) ty_Hyper tyok_Hyper nm_Hyper hown hK hP hD hS 0 rfl rfl 5 (by decide) (hts _ (gd_sub _ q_141)) (fun _ h9 => h9) rfl (by decide +kernel) rfl rfl (Nat.le_of_ble_eq_true rfl) d_Hyper_write_160 (fun H locs hP hD hS => ?_)
                have hP : va_P G.1 vwCl [(qy, .inr (2, f_Hyper (oi sy 5 (p2 &&& 1092))))] H := hP
                have hD : va_D A [(qy, .inr (2, f_Hyper (oi sy 5 (p2 &&& 1092))))] := hD
                refine lv_goto (tgt := 185) hx hb d_Hyper_write_163 (by decide) ?_
                have hk : k_Hyper_write sy p1 p2 = (oi sy 5 (p2 &&& 1092)) := (by rw [k_Hyper_write]; rw [if_neg c_92]; rw [if_neg c_93]; rw [if_neg c_94]; rw [if_neg c_95]; rw [if_neg c_96]; rw [if_neg c_97]; rw [if_pos c_98]; try rfl)
                exact ct_rv hx hb hr hlocks hP hD hK hS d_Hyper_write_185 (by rw [hk]; first | done | rfl)
              · by_cases c_99 : p1 = 1610
                · refine lv_lookup (off := 165) (tgt := 166) hx hb d_Hyper_write_1 (by decide) (by rw [c_99]; decide) (by decide) ?_
                  refine lv_aload_n hx hb d_Hyper_write_166 rfl (lv_at hl 0 rfl) ?_
                  refine lv_iload_n hx hb d_Hyper_write_167 rfl (lv_at hl 2 rfl) ?_
                  refine va_put (D := G.1) (ci := 2) (v := .int p2) (ty := .int) (C := R_Hyper) (T := T_Hyper) (N := 8) hx hb hts (fun w h => gd_sub _ (iw_Hyper w h)) ty_Hyper tyok_Hyper nm_Hyper hown hK hP hD hS 0 rfl rfl 6 (by decide) (hts _ (gd_sub _ q_143)) (fun _ h9 => h9) rfl (by decide +kernel) rfl rfl (Nat.le_of_ble_eq_true rfl) d_Hyper_write_168 (fun H locs hP hD hS => ?_)
                  have hP : va_P G.1 vwCl [(qy, .inr (2, f_Hyper (oi sy 6 p2)))] H := hP
                  have hD : va_D A [(qy, .inr (2, f_Hyper (oi sy 6 p2)))] := hD
                  refine lv_goto (tgt := 185) hx hb d_Hyper_write_171 (by decide) ?_
                  have hk : k_Hyper_write sy p1 p2 = (oi sy 6 p2) := (by rw [k_Hyper_write]; rw [if_neg c_92]; rw [if_neg c_93]; rw [if_neg c_94]; rw [if_neg c_95]; rw [if_neg c_96]; rw [if_neg c_97]; rw [if_neg c_98]; rw [if_pos c_99]; try rfl)
                  exact ct_rv hx hb hr hlocks hP hD hK hS d_Hyper_write_185 (by rw [hk]; first | done | rfl)
                · by_cases c_100 : p1 = 1664
                  · refine lv_lookup (off := 173) (tgt := 174) hx hb d_Hyper_write_1 (by decide) (by rw [c_100]; decide) (by decide) ?_
                    refine lv_aload_n hx hb d_Hyper_write_174 rfl (lv_at hl 0 rfl) ?_
                    refine lv_iload_n hx hb d_Hyper_write_175 rfl (lv_at hl 2 rfl) ?_
                    refine lv_ldc (v := (-2143289348)) hx hb hown (hts _ (gd_sub _ q_329)) d_Hyper_write_176 ?_
                    refine lv_iand hx hb d_Hyper_write_178 ?_
                    refine va_put (D := G.1) (ci := 2) (v := .int (p2 &&& (-2143289348))) (ty := .int) (C := R_Hyper) (T := T_Hyper) (N := 8) hx hb hts (fun w h => gd_sub _ (iw_Hyper w h)) ty_Hyper tyok_Hyper nm_Hyper hown hK hP hD hS 0 rfl rfl 7 (by decide) (hts _ (gd_sub _ q_145)) (fun _ h9 => h9) rfl (by decide +kernel) rfl rfl (Nat.le_of_ble_eq_true rfl) d_Hyper_write_179 (fun H locs hP hD hS => ?_)
                    have hP : va_P G.1 vwCl [(qy, .inr (2, f_Hyper (oi sy 7 (p2 &&& (-2143289348)))))] H := hP
                    have hD : va_D A [(qy, .inr (2, f_Hyper (oi sy 7 (p2 &&& (-2143289348)))))] := hD
                    refine lv_goto (tgt := 185) hx hb d_Hyper_write_182 (by decide) ?_
                    have hk : k_Hyper_write sy p1 p2 = (oi sy 7 (p2 &&& (-2143289348))) := (by rw [k_Hyper_write]; rw [if_neg c_92]; rw [if_neg c_93]; rw [if_neg c_94]; rw [if_neg c_95]; rw [if_neg c_96]; rw [if_neg c_97]; rw [if_neg c_98]; rw [if_neg c_99]; rw [if_pos c_100]; try rfl)
                    exact ct_rv hx hb hr hlocks hP hD hK hS d_Hyper_write_185 (by rw [hk]; first | done | rfl)
                  · refine lv_lookup (off := 184) (tgt := 185) hx hb d_Hyper_write_1 (by decide) ((lv_osw c_92 (by decide)).trans ((lv_osw c_93 (by decide)).trans ((lv_osw c_94 (by decide)).trans ((lv_osw c_95 (by decide)).trans ((lv_osw c_96 (by decide)).trans ((lv_osw c_97 (by decide)).trans ((lv_osw c_98 (by decide)).trans ((lv_osw c_99 (by decide)).trans ((lv_osw c_100 (by decide)).trans rfl))))))))) (by decide) ?_
                    have hk : k_Hyper_write sy p1 p2 = sy := (by rw [k_Hyper_write]; rw [if_neg c_92]; rw [if_neg c_93]; rw [if_neg c_94]; rw [if_neg c_95]; rw [if_neg c_96]; rw [if_neg c_97]; rw [if_neg c_98]; rw [if_neg c_99]; rw [if_neg c_100]; try rfl)
                    exact ct_rv hx hb hr hlocks hP hD hK hS d_Hyper_write_185 (by rw [hk]; first | done | rfl)
def k_Hyper_writeGuestIe (sy : ob) (p1 : Int32) : ob :=
  (oi sy 3 (k_Hyper_replaced (sy.1 3) (sy.1 2) (p1 <<< ((1 : Int32) &&& 31))))
set_option maxHeartbeats 4000000 in
set_option maxRecDepth 100000 in
theorem c_Hyper_writeGuestIe (l : Launch) (G : gx) (tys : List (ClassId × FieldType)) (qy : Nat) (sy : ob) (p1 : Int32) : ct_V l y_Hyper_writeGuestIe ws_Hyper_writeGuestIe ({ frames := 1, cells := 0, slots := 0, locals := 22 }) G tys [.ref qy, .int p1] [(qy, .inr (2, f_Hyper sy))] [(qy, .inr (2, f_Hyper (k_Hyper_writeGuestIe sy p1)))] := by
  refine ct_hV (cc := cc_Hyper_writeGuestIe) (maxL := 2) (ret := none) (by decide) rfl (Nat.le_of_ble_eq_true rfl) ?_
  intro p e s m below meth c A ls hx hb hr hml hts hown hlocks hP hK hD hA hE hS hl
  have hl : lv_has ls 2 [(0, .ref qy), (1, .int p1)] := hl
  have hown : s.vm.findClass R_Hyper = some m.cls := hown
  refine lv_aload_n hx hb d_Hyper_writeGuestIe_0 rfl (lv_at hl 0 rfl) ?_
  refine lv_aload_n hx hb d_Hyper_writeGuestIe_1 rfl (lv_at hl 0 rfl) ?_
  refine va_get (D := G.1) (ci := 2) (v := .int (sy.1 3)) (C := R_Hyper) (T := T_Hyper) (N := 8) hx hb hts (fun w h => gd_sub _ (iw_Hyper w h)) hown hK hP 0 rfl rfl 3 (by decide) (hts _ (gd_sub _ q_137)) (fun _ h9 => h9) rfl d_Hyper_writeGuestIe_2 ?_
  refine lv_aload_n hx hb d_Hyper_writeGuestIe_5 rfl (lv_at hl 0 rfl) ?_
  refine va_get (D := G.1) (ci := 2) (v := .int (sy.1 2)) (C := R_Hyper) (T := T_Hyper) (N := 8) hx hb hts (fun w h => gd_sub _ (iw_Hyper w h)) hown hK hP 0 rfl rfl 2 (by decide) (hts _ (gd_sub _ q_135)) (fun _ h9 => h9) rfl d_Hyper_writeGuestIe_6 ?_
  refine lv_iload_n hx hb d_Hyper_writeGuestIe_9 rfl (lv_at hl 1 rfl) ?_
  refine lv_iconst (v := 1) hx hb d_Hyper_writeGuestIe_10 (by decide) ?_
  refine lv_ishl hx hb d_Hyper_writeGuestIe_11 ?_
  refine ct_cSi (wr := [(qy, .inr (2, f_Hyper sy))]) (w1 := []) (w2 := [(qy, .inr (2, f_Hyper sy))]) (r := (k_Hyper_replaced (sy.1 3) (sy.1 2) (p1 <<< ((1 : Int32) &&& 31)))) (As := [.int (sy.1 3), .int (sy.1 2), .int (p1 <<< ((1 : Int32) &&& 31))]) (rest := [.ref qy]) ⟨hx, hb, hml, hown, hts⟩ (c_Hyper_replaced l G tys (sy.1 3) (sy.1 2) (p1 <<< ((1 : Int32) &&& 31))) (va_cwS 3 hts (gdS gd_gd q_316 q_317 q_45 q_318) rfl rfl rfl (by decide +kernel) ⟨Nat.le_of_ble_eq_true rfl, Nat.le_of_ble_eq_true rfl⟩) hE hK hP hD hS hA [] [0] [0] rfl (by decide) rfl (by decide) (by decide) rfl (by decide) rfl hl.1 rfl (Nat.le_of_ble_eq_true rfl) d_Hyper_writeGuestIe_12 ⟨Nat.zero_le _, Nat.zero_le _⟩ (fun H locs hP hD hS => ?_)
  refine va_put (D := G.1) (ci := 2) (v := .int (k_Hyper_replaced (sy.1 3) (sy.1 2) (p1 <<< ((1 : Int32) &&& 31)))) (ty := .int) (C := R_Hyper) (T := T_Hyper) (N := 8) hx hb hts (fun w h => gd_sub _ (iw_Hyper w h)) ty_Hyper tyok_Hyper nm_Hyper hown hK hP hD hS 0 rfl rfl 3 (by decide) (hts _ (gd_sub _ q_137)) (fun _ h9 => h9) rfl (by decide +kernel) rfl rfl (Nat.le_of_ble_eq_true rfl) d_Hyper_writeGuestIe_15 (fun H locs hP hD hS => ?_)
  have hP : va_P G.1 vwCl [(qy, .inr (2, f_Hyper (oi sy 3 (k_Hyper_replaced (sy.1 3) (sy.1 2) (p1 <<< ((1 : Int32) &&& 31))))))] H := hP
  have hD : va_D A [(qy, .inr (2, f_Hyper (oi sy 3 (k_Hyper_replaced (sy.1 3) (sy.1 2) (p1 <<< ((1 : Int32) &&& 31))))))] := hD
  have hk : k_Hyper_writeGuestIe sy p1 = (oi sy 3 (k_Hyper_replaced (sy.1 3) (sy.1 2) (p1 <<< ((1 : Int32) &&& 31)))) := (by rw [k_Hyper_writeGuestIe]; try rfl)
  exact ct_rv hx hb hr hlocks hP hD hK hS d_Hyper_writeGuestIe_18 (by rw [hk]; first | done | rfl)
def k_Hyper_writeGuestIp (sy : ob) (p1 : Int32) : ob :=
  (oi sy 5 (k_Hyper_replaced (sy.1 5) ((sy.1 2) &&& 4) (p1 <<< ((1 : Int32) &&& 31))))
set_option maxHeartbeats 4000000 in
set_option maxRecDepth 100000 in
theorem c_Hyper_writeGuestIp (l : Launch) (G : gx) (tys : List (ClassId × FieldType)) (qy : Nat) (sy : ob) (p1 : Int32) : ct_V l y_Hyper_writeGuestIp ws_Hyper_writeGuestIp ({ frames := 1, cells := 0, slots := 0, locals := 22 }) G tys [.ref qy, .int p1] [(qy, .inr (2, f_Hyper sy))] [(qy, .inr (2, f_Hyper (k_Hyper_writeGuestIp sy p1)))] := by
  refine ct_hV (cc := cc_Hyper_writeGuestIp) (maxL := 2) (ret := none) (by decide) rfl (Nat.le_of_ble_eq_true rfl) ?_
  intro p e s m below meth c A ls hx hb hr hml hts hown hlocks hP hK hD hA hE hS hl
  have hl : lv_has ls 2 [(0, .ref qy), (1, .int p1)] := hl
  have hown : s.vm.findClass R_Hyper = some m.cls := hown
  refine lv_aload_n hx hb d_Hyper_writeGuestIp_0 rfl (lv_at hl 0 rfl) ?_
  refine lv_aload_n hx hb d_Hyper_writeGuestIp_1 rfl (lv_at hl 0 rfl) ?_
  refine va_get (D := G.1) (ci := 2) (v := .int (sy.1 5)) (C := R_Hyper) (T := T_Hyper) (N := 8) hx hb hts (fun w h => gd_sub _ (iw_Hyper w h)) hown hK hP 0 rfl rfl 5 (by decide) (hts _ (gd_sub _ q_141)) (fun _ h9 => h9) rfl d_Hyper_writeGuestIp_2 ?_
  refine lv_aload_n hx hb d_Hyper_writeGuestIp_5 rfl (lv_at hl 0 rfl) ?_
  refine va_get (D := G.1) (ci := 2) (v := .int (sy.1 2)) (C := R_Hyper) (T := T_Hyper) (N := 8) hx hb hts (fun w h => gd_sub _ (iw_Hyper w h)) hown hK hP 0 rfl rfl 2 (by decide) (hts _ (gd_sub _ q_135)) (fun _ h9 => h9) rfl d_Hyper_writeGuestIp_6 ?_
  refine lv_iconst (v := 4) hx hb d_Hyper_writeGuestIp_9 (by decide) ?_
  refine lv_iand hx hb d_Hyper_writeGuestIp_10 ?_
  refine lv_iload_n hx hb d_Hyper_writeGuestIp_11 rfl (lv_at hl 1 rfl) ?_
  refine lv_iconst (v := 1) hx hb d_Hyper_writeGuestIp_12 (by decide) ?_
  refine lv_ishl hx hb d_Hyper_writeGuestIp_13 ?_
  refine ct_cSi (wr := [(qy, .inr (2, f_Hyper sy))]) (w1 := []) (w2 := [(qy, .inr (2, f_Hyper sy))]) (r := (k_Hyper_replaced (sy.1 5) ((sy.1 2) &&& 4) (p1 <<< ((1 : Int32) &&& 31)))) (As := [.int (sy.1 5), .int ((sy.1 2) &&& 4), .int (p1 <<< ((1 : Int32) &&& 31))]) (rest := [.ref qy]) ⟨hx, hb, hml, hown, hts⟩ (c_Hyper_replaced l G tys (sy.1 5) ((sy.1 2) &&& 4) (p1 <<< ((1 : Int32) &&& 31))) (va_cwS 3 hts (gdS gd_gd q_316 q_317 q_45 q_318) rfl rfl rfl (by decide +kernel) ⟨Nat.le_of_ble_eq_true rfl, Nat.le_of_ble_eq_true rfl⟩) hE hK hP hD hS hA [] [0] [0] rfl (by decide) rfl (by decide) (by decide) rfl (by decide) rfl hl.1 rfl (Nat.le_of_ble_eq_true rfl) d_Hyper_writeGuestIp_14 ⟨Nat.zero_le _, Nat.zero_le _⟩ (fun H locs hP hD hS => ?_)
  refine va_put (D := G.1) (ci := 2) (v := .int (k_Hyper_replaced (sy.1 5) ((sy.1 2) &&& 4) (p1 <<< ((1 : Int32) &&& 31)))) (ty := .int) (C := R_Hyper) (T := T_Hyper) (N := 8) hx hb hts (fun w h => gd_sub _ (iw_Hyper w h)) ty_Hyper tyok_Hyper nm_Hyper hown hK hP hD hS 0 rfl rfl 5 (by decide) (hts _ (gd_sub _ q_141)) (fun _ h9 => h9) rfl (by decide +kernel) rfl rfl (Nat.le_of_ble_eq_true rfl) d_Hyper_writeGuestIp_17 (fun H locs hP hD hS => ?_)
  have hP : va_P G.1 vwCl [(qy, .inr (2, f_Hyper (oi sy 5 (k_Hyper_replaced (sy.1 5) ((sy.1 2) &&& 4) (p1 <<< ((1 : Int32) &&& 31))))))] H := hP
  have hD : va_D A [(qy, .inr (2, f_Hyper (oi sy 5 (k_Hyper_replaced (sy.1 5) ((sy.1 2) &&& 4) (p1 <<< ((1 : Int32) &&& 31))))))] := hD
  have hk : k_Hyper_writeGuestIp sy p1 = (oi sy 5 (k_Hyper_replaced (sy.1 5) ((sy.1 2) &&& 4) (p1 <<< ((1 : Int32) &&& 31)))) := (by rw [k_Hyper_writeGuestIp]; try rfl)
  exact ct_rv hx hb hr hlocks hP hD hK hS d_Hyper_writeGuestIp_20 (by rw [hk]; first | done | rfl)
def k_Bank_write (sb : ob) (p1 : Int32) (p2 : Int32) : ob :=
  if p1 = 0 then (oi sb 0 (p2 &&& 786722)) else if p1 = 5 then (oi sb 1 (p2 &&& (-3))) else if p1 = 64 then (oi sb 2 p2) else if p1 = 65 then (oi sb 3 (p2 &&& (-4))) else if p1 = 66 then (oi sb 4 p2) else if p1 = 67 then (oi sb 5 p2) else if p1 = 128 then (oi sb 6 (p2 &&& (-2143289345))) else sb
set_option maxHeartbeats 4000000 in
set_option maxRecDepth 100000 in
theorem c_Bank_write (l : Launch) (G : gx) (tys : List (ClassId × FieldType)) (qb : Nat) (sb : ob) (p1 : Int32) (p2 : Int32) : ct_V l y_Bank_write ws_Bank_write ({ frames := 0, cells := 0, slots := 0, locals := 0 }) G tys [.ref qb, .int p1, .int p2] [(qb, .inr (0, f_Bank sb))] [(qb, .inr (0, f_Bank (k_Bank_write sb p1 p2)))] := by
  refine ct_hV (cc := cc_Bank_write) (maxL := 3) (ret := none) (by decide) rfl (Nat.le_of_ble_eq_true rfl) ?_
  intro p e s m below meth c A ls hx hb hr hml hts hown hlocks hP hK hD hA hE hS hl
  have hl : lv_has ls 3 [(0, .ref qb), (1, .int p1), (2, .int p2)] := hl
  have hown : s.vm.findClass R_Bank = some m.cls := hown
  refine lv_iload_n hx hb d_Bank_write_0 rfl (lv_at hl 1 rfl) ?_
  by_cases c_113 : p1 = 0
  · refine lv_lookup (off := 67) (tgt := 68) hx hb d_Bank_write_1 (by decide) (by rw [c_113]; decide) (by decide) ?_
    refine lv_aload_n hx hb d_Bank_write_68 rfl (lv_at hl 0 rfl) ?_
    refine lv_iload_n hx hb d_Bank_write_69 rfl (lv_at hl 2 rfl) ?_
    refine lv_ldc (v := 786722) hx hb hown (hts _ (gd_sub _ q_305)) d_Bank_write_70 ?_
    refine lv_iand hx hb d_Bank_write_72 ?_
    refine va_put (D := G.1) (ci := 0) (v := .int (p2 &&& 786722)) (ty := .int) (C := R_Bank) (T := T_Bank) (N := 7) hx hb hts (fun w h => gd_sub _ (iw_Bank w h)) ty_Bank tyok_Bank nm_Bank hown hK hP hD hS 0 rfl rfl 0 (by decide) (hts _ (gd_sub _ q_103)) (fun _ h9 => h9) rfl (by decide +kernel) rfl rfl (Nat.le_of_ble_eq_true rfl) d_Bank_write_73 (fun H locs hP hD hS => ?_)
    have hP : va_P G.1 vwCl [(qb, .inr (0, f_Bank (oi sb 0 (p2 &&& 786722))))] H := hP
    have hD : va_D A [(qb, .inr (0, f_Bank (oi sb 0 (p2 &&& 786722))))] := hD
    refine lv_goto (tgt := 136) hx hb d_Bank_write_76 (by decide) ?_
    have hk : k_Bank_write sb p1 p2 = (oi sb 0 (p2 &&& 786722)) := (by rw [k_Bank_write]; rw [if_pos c_113]; try rfl)
    exact ct_rv hx hb hr hlocks hP hD hK hS d_Bank_write_136 (by rw [hk]; first | done | rfl)
  · by_cases c_114 : p1 = 5
    · refine lv_lookup (off := 78) (tgt := 79) hx hb d_Bank_write_1 (by decide) (by rw [c_114]; decide) (by decide) ?_
      refine lv_aload_n hx hb d_Bank_write_79 rfl (lv_at hl 0 rfl) ?_
      refine lv_iload_n hx hb d_Bank_write_80 rfl (lv_at hl 2 rfl) ?_
      refine lv_bipush (v := (-3)) hx hb d_Bank_write_81 (by decide) ?_
      refine lv_iand hx hb d_Bank_write_83 ?_
      refine va_put (D := G.1) (ci := 0) (v := .int (p2 &&& (-3))) (ty := .int) (C := R_Bank) (T := T_Bank) (N := 7) hx hb hts (fun w h => gd_sub _ (iw_Bank w h)) ty_Bank tyok_Bank nm_Bank hown hK hP hD hS 0 rfl rfl 1 (by decide) (hts _ (gd_sub _ q_104)) (fun _ h9 => h9) rfl (by decide +kernel) rfl rfl (Nat.le_of_ble_eq_true rfl) d_Bank_write_84 (fun H locs hP hD hS => ?_)
      have hP : va_P G.1 vwCl [(qb, .inr (0, f_Bank (oi sb 1 (p2 &&& (-3)))))] H := hP
      have hD : va_D A [(qb, .inr (0, f_Bank (oi sb 1 (p2 &&& (-3)))))] := hD
      refine lv_goto (tgt := 136) hx hb d_Bank_write_87 (by decide) ?_
      have hk : k_Bank_write sb p1 p2 = (oi sb 1 (p2 &&& (-3))) := (by rw [k_Bank_write]; rw [if_neg c_113]; rw [if_pos c_114]; try rfl)
      exact ct_rv hx hb hr hlocks hP hD hK hS d_Bank_write_136 (by rw [hk]; first | done | rfl)
    · by_cases c_115 : p1 = 64
      · refine lv_lookup (off := 89) (tgt := 90) hx hb d_Bank_write_1 (by decide) (by rw [c_115]; decide) (by decide) ?_
        refine lv_aload_n hx hb d_Bank_write_90 rfl (lv_at hl 0 rfl) ?_
        refine lv_iload_n hx hb d_Bank_write_91 rfl (lv_at hl 2 rfl) ?_
        refine va_put (D := G.1) (ci := 0) (v := .int p2) (ty := .int) (C := R_Bank) (T := T_Bank) (N := 7) hx hb hts (fun w h => gd_sub _ (iw_Bank w h)) ty_Bank tyok_Bank nm_Bank hown hK hP hD hS 0 rfl rfl 2 (by decide) (hts _ (gd_sub _ q_105)) (fun _ h9 => h9) rfl (by decide +kernel) rfl rfl (Nat.le_of_ble_eq_true rfl) d_Bank_write_92 (fun H locs hP hD hS => ?_)
        have hP : va_P G.1 vwCl [(qb, .inr (0, f_Bank (oi sb 2 p2)))] H := hP
        have hD : va_D A [(qb, .inr (0, f_Bank (oi sb 2 p2)))] := hD
        refine lv_goto (tgt := 136) hx hb d_Bank_write_95 (by decide) ?_
        have hk : k_Bank_write sb p1 p2 = (oi sb 2 p2) := (by rw [k_Bank_write]; rw [if_neg c_113]; rw [if_neg c_114]; rw [if_pos c_115]; try rfl)
        exact ct_rv hx hb hr hlocks hP hD hK hS d_Bank_write_136 (by rw [hk]; first | done | rfl)
      · by_cases c_116 : p1 = 65
        · refine lv_lookup (off := 97) (tgt := 98) hx hb d_Bank_write_1 (by decide) (by rw [c_116]; decide) (by decide) ?_
          refine lv_aload_n hx hb d_Bank_write_98 rfl (lv_at hl 0 rfl) ?_
          refine lv_iload_n hx hb d_Bank_write_99 rfl (lv_at hl 2 rfl) ?_
          refine lv_bipush (v := (-4)) hx hb d_Bank_write_100 (by decide) ?_
          refine lv_iand hx hb d_Bank_write_102 ?_
          refine va_put (D := G.1) (ci := 0) (v := .int (p2 &&& (-4))) (ty := .int) (C := R_Bank) (T := T_Bank) (N := 7) hx hb hts (fun w h => gd_sub _ (iw_Bank w h)) ty_Bank tyok_Bank nm_Bank hown hK hP hD hS 0 rfl rfl 3 (by decide) (hts _ (gd_sub _ q_106)) (fun _ h9 => h9) rfl (by decide +kernel) rfl rfl (Nat.le_of_ble_eq_true rfl) d_Bank_write_103 (fun H locs hP hD hS => ?_)
          have hP : va_P G.1 vwCl [(qb, .inr (0, f_Bank (oi sb 3 (p2 &&& (-4)))))] H := hP
          have hD : va_D A [(qb, .inr (0, f_Bank (oi sb 3 (p2 &&& (-4)))))] := hD
          refine lv_goto (tgt := 136) hx hb d_Bank_write_106 (by decide) ?_
          have hk : k_Bank_write sb p1 p2 = (oi sb 3 (p2 &&& (-4))) := (by rw [k_Bank_write]; rw [if_neg c_113]; rw [if_neg c_114]; rw [if_neg c_115]; rw [if_pos c_116]; try rfl)
          exact ct_rv hx hb hr hlocks hP hD hK hS d_Bank_write_136 (by rw [hk]; first | done | rfl)
        · by_cases c_117 : p1 = 66
          · refine lv_lookup (off := 108) (tgt := 109) hx hb d_Bank_write_1 (by decide) (by rw [c_117]; decide) (by decide) ?_
            refine lv_aload_n hx hb d_Bank_write_109 rfl (lv_at hl 0 rfl) ?_
            refine lv_iload_n hx hb d_Bank_write_110 rfl (lv_at hl 2 rfl) ?_
            refine va_put (D := G.1) (ci := 0) (v := .int p2) (ty := .int) (C := R_Bank) (T := T_Bank) (N := 7) hx hb hts (fun w h => gd_sub _ (iw_Bank w h)) ty_Bank tyok_Bank nm_Bank hown hK hP hD hS 0 rfl rfl 4 (by decide) (hts _ (gd_sub _ q_108)) (fun _ h9 => h9) rfl (by decide +kernel) rfl rfl (Nat.le_of_ble_eq_true rfl) d_Bank_write_111 (fun H locs hP hD hS => ?_)
            have hP : va_P G.1 vwCl [(qb, .inr (0, f_Bank (oi sb 4 p2)))] H := hP
            have hD : va_D A [(qb, .inr (0, f_Bank (oi sb 4 p2)))] := hD
            refine lv_goto (tgt := 136) hx hb d_Bank_write_114 (by decide) ?_
            have hk : k_Bank_write sb p1 p2 = (oi sb 4 p2) := (by rw [k_Bank_write]; rw [if_neg c_113]; rw [if_neg c_114]; rw [if_neg c_115]; rw [if_neg c_116]; rw [if_pos c_117]; try rfl)
            exact ct_rv hx hb hr hlocks hP hD hK hS d_Bank_write_136 (by rw [hk]; first | done | rfl)
          · by_cases c_118 : p1 = 67
            · refine lv_lookup (off := 116) (tgt := 117) hx hb d_Bank_write_1 (by decide) (by rw [c_118]; decide) (by decide) ?_
              refine lv_aload_n hx hb d_Bank_write_117 rfl (lv_at hl 0 rfl) ?_
              refine lv_iload_n hx hb d_Bank_write_118 rfl (lv_at hl 2 rfl) ?_
              refine va_put (D := G.1) (ci := 0) (v := .int p2) (ty := .int) (C := R_Bank) (T := T_Bank) (N := 7) hx hb hts (fun w h => gd_sub _ (iw_Bank w h)) ty_Bank tyok_Bank nm_Bank hown hK hP hD hS 0 rfl rfl 5 (by decide) (hts _ (gd_sub _ q_109)) (fun _ h9 => h9) rfl (by decide +kernel) rfl rfl (Nat.le_of_ble_eq_true rfl) d_Bank_write_119 (fun H locs hP hD hS => ?_)
              have hP : va_P G.1 vwCl [(qb, .inr (0, f_Bank (oi sb 5 p2)))] H := hP
              have hD : va_D A [(qb, .inr (0, f_Bank (oi sb 5 p2)))] := hD
              refine lv_goto (tgt := 136) hx hb d_Bank_write_122 (by decide) ?_
              have hk : k_Bank_write sb p1 p2 = (oi sb 5 p2) := (by rw [k_Bank_write]; rw [if_neg c_113]; rw [if_neg c_114]; rw [if_neg c_115]; rw [if_neg c_116]; rw [if_neg c_117]; rw [if_pos c_118]; try rfl)
              exact ct_rv hx hb hr hlocks hP hD hK hS d_Bank_write_136 (by rw [hk]; first | done | rfl)
            · by_cases c_119 : p1 = 128
              · refine lv_lookup (off := 124) (tgt := 125) hx hb d_Bank_write_1 (by decide) (by rw [c_119]; decide) (by decide) ?_
                refine lv_aload_n hx hb d_Bank_write_125 rfl (lv_at hl 0 rfl) ?_
                refine lv_iload_n hx hb d_Bank_write_126 rfl (lv_at hl 2 rfl) ?_
                refine lv_ldc (v := (-2143289345)) hx hb hown (hts _ (gd_sub _ q_306)) d_Bank_write_127 ?_
                refine lv_iand hx hb d_Bank_write_129 ?_
                refine va_put (D := G.1) (ci := 0) (v := .int (p2 &&& (-2143289345))) (ty := .int) (C := R_Bank) (T := T_Bank) (N := 7) hx hb hts (fun w h => gd_sub _ (iw_Bank w h)) ty_Bank tyok_Bank nm_Bank hown hK hP hD hS 0 rfl rfl 6 (by decide) (hts _ (gd_sub _ q_110)) (fun _ h9 => h9) rfl (by decide +kernel) rfl rfl (Nat.le_of_ble_eq_true rfl) d_Bank_write_130 (fun H locs hP hD hS => ?_)
                have hP : va_P G.1 vwCl [(qb, .inr (0, f_Bank (oi sb 6 (p2 &&& (-2143289345)))))] H := hP
                have hD : va_D A [(qb, .inr (0, f_Bank (oi sb 6 (p2 &&& (-2143289345)))))] := hD
                refine lv_goto (tgt := 136) hx hb d_Bank_write_133 (by decide) ?_
                have hk : k_Bank_write sb p1 p2 = (oi sb 6 (p2 &&& (-2143289345))) := (by rw [k_Bank_write]; rw [if_neg c_113]; rw [if_neg c_114]; rw [if_neg c_115]; rw [if_neg c_116]; rw [if_neg c_117]; rw [if_neg c_118]; rw [if_pos c_119]; try rfl)
                exact ct_rv hx hb hr hlocks hP hD hK hS d_Bank_write_136 (by rw [hk]; first | done | rfl)
              · refine lv_lookup (off := 135) (tgt := 136) hx hb d_Bank_write_1 (by decide) ((lv_osw c_113 (by decide)).trans ((lv_osw c_114 (by decide)).trans ((lv_osw c_115 (by decide)).trans ((lv_osw c_116 (by decide)).trans ((lv_osw c_117 (by decide)).trans ((lv_osw c_118 (by decide)).trans ((lv_osw c_119 (by decide)).trans rfl))))))) (by decide) ?_
                have hk : k_Bank_write sb p1 p2 = sb := (by rw [k_Bank_write]; rw [if_neg c_113]; rw [if_neg c_114]; rw [if_neg c_115]; rw [if_neg c_116]; rw [if_neg c_117]; rw [if_neg c_118]; rw [if_neg c_119]; try rfl)
                exact ct_rv hx hb hr hlocks hP hD hK hS d_Bank_write_136 (by rw [hk]; first | done | rfl)
def k_Controls_writeGuest (sc : ob) (sgs : ob) (sy : ob) (p1 : Int32) (p2 : Int32) : ob × ob :=
  if p1 = 4 then (sgs, ((k_Hyper_writeGuestIe sy p2))) else if p1 = 68 then (sgs, ((k_Hyper_writeGuestIp sy p2))) else (((k_Bank_write sgs p1 p2)), sy)
set_option maxHeartbeats 4000000 in
set_option maxRecDepth 100000 in
theorem c_Controls_writeGuest (l : Launch) (G : gx) (tys : List (ClassId × FieldType)) (qc qgs qy qo qhs : Nat) (sc : ob) (sgs : ob) (sy : ob) (p1 : Int32) (p2 : Int32) : ct_V l y_Controls_writeGuest ws_Controls_writeGuest ({ frames := 2, cells := 0, slots := 0, locals := 43 }) G tys [.ref qc, .int p1, .int p2] [(qc, .inr (1, f_Controls qo qhs qgs qy sc)), (qgs, .inr (0, f_Bank sgs)), (qy, .inr (2, f_Hyper sy))] [(qc, .inr (1, f_Controls qo qhs qgs qy sc)), (qgs, .inr (0, f_Bank ((k_Controls_writeGuest sc sgs sy p1 p2).1))), (qy, .inr (2, f_Hyper ((k_Controls_writeGuest sc sgs sy p1 p2).2)))] := by
  refine ct_hV (cc := cc_Controls_writeGuest) (maxL := 3) (ret := none) (by decide) rfl (Nat.le_of_ble_eq_true rfl) ?_
  intro p e s m below meth c A ls hx hb hr hml hts hown hlocks hP hK hD hA hE hS hl
  have hl : lv_has ls 3 [(0, .ref qc), (1, .int p1), (2, .int p2)] := hl
  have hown : s.vm.findClass R_Controls = some m.cls := hown
  refine lv_iload_n hx hb d_Controls_writeGuest_0 rfl (lv_at hl 1 rfl) ?_
  by_cases c_121 : p1 = 4
  · refine lv_lookup (off := 27) (tgt := 28) hx hb d_Controls_writeGuest_1 (by decide) (by rw [c_121]; decide) (by decide) ?_
    refine lv_aload_n hx hb d_Controls_writeGuest_28 rfl (lv_at hl 0 rfl) ?_
    refine va_get (D := G.1) (ci := 1) (v := .ref qy) (C := R_Controls) (T := T_Controls) (N := 6) hx hb hts (fun w h => gd_sub _ (iw_Controls w h)) hown hK hP 0 rfl rfl 3 (by decide) (hts _ (gd_sub _ q_169)) (fun _ h9 => h9) rfl d_Controls_writeGuest_29 ?_
    refine lv_iload_n hx hb d_Controls_writeGuest_32 rfl (lv_at hl 2 rfl) ?_
    obtain ⟨sy_122, esy_122⟩ : ∃ z, z = (k_Hyper_writeGuestIe sy p2) := ⟨_, rfl⟩
    have hM := c_Hyper_writeGuestIe l G tys qy sy p2
    rw [← esy_122] at hM
    refine ct_cVv (wr := [(qc, .inr (1, f_Controls qo qhs qgs qy sc)), (qgs, .inr (0, f_Bank sgs))]) (w1 := [(qy, .inr (2, f_Hyper sy_122))]) (w2 := [(qc, .inr (1, f_Controls qo qhs qgs qy sc)), (qgs, .inr (0, f_Bank sgs)), (qy, .inr (2, f_Hyper sy_122))]) (As := [.int p2]) (rest := []) (ci := 2) (q0 := 0) ⟨hx, hb, hml, hown, hts⟩ hM (cwV 1 hts (gdV gd_gd q_312 q_313 q_314 q_45 q_315) rfl rfl rfl (by decide +kernel) ⟨Nat.le_of_ble_eq_true rfl, Nat.le_of_ble_eq_true rfl⟩) hE hK hP hD hS hA [2] [0, 1] [0, 1, 2] rfl (by decide) rfl (by decide) (by decide) rfl (by decide) rfl rfl rfl hl.1 rfl (Nat.le_of_ble_eq_true rfl) d_Controls_writeGuest_33 ⟨Nat.zero_le _, Nat.zero_le _⟩ (fun H locs hP hD hS => ?_)
    refine lv_goto (tgt := 59) hx hb d_Controls_writeGuest_36 (by decide) ?_
    have hk : k_Controls_writeGuest sc sgs sy p1 p2 = (sgs, sy_122) := (by rw [k_Controls_writeGuest]; rw [if_pos c_121]; try rw [← esy_122]; try rfl)
    exact ct_rv hx hb hr hlocks hP hD hK hS d_Controls_writeGuest_59 (by rw [hk]; first | done | rfl)
  · by_cases c_123 : p1 = 68
    · refine lv_lookup (off := 38) (tgt := 39) hx hb d_Controls_writeGuest_1 (by decide) (by rw [c_123]; decide) (by decide) ?_
      refine lv_aload_n hx hb d_Controls_writeGuest_39 rfl (lv_at hl 0 rfl) ?_
      refine va_get (D := G.1) (ci := 1) (v := .ref qy) (C := R_Controls) (T := T_Controls) (N := 6) hx hb hts (fun w h => gd_sub _ (iw_Controls w h)) hown hK hP 0 rfl rfl 3 (by decide) (hts _ (gd_sub _ q_169)) (fun _ h9 => h9) rfl d_Controls_writeGuest_40 ?_
      refine lv_iload_n hx hb d_Controls_writeGuest_43 rfl (lv_at hl 2 rfl) ?_
      obtain ⟨sy_124, esy_124⟩ : ∃ z, z = (k_Hyper_writeGuestIp sy p2) := ⟨_, rfl⟩
      have hM := c_Hyper_writeGuestIp l G tys qy sy p2
      rw [← esy_124] at hM
      refine ct_cVv (wr := [(qc, .inr (1, f_Controls qo qhs qgs qy sc)), (qgs, .inr (0, f_Bank sgs))]) (w1 := [(qy, .inr (2, f_Hyper sy_124))]) (w2 := [(qc, .inr (1, f_Controls qo qhs qgs qy sc)), (qgs, .inr (0, f_Bank sgs)), (qy, .inr (2, f_Hyper sy_124))]) (As := [.int p2]) (rest := []) (ci := 2) (q0 := 0) ⟨hx, hb, hml, hown, hts⟩ hM (cwV 1 hts (gdV gd_gd q_319 q_320 q_321 q_45 q_322) rfl rfl rfl (by decide +kernel) ⟨Nat.le_of_ble_eq_true rfl, Nat.le_of_ble_eq_true rfl⟩) hE hK hP hD hS hA [2] [0, 1] [0, 1, 2] rfl (by decide) rfl (by decide) (by decide) rfl (by decide) rfl rfl rfl hl.1 rfl (Nat.le_of_ble_eq_true rfl) d_Controls_writeGuest_44 ⟨Nat.zero_le _, Nat.zero_le _⟩ (fun H locs hP hD hS => ?_)
      refine lv_goto (tgt := 59) hx hb d_Controls_writeGuest_47 (by decide) ?_
      have hk : k_Controls_writeGuest sc sgs sy p1 p2 = (sgs, sy_124) := (by rw [k_Controls_writeGuest]; rw [if_neg c_121]; rw [if_pos c_123]; try rw [← esy_124]; try rfl)
      exact ct_rv hx hb hr hlocks hP hD hK hS d_Controls_writeGuest_59 (by rw [hk]; first | done | rfl)
    · refine lv_lookup (off := 49) (tgt := 50) hx hb d_Controls_writeGuest_1 (by decide) ((lv_osw c_121 (by decide)).trans ((lv_osw c_123 (by decide)).trans rfl)) (by decide) ?_
      refine lv_aload_n hx hb d_Controls_writeGuest_50 rfl (lv_at hl 0 rfl) ?_
      refine va_get (D := G.1) (ci := 1) (v := .ref qgs) (C := R_Controls) (T := T_Controls) (N := 6) hx hb hts (fun w h => gd_sub _ (iw_Controls w h)) hown hK hP 0 rfl rfl 2 (by decide) (hts _ (gd_sub _ q_167)) (fun _ h9 => h9) rfl d_Controls_writeGuest_51 ?_
      refine lv_iload_n hx hb d_Controls_writeGuest_54 rfl (lv_at hl 1 rfl) ?_
      refine lv_iload_n hx hb d_Controls_writeGuest_55 rfl (lv_at hl 2 rfl) ?_
      obtain ⟨sgs_125, esgs_125⟩ : ∃ z, z = (k_Bank_write sgs p1 p2) := ⟨_, rfl⟩
      have hM := c_Bank_write l G tys qgs sgs p1 p2
      rw [← esgs_125] at hM
      refine ct_cVv (wr := [(qc, .inr (1, f_Controls qo qhs qgs qy sc)), (qy, .inr (2, f_Hyper sy))]) (w1 := [(qgs, .inr (0, f_Bank sgs_125))]) (w2 := [(qc, .inr (1, f_Controls qo qhs qgs qy sc)), (qgs, .inr (0, f_Bank sgs_125)), (qy, .inr (2, f_Hyper sy))]) (As := [.int p1, .int p2]) (rest := []) (ci := 0) (q0 := 0) ⟨hx, hb, hml, hown, hts⟩ hM (cwV 2 hts (gdV gd_gd q_301 q_302 q_303 q_44 q_304) rfl rfl rfl (by decide +kernel) ⟨Nat.le_of_ble_eq_true rfl, Nat.le_of_ble_eq_true rfl⟩) hE hK hP hD hS hA [1] [0, 2] [0, 2, 1] rfl (by decide) rfl (by decide) (by decide) rfl (by decide) rfl rfl rfl hl.1 rfl (Nat.le_of_ble_eq_true rfl) d_Controls_writeGuest_56 ⟨Nat.zero_le _, Nat.zero_le _⟩ (fun H locs hP hD hS => ?_)
      have hk : k_Controls_writeGuest sc sgs sy p1 p2 = (sgs_125, sy) := (by rw [k_Controls_writeGuest]; rw [if_neg c_121]; rw [if_neg c_123]; try rw [← esgs_125]; try rfl)
      exact ct_rv hx hb hr hlocks hP hD hK hS d_Controls_writeGuest_59 (by rw [hk]; first | done | rfl)
def k_Controls_writeHost (sc : ob) (shs : ob) (p1 : Int32) (p2 : Int32) : ob × ob :=
  if p1 = 4 then ((oi sc 4 (p2 &&& 546)), shs) else if p1 = 68 then ((oi sc 5 (p2 &&& 2)), shs) else (sc, ((k_Bank_write shs p1 p2)))
set_option maxHeartbeats 4000000 in
set_option maxRecDepth 100000 in
theorem c_Controls_writeHost (l : Launch) (G : gx) (tys : List (ClassId × FieldType)) (qc qhs qo qgs qy : Nat) (sc : ob) (shs : ob) (p1 : Int32) (p2 : Int32) : ct_V l y_Controls_writeHost ws_Controls_writeHost ({ frames := 1, cells := 0, slots := 0, locals := 22 }) G tys [.ref qc, .int p1, .int p2] [(qc, .inr (1, f_Controls qo qhs qgs qy sc)), (qhs, .inr (0, f_Bank shs))] [(qc, .inr (1, f_Controls qo qhs qgs qy ((k_Controls_writeHost sc shs p1 p2).1))), (qhs, .inr (0, f_Bank ((k_Controls_writeHost sc shs p1 p2).2)))] := by
  refine ct_hV (cc := cc_Controls_writeHost) (maxL := 3) (ret := none) (by decide) rfl (Nat.le_of_ble_eq_true rfl) ?_
  intro p e s m below meth c A ls hx hb hr hml hts hown hlocks hP hK hD hA hE hS hl
  have hl : lv_has ls 3 [(0, .ref qc), (1, .int p1), (2, .int p2)] := hl
  have hown : s.vm.findClass R_Controls = some m.cls := hown
  refine lv_iload_n hx hb d_Controls_writeHost_0 rfl (lv_at hl 1 rfl) ?_
  by_cases c_131 : p1 = 4
  · refine lv_lookup (off := 27) (tgt := 28) hx hb d_Controls_writeHost_1 (by decide) (by rw [c_131]; decide) (by decide) ?_
    refine lv_aload_n hx hb d_Controls_writeHost_28 rfl (lv_at hl 0 rfl) ?_
    refine lv_iload_n hx hb d_Controls_writeHost_29 rfl (lv_at hl 2 rfl) ?_
    refine lv_sipush (v := 546) hx hb d_Controls_writeHost_30 (by decide) ?_
    refine lv_iand hx hb d_Controls_writeHost_33 ?_
    refine va_put (D := G.1) (ci := 1) (v := .int (p2 &&& 546)) (ty := .int) (C := R_Controls) (T := T_Controls) (N := 6) hx hb hts (fun w h => gd_sub _ (iw_Controls w h)) ty_Controls tyok_Controls nm_Controls hown hK hP hD hS 0 rfl rfl 4 (by decide) (hts _ (gd_sub _ q_171)) (fun _ h9 => h9) rfl (by decide +kernel) rfl rfl (Nat.le_of_ble_eq_true rfl) d_Controls_writeHost_34 (fun H locs hP hD hS => ?_)
    have hP : va_P G.1 vwCl [(qc, .inr (1, f_Controls qo qhs qgs qy (oi sc 4 (p2 &&& 546)))), (qhs, .inr (0, f_Bank shs))] H := hP
    have hD : va_D A [(qc, .inr (1, f_Controls qo qhs qgs qy (oi sc 4 (p2 &&& 546)))), (qhs, .inr (0, f_Bank shs))] := hD
    refine lv_goto (tgt := 59) hx hb d_Controls_writeHost_37 (by decide) ?_
    have hk : k_Controls_writeHost sc shs p1 p2 = ((oi sc 4 (p2 &&& 546)), shs) := (by rw [k_Controls_writeHost]; rw [if_pos c_131]; try rfl)
    exact ct_rv hx hb hr hlocks hP hD hK hS d_Controls_writeHost_59 (by rw [hk]; first | done | rfl)
  · by_cases c_132 : p1 = 68
    · refine lv_lookup (off := 39) (tgt := 40) hx hb d_Controls_writeHost_1 (by decide) (by rw [c_132]; decide) (by decide) ?_
      refine lv_aload_n hx hb d_Controls_writeHost_40 rfl (lv_at hl 0 rfl) ?_
      refine lv_iload_n hx hb d_Controls_writeHost_41 rfl (lv_at hl 2 rfl) ?_
      refine lv_iconst (v := 2) hx hb d_Controls_writeHost_42 (by decide) ?_
      refine lv_iand hx hb d_Controls_writeHost_43 ?_
      refine va_put (D := G.1) (ci := 1) (v := .int (p2 &&& 2)) (ty := .int) (C := R_Controls) (T := T_Controls) (N := 6) hx hb hts (fun w h => gd_sub _ (iw_Controls w h)) ty_Controls tyok_Controls nm_Controls hown hK hP hD hS 0 rfl rfl 5 (by decide) (hts _ (gd_sub _ q_172)) (fun _ h9 => h9) rfl (by decide +kernel) rfl rfl (Nat.le_of_ble_eq_true rfl) d_Controls_writeHost_44 (fun H locs hP hD hS => ?_)
      have hP : va_P G.1 vwCl [(qc, .inr (1, f_Controls qo qhs qgs qy (oi sc 5 (p2 &&& 2)))), (qhs, .inr (0, f_Bank shs))] H := hP
      have hD : va_D A [(qc, .inr (1, f_Controls qo qhs qgs qy (oi sc 5 (p2 &&& 2)))), (qhs, .inr (0, f_Bank shs))] := hD
      refine lv_goto (tgt := 59) hx hb d_Controls_writeHost_47 (by decide) ?_
      have hk : k_Controls_writeHost sc shs p1 p2 = ((oi sc 5 (p2 &&& 2)), shs) := (by rw [k_Controls_writeHost]; rw [if_neg c_131]; rw [if_pos c_132]; try rfl)
      exact ct_rv hx hb hr hlocks hP hD hK hS d_Controls_writeHost_59 (by rw [hk]; first | done | rfl)
    · refine lv_lookup (off := 49) (tgt := 50) hx hb d_Controls_writeHost_1 (by decide) ((lv_osw c_131 (by decide)).trans ((lv_osw c_132 (by decide)).trans rfl)) (by decide) ?_
      refine lv_aload_n hx hb d_Controls_writeHost_50 rfl (lv_at hl 0 rfl) ?_
      refine va_get (D := G.1) (ci := 1) (v := .ref qhs) (C := R_Controls) (T := T_Controls) (N := 6) hx hb hts (fun w h => gd_sub _ (iw_Controls w h)) hown hK hP 0 rfl rfl 1 (by decide) (hts _ (gd_sub _ q_165)) (fun _ h9 => h9) rfl d_Controls_writeHost_51 ?_
      refine lv_iload_n hx hb d_Controls_writeHost_54 rfl (lv_at hl 1 rfl) ?_
      refine lv_iload_n hx hb d_Controls_writeHost_55 rfl (lv_at hl 2 rfl) ?_
      obtain ⟨shs_133, eshs_133⟩ : ∃ z, z = (k_Bank_write shs p1 p2) := ⟨_, rfl⟩
      have hM := c_Bank_write l G tys qhs shs p1 p2
      rw [← eshs_133] at hM
      refine ct_cVv (wr := [(qc, .inr (1, f_Controls qo qhs qgs qy sc))]) (w1 := [(qhs, .inr (0, f_Bank shs_133))]) (w2 := [(qc, .inr (1, f_Controls qo qhs qgs qy sc)), (qhs, .inr (0, f_Bank shs_133))]) (As := [.int p1, .int p2]) (rest := []) (ci := 0) (q0 := 0) ⟨hx, hb, hml, hown, hts⟩ hM (cwV 2 hts (gdV gd_gd q_301 q_302 q_303 q_44 q_304) rfl rfl rfl (by decide +kernel) ⟨Nat.le_of_ble_eq_true rfl, Nat.le_of_ble_eq_true rfl⟩) hE hK hP hD hS hA [1] [0] [0, 1] rfl (by decide) rfl (by decide) (by decide) rfl (by decide) rfl rfl rfl hl.1 rfl (Nat.le_of_ble_eq_true rfl) d_Controls_writeHost_56 ⟨Nat.zero_le _, Nat.zero_le _⟩ (fun H locs hP hD hS => ?_)
      have hk : k_Controls_writeHost sc shs p1 p2 = (sc, shs_133) := (by rw [k_Controls_writeHost]; rw [if_neg c_131]; rw [if_neg c_132]; try rw [← eshs_133]; try rfl)
      exact ct_rv hx hb hr hlocks hP hD hK hS d_Controls_writeHost_59 (by rw [hk]; first | done | rfl)
def k_Controls_write (sc : ob) (shs : ob) (sgs : ob) (sy : ob) (p1 : Int32) (p2 : Int32) : ob × ob × ob × ob :=
  if (bI (k_Numbers_isOfS p1)) = 0 then (if (bI (k_Numbers_isOfVs p1)) = 0 then (sc, shs, sgs, ((k_Hyper_write sy p1 p2))) else (sc, shs, ((k_Controls_writeGuest sc sgs sy (k_Numbers_kindOf p1) p2).1), ((k_Controls_writeGuest sc sgs sy (k_Numbers_kindOf p1) p2).2))) else (((k_Controls_writeHost sc shs (k_Numbers_kindOf p1) p2).1), ((k_Controls_writeHost sc shs (k_Numbers_kindOf p1) p2).2), sgs, sy)
set_option maxHeartbeats 4000000 in
set_option maxRecDepth 100000 in
theorem c_Controls_write (l : Launch) (G : gx) (tys : List (ClassId × FieldType)) (qc qhs qgs qy qo : Nat) (sc : ob) (shs : ob) (sgs : ob) (sy : ob) (p1 : Int32) (p2 : Int32) : ct_V l y_Controls_write ws_Controls_write ({ frames := 3, cells := 0, slots := 0, locals := 65 }) G tys [.ref qc, .int p1, .int p2] [(qc, .inr (1, f_Controls qo qhs qgs qy sc)), (qhs, .inr (0, f_Bank shs)), (qgs, .inr (0, f_Bank sgs)), (qy, .inr (2, f_Hyper sy))] [(qc, .inr (1, f_Controls qo qhs qgs qy ((k_Controls_write sc shs sgs sy p1 p2).1))), (qhs, .inr (0, f_Bank ((k_Controls_write sc shs sgs sy p1 p2).2.1))), (qgs, .inr (0, f_Bank ((k_Controls_write sc shs sgs sy p1 p2).2.2.1))), (qy, .inr (2, f_Hyper ((k_Controls_write sc shs sgs sy p1 p2).2.2.2)))] := by
  refine ct_hV (cc := cc_Controls_write) (maxL := 3) (ret := none) (by decide) rfl (Nat.le_of_ble_eq_true rfl) ?_
  intro p e s m below meth c A ls hx hb hr hml hts hown hlocks hP hK hD hA hE hS hl
  have hl : lv_has ls 3 [(0, .ref qc), (1, .int p1), (2, .int p2)] := hl
  have hown : s.vm.findClass R_Controls = some m.cls := hown
  refine lv_iload_n hx hb d_Controls_write_0 rfl (lv_at hl 1 rfl) ?_
  refine ct_cSi (wr := [(qc, .inr (1, f_Controls qo qhs qgs qy sc)), (qhs, .inr (0, f_Bank shs)), (qgs, .inr (0, f_Bank sgs)), (qy, .inr (2, f_Hyper sy))]) (w1 := []) (w2 := [(qc, .inr (1, f_Controls qo qhs qgs qy sc)), (qhs, .inr (0, f_Bank shs)), (qgs, .inr (0, f_Bank sgs)), (qy, .inr (2, f_Hyper sy))]) (r := (bI (k_Numbers_isOfS p1))) (As := [.int p1]) (rest := []) ⟨hx, hb, hml, hown, hts⟩ (c_Numbers_isOfS l G tys p1) (va_cwS 1 hts (gdS gd_gd q_295 q_270 q_48 q_271) rfl rfl rfl (by decide +kernel) ⟨Nat.le_of_ble_eq_true rfl, Nat.le_of_ble_eq_true rfl⟩) hE hK hP hD hS hA [] [0, 1, 2, 3] [0, 1, 2, 3] rfl (by decide) rfl (by decide) (by decide) rfl (by decide) rfl hl.1 rfl (Nat.le_of_ble_eq_true rfl) d_Controls_write_1 ⟨Nat.zero_le _, Nat.zero_le _⟩ (fun H locs hP hD hS => ?_)
  refine lv_if_eq (tgt := 19) hx hb d_Controls_write_4 (by decide) (fun c_136 => ?_) (fun c_136 => ?_)
  · refine lv_iload_n hx hb d_Controls_write_19 rfl (lv_at hl 1 rfl) ?_
    refine ct_cSi (wr := [(qc, .inr (1, f_Controls qo qhs qgs qy sc)), (qhs, .inr (0, f_Bank shs)), (qgs, .inr (0, f_Bank sgs)), (qy, .inr (2, f_Hyper sy))]) (w1 := []) (w2 := [(qc, .inr (1, f_Controls qo qhs qgs qy sc)), (qhs, .inr (0, f_Bank shs)), (qgs, .inr (0, f_Bank sgs)), (qy, .inr (2, f_Hyper sy))]) (r := (bI (k_Numbers_isOfVs p1))) (As := [.int p1]) (rest := []) ⟨hx, hb, hml, hown, hts⟩ (c_Numbers_isOfVs l G tys p1) (va_cwS 1 hts (gdS gd_gd q_307 q_282 q_48 q_283) rfl rfl rfl (by decide +kernel) ⟨Nat.le_of_ble_eq_true rfl, Nat.le_of_ble_eq_true rfl⟩) hE hK hP hD hS hA [] [0, 1, 2, 3] [0, 1, 2, 3] rfl (by decide) rfl (by decide) (by decide) rfl (by decide) rfl hl.1 rfl (Nat.le_of_ble_eq_true rfl) d_Controls_write_20 ⟨Nat.zero_le _, Nat.zero_le _⟩ (fun H locs hP hD hS => ?_)
    refine lv_if_eq (tgt := 38) hx hb d_Controls_write_23 (by decide) (fun c_137 => ?_) (fun c_137 => ?_)
    · refine lv_aload_n hx hb d_Controls_write_38 rfl (lv_at hl 0 rfl) ?_
      refine va_get (D := G.1) (ci := 1) (v := .ref qy) (C := R_Controls) (T := T_Controls) (N := 6) hx hb hts (fun w h => gd_sub _ (iw_Controls w h)) hown hK hP 0 rfl rfl 3 (by decide) (hts _ (gd_sub _ q_169)) (fun _ h9 => h9) rfl d_Controls_write_39 ?_
      refine lv_iload_n hx hb d_Controls_write_42 rfl (lv_at hl 1 rfl) ?_
      refine lv_iload_n hx hb d_Controls_write_43 rfl (lv_at hl 2 rfl) ?_
      obtain ⟨sy_138, esy_138⟩ : ∃ z, z = (k_Hyper_write sy p1 p2) := ⟨_, rfl⟩
      have hM := c_Hyper_write l G tys qy sy p1 p2
      rw [← esy_138] at hM
      refine ct_cVv (wr := [(qc, .inr (1, f_Controls qo qhs qgs qy sc)), (qhs, .inr (0, f_Bank shs)), (qgs, .inr (0, f_Bank sgs))]) (w1 := [(qy, .inr (2, f_Hyper sy_138))]) (w2 := [(qc, .inr (1, f_Controls qo qhs qgs qy sc)), (qhs, .inr (0, f_Bank shs)), (qgs, .inr (0, f_Bank sgs)), (qy, .inr (2, f_Hyper sy_138))]) (As := [.int p1, .int p2]) (rest := []) (ci := 2) (q0 := 0) ⟨hx, hb, hml, hown, hts⟩ hM (cwV 2 hts (gdV gd_gd q_323 q_324 q_325 q_45 q_326) rfl rfl rfl (by decide +kernel) ⟨Nat.le_of_ble_eq_true rfl, Nat.le_of_ble_eq_true rfl⟩) hE hK hP hD hS hA [3] [0, 1, 2] [0, 1, 2, 3] rfl (by decide) rfl (by decide) (by decide) rfl (by decide) rfl rfl rfl hl.1 rfl (Nat.le_of_ble_eq_true rfl) d_Controls_write_44 ⟨Nat.zero_le _, Nat.zero_le _⟩ (fun H locs hP hD hS => ?_)
      have hk : k_Controls_write sc shs sgs sy p1 p2 = (sc, shs, sgs, sy_138) := (by rw [k_Controls_write]; rw [if_pos c_136]; rw [if_pos c_137]; try rw [← esy_138]; try rfl)
      exact ct_rv hx hb hr hlocks hP hD hK hS d_Controls_write_47 (by rw [hk]; first | done | rfl)
    · refine lv_aload_n hx hb d_Controls_write_26 rfl (lv_at hl 0 rfl) ?_
      refine lv_iload_n hx hb d_Controls_write_27 rfl (lv_at hl 1 rfl) ?_
      refine ct_cSi (wr := [(qc, .inr (1, f_Controls qo qhs qgs qy sc)), (qhs, .inr (0, f_Bank shs)), (qgs, .inr (0, f_Bank sgs)), (qy, .inr (2, f_Hyper sy))]) (w1 := []) (w2 := [(qc, .inr (1, f_Controls qo qhs qgs qy sc)), (qhs, .inr (0, f_Bank shs)), (qgs, .inr (0, f_Bank sgs)), (qy, .inr (2, f_Hyper sy))]) (r := (k_Numbers_kindOf p1)) (As := [.int p1]) (rest := [.ref qc]) ⟨hx, hb, hml, hown, hts⟩ (c_Numbers_kindOf l G tys p1) (va_cwS 1 hts (gdS gd_gd q_296 q_276 q_48 q_277) rfl rfl rfl (by decide +kernel) ⟨Nat.le_of_ble_eq_true rfl, Nat.le_of_ble_eq_true rfl⟩) hE hK hP hD hS hA [] [0, 1, 2, 3] [0, 1, 2, 3] rfl (by decide) rfl (by decide) (by decide) rfl (by decide) rfl hl.1 rfl (Nat.le_of_ble_eq_true rfl) d_Controls_write_28 ⟨Nat.zero_le _, Nat.zero_le _⟩ (fun H locs hP hD hS => ?_)
      refine lv_iload_n hx hb d_Controls_write_31 rfl (lv_at hl 2 rfl) ?_
      obtain ⟨sgs_139, esgs_139⟩ : ∃ z, z = (k_Controls_writeGuest sc sgs sy (k_Numbers_kindOf p1) p2).1 := ⟨_, rfl⟩
      obtain ⟨sy_140, esy_140⟩ : ∃ z, z = (k_Controls_writeGuest sc sgs sy (k_Numbers_kindOf p1) p2).2 := ⟨_, rfl⟩
      have hM := c_Controls_writeGuest l G tys qc qgs qy qo qhs sc sgs sy (k_Numbers_kindOf p1) p2
      rw [← esgs_139, ← esy_140] at hM
      refine ct_cVv (wr := [(qhs, .inr (0, f_Bank shs))]) (w1 := [(qc, .inr (1, f_Controls qo qhs qgs qy sc)), (qgs, .inr (0, f_Bank sgs_139)), (qy, .inr (2, f_Hyper sy_140))]) (w2 := [(qc, .inr (1, f_Controls qo qhs qgs qy sc)), (qhs, .inr (0, f_Bank shs)), (qgs, .inr (0, f_Bank sgs_139)), (qy, .inr (2, f_Hyper sy_140))]) (As := [.int (k_Numbers_kindOf p1), .int p2]) (rest := []) (ci := 1) (q0 := 0) ⟨hx, hb, hml, hown, hts⟩ hM (cwV 2 hts (gdV gd_gd q_308 q_309 q_310 q_42 q_311) rfl rfl rfl (by decide +kernel) ⟨Nat.le_of_ble_eq_true rfl, Nat.le_of_ble_eq_true rfl⟩) hE hK hP hD hS hA [0, 2, 3] [1] [1, 0, 2, 3] rfl (by decide) rfl (by decide) (by decide) rfl (by decide) rfl rfl rfl hl.1 rfl (Nat.le_of_ble_eq_true rfl) d_Controls_write_32 ⟨Nat.zero_le _, Nat.zero_le _⟩ (fun H locs hP hD hS => ?_)
      refine lv_goto (tgt := 47) hx hb d_Controls_write_35 (by decide) ?_
      have hk : k_Controls_write sc shs sgs sy p1 p2 = (sc, shs, sgs_139, sy_140) := (by rw [k_Controls_write]; rw [if_pos c_136]; rw [if_neg c_137]; try rw [← esgs_139]; try rw [← esy_140]; try rfl)
      exact ct_rv hx hb hr hlocks hP hD hK hS d_Controls_write_47 (by rw [hk]; first | done | rfl)
  · refine lv_aload_n hx hb d_Controls_write_7 rfl (lv_at hl 0 rfl) ?_
    refine lv_iload_n hx hb d_Controls_write_8 rfl (lv_at hl 1 rfl) ?_
    refine ct_cSi (wr := [(qc, .inr (1, f_Controls qo qhs qgs qy sc)), (qhs, .inr (0, f_Bank shs)), (qgs, .inr (0, f_Bank sgs)), (qy, .inr (2, f_Hyper sy))]) (w1 := []) (w2 := [(qc, .inr (1, f_Controls qo qhs qgs qy sc)), (qhs, .inr (0, f_Bank shs)), (qgs, .inr (0, f_Bank sgs)), (qy, .inr (2, f_Hyper sy))]) (r := (k_Numbers_kindOf p1)) (As := [.int p1]) (rest := [.ref qc]) ⟨hx, hb, hml, hown, hts⟩ (c_Numbers_kindOf l G tys p1) (va_cwS 1 hts (gdS gd_gd q_296 q_276 q_48 q_277) rfl rfl rfl (by decide +kernel) ⟨Nat.le_of_ble_eq_true rfl, Nat.le_of_ble_eq_true rfl⟩) hE hK hP hD hS hA [] [0, 1, 2, 3] [0, 1, 2, 3] rfl (by decide) rfl (by decide) (by decide) rfl (by decide) rfl hl.1 rfl (Nat.le_of_ble_eq_true rfl) d_Controls_write_9 ⟨Nat.zero_le _, Nat.zero_le _⟩ (fun H locs hP hD hS => ?_)
    refine lv_iload_n hx hb d_Controls_write_12 rfl (lv_at hl 2 rfl) ?_
    obtain ⟨sc_141, esc_141⟩ : ∃ z, z = (k_Controls_writeHost sc shs (k_Numbers_kindOf p1) p2).1 := ⟨_, rfl⟩
    obtain ⟨shs_142, eshs_142⟩ : ∃ z, z = (k_Controls_writeHost sc shs (k_Numbers_kindOf p1) p2).2 := ⟨_, rfl⟩
    have hM := c_Controls_writeHost l G tys qc qhs qo qgs qy sc shs (k_Numbers_kindOf p1) p2
    rw [← esc_141, ← eshs_142] at hM
    refine ct_cVv (wr := [(qgs, .inr (0, f_Bank sgs)), (qy, .inr (2, f_Hyper sy))]) (w1 := [(qc, .inr (1, f_Controls qo qhs qgs qy sc_141)), (qhs, .inr (0, f_Bank shs_142))]) (w2 := [(qc, .inr (1, f_Controls qo qhs qgs qy sc_141)), (qhs, .inr (0, f_Bank shs_142)), (qgs, .inr (0, f_Bank sgs)), (qy, .inr (2, f_Hyper sy))]) (As := [.int (k_Numbers_kindOf p1), .int p2]) (rest := []) (ci := 1) (q0 := 0) ⟨hx, hb, hml, hown, hts⟩ hM (cwV 2 hts (gdV gd_gd q_297 q_298 q_299 q_42 q_300) rfl rfl rfl (by decide +kernel) ⟨Nat.le_of_ble_eq_true rfl, Nat.le_of_ble_eq_true rfl⟩) hE hK hP hD hS hA [0, 1] [2, 3] [2, 3, 0, 1] rfl (by decide) rfl (by decide) (by decide) rfl (by decide) rfl rfl rfl hl.1 rfl (Nat.le_of_ble_eq_true rfl) d_Controls_write_13 ⟨Nat.zero_le _, Nat.zero_le _⟩ (fun H locs hP hD hS => ?_)
    refine lv_goto (tgt := 47) hx hb d_Controls_write_16 (by decide) ?_
    have hk : k_Controls_write sc shs sgs sy p1 p2 = (sc_141, shs_142, sgs, sy) := (by rw [k_Controls_write]; rw [if_neg c_136]; try rw [← esc_141]; try rw [← eshs_142]; try rfl)
    exact ct_rv hx hb hr hlocks hP hD hK hS d_Controls_write_47 (by rw [hk]; first | done | rfl)
