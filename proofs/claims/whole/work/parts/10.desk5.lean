def k_Desk_fieldG (p1 : Int32) : Int32 :=
  (ush p1 25)
set_option maxHeartbeats 4000000 in
set_option maxRecDepth 100000 in
theorem c_Desk_fieldG (l : Launch) (G : gx) (tys : List (ClassId × FieldType)) (p1 : Int32) : ct_I l y_Desk_fieldG ws_Desk_fieldG ({ frames := 0, cells := 0, slots := 0, locals := 0 }) G tys [.int p1] [] (k_Desk_fieldG p1) [] := by
  refine ct_hI (cc := cc_Desk_fieldG) (maxL := 1) (ret := (some .int)) (by decide) rfl (Nat.le_of_ble_eq_true rfl) ?_
  intro p e s m below meth c A ls hx hb hr hml hts hown hlocks hP hK hD hA hE hS hl
  have hl : lv_has ls 1 [(0, .int p1)] := hl
  have hown : s.vm.findClass R_Desk = some m.cls := hown
  refine lv_iload_n hx hb d_Desk_fieldG_0 rfl (lv_at hl 0 rfl) ?_
  refine lv_bipush (v := 25) hx hb d_Desk_fieldG_1 (by decide) ?_
  refine lv_iushr (v := (ush p1 25)) hx hb d_Desk_fieldG_3 rfl ?_
  have hk : k_Desk_fieldG p1 = (ush p1 25) := (by rw [k_Desk_fieldG]; try rfl)
  exact ct_ri hx hb hr hlocks hP hD hK hS d_Desk_fieldG_4 (by rw [hk]; first | done | rfl) rfl
def k_Desk_fieldB (p1 : Int32) : Int32 :=
  ((ush p1 20) &&& 31)
set_option maxHeartbeats 4000000 in
set_option maxRecDepth 100000 in
theorem c_Desk_fieldB (l : Launch) (G : gx) (tys : List (ClassId × FieldType)) (p1 : Int32) : ct_I l y_Desk_fieldB ws_Desk_fieldB ({ frames := 0, cells := 0, slots := 0, locals := 0 }) G tys [.int p1] [] (k_Desk_fieldB p1) [] := by
  refine ct_hI (cc := cc_Desk_fieldB) (maxL := 1) (ret := (some .int)) (by decide) rfl (Nat.le_of_ble_eq_true rfl) ?_
  intro p e s m below meth c A ls hx hb hr hml hts hown hlocks hP hK hD hA hE hS hl
  have hl : lv_has ls 1 [(0, .int p1)] := hl
  have hown : s.vm.findClass R_Desk = some m.cls := hown
  refine lv_iload_n hx hb d_Desk_fieldB_0 rfl (lv_at hl 0 rfl) ?_
  refine lv_bipush (v := 20) hx hb d_Desk_fieldB_1 (by decide) ?_
  refine lv_iushr (v := (ush p1 20)) hx hb d_Desk_fieldB_3 rfl ?_
  refine lv_bipush (v := 31) hx hb d_Desk_fieldB_4 (by decide) ?_
  refine lv_iand hx hb d_Desk_fieldB_6 ?_
  have hk : k_Desk_fieldB p1 = ((ush p1 20) &&& 31) := (by rw [k_Desk_fieldB]; try rfl)
  exact ct_ri hx hb hr hlocks hP hD hK hS d_Desk_fieldB_7 (by rw [hk]; first | done | rfl) rfl
def k_Desk_isFarAccess (p1 : Int32) (p2 : Int32) (p3 : Int32) : Bool :=
  if p1 = 48 then (if p2 = 0 then true else (if p2 = 1 then true else false)) else if p1 = 49 then (if p3 = 0 then true else false) else if p1 = 50 then (if p2 = 0 then true else (if p2 = 1 then true else (if p2 = 3 then true else false))) else if p1 = 51 then (if p3 = 0 then true else false) else if p1 = 52 then (if p2 = 0 then true else (if p2 = 3 then true else false)) else if p1 = 53 then (if p3 = 0 then true else false) else false
set_option maxHeartbeats 4000000 in
set_option maxRecDepth 100000 in
theorem c_Desk_isFarAccess (l : Launch) (G : gx) (tys : List (ClassId × FieldType)) (p1 : Int32) (p2 : Int32) (p3 : Int32) : ct_I l y_Desk_isFarAccess ws_Desk_isFarAccess ({ frames := 0, cells := 0, slots := 0, locals := 0 }) G tys [.int p1, .int p2, .int p3] [] (bI (k_Desk_isFarAccess p1 p2 p3)) [] := by
  refine ct_hI (cc := cc_Desk_isFarAccess) (maxL := 3) (ret := (some .boolean)) (by decide) rfl (Nat.le_of_ble_eq_true rfl) ?_
  intro p e s m below meth c A ls hx hb hr hml hts hown hlocks hP hK hD hA hE hS hl
  have hl : lv_has ls 3 [(0, .int p1), (1, .int p2), (2, .int p3)] := hl
  have hown : s.vm.findClass R_Desk = some m.cls := hown
  refine lv_iload_n hx hb d_Desk_isFarAccess_0 rfl (lv_at hl 0 rfl) ?_
  by_cases c_306 : p1 = 48
  · refine lv_tableIn (off := 39) (tgt := 40) hx hb d_Desk_isFarAccess_1 (by rw [c_306]; decide) (by rw [c_306]; decide) (by rw [c_306]; decide) (by decide) ?_
    refine lv_iload_n hx hb d_Desk_isFarAccess_40 rfl (lv_at hl 1 rfl) ?_
    refine lv_if_eq (tgt := 49) hx hb d_Desk_isFarAccess_41 (by decide) (fun c_307 => ?_) (fun c_307 => ?_)
    · refine lv_iconst (v := 1) hx hb d_Desk_isFarAccess_49 (by decide) ?_
      refine lv_goto (tgt := 54) hx hb d_Desk_isFarAccess_50 (by decide) ?_
      have hk : k_Desk_isFarAccess p1 p2 p3 = true := (by rw [k_Desk_isFarAccess]; rw [if_pos c_306]; rw [if_pos c_307]; try rfl)
      exact ct_rz hx hb hr hlocks hP hD hK hS d_Desk_isFarAccess_54 rfl (by rw [hk]; first | done | rfl) rfl
    · refine lv_iload_n hx hb d_Desk_isFarAccess_44 rfl (lv_at hl 1 rfl) ?_
      refine lv_iconst (v := 1) hx hb d_Desk_isFarAccess_45 (by decide) ?_
      refine lv_icmp_ne (tgt := 53) hx hb d_Desk_isFarAccess_46 (by decide) (fun c_308 => ?_) (fun c_308 => ?_)
      · refine lv_iconst (v := 0) hx hb d_Desk_isFarAccess_53 (by decide) ?_
        have hk : k_Desk_isFarAccess p1 p2 p3 = false := (by rw [k_Desk_isFarAccess]; rw [if_pos c_306]; rw [if_neg c_307]; rw [if_neg c_308]; try rfl)
        exact ct_rz hx hb hr hlocks hP hD hK hS d_Desk_isFarAccess_54 rfl (by rw [hk]; first | done | rfl) rfl
      · refine lv_iconst (v := 1) hx hb d_Desk_isFarAccess_49 (by decide) ?_
        refine lv_goto (tgt := 54) hx hb d_Desk_isFarAccess_50 (by decide) ?_
        have hk : k_Desk_isFarAccess p1 p2 p3 = true := (by rw [k_Desk_isFarAccess]; rw [if_pos c_306]; rw [if_neg c_307]; rw [if_pos c_308]; try rfl)
        exact ct_rz hx hb hr hlocks hP hD hK hS d_Desk_isFarAccess_54 rfl (by rw [hk]; first | done | rfl) rfl
  · by_cases c_309 : p1 = 49
    · refine lv_tableIn (off := 89) (tgt := 90) hx hb d_Desk_isFarAccess_1 (by rw [c_309]; decide) (by rw [c_309]; decide) (by rw [c_309]; decide) (by decide) ?_
      refine lv_iload_n hx hb d_Desk_isFarAccess_90 rfl (lv_at hl 2 rfl) ?_
      refine lv_if_ne (tgt := 98) hx hb d_Desk_isFarAccess_91 (by decide) (fun c_310 => ?_) (fun c_310 => ?_)
      · refine lv_iconst (v := 0) hx hb d_Desk_isFarAccess_98 (by decide) ?_
        have hk : k_Desk_isFarAccess p1 p2 p3 = false := (by rw [k_Desk_isFarAccess]; rw [if_neg c_306]; rw [if_pos c_309]; rw [if_neg c_310]; try rfl)
        exact ct_rz hx hb hr hlocks hP hD hK hS d_Desk_isFarAccess_99 rfl (by rw [hk]; first | done | rfl) rfl
      · refine lv_iconst (v := 1) hx hb d_Desk_isFarAccess_94 (by decide) ?_
        refine lv_goto (tgt := 99) hx hb d_Desk_isFarAccess_95 (by decide) ?_
        have hk : k_Desk_isFarAccess p1 p2 p3 = true := (by rw [k_Desk_isFarAccess]; rw [if_neg c_306]; rw [if_pos c_309]; rw [if_pos c_310]; try rfl)
        exact ct_rz hx hb hr hlocks hP hD hK hS d_Desk_isFarAccess_99 rfl (by rw [hk]; first | done | rfl) rfl
    · by_cases c_311 : p1 = 50
      · refine lv_tableIn (off := 54) (tgt := 55) hx hb d_Desk_isFarAccess_1 (by rw [c_311]; decide) (by rw [c_311]; decide) (by rw [c_311]; decide) (by decide) ?_
        refine lv_iload_n hx hb d_Desk_isFarAccess_55 rfl (lv_at hl 1 rfl) ?_
        refine lv_if_eq (tgt := 69) hx hb d_Desk_isFarAccess_56 (by decide) (fun c_312 => ?_) (fun c_312 => ?_)
        · refine lv_iconst (v := 1) hx hb d_Desk_isFarAccess_69 (by decide) ?_
          refine lv_goto (tgt := 74) hx hb d_Desk_isFarAccess_70 (by decide) ?_
          have hk : k_Desk_isFarAccess p1 p2 p3 = true := (by rw [k_Desk_isFarAccess]; rw [if_neg c_306]; rw [if_neg c_309]; rw [if_pos c_311]; rw [if_pos c_312]; try rfl)
          exact ct_rz hx hb hr hlocks hP hD hK hS d_Desk_isFarAccess_74 rfl (by rw [hk]; first | done | rfl) rfl
        · refine lv_iload_n hx hb d_Desk_isFarAccess_59 rfl (lv_at hl 1 rfl) ?_
          refine lv_iconst (v := 1) hx hb d_Desk_isFarAccess_60 (by decide) ?_
          refine lv_icmp_eq (tgt := 69) hx hb d_Desk_isFarAccess_61 (by decide) (fun c_313 => ?_) (fun c_313 => ?_)
          · refine lv_iconst (v := 1) hx hb d_Desk_isFarAccess_69 (by decide) ?_
            refine lv_goto (tgt := 74) hx hb d_Desk_isFarAccess_70 (by decide) ?_
            have hk : k_Desk_isFarAccess p1 p2 p3 = true := (by rw [k_Desk_isFarAccess]; rw [if_neg c_306]; rw [if_neg c_309]; rw [if_pos c_311]; rw [if_neg c_312]; rw [if_pos c_313]; try rfl)
            exact ct_rz hx hb hr hlocks hP hD hK hS d_Desk_isFarAccess_74 rfl (by rw [hk]; first | done | rfl) rfl
          · refine lv_iload_n hx hb d_Desk_isFarAccess_64 rfl (lv_at hl 1 rfl) ?_
            refine lv_iconst (v := 3) hx hb d_Desk_isFarAccess_65 (by decide) ?_
            refine lv_icmp_ne (tgt := 73) hx hb d_Desk_isFarAccess_66 (by decide) (fun c_314 => ?_) (fun c_314 => ?_)
            · refine lv_iconst (v := 0) hx hb d_Desk_isFarAccess_73 (by decide) ?_
              have hk : k_Desk_isFarAccess p1 p2 p3 = false := (by rw [k_Desk_isFarAccess]; rw [if_neg c_306]; rw [if_neg c_309]; rw [if_pos c_311]; rw [if_neg c_312]; rw [if_neg c_313]; rw [if_neg c_314]; try rfl)
              exact ct_rz hx hb hr hlocks hP hD hK hS d_Desk_isFarAccess_74 rfl (by rw [hk]; first | done | rfl) rfl
            · refine lv_iconst (v := 1) hx hb d_Desk_isFarAccess_69 (by decide) ?_
              refine lv_goto (tgt := 74) hx hb d_Desk_isFarAccess_70 (by decide) ?_
              have hk : k_Desk_isFarAccess p1 p2 p3 = true := (by rw [k_Desk_isFarAccess]; rw [if_neg c_306]; rw [if_neg c_309]; rw [if_pos c_311]; rw [if_neg c_312]; rw [if_neg c_313]; rw [if_pos c_314]; try rfl)
              exact ct_rz hx hb hr hlocks hP hD hK hS d_Desk_isFarAccess_74 rfl (by rw [hk]; first | done | rfl) rfl
      · by_cases c_315 : p1 = 51
        · refine lv_tableIn (off := 89) (tgt := 90) hx hb d_Desk_isFarAccess_1 (by rw [c_315]; decide) (by rw [c_315]; decide) (by rw [c_315]; decide) (by decide) ?_
          refine lv_iload_n hx hb d_Desk_isFarAccess_90 rfl (lv_at hl 2 rfl) ?_
          refine lv_if_ne (tgt := 98) hx hb d_Desk_isFarAccess_91 (by decide) (fun c_316 => ?_) (fun c_316 => ?_)
          · refine lv_iconst (v := 0) hx hb d_Desk_isFarAccess_98 (by decide) ?_
            have hk : k_Desk_isFarAccess p1 p2 p3 = false := (by rw [k_Desk_isFarAccess]; rw [if_neg c_306]; rw [if_neg c_309]; rw [if_neg c_311]; rw [if_pos c_315]; rw [if_neg c_316]; try rfl)
            exact ct_rz hx hb hr hlocks hP hD hK hS d_Desk_isFarAccess_99 rfl (by rw [hk]; first | done | rfl) rfl
          · refine lv_iconst (v := 1) hx hb d_Desk_isFarAccess_94 (by decide) ?_
            refine lv_goto (tgt := 99) hx hb d_Desk_isFarAccess_95 (by decide) ?_
            have hk : k_Desk_isFarAccess p1 p2 p3 = true := (by rw [k_Desk_isFarAccess]; rw [if_neg c_306]; rw [if_neg c_309]; rw [if_neg c_311]; rw [if_pos c_315]; rw [if_pos c_316]; try rfl)
            exact ct_rz hx hb hr hlocks hP hD hK hS d_Desk_isFarAccess_99 rfl (by rw [hk]; first | done | rfl) rfl
        · by_cases c_317 : p1 = 52
          · refine lv_tableIn (off := 74) (tgt := 75) hx hb d_Desk_isFarAccess_1 (by rw [c_317]; decide) (by rw [c_317]; decide) (by rw [c_317]; decide) (by decide) ?_
            refine lv_iload_n hx hb d_Desk_isFarAccess_75 rfl (lv_at hl 1 rfl) ?_
            refine lv_if_eq (tgt := 84) hx hb d_Desk_isFarAccess_76 (by decide) (fun c_318 => ?_) (fun c_318 => ?_)
            · refine lv_iconst (v := 1) hx hb d_Desk_isFarAccess_84 (by decide) ?_
              refine lv_goto (tgt := 89) hx hb d_Desk_isFarAccess_85 (by decide) ?_
              have hk : k_Desk_isFarAccess p1 p2 p3 = true := (by rw [k_Desk_isFarAccess]; rw [if_neg c_306]; rw [if_neg c_309]; rw [if_neg c_311]; rw [if_neg c_315]; rw [if_pos c_317]; rw [if_pos c_318]; try rfl)
              exact ct_rz hx hb hr hlocks hP hD hK hS d_Desk_isFarAccess_89 rfl (by rw [hk]; first | done | rfl) rfl
            · refine lv_iload_n hx hb d_Desk_isFarAccess_79 rfl (lv_at hl 1 rfl) ?_
              refine lv_iconst (v := 3) hx hb d_Desk_isFarAccess_80 (by decide) ?_
              refine lv_icmp_ne (tgt := 88) hx hb d_Desk_isFarAccess_81 (by decide) (fun c_319 => ?_) (fun c_319 => ?_)
              · refine lv_iconst (v := 0) hx hb d_Desk_isFarAccess_88 (by decide) ?_
                have hk : k_Desk_isFarAccess p1 p2 p3 = false := (by rw [k_Desk_isFarAccess]; rw [if_neg c_306]; rw [if_neg c_309]; rw [if_neg c_311]; rw [if_neg c_315]; rw [if_pos c_317]; rw [if_neg c_318]; rw [if_neg c_319]; try rfl)
                exact ct_rz hx hb hr hlocks hP hD hK hS d_Desk_isFarAccess_89 rfl (by rw [hk]; first | done | rfl) rfl
              · refine lv_iconst (v := 1) hx hb d_Desk_isFarAccess_84 (by decide) ?_
                refine lv_goto (tgt := 89) hx hb d_Desk_isFarAccess_85 (by decide) ?_
                have hk : k_Desk_isFarAccess p1 p2 p3 = true := (by rw [k_Desk_isFarAccess]; rw [if_neg c_306]; rw [if_neg c_309]; rw [if_neg c_311]; rw [if_neg c_315]; rw [if_pos c_317]; rw [if_neg c_318]; rw [if_pos c_319]; try rfl)
                exact ct_rz hx hb hr hlocks hP hD hK hS d_Desk_isFarAccess_89 rfl (by rw [hk]; first | done | rfl) rfl
          · by_cases c_320 : p1 = 53
            · refine lv_tableIn (off := 89) (tgt := 90) hx hb d_Desk_isFarAccess_1 (by rw [c_320]; decide) (by rw [c_320]; decide) (by rw [c_320]; decide) (by decide) ?_
              refine lv_iload_n hx hb d_Desk_isFarAccess_90 rfl (lv_at hl 2 rfl) ?_
              refine lv_if_ne (tgt := 98) hx hb d_Desk_isFarAccess_91 (by decide) (fun c_321 => ?_) (fun c_321 => ?_)
              · refine lv_iconst (v := 0) hx hb d_Desk_isFarAccess_98 (by decide) ?_
                have hk : k_Desk_isFarAccess p1 p2 p3 = false := (by rw [k_Desk_isFarAccess]; rw [if_neg c_306]; rw [if_neg c_309]; rw [if_neg c_311]; rw [if_neg c_315]; rw [if_neg c_317]; rw [if_pos c_320]; rw [if_neg c_321]; try rfl)
                exact ct_rz hx hb hr hlocks hP hD hK hS d_Desk_isFarAccess_99 rfl (by rw [hk]; first | done | rfl) rfl
              · refine lv_iconst (v := 1) hx hb d_Desk_isFarAccess_94 (by decide) ?_
                refine lv_goto (tgt := 99) hx hb d_Desk_isFarAccess_95 (by decide) ?_
                have hk : k_Desk_isFarAccess p1 p2 p3 = true := (by rw [k_Desk_isFarAccess]; rw [if_neg c_306]; rw [if_neg c_309]; rw [if_neg c_311]; rw [if_neg c_315]; rw [if_neg c_317]; rw [if_pos c_320]; rw [if_pos c_321]; try rfl)
                exact ct_rz hx hb hr hlocks hP hD hK hS d_Desk_isFarAccess_99 rfl (by rw [hk]; first | done | rfl) rfl
            · refine lv_tableOut (tgt := 100) hx hb d_Desk_isFarAccess_1 (by have := lv_neT (a := 48) c_306 (by decide); have := lv_neT (a := 49) c_309 (by decide); have := lv_neT (a := 50) c_311 (by decide); have := lv_neT (a := 51) c_315 (by decide); have := lv_neT (a := 52) c_317 (by decide); have := lv_neT (a := 53) c_320 (by decide); omega) (by decide) ?_
              refine lv_iconst (v := 0) hx hb d_Desk_isFarAccess_100 (by decide) ?_
              have hk : k_Desk_isFarAccess p1 p2 p3 = false := (by rw [k_Desk_isFarAccess]; rw [if_neg c_306]; rw [if_neg c_309]; rw [if_neg c_311]; rw [if_neg c_315]; rw [if_neg c_317]; rw [if_neg c_320]; try rfl)
              exact ct_rz hx hb hr hlocks hP hD hK hS d_Desk_isFarAccess_101 rfl (by rw [hk]; first | done | rfl) rfl
def k_Desk_isVirtual (sx : ob) : Bool :=
  if (sx.1 3) = 2 then true else (if (sx.1 3) = 3 then true else false)
set_option maxHeartbeats 4000000 in
set_option maxRecDepth 100000 in
theorem c_Desk_isVirtual (l : Launch) (G : gx) (tys : List (ClassId × FieldType)) (qx qc qo qr : Nat) (sx : ob) : ct_I l y_Desk_isVirtual ws_Desk_isVirtual ({ frames := 0, cells := 0, slots := 0, locals := 0 }) G tys [.ref qx] [(qx, .inr (5, f_Desk qc qo qr sx))] (bI (k_Desk_isVirtual sx)) [(qx, .inr (5, f_Desk qc qo qr sx))] := by
  refine ct_hI (cc := cc_Desk_isVirtual) (maxL := 1) (ret := (some .boolean)) (by decide) rfl (Nat.le_of_ble_eq_true rfl) ?_
  intro p e s m below meth c A ls hx hb hr hml hts hown hlocks hP hK hD hA hE hS hl
  have hl : lv_has ls 1 [(0, .ref qx)] := hl
  have hown : s.vm.findClass R_Desk = some m.cls := hown
  refine lv_aload_n hx hb d_Desk_isVirtual_0 rfl (lv_at hl 0 rfl) ?_
  refine va_get (D := G.1) (ci := 5) (v := .int (sx.1 3)) (C := R_Desk) (T := T_Desk) (N := 8) hx hb hts (fun w h => gd_sub _ (iw_Desk w h)) hown hK hP 0 rfl rfl 3 (by decide) (hts _ (gd_sub _ q_208)) (fun _ h9 => h9) rfl d_Desk_isVirtual_1 ?_
  refine lv_iconst (v := 2) hx hb d_Desk_isVirtual_4 (by decide) ?_
  refine lv_icmp_eq (tgt := 16) hx hb d_Desk_isVirtual_5 (by decide) (fun c_325 => ?_) (fun c_325 => ?_)
  · refine lv_iconst (v := 1) hx hb d_Desk_isVirtual_16 (by decide) ?_
    refine lv_goto (tgt := 21) hx hb d_Desk_isVirtual_17 (by decide) ?_
    have hk : k_Desk_isVirtual sx = true := (by rw [k_Desk_isVirtual]; rw [if_pos c_325]; try rfl)
    exact ct_rz hx hb hr hlocks hP hD hK hS d_Desk_isVirtual_21 rfl (by rw [hk]; first | done | rfl) rfl
  · refine lv_aload_n hx hb d_Desk_isVirtual_8 rfl (lv_at hl 0 rfl) ?_
    refine va_get (D := G.1) (ci := 5) (v := .int (sx.1 3)) (C := R_Desk) (T := T_Desk) (N := 8) hx hb hts (fun w h => gd_sub _ (iw_Desk w h)) hown hK hP 0 rfl rfl 3 (by decide) (hts _ (gd_sub _ q_208)) (fun _ h9 => h9) rfl d_Desk_isVirtual_9 ?_
    refine lv_iconst (v := 3) hx hb d_Desk_isVirtual_12 (by decide) ?_
    refine lv_icmp_ne (tgt := 20) hx hb d_Desk_isVirtual_13 (by decide) (fun c_326 => ?_) (fun c_326 => ?_)
    · refine lv_iconst (v := 0) hx hb d_Desk_isVirtual_20 (by decide) ?_
      have hk : k_Desk_isVirtual sx = false := (by rw [k_Desk_isVirtual]; rw [if_neg c_325]; rw [if_neg c_326]; try rfl)
      exact ct_rz hx hb hr hlocks hP hD hK hS d_Desk_isVirtual_21 rfl (by rw [hk]; first | done | rfl) rfl
    · refine lv_iconst (v := 1) hx hb d_Desk_isVirtual_16 (by decide) ?_
      refine lv_goto (tgt := 21) hx hb d_Desk_isVirtual_17 (by decide) ?_
      have hk : k_Desk_isVirtual sx = true := (by rw [k_Desk_isVirtual]; rw [if_neg c_325]; rw [if_pos c_326]; try rfl)
      exact ct_rz hx hb hr hlocks hP hD hK hS d_Desk_isVirtual_21 rfl (by rw [hk]; first | done | rfl) rfl
def k_Desk_farAccessWord (sx : ob) (sc : ob) (sy : ob) (p1 : Int32) : Int32 :=
  if (bI (k_Desk_isFarAccess (k_Desk_fieldG p1) (k_Desk_fieldB p1) (k_Desk_fieldD p1))) = 0 then 2 else (if (bI (k_Desk_isVirtual sx)) = 0 then (if (sx.1 3) = 0 then (if (bI (k_Hyper_hasStatus sy 512)) = 0 then 2 else (-2)) else (-2)) else 22)
set_option maxHeartbeats 4000000 in
set_option maxRecDepth 100000 in
theorem c_Desk_farAccessWord (l : Launch) (G : gx) (tys : List (ClassId × FieldType)) (qx qc qy qo qr qhs qgs : Nat) (sx : ob) (sc : ob) (sy : ob) (p1 : Int32) : ct_I l y_Desk_farAccessWord ws_Desk_farAccessWord ({ frames := 1, cells := 0, slots := 0, locals := 22 }) G tys [.ref qx, .int p1] [(qx, .inr (5, f_Desk qc qo qr sx)), (qc, .inr (1, f_Controls qo qhs qgs qy sc)), (qy, .inr (2, f_Hyper sy))] (k_Desk_farAccessWord sx sc sy p1) [(qx, .inr (5, f_Desk qc qo qr sx)), (qc, .inr (1, f_Controls qo qhs qgs qy sc)), (qy, .inr (2, f_Hyper sy))] := by
  refine ct_hI (cc := cc_Desk_farAccessWord) (maxL := 2) (ret := (some .int)) (by decide) rfl (Nat.le_of_ble_eq_true rfl) ?_
  intro p e s m below meth c A ls hx hb hr hml hts hown hlocks hP hK hD hA hE hS hl
  have hl : lv_has ls 2 [(0, .ref qx), (1, .int p1)] := hl
  have hown : s.vm.findClass R_Desk = some m.cls := hown
  refine lv_iload_n hx hb d_Desk_farAccessWord_0 rfl (lv_at hl 1 rfl) ?_
  refine ct_cSi (wr := [(qx, .inr (5, f_Desk qc qo qr sx)), (qc, .inr (1, f_Controls qo qhs qgs qy sc)), (qy, .inr (2, f_Hyper sy))]) (w1 := []) (w2 := [(qx, .inr (5, f_Desk qc qo qr sx)), (qc, .inr (1, f_Controls qo qhs qgs qy sc)), (qy, .inr (2, f_Hyper sy))]) (r := (k_Desk_fieldG p1)) (As := [.int p1]) (rest := []) ⟨hx, hb, hml, hown, hts⟩ (c_Desk_fieldG l G tys p1) (va_cwS 1 hts (gdS gd_gd q_410 q_411 q_41 q_412) rfl rfl rfl (by decide +kernel) ⟨Nat.le_of_ble_eq_true rfl, Nat.le_of_ble_eq_true rfl⟩) hE hK hP hD hS hA [] [0, 1, 2] [0, 1, 2] rfl (by decide) rfl (by decide) (by decide) rfl (by decide) rfl hl.1 rfl (Nat.le_of_ble_eq_true rfl) d_Desk_farAccessWord_1 ⟨Nat.zero_le _, Nat.zero_le _⟩ (fun H locs hP hD hS => ?_)
  refine lv_iload_n hx hb d_Desk_farAccessWord_4 rfl (lv_at hl 1 rfl) ?_
  refine ct_cSi (wr := [(qx, .inr (5, f_Desk qc qo qr sx)), (qc, .inr (1, f_Controls qo qhs qgs qy sc)), (qy, .inr (2, f_Hyper sy))]) (w1 := []) (w2 := [(qx, .inr (5, f_Desk qc qo qr sx)), (qc, .inr (1, f_Controls qo qhs qgs qy sc)), (qy, .inr (2, f_Hyper sy))]) (r := (k_Desk_fieldB p1)) (As := [.int p1]) (rest := [.int (k_Desk_fieldG p1)]) ⟨hx, hb, hml, hown, hts⟩ (c_Desk_fieldB l G tys p1) (va_cwS 1 hts (gdS gd_gd q_481 q_482 q_41 q_483) rfl rfl rfl (by decide +kernel) ⟨Nat.le_of_ble_eq_true rfl, Nat.le_of_ble_eq_true rfl⟩) hE hK hP hD hS hA [] [0, 1, 2] [0, 1, 2] rfl (by decide) rfl (by decide) (by decide) rfl (by decide) rfl hl.1 rfl (Nat.le_of_ble_eq_true rfl) d_Desk_farAccessWord_5 ⟨Nat.zero_le _, Nat.zero_le _⟩ (fun H locs hP hD hS => ?_)
  refine lv_iload_n hx hb d_Desk_farAccessWord_8 rfl (lv_at hl 1 rfl) ?_
  refine ct_cSi (wr := [(qx, .inr (5, f_Desk qc qo qr sx)), (qc, .inr (1, f_Controls qo qhs qgs qy sc)), (qy, .inr (2, f_Hyper sy))]) (w1 := []) (w2 := [(qx, .inr (5, f_Desk qc qo qr sx)), (qc, .inr (1, f_Controls qo qhs qgs qy sc)), (qy, .inr (2, f_Hyper sy))]) (r := (k_Desk_fieldD p1)) (As := [.int p1]) (rest := [.int (k_Desk_fieldB p1), .int (k_Desk_fieldG p1)]) ⟨hx, hb, hml, hown, hts⟩ (c_Desk_fieldD l G tys p1) (va_cwS 1 hts (gdS gd_gd q_407 q_408 q_41 q_409) rfl rfl rfl (by decide +kernel) ⟨Nat.le_of_ble_eq_true rfl, Nat.le_of_ble_eq_true rfl⟩) hE hK hP hD hS hA [] [0, 1, 2] [0, 1, 2] rfl (by decide) rfl (by decide) (by decide) rfl (by decide) rfl hl.1 rfl (Nat.le_of_ble_eq_true rfl) d_Desk_farAccessWord_9 ⟨Nat.zero_le _, Nat.zero_le _⟩ (fun H locs hP hD hS => ?_)
  refine ct_cSi (wr := [(qx, .inr (5, f_Desk qc qo qr sx)), (qc, .inr (1, f_Controls qo qhs qgs qy sc)), (qy, .inr (2, f_Hyper sy))]) (w1 := []) (w2 := [(qx, .inr (5, f_Desk qc qo qr sx)), (qc, .inr (1, f_Controls qo qhs qgs qy sc)), (qy, .inr (2, f_Hyper sy))]) (r := (bI (k_Desk_isFarAccess (k_Desk_fieldG p1) (k_Desk_fieldB p1) (k_Desk_fieldD p1)))) (As := [.int (k_Desk_fieldG p1), .int (k_Desk_fieldB p1), .int (k_Desk_fieldD p1)]) (rest := []) ⟨hx, hb, hml, hown, hts⟩ (c_Desk_isFarAccess l G tys (k_Desk_fieldG p1) (k_Desk_fieldB p1) (k_Desk_fieldD p1)) (va_cwS 3 hts (gdS gd_gd q_484 q_485 q_41 q_486) rfl rfl rfl (by decide +kernel) ⟨Nat.le_of_ble_eq_true rfl, Nat.le_of_ble_eq_true rfl⟩) hE hK hP hD hS hA [] [0, 1, 2] [0, 1, 2] rfl (by decide) rfl (by decide) (by decide) rfl (by decide) rfl hl.1 rfl (Nat.le_of_ble_eq_true rfl) d_Desk_farAccessWord_12 ⟨Nat.zero_le _, Nat.zero_le _⟩ (fun H locs hP hD hS => ?_)
  refine lv_if_ne (tgt := 20) hx hb d_Desk_farAccessWord_15 (by decide) (fun c_330 => ?_) (fun c_330 => ?_)
  · refine lv_aload_n hx hb d_Desk_farAccessWord_20 rfl (lv_at hl 0 rfl) ?_
    refine ct_cVi (wr := [(qc, .inr (1, f_Controls qo qhs qgs qy sc)), (qy, .inr (2, f_Hyper sy))]) (w1 := [(qx, .inr (5, f_Desk qc qo qr sx))]) (w2 := [(qx, .inr (5, f_Desk qc qo qr sx)), (qc, .inr (1, f_Controls qo qhs qgs qy sc)), (qy, .inr (2, f_Hyper sy))]) (r := (bI (k_Desk_isVirtual sx))) (As := []) (rest := []) (ci := 5) (q0 := 0) ⟨hx, hb, hml, hown, hts⟩ (c_Desk_isVirtual l G tys qx qc qo qr sx) (cwV 0 hts (gdV gd_gd q_434 q_436 q_6 q_41 q_437) rfl rfl rfl (by decide +kernel) ⟨Nat.le_of_ble_eq_true rfl, Nat.le_of_ble_eq_true rfl⟩) hE hK hP hD hS hA [0] [1, 2] [2, 0, 1] rfl (by decide) rfl (by decide) (by decide) rfl (by decide) rfl rfl rfl hl.1 rfl (Nat.le_of_ble_eq_true rfl) d_Desk_farAccessWord_21 ⟨Nat.zero_le _, Nat.zero_le _⟩ (fun H locs hP hD hS => ?_)
    refine lv_if_eq (tgt := 30) hx hb d_Desk_farAccessWord_24 (by decide) (fun c_331 => ?_) (fun c_331 => ?_)
    · refine lv_aload_n hx hb d_Desk_farAccessWord_30 rfl (lv_at hl 0 rfl) ?_
      refine va_get (D := G.1) (ci := 5) (v := .int (sx.1 3)) (C := R_Desk) (T := T_Desk) (N := 8) hx hb hts (fun w h => gd_sub _ (iw_Desk w h)) hown hK hP 0 rfl rfl 3 (by decide) (hts _ (gd_sub _ q_208)) (fun _ h9 => h9) rfl d_Desk_farAccessWord_31 ?_
      refine lv_if_ne (tgt := 55) hx hb d_Desk_farAccessWord_34 (by decide) (fun c_332 => ?_) (fun c_332 => ?_)
      · refine lv_bipush (v := (-2)) hx hb d_Desk_farAccessWord_55 (by decide) ?_
        have hk : k_Desk_farAccessWord sx sc sy p1 = (-2) := (by rw [k_Desk_farAccessWord]; rw [if_neg c_330]; rw [if_pos c_331]; rw [if_neg c_332]; try rfl)
        exact ct_ri hx hb hr hlocks hP hD hK hS d_Desk_farAccessWord_57 (by rw [hk]; first | done | rfl) rfl
      · refine lv_aload_n hx hb d_Desk_farAccessWord_37 rfl (lv_at hl 0 rfl) ?_
        refine va_get (D := G.1) (ci := 5) (v := .ref qc) (C := R_Desk) (T := T_Desk) (N := 8) hx hb hts (fun w h => gd_sub _ (iw_Desk w h)) hown hK hP 0 rfl rfl 0 (by decide) (hts _ (gd_sub _ q_205)) (fun _ h9 => h9) rfl d_Desk_farAccessWord_38 ?_
        refine va_get (D := G.1) (ci := 1) (v := .ref qy) (C := R_Controls) (T := T_Controls) (N := 6) hx hb hts (fun w h => gd_sub _ (iw_Controls w h)) hown hK hP 1 rfl rfl 3 (by decide) (hts _ (gd_sub _ q_170)) (fun _ h9 => h9) rfl d_Desk_farAccessWord_41 ?_
        refine lv_sipush (v := 512) hx hb d_Desk_farAccessWord_44 (by decide) ?_
        refine ct_cVi (wr := [(qx, .inr (5, f_Desk qc qo qr sx)), (qc, .inr (1, f_Controls qo qhs qgs qy sc))]) (w1 := [(qy, .inr (2, f_Hyper sy))]) (w2 := [(qx, .inr (5, f_Desk qc qo qr sx)), (qc, .inr (1, f_Controls qo qhs qgs qy sc)), (qy, .inr (2, f_Hyper sy))]) (r := (bI (k_Hyper_hasStatus sy 512))) (As := [.int 512]) (rest := []) (ci := 2) (q0 := 0) ⟨hx, hb, hml, hown, hts⟩ (c_Hyper_hasStatus l G tys qy sy 512) (cwV 1 hts (gdV gd_gd q_422 q_423 q_424 q_45 q_425) rfl rfl rfl (by decide +kernel) ⟨Nat.le_of_ble_eq_true rfl, Nat.le_of_ble_eq_true rfl⟩) hE hK hP hD hS hA [2] [0, 1] [0, 1, 2] rfl (by decide) rfl (by decide) (by decide) rfl (by decide) rfl rfl rfl hl.1 rfl (Nat.le_of_ble_eq_true rfl) d_Desk_farAccessWord_47 ⟨Nat.zero_le _, Nat.zero_le _⟩ (fun H locs hP hD hS => ?_)
        refine lv_if_ne (tgt := 55) hx hb d_Desk_farAccessWord_50 (by decide) (fun c_333 => ?_) (fun c_333 => ?_)
        · refine lv_bipush (v := (-2)) hx hb d_Desk_farAccessWord_55 (by decide) ?_
          have hk : k_Desk_farAccessWord sx sc sy p1 = (-2) := (by rw [k_Desk_farAccessWord]; rw [if_neg c_330]; rw [if_pos c_331]; rw [if_pos c_332]; rw [if_neg c_333]; try rfl)
          exact ct_ri hx hb hr hlocks hP hD hK hS d_Desk_farAccessWord_57 (by rw [hk]; first | done | rfl) rfl
        · refine lv_iconst (v := 2) hx hb d_Desk_farAccessWord_53 (by decide) ?_
          have hk : k_Desk_farAccessWord sx sc sy p1 = 2 := (by rw [k_Desk_farAccessWord]; rw [if_neg c_330]; rw [if_pos c_331]; rw [if_pos c_332]; rw [if_pos c_333]; try rfl)
          exact ct_ri hx hb hr hlocks hP hD hK hS d_Desk_farAccessWord_54 (by rw [hk]; first | done | rfl) rfl
    · refine lv_bipush (v := 22) hx hb d_Desk_farAccessWord_27 (by decide) ?_
      have hk : k_Desk_farAccessWord sx sc sy p1 = 22 := (by rw [k_Desk_farAccessWord]; rw [if_neg c_330]; rw [if_neg c_331]; try rfl)
      exact ct_ri hx hb hr hlocks hP hD hK hS d_Desk_farAccessWord_29 (by rw [hk]; first | done | rfl) rfl
  · refine lv_iconst (v := 2) hx hb d_Desk_farAccessWord_18 (by decide) ?_
    have hk : k_Desk_farAccessWord sx sc sy p1 = 2 := (by rw [k_Desk_farAccessWord]; rw [if_pos c_330]; try rfl)
    exact ct_ri hx hb hr hlocks hP hD hK hS d_Desk_farAccessWord_19 (by rw [hk]; first | done | rfl) rfl
def k_Desk_refusalOfSupervisorWord (sx : ob) (sc : ob) (sy : ob) (p1 : Int32) : Int32 :=
  if (sx.1 3) = 1 then (-1) else if (sx.1 3) = 2 then 22 else if (sx.1 3) = 3 then (if (bI (k_Hyper_hasStatus sy p1)) = 0 then (-1) else 22) else 2
set_option maxHeartbeats 4000000 in
set_option maxRecDepth 100000 in
theorem c_Desk_refusalOfSupervisorWord (l : Launch) (G : gx) (tys : List (ClassId × FieldType)) (qx qc qy qo qr qhs qgs : Nat) (sx : ob) (sc : ob) (sy : ob) (p1 : Int32) : ct_I l y_Desk_refusalOfSupervisorWord ws_Desk_refusalOfSupervisorWord ({ frames := 1, cells := 0, slots := 0, locals := 21 }) G tys [.ref qx, .int p1] [(qx, .inr (5, f_Desk qc qo qr sx)), (qc, .inr (1, f_Controls qo qhs qgs qy sc)), (qy, .inr (2, f_Hyper sy))] (k_Desk_refusalOfSupervisorWord sx sc sy p1) [(qx, .inr (5, f_Desk qc qo qr sx)), (qc, .inr (1, f_Controls qo qhs qgs qy sc)), (qy, .inr (2, f_Hyper sy))] := by
  refine ct_hI (cc := cc_Desk_refusalOfSupervisorWord) (maxL := 2) (ret := (some .int)) (by decide) rfl (Nat.le_of_ble_eq_true rfl) ?_
  intro p e s m below meth c A ls hx hb hr hml hts hown hlocks hP hK hD hA hE hS hl
  have hl : lv_has ls 2 [(0, .ref qx), (1, .int p1)] := hl
  have hown : s.vm.findClass R_Desk = some m.cls := hown
  refine lv_aload_n hx hb d_Desk_refusalOfSupervisorWord_0 rfl (lv_at hl 0 rfl) ?_
  refine va_get (D := G.1) (ci := 5) (v := .int (sx.1 3)) (C := R_Desk) (T := T_Desk) (N := 8) hx hb hts (fun w h => gd_sub _ (iw_Desk w h)) hown hK hP 0 rfl rfl 3 (by decide) (hts _ (gd_sub _ q_208)) (fun _ h9 => h9) rfl d_Desk_refusalOfSupervisorWord_1 ?_
  by_cases c_340 : (sx.1 3) = 1
  · refine lv_tableIn (off := 28) (tgt := 32) hx hb d_Desk_refusalOfSupervisorWord_4 (by rw [c_340]; decide) (by rw [c_340]; decide) (by rw [c_340]; decide) (by decide) ?_
    refine lv_iconst (v := (-1)) hx hb d_Desk_refusalOfSupervisorWord_32 (by decide) ?_
    have hk : k_Desk_refusalOfSupervisorWord sx sc sy p1 = (-1) := (by rw [k_Desk_refusalOfSupervisorWord]; rw [if_pos c_340]; try rfl)
    exact ct_ri hx hb hr hlocks hP hD hK hS d_Desk_refusalOfSupervisorWord_33 (by rw [hk]; first | done | rfl) rfl
  · by_cases c_341 : (sx.1 3) = 2
    · refine lv_tableIn (off := 51) (tgt := 55) hx hb d_Desk_refusalOfSupervisorWord_4 (by rw [c_341]; decide) (by rw [c_341]; decide) (by rw [c_341]; decide) (by decide) ?_
      refine lv_bipush (v := 22) hx hb d_Desk_refusalOfSupervisorWord_55 (by decide) ?_
      have hk : k_Desk_refusalOfSupervisorWord sx sc sy p1 = 22 := (by rw [k_Desk_refusalOfSupervisorWord]; rw [if_neg c_340]; rw [if_pos c_341]; try rfl)
      exact ct_ri hx hb hr hlocks hP hD hK hS d_Desk_refusalOfSupervisorWord_57 (by rw [hk]; first | done | rfl) rfl
    · by_cases c_342 : (sx.1 3) = 3
      · refine lv_tableIn (off := 30) (tgt := 34) hx hb d_Desk_refusalOfSupervisorWord_4 (by rw [c_342]; decide) (by rw [c_342]; decide) (by rw [c_342]; decide) (by decide) ?_
        refine lv_aload_n hx hb d_Desk_refusalOfSupervisorWord_34 rfl (lv_at hl 0 rfl) ?_
        refine va_get (D := G.1) (ci := 5) (v := .ref qc) (C := R_Desk) (T := T_Desk) (N := 8) hx hb hts (fun w h => gd_sub _ (iw_Desk w h)) hown hK hP 0 rfl rfl 0 (by decide) (hts _ (gd_sub _ q_205)) (fun _ h9 => h9) rfl d_Desk_refusalOfSupervisorWord_35 ?_
        refine va_get (D := G.1) (ci := 1) (v := .ref qy) (C := R_Controls) (T := T_Controls) (N := 6) hx hb hts (fun w h => gd_sub _ (iw_Controls w h)) hown hK hP 1 rfl rfl 3 (by decide) (hts _ (gd_sub _ q_170)) (fun _ h9 => h9) rfl d_Desk_refusalOfSupervisorWord_38 ?_
        refine lv_iload_n hx hb d_Desk_refusalOfSupervisorWord_41 rfl (lv_at hl 1 rfl) ?_
        refine ct_cVi (wr := [(qx, .inr (5, f_Desk qc qo qr sx)), (qc, .inr (1, f_Controls qo qhs qgs qy sc))]) (w1 := [(qy, .inr (2, f_Hyper sy))]) (w2 := [(qx, .inr (5, f_Desk qc qo qr sx)), (qc, .inr (1, f_Controls qo qhs qgs qy sc)), (qy, .inr (2, f_Hyper sy))]) (r := (bI (k_Hyper_hasStatus sy p1))) (As := [.int p1]) (rest := []) (ci := 2) (q0 := 0) ⟨hx, hb, hml, hown, hts⟩ (c_Hyper_hasStatus l G tys qy sy p1) (cwV 1 hts (gdV gd_gd q_422 q_423 q_424 q_45 q_425) rfl rfl rfl (by decide +kernel) ⟨Nat.le_of_ble_eq_true rfl, Nat.le_of_ble_eq_true rfl⟩) hE hK hP hD hS hA [2] [0, 1] [0, 1, 2] rfl (by decide) rfl (by decide) (by decide) rfl (by decide) rfl rfl rfl hl.1 rfl (Nat.le_of_ble_eq_true rfl) d_Desk_refusalOfSupervisorWord_42 ⟨Nat.zero_le _, Nat.zero_le _⟩ (fun H locs hP hD hS => ?_)
        refine lv_if_eq (tgt := 53) hx hb d_Desk_refusalOfSupervisorWord_45 (by decide) (fun c_343 => ?_) (fun c_343 => ?_)
        · refine lv_iconst (v := (-1)) hx hb d_Desk_refusalOfSupervisorWord_53 (by decide) ?_
          have hk : k_Desk_refusalOfSupervisorWord sx sc sy p1 = (-1) := (by rw [k_Desk_refusalOfSupervisorWord]; rw [if_neg c_340]; rw [if_neg c_341]; rw [if_pos c_342]; rw [if_pos c_343]; try rfl)
          exact ct_ri hx hb hr hlocks hP hD hK hS d_Desk_refusalOfSupervisorWord_54 (by rw [hk]; first | done | rfl) rfl
        · refine lv_bipush (v := 22) hx hb d_Desk_refusalOfSupervisorWord_48 (by decide) ?_
          refine lv_goto (tgt := 54) hx hb d_Desk_refusalOfSupervisorWord_50 (by decide) ?_
          have hk : k_Desk_refusalOfSupervisorWord sx sc sy p1 = 22 := (by rw [k_Desk_refusalOfSupervisorWord]; rw [if_neg c_340]; rw [if_neg c_341]; rw [if_pos c_342]; rw [if_neg c_343]; try rfl)
          exact ct_ri hx hb hr hlocks hP hD hK hS d_Desk_refusalOfSupervisorWord_54 (by rw [hk]; first | done | rfl) rfl
      · refine lv_tableOut (tgt := 58) hx hb d_Desk_refusalOfSupervisorWord_4 (by have := lv_neT (a := 1) c_340 (by decide); have := lv_neT (a := 2) c_341 (by decide); have := lv_neT (a := 3) c_342 (by decide); omega) (by decide) ?_
        refine lv_iconst (v := 2) hx hb d_Desk_refusalOfSupervisorWord_58 (by decide) ?_
        have hk : k_Desk_refusalOfSupervisorWord sx sc sy p1 = 2 := (by rw [k_Desk_refusalOfSupervisorWord]; rw [if_neg c_340]; rw [if_neg c_341]; rw [if_neg c_342]; try rfl)
        exact ct_ri hx hb hr hlocks hP hD hK hS d_Desk_refusalOfSupervisorWord_59 (by rw [hk]; first | done | rfl) rfl
def k_Desk_nothingUnless (sx : ob) (sc : ob) (sy : ob) (p1 : Int32) : Int32 × ob :=
  if (k_Desk_refusalOfSupervisorWord sx sc sy p1) = (-1) then (((k_Desk_goOn sx).1), ((k_Desk_goOn sx).2)) else ((k_Desk_refusalOfSupervisorWord sx sc sy p1), sx)
set_option maxHeartbeats 4000000 in
set_option maxRecDepth 100000 in
theorem c_Desk_nothingUnless (l : Launch) (G : gx) (tys : List (ClassId × FieldType)) (qx qc qy qo qr qhs qgs : Nat) (sx : ob) (sc : ob) (sy : ob) (p1 : Int32) : ct_I l y_Desk_nothingUnless ws_Desk_nothingUnless ({ frames := 2, cells := 0, slots := 0, locals := 42 }) G tys [.ref qx, .int p1] [(qx, .inr (5, f_Desk qc qo qr sx)), (qc, .inr (1, f_Controls qo qhs qgs qy sc)), (qy, .inr (2, f_Hyper sy))] ((k_Desk_nothingUnless sx sc sy p1).1) [(qx, .inr (5, f_Desk qc qo qr ((k_Desk_nothingUnless sx sc sy p1).2))), (qc, .inr (1, f_Controls qo qhs qgs qy sc)), (qy, .inr (2, f_Hyper sy))] := by
  refine ct_hI (cc := cc_Desk_nothingUnless) (maxL := 3) (ret := (some .int)) (by decide) rfl (Nat.le_of_ble_eq_true rfl) ?_
  intro p e s m below meth c A ls hx hb hr hml hts hown hlocks hP hK hD hA hE hS hl
  have hl : lv_has ls 3 [(0, .ref qx), (1, .int p1)] := hl
  have hown : s.vm.findClass R_Desk = some m.cls := hown
  refine lv_aload_n hx hb d_Desk_nothingUnless_0 rfl (lv_at hl 0 rfl) ?_
  refine lv_iload_n hx hb d_Desk_nothingUnless_1 rfl (lv_at hl 1 rfl) ?_
  refine ct_cVi (wr := []) (w1 := [(qx, .inr (5, f_Desk qc qo qr sx)), (qc, .inr (1, f_Controls qo qhs qgs qy sc)), (qy, .inr (2, f_Hyper sy))]) (w2 := [(qx, .inr (5, f_Desk qc qo qr sx)), (qc, .inr (1, f_Controls qo qhs qgs qy sc)), (qy, .inr (2, f_Hyper sy))]) (r := (k_Desk_refusalOfSupervisorWord sx sc sy p1)) (As := [.int p1]) (rest := []) (ci := 5) (q0 := 0) ⟨hx, hb, hml, hown, hts⟩ (c_Desk_refusalOfSupervisorWord l G tys qx qc qy qo qr qhs qgs sx sc sy p1) (cwV 1 hts (gdV gd_gd q_418 q_420 q_3 q_41 q_421) rfl rfl rfl (by decide +kernel) ⟨Nat.le_of_ble_eq_true rfl, Nat.le_of_ble_eq_true rfl⟩) hE hK hP hD hS hA [0, 1, 2] [] [0, 1, 2] rfl (by decide) rfl (by decide) (by decide) rfl (by decide) rfl rfl rfl hl.1 rfl (Nat.le_of_ble_eq_true rfl) d_Desk_nothingUnless_2 ⟨Nat.zero_le _, Nat.zero_le _⟩ (fun H locs hP hD hS => ?_)
  refine lv_istore_n (lv' := [(2, .int (k_Desk_refusalOfSupervisorWord sx sc sy p1)), (0, .ref qx), (1, .int p1)]) hx hb d_Desk_nothingUnless_5 rfl hl (by decide) rfl (fun ls hl => ?_)
  refine lv_iload_n hx hb d_Desk_nothingUnless_6 rfl (lv_at hl 0 rfl) ?_
  refine lv_iconst (v := (-1)) hx hb d_Desk_nothingUnless_7 (by decide) ?_
  refine lv_icmp_ne (tgt := 18) hx hb d_Desk_nothingUnless_8 (by decide) (fun c_347 => ?_) (fun c_347 => ?_)
  · refine lv_iload_n hx hb d_Desk_nothingUnless_18 rfl (lv_at hl 0 rfl) ?_
    have hk : k_Desk_nothingUnless sx sc sy p1 = ((k_Desk_refusalOfSupervisorWord sx sc sy p1), sx) := (by rw [k_Desk_nothingUnless]; rw [if_neg c_347]; try rfl)
    exact ct_ri hx hb hr hlocks hP hD hK hS d_Desk_nothingUnless_19 (by rw [hk]; first | done | rfl) (by rw [hk]; first | done | rfl)
  · refine lv_aload_n hx hb d_Desk_nothingUnless_11 rfl (lv_at hl 1 rfl) ?_
    obtain ⟨r_348, er_348⟩ : ∃ z, z = (k_Desk_goOn sx).1 := ⟨_, rfl⟩
    obtain ⟨sx_349, esx_349⟩ : ∃ z, z = (k_Desk_goOn sx).2 := ⟨_, rfl⟩
    have hM := c_Desk_goOn l G tys qx qc qo qr sx
    rw [← er_348, ← esx_349] at hM
    refine ct_cVi (wr := [(qc, .inr (1, f_Controls qo qhs qgs qy sc)), (qy, .inr (2, f_Hyper sy))]) (w1 := [(qx, .inr (5, f_Desk qc qo qr sx_349))]) (w2 := [(qx, .inr (5, f_Desk qc qo qr sx_349)), (qc, .inr (1, f_Controls qo qhs qgs qy sc)), (qy, .inr (2, f_Hyper sy))]) (r := r_348) (As := []) (rest := []) (ci := 5) (q0 := 0) ⟨hx, hb, hml, hown, hts⟩ hM (cwV 0 hts (gdV gd_gd q_426 q_428 q_4 q_41 q_429) rfl rfl rfl (by decide +kernel) ⟨Nat.le_of_ble_eq_true rfl, Nat.le_of_ble_eq_true rfl⟩) hE hK hP hD hS hA [0] [1, 2] [2, 0, 1] rfl (by decide) rfl (by decide) (by decide) rfl (by decide) rfl rfl rfl hl.1 rfl (Nat.le_of_ble_eq_true rfl) d_Desk_nothingUnless_12 ⟨Nat.zero_le _, Nat.zero_le _⟩ (fun H locs hP hD hS => ?_)
    refine lv_goto (tgt := 19) hx hb d_Desk_nothingUnless_15 (by decide) ?_
    have hk : k_Desk_nothingUnless sx sc sy p1 = (r_348, sx_349) := (by rw [k_Desk_nothingUnless]; rw [if_pos c_347]; try rw [← er_348]; try rw [← esx_349]; try rfl)
    exact ct_ri hx hb hr hlocks hP hD hK hS d_Desk_nothingUnless_19 (by rw [hk]; first | done | rfl) (by rw [hk]; first | done | rfl)
def k_Desk_hypervisorFence (sx : ob) : Int32 × ob :=
  if (bI (k_Desk_isVirtual sx)) = 0 then (if (sx.1 3) = 0 then (2, sx) else (((k_Desk_goOn sx).1), ((k_Desk_goOn sx).2))) else (22, sx)
set_option maxHeartbeats 4000000 in
set_option maxRecDepth 100000 in
theorem c_Desk_hypervisorFence (l : Launch) (G : gx) (tys : List (ClassId × FieldType)) (qx qc qo qr : Nat) (sx : ob) : ct_I l y_Desk_hypervisorFence ws_Desk_hypervisorFence ({ frames := 1, cells := 0, slots := 0, locals := 20 }) G tys [.ref qx] [(qx, .inr (5, f_Desk qc qo qr sx))] ((k_Desk_hypervisorFence sx).1) [(qx, .inr (5, f_Desk qc qo qr ((k_Desk_hypervisorFence sx).2)))] := by
  refine ct_hI (cc := cc_Desk_hypervisorFence) (maxL := 1) (ret := (some .int)) (by decide) rfl (Nat.le_of_ble_eq_true rfl) ?_
  intro p e s m below meth c A ls hx hb hr hml hts hown hlocks hP hK hD hA hE hS hl
  have hl : lv_has ls 1 [(0, .ref qx)] := hl
  have hown : s.vm.findClass R_Desk = some m.cls := hown
  refine lv_aload_n hx hb d_Desk_hypervisorFence_0 rfl (lv_at hl 0 rfl) ?_
  refine ct_cVi (wr := []) (w1 := [(qx, .inr (5, f_Desk qc qo qr sx))]) (w2 := [(qx, .inr (5, f_Desk qc qo qr sx))]) (r := (bI (k_Desk_isVirtual sx))) (As := []) (rest := []) (ci := 5) (q0 := 0) ⟨hx, hb, hml, hown, hts⟩ (c_Desk_isVirtual l G tys qx qc qo qr sx) (cwV 0 hts (gdV gd_gd q_434 q_436 q_6 q_41 q_437) rfl rfl rfl (by decide +kernel) ⟨Nat.le_of_ble_eq_true rfl, Nat.le_of_ble_eq_true rfl⟩) hE hK hP hD hS hA [0] [] [0] rfl (by decide) rfl (by decide) (by decide) rfl (by decide) rfl rfl rfl hl.1 rfl (Nat.le_of_ble_eq_true rfl) d_Desk_hypervisorFence_1 ⟨Nat.zero_le _, Nat.zero_le _⟩ (fun H locs hP hD hS => ?_)
  refine lv_if_eq (tgt := 10) hx hb d_Desk_hypervisorFence_4 (by decide) (fun c_357 => ?_) (fun c_357 => ?_)
  · refine lv_aload_n hx hb d_Desk_hypervisorFence_10 rfl (lv_at hl 0 rfl) ?_
    refine va_get (D := G.1) (ci := 5) (v := .int (sx.1 3)) (C := R_Desk) (T := T_Desk) (N := 8) hx hb hts (fun w h => gd_sub _ (iw_Desk w h)) hown hK hP 0 rfl rfl 3 (by decide) (hts _ (gd_sub _ q_208)) (fun _ h9 => h9) rfl d_Desk_hypervisorFence_11 ?_
    refine lv_if_ne (tgt := 21) hx hb d_Desk_hypervisorFence_14 (by decide) (fun c_358 => ?_) (fun c_358 => ?_)
    · refine lv_aload_n hx hb d_Desk_hypervisorFence_21 rfl (lv_at hl 0 rfl) ?_
      obtain ⟨r_359, er_359⟩ : ∃ z, z = (k_Desk_goOn sx).1 := ⟨_, rfl⟩
      obtain ⟨sx_360, esx_360⟩ : ∃ z, z = (k_Desk_goOn sx).2 := ⟨_, rfl⟩
      have hM := c_Desk_goOn l G tys qx qc qo qr sx
      rw [← er_359, ← esx_360] at hM
      refine ct_cVi (wr := []) (w1 := [(qx, .inr (5, f_Desk qc qo qr sx_360))]) (w2 := [(qx, .inr (5, f_Desk qc qo qr sx_360))]) (r := r_359) (As := []) (rest := []) (ci := 5) (q0 := 0) ⟨hx, hb, hml, hown, hts⟩ hM (cwV 0 hts (gdV gd_gd q_426 q_428 q_4 q_41 q_429) rfl rfl rfl (by decide +kernel) ⟨Nat.le_of_ble_eq_true rfl, Nat.le_of_ble_eq_true rfl⟩) hE hK hP hD hS hA [0] [] [0] rfl (by decide) rfl (by decide) (by decide) rfl (by decide) rfl rfl rfl hl.1 rfl (Nat.le_of_ble_eq_true rfl) d_Desk_hypervisorFence_22 ⟨Nat.zero_le _, Nat.zero_le _⟩ (fun H locs hP hD hS => ?_)
      have hk : k_Desk_hypervisorFence sx = (r_359, sx_360) := (by rw [k_Desk_hypervisorFence]; rw [if_pos c_357]; rw [if_neg c_358]; try rw [← er_359]; try rw [← esx_360]; try rfl)
      exact ct_ri hx hb hr hlocks hP hD hK hS d_Desk_hypervisorFence_25 (by rw [hk]; first | done | rfl) (by rw [hk]; first | done | rfl)
    · refine lv_iconst (v := 2) hx hb d_Desk_hypervisorFence_17 (by decide) ?_
      refine lv_goto (tgt := 25) hx hb d_Desk_hypervisorFence_18 (by decide) ?_
      have hk : k_Desk_hypervisorFence sx = (2, sx) := (by rw [k_Desk_hypervisorFence]; rw [if_pos c_357]; rw [if_pos c_358]; try rfl)
      exact ct_ri hx hb hr hlocks hP hD hK hS d_Desk_hypervisorFence_25 (by rw [hk]; first | done | rfl) (by rw [hk]; first | done | rfl)
  · refine lv_bipush (v := 22) hx hb d_Desk_hypervisorFence_7 (by decide) ?_
    have hk : k_Desk_hypervisorFence sx = (22, sx) := (by rw [k_Desk_hypervisorFence]; rw [if_neg c_357]; try rfl)
    exact ct_ri hx hb hr hlocks hP hD hK hS d_Desk_hypervisorFence_9 (by rw [hk]; first | done | rfl) (by rw [hk]; first | done | rfl)
def k_Outside_setAlarm (so : ob) (p1 : Int32) (p2 : Int32) : ob :=
  if 0 ≤ p2 then (ol so 3 ((lsh p2.toInt64 32) ||| (p1.toInt64 &&& 4294967295))) else (ol so 3 9223372036854775807)
set_option maxHeartbeats 4000000 in
set_option maxRecDepth 100000 in
theorem c_Outside_setAlarm (l : Launch) (G : gx) (tys : List (ClassId × FieldType)) (qo qa : Nat) (so : ob) (p1 : Int32) (p2 : Int32) : ct_V l y_Outside_setAlarm ws_Outside_setAlarm ({ frames := 0, cells := 0, slots := 0, locals := 0 }) G tys [.ref qo, .int p1, .int p2] [(qo, .inr (3, f_Outside qa so))] [(qo, .inr (3, f_Outside qa (k_Outside_setAlarm so p1 p2)))] := by
  refine ct_hV (cc := cc_Outside_setAlarm) (maxL := 3) (ret := none) (by decide) rfl (Nat.le_of_ble_eq_true rfl) ?_
  intro p e s m below meth c A ls hx hb hr hml hts hown hlocks hP hK hD hA hE hS hl
  have hl : lv_has ls 3 [(0, .ref qo), (1, .int p1), (2, .int p2)] := hl
  have hown : s.vm.findClass R_Outside = some m.cls := hown
  refine lv_iload_n hx hb d_Outside_setAlarm_0 rfl (lv_at hl 2 rfl) ?_
  refine lv_if_ge (tgt := 14) hx hb d_Outside_setAlarm_1 (by decide) (fun c_372 => ?_) (fun c_372 => ?_)
  · refine lv_aload_n hx hb d_Outside_setAlarm_14 rfl (lv_at hl 0 rfl) ?_
    refine lv_iload_n hx hb d_Outside_setAlarm_15 rfl (lv_at hl 2 rfl) ?_
    refine lv_i2l (v := p2.toInt64) hx hb d_Outside_setAlarm_16 rfl ?_
    refine lv_bipush (v := 32) hx hb d_Outside_setAlarm_17 (by decide) ?_
    refine lv_lshl (v := (lsh p2.toInt64 32)) hx hb d_Outside_setAlarm_19 rfl ?_
    refine lv_iload_n hx hb d_Outside_setAlarm_20 rfl (lv_at hl 1 rfl) ?_
    refine lv_i2l (v := p1.toInt64) hx hb d_Outside_setAlarm_21 rfl ?_
    refine lv_ldc2 (v := 4294967295) hx hb hown (hts _ (gd_sub _ q_457)) d_Outside_setAlarm_22 ?_
    refine lv_land hx hb d_Outside_setAlarm_25 ?_
    refine lv_lor hx hb d_Outside_setAlarm_26 ?_
    refine va_put (D := G.1) (ci := 3) (v := .long ((lsh p2.toInt64 32) ||| (p1.toInt64 &&& 4294967295))) (ty := .long) (C := R_Outside) (T := T_Outside) (N := 6) hx hb hts (fun w h => gd_sub _ (iw_Outside w h)) ty_Outside tyok_Outside nm_Outside hown hK hP hD hS 0 rfl rfl 3 (by decide) (hts _ (gd_sub _ q_76)) (fun _ h9 => h9) rfl (by decide +kernel) rfl rfl (Nat.le_of_ble_eq_true rfl) d_Outside_setAlarm_27 (fun H locs hP hD hS => ?_)
    have hP : va_P G.1 vwCl [(qo, .inr (3, f_Outside qa (ol so 3 ((lsh p2.toInt64 32) ||| (p1.toInt64 &&& 4294967295)))))] H := hP
    have hD : va_D A [(qo, .inr (3, f_Outside qa (ol so 3 ((lsh p2.toInt64 32) ||| (p1.toInt64 &&& 4294967295)))))] := hD
    have hk : k_Outside_setAlarm so p1 p2 = (ol so 3 ((lsh p2.toInt64 32) ||| (p1.toInt64 &&& 4294967295))) := (by rw [k_Outside_setAlarm]; rw [if_pos c_372]; try rfl)
    exact ct_rv hx hb hr hlocks hP hD hK hS d_Outside_setAlarm_30 (by rw [hk]; first | done | rfl)
  · refine lv_aload_n hx hb d_Outside_setAlarm_4 rfl (lv_at hl 0 rfl) ?_
    refine lv_ldc2 (v := 9223372036854775807) hx hb hown (hts _ (gd_sub _ q_69)) d_Outside_setAlarm_5 ?_
    refine va_put (D := G.1) (ci := 3) (v := .long 9223372036854775807) (ty := .long) (C := R_Outside) (T := T_Outside) (N := 6) hx hb hts (fun w h => gd_sub _ (iw_Outside w h)) ty_Outside tyok_Outside nm_Outside hown hK hP hD hS 0 rfl rfl 3 (by decide) (hts _ (gd_sub _ q_76)) (fun _ h9 => h9) rfl (by decide +kernel) rfl rfl (Nat.le_of_ble_eq_true rfl) d_Outside_setAlarm_8 (fun H locs hP hD hS => ?_)
    have hP : va_P G.1 vwCl [(qo, .inr (3, f_Outside qa (ol so 3 9223372036854775807)))] H := hP
    have hD : va_D A [(qo, .inr (3, f_Outside qa (ol so 3 9223372036854775807)))] := hD
    refine lv_goto (tgt := 30) hx hb d_Outside_setAlarm_11 (by decide) ?_
    have hk : k_Outside_setAlarm so p1 p2 = (ol so 3 9223372036854775807) := (by rw [k_Outside_setAlarm]; rw [if_neg c_372]; try rfl)
    exact ct_rv hx hb hr hlocks hP hD hK hS d_Outside_setAlarm_30 (by rw [hk]; first | done | rfl)
def k_Outside_print (so : ob) (sa : Nat → Int32) (p1 : Int32) : ob × (Nat → Int32) :=
  if 256 ≤ (so.1 1) then (so, sa) else ((oi so 1 ((so.1 1) + 1)), (upd sa (so.1 1).toNatClampNeg (vp_nar .byte p1.toInt8.toInt32)))
set_option maxHeartbeats 4000000 in
set_option maxRecDepth 100000 in
theorem c_Outside_print (l : Launch) (G : gx) (tys : List (ClassId × FieldType)) {cA : ClassId} (ht : tys[0]? = some (cA, .byte)) (qo qa : Nat) (so : ob) (sa : Nat → Int32) (p1 : Int32) (hp9 : ¬ so.1 1 < 0) : ct_V l y_Outside_print ws_Outside_print ({ frames := 0, cells := 0, slots := 0, locals := 0 }) G tys [.ref qo, .int p1] [(qo, .inr (3, f_Outside qa so)), (qa, .inl (cA, 256, .inl sa))] [(qo, .inr (3, f_Outside qa ((k_Outside_print so sa p1).1))), (qa, .inl (cA, 256, .inl ((k_Outside_print so sa p1).2)))] := by
  refine ct_hV (cc := cc_Outside_print) (maxL := 2) (ret := none) (by decide) rfl (Nat.le_of_ble_eq_true rfl) ?_
  intro p e s m below meth c A ls hx hb hr hml hts hown hlocks hP hK hD hA hE hS hl
  have hl : lv_has ls 2 [(0, .ref qo), (1, .int p1)] := hl
  have hown : s.vm.findClass R_Outside = some m.cls := hown
  refine lv_aload_n hx hb d_Outside_print_0 rfl (lv_at hl 0 rfl) ?_
  refine va_get (D := G.1) (ci := 3) (v := .int (so.1 1)) (C := R_Outside) (T := T_Outside) (N := 6) hx hb hts (fun w h => gd_sub _ (iw_Outside w h)) hown hK hP 0 rfl rfl 1 (by decide) (hts _ (gd_sub _ q_71)) (fun _ h9 => h9) rfl d_Outside_print_1 ?_
  refine lv_aload_n hx hb d_Outside_print_4 rfl (lv_at hl 0 rfl) ?_
  refine va_get (D := G.1) (ci := 3) (v := .ref qa) (C := R_Outside) (T := T_Outside) (N := 6) hx hb hts (fun w h => gd_sub _ (iw_Outside w h)) hown hK hP 0 rfl rfl 0 (by decide) (hts _ (gd_sub _ q_70)) (fun _ h9 => h9) rfl d_Outside_print_5 ?_
  refine va_alen (v := 256) hx hb hK hP 1 0 rfl ht rfl d_Outside_print_8 ?_
  refine lv_icmp_ge (tgt := 33) hx hb d_Outside_print_9 (by decide) (fun c_376 => ?_) (fun c_376 => ?_)
  · have hk : k_Outside_print so sa p1 = (so, sa) := (by rw [k_Outside_print]; rw [if_pos c_376]; try rfl)
    exact ct_rv hx hb hr hlocks hP hD hK hS d_Outside_print_33 (by rw [hk]; first | done | rfl)
  · refine lv_aload_n hx hb d_Outside_print_12 rfl (lv_at hl 0 rfl) ?_
    refine va_get (D := G.1) (ci := 3) (v := .ref qa) (C := R_Outside) (T := T_Outside) (N := 6) hx hb hts (fun w h => gd_sub _ (iw_Outside w h)) hown hK hP 0 rfl rfl 0 (by decide) (hts _ (gd_sub _ q_70)) (fun _ h9 => h9) rfl d_Outside_print_13 ?_
    refine lv_aload_n hx hb d_Outside_print_16 rfl (lv_at hl 0 rfl) ?_
    refine va_get (D := G.1) (ci := 3) (v := .int (so.1 1)) (C := R_Outside) (T := T_Outside) (N := 6) hx hb hts (fun w h => gd_sub _ (iw_Outside w h)) hown hK hP 0 rfl rfl 1 (by decide) (hts _ (gd_sub _ q_71)) (fun _ h9 => h9) rfl d_Outside_print_17 ?_
    refine lv_iload_n hx hb d_Outside_print_20 rfl (lv_at hl 1 rfl) ?_
    refine lv_i2b (v := p1.toInt8.toInt32) hx hb d_Outside_print_21 rfl ?_
    refine va_bast hx hb hK hP hD hS 1 0 rfl ht (in256 hp9 c_376) d_Outside_print_22 (fun H locs hP hD hS => ?_)
    have hP : va_P G.1 vwCl [(qo, .inr (3, f_Outside qa so)), (qa, .inl (cA, 256, .inl (upd sa (so.1 1).toNatClampNeg (vp_nar .byte p1.toInt8.toInt32))))] H := hP
    have hD : va_D A [(qo, .inr (3, f_Outside qa so)), (qa, .inl (cA, 256, .inl (upd sa (so.1 1).toNatClampNeg (vp_nar .byte p1.toInt8.toInt32))))] := hD
    refine lv_aload_n hx hb d_Outside_print_23 rfl (lv_at hl 0 rfl) ?_
    refine lv_dup hx hb d_Outside_print_24 rfl ?_
    refine va_get (D := G.1) (ci := 3) (v := .int (so.1 1)) (C := R_Outside) (T := T_Outside) (N := 6) hx hb hts (fun w h => gd_sub _ (iw_Outside w h)) hown hK hP 0 rfl rfl 1 (by decide) (hts _ (gd_sub _ q_71)) (fun _ h9 => h9) rfl d_Outside_print_25 ?_
    refine lv_iconst (v := 1) hx hb d_Outside_print_28 (by decide) ?_
    refine lv_iadd hx hb d_Outside_print_29 ?_
    refine va_put (D := G.1) (ci := 3) (v := .int ((so.1 1) + 1)) (ty := .int) (C := R_Outside) (T := T_Outside) (N := 6) hx hb hts (fun w h => gd_sub _ (iw_Outside w h)) ty_Outside tyok_Outside nm_Outside hown hK hP hD hS 0 rfl rfl 1 (by decide) (hts _ (gd_sub _ q_71)) (fun _ h9 => h9) rfl (by decide +kernel) rfl rfl (Nat.le_of_ble_eq_true rfl) d_Outside_print_30 (fun H locs hP hD hS => ?_)
    have hP : va_P G.1 vwCl [(qo, .inr (3, f_Outside qa (oi so 1 ((so.1 1) + 1)))), (qa, .inl (cA, 256, .inl (upd sa (so.1 1).toNatClampNeg (vp_nar .byte p1.toInt8.toInt32))))] H := hP
    have hD : va_D A [(qo, .inr (3, f_Outside qa (oi so 1 ((so.1 1) + 1)))), (qa, .inl (cA, 256, .inl (upd sa (so.1 1).toNatClampNeg (vp_nar .byte p1.toInt8.toInt32))))] := hD
    have hk : k_Outside_print so sa p1 = ((oi so 1 ((so.1 1) + 1)), (upd sa (so.1 1).toNatClampNeg (vp_nar .byte p1.toInt8.toInt32))) := (by rw [k_Outside_print]; rw [if_neg c_376]; try rfl)
    exact ct_rv hx hb hr hlocks hP hD hK hS d_Outside_print_33 (by rw [hk]; first | done | rfl)
def k_Outside_serve (so : ob) (sa : Nat → Int32) (p1 : Int32) (p2 : Int32) (p3 : Int32) : Int32 × ob × (Nat → Int32) :=
  if p1 = 0 then (0, ((k_Outside_setAlarm so p2 p3)), sa) else if p1 = 1 then (0, ((k_Outside_print so sa p2).1), ((k_Outside_print so sa p2).2)) else if p1 = 8 then (0, (oz so 5 true), sa) else ((-2), so, sa)
set_option maxHeartbeats 4000000 in
set_option maxRecDepth 100000 in
theorem c_Outside_serve (l : Launch) (G : gx) (tys : List (ClassId × FieldType)) {cA : ClassId} (ht : tys[0]? = some (cA, .byte)) (qo qa : Nat) (so : ob) (sa : Nat → Int32) (p1 : Int32) (p2 : Int32) (p3 : Int32) (hp9 : ¬ so.1 1 < 0) : ct_I l y_Outside_serve ws_Outside_serve ({ frames := 1, cells := 0, slots := 0, locals := 22 }) G tys [.ref qo, .int p1, .int p2, .int p3] [(qo, .inr (3, f_Outside qa so)), (qa, .inl (cA, 256, .inl sa))] ((k_Outside_serve so sa p1 p2 p3).1) [(qo, .inr (3, f_Outside qa ((k_Outside_serve so sa p1 p2 p3).2.1))), (qa, .inl (cA, 256, .inl ((k_Outside_serve so sa p1 p2 p3).2.2)))] := by
  refine ct_hI (cc := cc_Outside_serve) (maxL := 4) (ret := (some .int)) (by decide) rfl (Nat.le_of_ble_eq_true rfl) ?_
  intro p e s m below meth c A ls hx hb hr hml hts hown hlocks hP hK hD hA hE hS hl
  have hl : lv_has ls 4 [(0, .ref qo), (1, .int p1), (2, .int p2), (3, .int p3)] := hl
  have hown : s.vm.findClass R_Outside = some m.cls := hown
  refine lv_iload_n hx hb d_Outside_serve_0 rfl (lv_at hl 1 rfl) ?_
  by_cases c_380 : p1 = 0
  · refine lv_lookup (off := 35) (tgt := 36) hx hb d_Outside_serve_1 (by decide) (by rw [c_380]; decide) (by decide) ?_
    refine lv_aload_n hx hb d_Outside_serve_36 rfl (lv_at hl 0 rfl) ?_
    refine lv_iload_n hx hb d_Outside_serve_37 rfl (lv_at hl 2 rfl) ?_
    refine lv_iload_n hx hb d_Outside_serve_38 rfl (lv_at hl 3 rfl) ?_
    obtain ⟨so_381, eso_381⟩ : ∃ z, z = (k_Outside_setAlarm so p2 p3) := ⟨_, rfl⟩
    have hM := c_Outside_setAlarm l G tys qo qa so p2 p3
    rw [← eso_381] at hM
    refine ct_cVv (wr := [(qa, .inl (cA, 256, .inl sa))]) (w1 := [(qo, .inr (3, f_Outside qa so_381))]) (w2 := [(qo, .inr (3, f_Outside qa so_381)), (qa, .inl (cA, 256, .inl sa))]) (As := [.int p2, .int p3]) (rest := []) (ci := 3) (q0 := 0) ⟨hx, hb, hml, hown, hts⟩ hM (cwV 2 hts (gdV gd_gd q_453 q_454 q_455 q_43 q_456) rfl rfl rfl (by decide +kernel) ⟨Nat.le_of_ble_eq_true rfl, Nat.le_of_ble_eq_true rfl⟩) hE hK hP hD hS hA [0] [1] [1, 0] rfl (by decide) rfl (by decide) (by decide) rfl (by decide) rfl rfl rfl hl.1 rfl (Nat.le_of_ble_eq_true rfl) d_Outside_serve_39 ⟨Nat.zero_le _, Nat.zero_le _⟩ (fun H locs hP hD hS => ?_)
    refine lv_iconst (v := 0) hx hb d_Outside_serve_42 (by decide) ?_
    have hk : k_Outside_serve so sa p1 p2 p3 = (0, so_381, sa) := (by rw [k_Outside_serve]; rw [if_pos c_380]; try rw [← eso_381]; try rfl)
    exact ct_ri hx hb hr hlocks hP hD hK hS d_Outside_serve_43 (by rw [hk]; first | done | rfl) (by rw [hk]; first | done | rfl)
  · by_cases c_382 : p1 = 1
    · refine lv_lookup (off := 43) (tgt := 44) hx hb d_Outside_serve_1 (by decide) (by rw [c_382]; decide) (by decide) ?_
      refine lv_aload_n hx hb d_Outside_serve_44 rfl (lv_at hl 0 rfl) ?_
      refine lv_iload_n hx hb d_Outside_serve_45 rfl (lv_at hl 2 rfl) ?_
      obtain ⟨so_383, eso_383⟩ : ∃ z, z = (k_Outside_print so sa p2).1 := ⟨_, rfl⟩
      obtain ⟨sa_384, esa_384⟩ : ∃ z, z = (k_Outside_print so sa p2).2 := ⟨_, rfl⟩
      have hM := c_Outside_print l G tys ht qo qa so sa p2 hp9
      rw [← eso_383, ← esa_384] at hM
      refine ct_cVv (wr := []) (w1 := [(qo, .inr (3, f_Outside qa so_383)), (qa, .inl (cA, 256, .inl sa_384))]) (w2 := [(qo, .inr (3, f_Outside qa so_383)), (qa, .inl (cA, 256, .inl sa_384))]) (As := [.int p2]) (rest := []) (ci := 3) (q0 := 0) ⟨hx, hb, hml, hown, hts⟩ hM (cwV 1 hts (gdV gd_gd q_458 q_459 q_460 q_43 q_461) rfl rfl rfl (by decide +kernel) ⟨Nat.le_of_ble_eq_true rfl, Nat.le_of_ble_eq_true rfl⟩) hE hK hP hD hS hA [0, 1] [] [0, 1] rfl (by decide) rfl (by decide) (by decide) rfl (by decide) rfl rfl rfl hl.1 rfl (Nat.le_of_ble_eq_true rfl) d_Outside_serve_46 ⟨Nat.zero_le _, Nat.zero_le _⟩ (fun H locs hP hD hS => ?_)
      refine lv_iconst (v := 0) hx hb d_Outside_serve_49 (by decide) ?_
      have hk : k_Outside_serve so sa p1 p2 p3 = (0, so_383, sa_384) := (by rw [k_Outside_serve]; rw [if_neg c_380]; rw [if_pos c_382]; try rw [← eso_383]; try rw [← esa_384]; try rfl)
      exact ct_ri hx hb hr hlocks hP hD hK hS d_Outside_serve_50 (by rw [hk]; first | done | rfl) (by rw [hk]; first | done | rfl)
    · by_cases c_385 : p1 = 8
      · refine lv_lookup (off := 50) (tgt := 51) hx hb d_Outside_serve_1 (by decide) (by rw [c_385]; decide) (by decide) ?_
        refine lv_aload_n hx hb d_Outside_serve_51 rfl (lv_at hl 0 rfl) ?_
        refine lv_iconst (v := 1) hx hb d_Outside_serve_52 (by decide) ?_
        refine va_put (D := G.1) (ci := 3) (v := .int 1) (ty := .boolean) (C := R_Outside) (T := T_Outside) (N := 6) hx hb hts (fun w h => gd_sub _ (iw_Outside w h)) ty_Outside tyok_Outside nm_Outside hown hK hP hD hS 0 rfl rfl 5 (by decide) (hts _ (gd_sub _ q_81)) (fun _ h9 => h9) rfl (by decide +kernel) rfl rfl (Nat.le_of_ble_eq_true rfl) d_Outside_serve_53 (fun H locs hP hD hS => ?_)
        have hP : va_P G.1 vwCl [(qo, .inr (3, f_Outside qa (oz so 5 true))), (qa, .inl (cA, 256, .inl sa))] H := hP
        have hD : va_D A [(qo, .inr (3, f_Outside qa (oz so 5 true))), (qa, .inl (cA, 256, .inl sa))] := hD
        refine lv_iconst (v := 0) hx hb d_Outside_serve_56 (by decide) ?_
        have hk : k_Outside_serve so sa p1 p2 p3 = (0, (oz so 5 true), sa) := (by rw [k_Outside_serve]; rw [if_neg c_380]; rw [if_neg c_382]; rw [if_pos c_385]; try rfl)
        exact ct_ri hx hb hr hlocks hP hD hK hS d_Outside_serve_57 (by rw [hk]; first | done | rfl) (by rw [hk]; first | done | rfl)
      · refine lv_lookup (off := 57) (tgt := 58) hx hb d_Outside_serve_1 (by decide) ((lv_osw c_380 (by decide)).trans ((lv_osw c_382 (by decide)).trans ((lv_osw c_385 (by decide)).trans rfl))) (by decide) ?_
        refine lv_bipush (v := (-2)) hx hb d_Outside_serve_58 (by decide) ?_
        have hk : k_Outside_serve so sa p1 p2 p3 = ((-2), so, sa) := (by rw [k_Outside_serve]; rw [if_neg c_380]; rw [if_neg c_382]; rw [if_neg c_385]; try rfl)
        exact ct_ri hx hb hr hlocks hP hD hK hS d_Outside_serve_60 (by rw [hk]; first | done | rfl) (by rw [hk]; first | done | rfl)
def k_Desk_environmentCall (sx : ob) (so : ob) (sa : Nat → Int32) (sr : ob) : Int32 × ob × ob × (Nat → Int32) × ob :=
  if (sx.1 3) = 3 then (10, sx, so, sa, sr) else (if (sx.1 3) = 1 then (((k_Desk_goOn sx).1), ((k_Desk_goOn sx).2), ((k_Outside_serve so sa (sr.1 2) (sr.1 0) (sr.1 1)).2.1), ((k_Outside_serve so sa (sr.1 2) (sr.1 0) (sr.1 1)).2.2), (oi sr 0 ((k_Outside_serve so sa (sr.1 2) (sr.1 0) (sr.1 1)).1))) else (8, sx, so, sa, sr))
set_option maxHeartbeats 4000000 in
set_option maxRecDepth 100000 in
theorem c_Desk_environmentCall (l : Launch) (G : gx) (tys : List (ClassId × FieldType)) {cA : ClassId} (ht : tys[0]? = some (cA, .byte)) (qx qo qa qr qc : Nat) (sx : ob) (so : ob) (sa : Nat → Int32) (sr : ob) (hp9 : ¬ so.1 1 < 0) : ct_I l y_Desk_environmentCall ws_Desk_environmentCall ({ frames := 2, cells := 0, slots := 0, locals := 45 }) G tys [.ref qx] [(qx, .inr (5, f_Desk qc qo qr sx)), (qo, .inr (3, f_Outside qa so)), (qa, .inl (cA, 256, .inl sa)), (qr, .inr (4, f_Registers sr))] ((k_Desk_environmentCall sx so sa sr).1) [(qx, .inr (5, f_Desk qc qo qr ((k_Desk_environmentCall sx so sa sr).2.1))), (qo, .inr (3, f_Outside qa ((k_Desk_environmentCall sx so sa sr).2.2.1))), (qa, .inl (cA, 256, .inl ((k_Desk_environmentCall sx so sa sr).2.2.2.1))), (qr, .inr (4, f_Registers ((k_Desk_environmentCall sx so sa sr).2.2.2.2)))] := by
  refine ct_hI (cc := cc_Desk_environmentCall) (maxL := 2) (ret := (some .int)) (by decide) rfl (Nat.le_of_ble_eq_true rfl) ?_
  intro p e s m below meth c A ls hx hb hr hml hts hown hlocks hP hK hD hA hE hS hl
  have hl : lv_has ls 2 [(0, .ref qx)] := hl
  have hown : s.vm.findClass R_Desk = some m.cls := hown
  refine lv_aload_n hx hb d_Desk_environmentCall_0 rfl (lv_at hl 0 rfl) ?_
  refine va_get (D := G.1) (ci := 5) (v := .int (sx.1 3)) (C := R_Desk) (T := T_Desk) (N := 8) hx hb hts (fun w h => gd_sub _ (iw_Desk w h)) hown hK hP 0 rfl rfl 3 (by decide) (hts _ (gd_sub _ q_208)) (fun _ h9 => h9) rfl d_Desk_environmentCall_1 ?_
  refine lv_iconst (v := 3) hx hb d_Desk_environmentCall_4 (by decide) ?_
  refine lv_icmp_ne (tgt := 11) hx hb d_Desk_environmentCall_5 (by decide) (fun c_391 => ?_) (fun c_391 => ?_)
  · refine lv_aload_n hx hb d_Desk_environmentCall_11 rfl (lv_at hl 0 rfl) ?_
    refine va_get (D := G.1) (ci := 5) (v := .int (sx.1 3)) (C := R_Desk) (T := T_Desk) (N := 8) hx hb hts (fun w h => gd_sub _ (iw_Desk w h)) hown hK hP 0 rfl rfl 3 (by decide) (hts _ (gd_sub _ q_208)) (fun _ h9 => h9) rfl d_Desk_environmentCall_12 ?_
    refine lv_iconst (v := 1) hx hb d_Desk_environmentCall_15 (by decide) ?_
    refine lv_icmp_eq (tgt := 22) hx hb d_Desk_environmentCall_16 (by decide) (fun c_392 => ?_) (fun c_392 => ?_)
    · refine lv_aload_n hx hb d_Desk_environmentCall_22 rfl (lv_at hl 0 rfl) ?_
      refine va_get (D := G.1) (ci := 5) (v := .ref qo) (C := R_Desk) (T := T_Desk) (N := 8) hx hb hts (fun w h => gd_sub _ (iw_Desk w h)) hown hK hP 0 rfl rfl 1 (by decide) (hts _ (gd_sub _ q_206)) (fun _ h9 => h9) rfl d_Desk_environmentCall_23 ?_
      refine lv_aload_n hx hb d_Desk_environmentCall_26 rfl (lv_at hl 0 rfl) ?_
      refine va_get (D := G.1) (ci := 5) (v := .ref qr) (C := R_Desk) (T := T_Desk) (N := 8) hx hb hts (fun w h => gd_sub _ (iw_Desk w h)) hown hK hP 0 rfl rfl 2 (by decide) (hts _ (gd_sub _ q_207)) (fun _ h9 => h9) rfl d_Desk_environmentCall_27 ?_
      refine va_get (D := G.1) (ci := 4) (v := .int (sr.1 2)) (C := R_Registers) (T := T_Registers) (N := 3) hx hb hts (fun w h => gd_sub _ (iw_Registers w h)) hown hK hP 3 rfl rfl 2 (by decide) (hts _ (gd_sub _ q_197)) (fun _ h9 => h9) rfl d_Desk_environmentCall_30 ?_
      refine lv_aload_n hx hb d_Desk_environmentCall_33 rfl (lv_at hl 0 rfl) ?_
      refine va_get (D := G.1) (ci := 5) (v := .ref qr) (C := R_Desk) (T := T_Desk) (N := 8) hx hb hts (fun w h => gd_sub _ (iw_Desk w h)) hown hK hP 0 rfl rfl 2 (by decide) (hts _ (gd_sub _ q_207)) (fun _ h9 => h9) rfl d_Desk_environmentCall_34 ?_
      refine va_get (D := G.1) (ci := 4) (v := .int (sr.1 0)) (C := R_Registers) (T := T_Registers) (N := 3) hx hb hts (fun w h => gd_sub _ (iw_Registers w h)) hown hK hP 3 rfl rfl 0 (by decide) (hts _ (gd_sub _ q_193)) (fun _ h9 => h9) rfl d_Desk_environmentCall_37 ?_
      refine lv_aload_n hx hb d_Desk_environmentCall_40 rfl (lv_at hl 0 rfl) ?_
      refine va_get (D := G.1) (ci := 5) (v := .ref qr) (C := R_Desk) (T := T_Desk) (N := 8) hx hb hts (fun w h => gd_sub _ (iw_Desk w h)) hown hK hP 0 rfl rfl 2 (by decide) (hts _ (gd_sub _ q_207)) (fun _ h9 => h9) rfl d_Desk_environmentCall_41 ?_
      refine va_get (D := G.1) (ci := 4) (v := .int (sr.1 1)) (C := R_Registers) (T := T_Registers) (N := 3) hx hb hts (fun w h => gd_sub _ (iw_Registers w h)) hown hK hP 3 rfl rfl 1 (by decide) (hts _ (gd_sub _ q_195)) (fun _ h9 => h9) rfl d_Desk_environmentCall_44 ?_
      obtain ⟨r_393, er_393⟩ : ∃ z, z = (k_Outside_serve so sa (sr.1 2) (sr.1 0) (sr.1 1)).1 := ⟨_, rfl⟩
      obtain ⟨so_394, eso_394⟩ : ∃ z, z = (k_Outside_serve so sa (sr.1 2) (sr.1 0) (sr.1 1)).2.1 := ⟨_, rfl⟩
      obtain ⟨sa_395, esa_395⟩ : ∃ z, z = (k_Outside_serve so sa (sr.1 2) (sr.1 0) (sr.1 1)).2.2 := ⟨_, rfl⟩
      have hM := c_Outside_serve l G tys ht qo qa so sa (sr.1 2) (sr.1 0) (sr.1 1) hp9
      rw [← er_393, ← eso_394, ← esa_395] at hM
      refine ct_cVi (wr := [(qx, .inr (5, f_Desk qc qo qr sx)), (qr, .inr (4, f_Registers sr))]) (w1 := [(qo, .inr (3, f_Outside qa so_394)), (qa, .inl (cA, 256, .inl sa_395))]) (w2 := [(qx, .inr (5, f_Desk qc qo qr sx)), (qo, .inr (3, f_Outside qa so_394)), (qa, .inl (cA, 256, .inl sa_395)), (qr, .inr (4, f_Registers sr))]) (r := r_393) (As := [.int (sr.1 2), .int (sr.1 0), .int (sr.1 1)]) (rest := []) (ci := 3) (q0 := 0) ⟨hx, hb, hml, hown, hts⟩ hM (cwV 3 hts (gdV gd_gd q_449 q_450 q_451 q_43 q_452) rfl rfl rfl (by decide +kernel) ⟨Nat.le_of_ble_eq_true rfl, Nat.le_of_ble_eq_true rfl⟩) hE hK hP hD hS hA [1, 2] [0, 3] [0, 2, 3, 1] rfl (by decide) rfl (by decide) (by decide) rfl (by decide) rfl rfl rfl hl.1 rfl (Nat.le_of_ble_eq_true rfl) d_Desk_environmentCall_47 ⟨Nat.zero_le _, Nat.zero_le _⟩ (fun H locs hP hD hS => ?_)
      refine lv_istore_n (lv' := [(1, .int r_393), (0, .ref qx)]) hx hb d_Desk_environmentCall_50 rfl hl (by decide) rfl (fun ls hl => ?_)
      refine lv_aload_n hx hb d_Desk_environmentCall_51 rfl (lv_at hl 1 rfl) ?_
      refine va_get (D := G.1) (ci := 5) (v := .ref qr) (C := R_Desk) (T := T_Desk) (N := 8) hx hb hts (fun w h => gd_sub _ (iw_Desk w h)) hown hK hP 0 rfl rfl 2 (by decide) (hts _ (gd_sub _ q_207)) (fun _ h9 => h9) rfl d_Desk_environmentCall_52 ?_
      refine lv_iload_n hx hb d_Desk_environmentCall_55 rfl (lv_at hl 0 rfl) ?_
      refine va_put (D := G.1) (ci := 4) (v := .int r_393) (ty := .int) (C := R_Registers) (T := T_Registers) (N := 3) hx hb hts (fun w h => gd_sub _ (iw_Registers w h)) ty_Registers tyok_Registers nm_Registers hown hK hP hD hS 3 rfl rfl 0 (by decide) (hts _ (gd_sub _ q_193)) (fun _ h9 => h9) rfl (by decide +kernel) rfl rfl (Nat.le_of_ble_eq_true rfl) d_Desk_environmentCall_56 (fun H locs hP hD hS => ?_)
      have hP : va_P G.1 vwCl [(qx, .inr (5, f_Desk qc qo qr sx)), (qo, .inr (3, f_Outside qa so_394)), (qa, .inl (cA, 256, .inl sa_395)), (qr, .inr (4, f_Registers (oi sr 0 r_393)))] H := hP
      have hD : va_D A [(qx, .inr (5, f_Desk qc qo qr sx)), (qo, .inr (3, f_Outside qa so_394)), (qa, .inl (cA, 256, .inl sa_395)), (qr, .inr (4, f_Registers (oi sr 0 r_393)))] := hD
      refine lv_aload_n hx hb d_Desk_environmentCall_59 rfl (lv_at hl 1 rfl) ?_
      obtain ⟨r_396, er_396⟩ : ∃ z, z = (k_Desk_goOn sx).1 := ⟨_, rfl⟩
      obtain ⟨sx_397, esx_397⟩ : ∃ z, z = (k_Desk_goOn sx).2 := ⟨_, rfl⟩
      have hM := c_Desk_goOn l G tys qx qc qo qr sx
      rw [← er_396, ← esx_397] at hM
      refine ct_cVi (wr := [(qo, .inr (3, f_Outside qa so_394)), (qa, .inl (cA, 256, .inl sa_395)), (qr, .inr (4, f_Registers (oi sr 0 r_393)))]) (w1 := [(qx, .inr (5, f_Desk qc qo qr sx_397))]) (w2 := [(qx, .inr (5, f_Desk qc qo qr sx_397)), (qo, .inr (3, f_Outside qa so_394)), (qa, .inl (cA, 256, .inl sa_395)), (qr, .inr (4, f_Registers (oi sr 0 r_393)))]) (r := r_396) (As := []) (rest := []) (ci := 5) (q0 := 0) ⟨hx, hb, hml, hown, hts⟩ hM (cwV 0 hts (gdV gd_gd q_426 q_428 q_4 q_41 q_429) rfl rfl rfl (by decide +kernel) ⟨Nat.le_of_ble_eq_true rfl, Nat.le_of_ble_eq_true rfl⟩) hE hK hP hD hS hA [0] [1, 2, 3] [3, 0, 1, 2] rfl (by decide) rfl (by decide) (by decide) rfl (by decide) rfl rfl rfl hl.1 rfl (Nat.le_of_ble_eq_true rfl) d_Desk_environmentCall_60 ⟨Nat.zero_le _, Nat.zero_le _⟩ (fun H locs hP hD hS => ?_)
      have hk : k_Desk_environmentCall sx so sa sr = (r_396, sx_397, so_394, sa_395, (oi sr 0 r_393)) := (by rw [k_Desk_environmentCall]; rw [if_neg c_391]; rw [if_pos c_392]; try rw [← er_393]; try rw [← eso_394]; try rw [← esa_395]; try rw [← er_396]; try rw [← esx_397]; try rfl)
      exact ct_ri hx hb hr hlocks hP hD hK hS d_Desk_environmentCall_63 (by rw [hk]; first | done | rfl) (by rw [hk]; first | done | rfl)
    · refine lv_bipush (v := 8) hx hb d_Desk_environmentCall_19 (by decide) ?_
      have hk : k_Desk_environmentCall sx so sa sr = (8, sx, so, sa, sr) := (by rw [k_Desk_environmentCall]; rw [if_neg c_391]; rw [if_neg c_392]; try rfl)
      exact ct_ri hx hb hr hlocks hP hD hK hS d_Desk_environmentCall_21 (by rw [hk]; first | done | rfl) (by rw [hk]; first | done | rfl)
  · refine lv_bipush (v := 10) hx hb d_Desk_environmentCall_8 (by decide) ?_
    have hk : k_Desk_environmentCall sx so sa sr = (10, sx, so, sa, sr) := (by rw [k_Desk_environmentCall]; rw [if_pos c_391]; try rfl)
    exact ct_ri hx hb hr hlocks hP hD hK hS d_Desk_environmentCall_10 (by rw [hk]; first | done | rfl) (by rw [hk]; first | done | rfl)
