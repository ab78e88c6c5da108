def k_Desk_put (sx : ob) (sc : ob) (shs : ob) (sgs : ob) (sy : ob) (p1 : Int32) (p2 : Int32) : Int32 × ob × ob × ob × ob :=
  if (bI (k_Numbers_isKnown p1)) = 0 then ((-1), sc, shs, sgs, sy) else (if (bI (k_Numbers_isTime p1)) = 0 then (0, ((k_Controls_write sc shs sgs sy p1 p2).1), ((k_Controls_write sc shs sgs sy p1 p2).2.1), ((k_Controls_write sc shs sgs sy p1 p2).2.2.1), ((k_Controls_write sc shs sgs sy p1 p2).2.2.2)) else ((-1), sc, shs, sgs, sy))
set_option maxHeartbeats 4000000 in
set_option maxRecDepth 100000 in
theorem c_Desk_put (l : Launch) (G : gx) (tys : List (ClassId × FieldType)) (qx qc qhs qgs qy qo qr : Nat) (sx : ob) (sc : ob) (shs : ob) (sgs : ob) (sy : ob) (p1 : Int32) (p2 : Int32) : ct_I l y_Desk_put ws_Desk_put ({ frames := 4, cells := 0, slots := 0, locals := 87 }) G tys [.ref qx, .int p1, .int p2] [(qx, .inr (5, f_Desk qc qo qr sx)), (qc, .inr (1, f_Controls qo qhs qgs qy sc)), (qhs, .inr (0, f_Bank shs)), (qgs, .inr (0, f_Bank sgs)), (qy, .inr (2, f_Hyper sy))] ((k_Desk_put sx sc shs sgs sy p1 p2).1) [(qx, .inr (5, f_Desk qc qo qr sx)), (qc, .inr (1, f_Controls qo qhs qgs qy ((k_Desk_put sx sc shs sgs sy p1 p2).2.1))), (qhs, .inr (0, f_Bank ((k_Desk_put sx sc shs sgs sy p1 p2).2.2.1))), (qgs, .inr (0, f_Bank ((k_Desk_put sx sc shs sgs sy p1 p2).2.2.2.1))), (qy, .inr (2, f_Hyper ((k_Desk_put sx sc shs sgs sy p1 p2).2.2.2.2)))] := by
  refine ct_hI (cc := cc_Desk_put) (maxL := 3) (ret := (some .int)) (by decide) rfl (Nat.le_of_ble_eq_true rfl) ?_
  intro p e s m below meth c A ls hx hb hr hml hts hown hlocks hP hK hD hA hE hS hl
  have hl : lv_has ls 3 [(0, .ref qx), (1, .int p1), (2, .int p2)] := hl
  have hown : s.vm.findClass R_Desk = some m.cls := hown
  refine lv_iload_n hx hb d_Desk_put_0 rfl (lv_at hl 1 rfl) ?_
  refine ct_cSi (wr := [(qx, .inr (5, f_Desk qc qo qr sx)), (qc, .inr (1, f_Controls qo qhs qgs qy sc)), (qhs, .inr (0, f_Bank shs)), (qgs, .inr (0, f_Bank sgs)), (qy, .inr (2, f_Hyper sy))]) (w1 := []) (w2 := [(qx, .inr (5, f_Desk qc qo qr sx)), (qc, .inr (1, f_Controls qo qhs qgs qy sc)), (qhs, .inr (0, f_Bank shs)), (qgs, .inr (0, f_Bank sgs)), (qy, .inr (2, f_Hyper sy))]) (r := (bI (k_Numbers_isKnown p1))) (As := [.int p1]) (rest := []) ⟨hx, hb, hml, hown, hts⟩ (c_Numbers_isKnown l G tys p1) (va_cwS 1 hts (gdS gd_gd q_266 q_267 q_48 q_268) rfl rfl rfl (by decide +kernel) ⟨Nat.le_of_ble_eq_true rfl, Nat.le_of_ble_eq_true rfl⟩) hE hK hP hD hS hA [] [0, 1, 2, 3, 4] [0, 1, 2, 3, 4] rfl (by decide) rfl (by decide) (by decide) rfl (by decide) rfl hl.1 rfl (Nat.le_of_ble_eq_true rfl) d_Desk_put_1 ⟨Nat.zero_le _, Nat.zero_le _⟩ (fun H locs hP hD hS => ?_)
  refine lv_if_eq (tgt := 14) hx hb d_Desk_put_4 (by decide) (fun c_147 => ?_) (fun c_147 => ?_)
  · refine lv_iconst (v := (-1)) hx hb d_Desk_put_14 (by decide) ?_
    have hk : k_Desk_put sx sc shs sgs sy p1 p2 = ((-1), sc, shs, sgs, sy) := (by rw [k_Desk_put]; rw [if_pos c_147]; try rfl)
    exact ct_ri hx hb hr hlocks hP hD hK hS d_Desk_put_15 (by rw [hk]; first | done | rfl) (by rw [hk]; first | done | rfl)
  · refine lv_iload_n hx hb d_Desk_put_7 rfl (lv_at hl 1 rfl) ?_
    refine ct_cSi (wr := [(qx, .inr (5, f_Desk qc qo qr sx)), (qc, .inr (1, f_Controls qo qhs qgs qy sc)), (qhs, .inr (0, f_Bank shs)), (qgs, .inr (0, f_Bank sgs)), (qy, .inr (2, f_Hyper sy))]) (w1 := []) (w2 := [(qx, .inr (5, f_Desk qc qo qr sx)), (qc, .inr (1, f_Controls qo qhs qgs qy sc)), (qhs, .inr (0, f_Bank shs)), (qgs, .inr (0, f_Bank sgs)), (qy, .inr (2, f_Hyper sy))]) (r := (bI (k_Numbers_isTime p1))) (As := [.int p1]) (rest := []) ⟨hx, hb, hml, hown, hts⟩ (c_Numbers_isTime l G tys p1) (va_cwS 1 hts (gdS gd_gd q_290 q_288 q_48 q_289) rfl rfl rfl (by decide +kernel) ⟨Nat.le_of_ble_eq_true rfl, Nat.le_of_ble_eq_true rfl⟩) hE hK hP hD hS hA [] [0, 1, 2, 3, 4] [0, 1, 2, 3, 4] rfl (by decide) rfl (by decide) (by decide) rfl (by decide) rfl hl.1 rfl (Nat.le_of_ble_eq_true rfl) d_Desk_put_8 ⟨Nat.zero_le _, Nat.zero_le _⟩ (fun H locs hP hD hS => ?_)
    refine lv_if_eq (tgt := 16) hx hb d_Desk_put_11 (by decide) (fun c_148 => ?_) (fun c_148 => ?_)
    · refine lv_aload_n hx hb d_Desk_put_16 rfl (lv_at hl 0 rfl) ?_
      refine va_get (D := G.1) (ci := 5) (v := .ref qc) (C := R_Desk) (T := T_Desk) (N := 8) hx hb hts (fun w h => gd_sub _ (iw_Desk w h)) hown hK hP 0 rfl rfl 0 (by decide) (hts _ (gd_sub _ q_205)) (fun _ h9 => h9) rfl d_Desk_put_17 ?_
      refine lv_iload_n hx hb d_Desk_put_20 rfl (lv_at hl 1 rfl) ?_
      refine lv_iload_n hx hb d_Desk_put_21 rfl (lv_at hl 2 rfl) ?_
      obtain ⟨sc_149, esc_149⟩ : ∃ z, z = (k_Controls_write sc shs sgs sy p1 p2).1 := ⟨_, rfl⟩
      obtain ⟨shs_150, eshs_150⟩ : ∃ z, z = (k_Controls_write sc shs sgs sy p1 p2).2.1 := ⟨_, rfl⟩
      obtain ⟨sgs_151, esgs_151⟩ : ∃ z, z = (k_Controls_write sc shs sgs sy p1 p2).2.2.1 := ⟨_, rfl⟩
      obtain ⟨sy_152, esy_152⟩ : ∃ z, z = (k_Controls_write sc shs sgs sy p1 p2).2.2.2 := ⟨_, rfl⟩
      have hM := c_Controls_write l G tys qc qhs qgs qy qo sc shs sgs sy p1 p2
      rw [← esc_149, ← eshs_150, ← esgs_151, ← esy_152] at hM
      refine ct_cVv (wr := [(qx, .inr (5, f_Desk qc qo qr sx))]) (w1 := [(qc, .inr (1, f_Controls qo qhs qgs qy sc_149)), (qhs, .inr (0, f_Bank shs_150)), (qgs, .inr (0, f_Bank sgs_151)), (qy, .inr (2, f_Hyper sy_152))]) (w2 := [(qx, .inr (5, f_Desk qc qo qr sx)), (qc, .inr (1, f_Controls qo qhs qgs qy sc_149)), (qhs, .inr (0, f_Bank shs_150)), (qgs, .inr (0, f_Bank sgs_151)), (qy, .inr (2, f_Hyper sy_152))]) (As := [.int p1, .int p2]) (rest := []) (ci := 1) (q0 := 0) ⟨hx, hb, hml, hown, hts⟩ hM (cwV 2 hts (gdV gd_gd q_291 q_292 q_293 q_42 q_294) rfl rfl rfl (by decide +kernel) ⟨Nat.le_of_ble_eq_true rfl, Nat.le_of_ble_eq_true rfl⟩) hE hK hP hD hS hA [1, 2, 3, 4] [0] [0, 1, 2, 3, 4] rfl (by decide) rfl (by decide) (by decide) rfl (by decide) rfl rfl rfl hl.1 rfl (Nat.le_of_ble_eq_true rfl) d_Desk_put_22 ⟨Nat.zero_le _, Nat.zero_le _⟩ (fun H locs hP hD hS => ?_)
      refine lv_iconst (v := 0) hx hb d_Desk_put_25 (by decide) ?_
      have hk : k_Desk_put sx sc shs sgs sy p1 p2 = (0, sc_149, shs_150, sgs_151, sy_152) := (by rw [k_Desk_put]; rw [if_neg c_147]; rw [if_pos c_148]; try rw [← esc_149]; try rw [← eshs_150]; try rw [← esgs_151]; try rw [← esy_152]; try rfl)
      exact ct_ri hx hb hr hlocks hP hD hK hS d_Desk_put_26 (by rw [hk]; first | done | rfl) (by rw [hk]; first | done | rfl)
    · refine lv_iconst (v := (-1)) hx hb d_Desk_put_14 (by decide) ?_
      have hk : k_Desk_put sx sc shs sgs sy p1 p2 = ((-1), sc, shs, sgs, sy) := (by rw [k_Desk_put]; rw [if_neg c_147]; rw [if_neg c_148]; try rfl)
      exact ct_ri hx hb hr hlocks hP hD hK hS d_Desk_put_15 (by rw [hk]; first | done | rfl) (by rw [hk]; first | done | rfl)
def k_Hyper_read (sy : ob) (p1 : Int32) : Int32 :=
  if p1 = 1536 then (sy.1 0) else if p1 = 1538 then (sy.1 1) else if p1 = 1539 then (sy.1 2) else if p1 = 1540 then (sy.1 3) else if p1 = 1603 then (sy.1 4) else if p1 = 1604 then (sy.1 5) else if p1 = 1605 then (sy.1 5) else if p1 = 1610 then (sy.1 6) else if p1 = 1664 then (sy.1 7) else 0
set_option maxHeartbeats 4000000 in
set_option maxRecDepth 100000 in
theorem c_Hyper_read (l : Launch) (G : gx) (tys : List (ClassId × FieldType)) (qy : Nat) (sy : ob) (p1 : Int32) : ct_I l y_Hyper_read ws_Hyper_read ({ frames := 0, cells := 0, slots := 0, locals := 0 }) G tys [.ref qy, .int p1] [(qy, .inr (2, f_Hyper sy))] (k_Hyper_read sy p1) [(qy, .inr (2, f_Hyper sy))] := by
  refine ct_hI (cc := cc_Hyper_read) (maxL := 2) (ret := (some .int)) (by decide) rfl (Nat.le_of_ble_eq_true rfl) ?_
  intro p e s m below meth c A ls hx hb hr hml hts hown hlocks hP hK hD hA hE hS hl
  have hl : lv_has ls 2 [(0, .ref qy), (1, .int p1)] := hl
  have hown : s.vm.findClass R_Hyper = some m.cls := hown
  refine lv_iload_n hx hb d_Hyper_read_0 rfl (lv_at hl 1 rfl) ?_
  by_cases c_166 : p1 = 1536
  · refine lv_lookup (off := 83) (tgt := 84) hx hb d_Hyper_read_1 (by decide) (by rw [c_166]; decide) (by decide) ?_
    refine lv_aload_n hx hb d_Hyper_read_84 rfl (lv_at hl 0 rfl) ?_
    refine va_get (D := G.1) (ci := 2) (v := .int (sy.1 0)) (C := R_Hyper) (T := T_Hyper) (N := 8) hx hb hts (fun w h => gd_sub _ (iw_Hyper w h)) hown hK hP 0 rfl rfl 0 (by decide) (hts _ (gd_sub _ q_132)) (fun _ h9 => h9) rfl d_Hyper_read_85 ?_
    have hk : k_Hyper_read sy p1 = (sy.1 0) := (by rw [k_Hyper_read]; rw [if_pos c_166]; try rfl)
    exact ct_ri hx hb hr hlocks hP hD hK hS d_Hyper_read_88 (by rw [hk]; first | done | rfl) rfl
  · by_cases c_167 : p1 = 1538
    · refine lv_lookup (off := 88) (tgt := 89) hx hb d_Hyper_read_1 (by decide) (by rw [c_167]; decide) (by decide) ?_
      refine lv_aload_n hx hb d_Hyper_read_89 rfl (lv_at hl 0 rfl) ?_
      refine va_get (D := G.1) (ci := 2) (v := .int (sy.1 1)) (C := R_Hyper) (T := T_Hyper) (N := 8) hx hb hts (fun w h => gd_sub _ (iw_Hyper w h)) hown hK hP 0 rfl rfl 1 (by decide) (hts _ (gd_sub _ q_133)) (fun _ h9 => h9) rfl d_Hyper_read_90 ?_
      have hk : k_Hyper_read sy p1 = (sy.1 1) := (by rw [k_Hyper_read]; rw [if_neg c_166]; rw [if_pos c_167]; try rfl)
      exact ct_ri hx hb hr hlocks hP hD hK hS d_Hyper_read_93 (by rw [hk]; first | done | rfl) rfl
    · by_cases c_168 : p1 = 1539
      · refine lv_lookup (off := 93) (tgt := 94) hx hb d_Hyper_read_1 (by decide) (by rw [c_168]; decide) (by decide) ?_
        refine lv_aload_n hx hb d_Hyper_read_94 rfl (lv_at hl 0 rfl) ?_
        refine va_get (D := G.1) (ci := 2) (v := .int (sy.1 2)) (C := R_Hyper) (T := T_Hyper) (N := 8) hx hb hts (fun w h => gd_sub _ (iw_Hyper w h)) hown hK hP 0 rfl rfl 2 (by decide) (hts _ (gd_sub _ q_135)) (fun _ h9 => h9) rfl d_Hyper_read_95 ?_
        have hk : k_Hyper_read sy p1 = (sy.1 2) := (by rw [k_Hyper_read]; rw [if_neg c_166]; rw [if_neg c_167]; rw [if_pos c_168]; try rfl)
        exact ct_ri hx hb hr hlocks hP hD hK hS d_Hyper_read_98 (by rw [hk]; first | done | rfl) rfl
      · by_cases c_169 : p1 = 1540
        · refine lv_lookup (off := 98) (tgt := 99) hx hb d_Hyper_read_1 (by decide) (by rw [c_169]; decide) (by decide) ?_
          refine lv_aload_n hx hb d_Hyper_read_99 rfl (lv_at hl 0 rfl) ?_
          refine va_get (D := G.1) (ci := 2) (v := .int (sy.1 3)) (C := R_Hyper) (T := T_Hyper) (N := 8) hx hb hts (fun w h => gd_sub _ (iw_Hyper w h)) hown hK hP 0 rfl rfl 3 (by decide) (hts _ (gd_sub _ q_137)) (fun _ h9 => h9) rfl d_Hyper_read_100 ?_
          have hk : k_Hyper_read sy p1 = (sy.1 3) := (by rw [k_Hyper_read]; rw [if_neg c_166]; rw [if_neg c_167]; rw [if_neg c_168]; rw [if_pos c_169]; try rfl)
          exact ct_ri hx hb hr hlocks hP hD hK hS d_Hyper_read_103 (by rw [hk]; first | done | rfl) rfl
        · by_cases c_170 : p1 = 1603
          · refine lv_lookup (off := 103) (tgt := 104) hx hb d_Hyper_read_1 (by decide) (by rw [c_170]; decide) (by decide) ?_
            refine lv_aload_n hx hb d_Hyper_read_104 rfl (lv_at hl 0 rfl) ?_
            refine va_get (D := G.1) (ci := 2) (v := .int (sy.1 4)) (C := R_Hyper) (T := T_Hyper) (N := 8) hx hb hts (fun w h => gd_sub _ (iw_Hyper w h)) hown hK hP 0 rfl rfl 4 (by decide) (hts _ (gd_sub _ q_139)) (fun _ h9 => h9) rfl d_Hyper_read_105 ?_
            have hk : k_Hyper_read sy p1 = (sy.1 4) := (by rw [k_Hyper_read]; rw [if_neg c_166]; rw [if_neg c_167]; rw [if_neg c_168]; rw [if_neg c_169]; rw [if_pos c_170]; try rfl)
            exact ct_ri hx hb hr hlocks hP hD hK hS d_Hyper_read_108 (by rw [hk]; first | done | rfl) rfl
          · by_cases c_171 : p1 = 1604
            · refine lv_lookup (off := 108) (tgt := 109) hx hb d_Hyper_read_1 (by decide) (by rw [c_171]; decide) (by decide) ?_
              refine lv_aload_n hx hb d_Hyper_read_109 rfl (lv_at hl 0 rfl) ?_
              refine va_get (D := G.1) (ci := 2) (v := .int (sy.1 5)) (C := R_Hyper) (T := T_Hyper) (N := 8) hx hb hts (fun w h => gd_sub _ (iw_Hyper w h)) hown hK hP 0 rfl rfl 5 (by decide) (hts _ (gd_sub _ q_141)) (fun _ h9 => h9) rfl d_Hyper_read_110 ?_
              have hk : k_Hyper_read sy p1 = (sy.1 5) := (by rw [k_Hyper_read]; rw [if_neg c_166]; rw [if_neg c_167]; rw [if_neg c_168]; rw [if_neg c_169]; rw [if_neg c_170]; rw [if_pos c_171]; try rfl)
              exact ct_ri hx hb hr hlocks hP hD hK hS d_Hyper_read_113 (by rw [hk]; first | done | rfl) rfl
            · by_cases c_172 : p1 = 1605
              · refine lv_lookup (off := 108) (tgt := 109) hx hb d_Hyper_read_1 (by decide) (by rw [c_172]; decide) (by decide) ?_
                refine lv_aload_n hx hb d_Hyper_read_109 rfl (lv_at hl 0 rfl) ?_
                refine va_get (D := G.1) (ci := 2) (v := .int (sy.1 5)) (C := R_Hyper) (T := T_Hyper) (N := 8) hx hb hts (fun w h => gd_sub _ (iw_Hyper w h)) hown hK hP 0 rfl rfl 5 (by decide) (hts _ (gd_sub _ q_141)) (fun _ h9 => h9) rfl d_Hyper_read_110 ?_
                have hk : k_Hyper_read sy p1 = (sy.1 5) := (by rw [k_Hyper_read]; rw [if_neg c_166]; rw [if_neg c_167]; rw [if_neg c_168]; rw [if_neg c_169]; rw [if_neg c_170]; rw [if_neg c_171]; rw [if_pos c_172]; try rfl)
                exact ct_ri hx hb hr hlocks hP hD hK hS d_Hyper_read_113 (by rw [hk]; first | done | rfl) rfl
              · by_cases c_173 : p1 = 1610
                · refine lv_lookup (off := 113) (tgt := 114) hx hb d_Hyper_read_1 (by decide) (by rw [c_173]; decide) (by decide) ?_
                  refine lv_aload_n hx hb d_Hyper_read_114 rfl (lv_at hl 0 rfl) ?_
                  refine va_get (D := G.1) (ci := 2) (v := .int (sy.1 6)) (C := R_Hyper) (T := T_Hyper) (N := 8) hx hb hts (fun w h => gd_sub _ (iw_Hyper w h)) hown hK hP 0 rfl rfl 6 (by decide) (hts _ (gd_sub _ q_143)) (fun _ h9 => h9) rfl d_Hyper_read_115 ?_
                  have hk : k_Hyper_read sy p1 = (sy.1 6) := (by rw [k_Hyper_read]; rw [if_neg c_166]; rw [if_neg c_167]; rw [if_neg c_168]; rw [if_neg c_169]; rw [if_neg c_170]; rw [if_neg c_171]; rw [if_neg c_172]; rw [if_pos c_173]; try rfl)
                  exact ct_ri hx hb hr hlocks hP hD hK hS d_Hyper_read_118 (by rw [hk]; first | done | rfl) rfl
                · by_cases c_174 : p1 = 1664
                  · refine lv_lookup (off := 118) (tgt := 119) hx hb d_Hyper_read_1 (by decide) (by rw [c_174]; decide) (by decide) ?_
                    refine lv_aload_n hx hb d_Hyper_read_119 rfl (lv_at hl 0 rfl) ?_
                    refine va_get (D := G.1) (ci := 2) (v := .int (sy.1 7)) (C := R_Hyper) (T := T_Hyper) (N := 8) hx hb hts (fun w h => gd_sub _ (iw_Hyper w h)) hown hK hP 0 rfl rfl 7 (by decide) (hts _ (gd_sub _ q_145)) (fun _ h9 => h9) rfl d_Hyper_read_120 ?_
                    have hk : k_Hyper_read sy p1 = (sy.1 7) := (by rw [k_Hyper_read]; rw [if_neg c_166]; rw [if_neg c_167]; rw [if_neg c_168]; rw [if_neg c_169]; rw [if_neg c_170]; rw [if_neg c_171]; rw [if_neg c_172]; rw [if_neg c_173]; rw [if_pos c_174]; try rfl)
                    exact ct_ri hx hb hr hlocks hP hD hK hS d_Hyper_read_123 (by rw [hk]; first | done | rfl) rfl
                  · refine lv_lookup (off := 123) (tgt := 124) hx hb d_Hyper_read_1 (by decide) ((lv_osw c_166 (by decide)).trans ((lv_osw c_167 (by decide)).trans ((lv_osw c_168 (by decide)).trans ((lv_osw c_169 (by decide)).trans ((lv_osw c_170 (by decide)).trans ((lv_osw c_171 (by decide)).trans ((lv_osw c_172 (by decide)).trans ((lv_osw c_173 (by decide)).trans ((lv_osw c_174 (by decide)).trans rfl))))))))) (by decide) ?_
                    refine lv_iconst (v := 0) hx hb d_Hyper_read_124 (by decide) ?_
                    have hk : k_Hyper_read sy p1 = 0 := (by rw [k_Hyper_read]; rw [if_neg c_166]; rw [if_neg c_167]; rw [if_neg c_168]; rw [if_neg c_169]; rw [if_neg c_170]; rw [if_neg c_171]; rw [if_neg c_172]; rw [if_neg c_173]; rw [if_neg c_174]; try rfl)
                    exact ct_ri hx hb hr hlocks hP hD hK hS d_Hyper_read_125 (by rw [hk]; first | done | rfl) rfl
def k_Hyper_guestIe (sy : ob) : Int32 :=
  (ush ((sy.1 3) &&& (sy.1 2)) 1)
set_option maxHeartbeats 4000000 in
set_option maxRecDepth 100000 in
theorem c_Hyper_guestIe (l : Launch) (G : gx) (tys : List (ClassId × FieldType)) (qy : Nat) (sy : ob) : ct_I l y_Hyper_guestIe ws_Hyper_guestIe ({ frames := 0, cells := 0, slots := 0, locals := 0 }) G tys [.ref qy] [(qy, .inr (2, f_Hyper sy))] (k_Hyper_guestIe sy) [(qy, .inr (2, f_Hyper sy))] := by
  refine ct_hI (cc := cc_Hyper_guestIe) (maxL := 1) (ret := (some .int)) (by decide) rfl (Nat.le_of_ble_eq_true rfl) ?_
  intro p e s m below meth c A ls hx hb hr hml hts hown hlocks hP hK hD hA hE hS hl
  have hl : lv_has ls 1 [(0, .ref qy)] := hl
  have hown : s.vm.findClass R_Hyper = some m.cls := hown
  refine lv_aload_n hx hb d_Hyper_guestIe_0 rfl (lv_at hl 0 rfl) ?_
  refine va_get (D := G.1) (ci := 2) (v := .int (sy.1 3)) (C := R_Hyper) (T := T_Hyper) (N := 8) hx hb hts (fun w h => gd_sub _ (iw_Hyper w h)) hown hK hP 0 rfl rfl 3 (by decide) (hts _ (gd_sub _ q_137)) (fun _ h9 => h9) rfl d_Hyper_guestIe_1 ?_
  refine lv_aload_n hx hb d_Hyper_guestIe_4 rfl (lv_at hl 0 rfl) ?_
  refine va_get (D := G.1) (ci := 2) (v := .int (sy.1 2)) (C := R_Hyper) (T := T_Hyper) (N := 8) hx hb hts (fun w h => gd_sub _ (iw_Hyper w h)) hown hK hP 0 rfl rfl 2 (by decide) (hts _ (gd_sub _ q_135)) (fun _ h9 => h9) rfl d_Hyper_guestIe_5 ?_
  refine lv_iand hx hb d_Hyper_guestIe_8 ?_
  refine lv_iconst (v := 1) hx hb d_Hyper_guestIe_9 (by decide) ?_
  refine lv_iushr (v := (ush ((sy.1 3) &&& (sy.1 2)) 1)) hx hb d_Hyper_guestIe_10 rfl ?_
  have hk : k_Hyper_guestIe sy = (ush ((sy.1 3) &&& (sy.1 2)) 1) := (by rw [k_Hyper_guestIe]; try rfl)
  exact ct_ri hx hb hr hlocks hP hD hK hS d_Hyper_guestIe_11 (by rw [hk]; first | done | rfl) rfl
def k_Hyper_guestIp (sy : ob) : Int32 :=
  (ush ((sy.1 5) &&& (sy.1 2)) 1)
set_option maxHeartbeats 4000000 in
set_option maxRecDepth 100000 in
theorem c_Hyper_guestIp (l : Launch) (G : gx) (tys : List (ClassId × FieldType)) (qy : Nat) (sy : ob) : ct_I l y_Hyper_guestIp ws_Hyper_guestIp ({ frames := 0, cells := 0, slots := 0, locals := 0 }) G tys [.ref qy] [(qy, .inr (2, f_Hyper sy))] (k_Hyper_guestIp sy) [(qy, .inr (2, f_Hyper sy))] := by
  refine ct_hI (cc := cc_Hyper_guestIp) (maxL := 1) (ret := (some .int)) (by decide) rfl (Nat.le_of_ble_eq_true rfl) ?_
  intro p e s m below meth c A ls hx hb hr hml hts hown hlocks hP hK hD hA hE hS hl
  have hl : lv_has ls 1 [(0, .ref qy)] := hl
  have hown : s.vm.findClass R_Hyper = some m.cls := hown
  refine lv_aload_n hx hb d_Hyper_guestIp_0 rfl (lv_at hl 0 rfl) ?_
  refine va_get (D := G.1) (ci := 2) (v := .int (sy.1 5)) (C := R_Hyper) (T := T_Hyper) (N := 8) hx hb hts (fun w h => gd_sub _ (iw_Hyper w h)) hown hK hP 0 rfl rfl 5 (by decide) (hts _ (gd_sub _ q_141)) (fun _ h9 => h9) rfl d_Hyper_guestIp_1 ?_
  refine lv_aload_n hx hb d_Hyper_guestIp_4 rfl (lv_at hl 0 rfl) ?_
  refine va_get (D := G.1) (ci := 2) (v := .int (sy.1 2)) (C := R_Hyper) (T := T_Hyper) (N := 8) hx hb hts (fun w h => gd_sub _ (iw_Hyper w h)) hown hK hP 0 rfl rfl 2 (by decide) (hts _ (gd_sub _ q_135)) (fun _ h9 => h9) rfl d_Hyper_guestIp_5 ?_
  refine lv_iand hx hb d_Hyper_guestIp_8 ?_
  refine lv_iconst (v := 1) hx hb d_Hyper_guestIp_9 (by decide) ?_
  refine lv_iushr (v := (ush ((sy.1 5) &&& (sy.1 2)) 1)) hx hb d_Hyper_guestIp_10 rfl ?_
  have hk : k_Hyper_guestIp sy = (ush ((sy.1 5) &&& (sy.1 2)) 1) := (by rw [k_Hyper_guestIp]; try rfl)
  exact ct_ri hx hb hr hlocks hP hD hK hS d_Hyper_guestIp_11 (by rw [hk]; first | done | rfl) rfl
def k_Bank_read (sb : ob) (p1 : Int32) : Int32 :=
  if p1 = 0 then (sb.1 0) else if p1 = 5 then (sb.1 1) else if p1 = 64 then (sb.1 2) else if p1 = 65 then (sb.1 3) else if p1 = 66 then (sb.1 4) else if p1 = 67 then (sb.1 5) else if p1 = 128 then (sb.1 6) else 0
set_option maxHeartbeats 4000000 in
set_option maxRecDepth 100000 in
theorem c_Bank_read (l : Launch) (G : gx) (tys : List (ClassId × FieldType)) (qb : Nat) (sb : ob) (p1 : Int32) : ct_I l y_Bank_read ws_Bank_read ({ frames := 0, cells := 0, slots := 0, locals := 0 }) G tys [.ref qb, .int p1] [(qb, .inr (0, f_Bank sb))] (k_Bank_read sb p1) [(qb, .inr (0, f_Bank sb))] := by
  refine ct_hI (cc := cc_Bank_read) (maxL := 2) (ret := (some .int)) (by decide) rfl (Nat.le_of_ble_eq_true rfl) ?_
  intro p e s m below meth c A ls hx hb hr hml hts hown hlocks hP hK hD hA hE hS hl
  have hl : lv_has ls 2 [(0, .ref qb), (1, .int p1)] := hl
  have hown : s.vm.findClass R_Bank = some m.cls := hown
  refine lv_iload_n hx hb d_Bank_read_0 rfl (lv_at hl 1 rfl) ?_
  by_cases c_184 : p1 = 0
  · refine lv_lookup (off := 67) (tgt := 68) hx hb d_Bank_read_1 (by decide) (by rw [c_184]; decide) (by decide) ?_
    refine lv_aload_n hx hb d_Bank_read_68 rfl (lv_at hl 0 rfl) ?_
    refine va_get (D := G.1) (ci := 0) (v := .int (sb.1 0)) (C := R_Bank) (T := T_Bank) (N := 7) hx hb hts (fun w h => gd_sub _ (iw_Bank w h)) hown hK hP 0 rfl rfl 0 (by decide) (hts _ (gd_sub _ q_103)) (fun _ h9 => h9) rfl d_Bank_read_69 ?_
    have hk : k_Bank_read sb p1 = (sb.1 0) := (by rw [k_Bank_read]; rw [if_pos c_184]; try rfl)
    exact ct_ri hx hb hr hlocks hP hD hK hS d_Bank_read_72 (by rw [hk]; first | done | rfl) rfl
  · by_cases c_185 : p1 = 5
    · refine lv_lookup (off := 72) (tgt := 73) hx hb d_Bank_read_1 (by decide) (by rw [c_185]; decide) (by decide) ?_
      refine lv_aload_n hx hb d_Bank_read_73 rfl (lv_at hl 0 rfl) ?_
      refine va_get (D := G.1) (ci := 0) (v := .int (sb.1 1)) (C := R_Bank) (T := T_Bank) (N := 7) hx hb hts (fun w h => gd_sub _ (iw_Bank w h)) hown hK hP 0 rfl rfl 1 (by decide) (hts _ (gd_sub _ q_104)) (fun _ h9 => h9) rfl d_Bank_read_74 ?_
      have hk : k_Bank_read sb p1 = (sb.1 1) := (by rw [k_Bank_read]; rw [if_neg c_184]; rw [if_pos c_185]; try rfl)
      exact ct_ri hx hb hr hlocks hP hD hK hS d_Bank_read_77 (by rw [hk]; first | done | rfl) rfl
    · by_cases c_186 : p1 = 64
      · refine lv_lookup (off := 77) (tgt := 78) hx hb d_Bank_read_1 (by decide) (by rw [c_186]; decide) (by decide) ?_
        refine lv_aload_n hx hb d_Bank_read_78 rfl (lv_at hl 0 rfl) ?_
        refine va_get (D := G.1) (ci := 0) (v := .int (sb.1 2)) (C := R_Bank) (T := T_Bank) (N := 7) hx hb hts (fun w h => gd_sub _ (iw_Bank w h)) hown hK hP 0 rfl rfl 2 (by decide) (hts _ (gd_sub _ q_105)) (fun _ h9 => h9) rfl d_Bank_read_79 ?_
        have hk : k_Bank_read sb p1 = (sb.1 2) := (by rw [k_Bank_read]; rw [if_neg c_184]; rw [if_neg c_185]; rw [if_pos c_186]; try rfl)
        exact ct_ri hx hb hr hlocks hP hD hK hS d_Bank_read_82 (by rw [hk]; first | done | rfl) rfl
      · by_cases c_187 : p1 = 65
        · refine lv_lookup (off := 82) (tgt := 83) hx hb d_Bank_read_1 (by decide) (by rw [c_187]; decide) (by decide) ?_
          refine lv_aload_n hx hb d_Bank_read_83 rfl (lv_at hl 0 rfl) ?_
          refine va_get (D := G.1) (ci := 0) (v := .int (sb.1 3)) (C := R_Bank) (T := T_Bank) (N := 7) hx hb hts (fun w h => gd_sub _ (iw_Bank w h)) hown hK hP 0 rfl rfl 3 (by decide) (hts _ (gd_sub _ q_106)) (fun _ h9 => h9) rfl d_Bank_read_84 ?_
          have hk : k_Bank_read sb p1 = (sb.1 3) := (by rw [k_Bank_read]; rw [if_neg c_184]; rw [if_neg c_185]; rw [if_neg c_186]; rw [if_pos c_187]; try rfl)
          exact ct_ri hx hb hr hlocks hP hD hK hS d_Bank_read_87 (by rw [hk]; first | done | rfl) rfl
        · by_cases c_188 : p1 = 66
          · refine lv_lookup (off := 87) (tgt := 88) hx hb d_Bank_read_1 (by decide) (by rw [c_188]; decide) (by decide) ?_
            refine lv_aload_n hx hb d_Bank_read_88 rfl (lv_at hl 0 rfl) ?_
            refine va_get (D := G.1) (ci := 0) (v := .int (sb.1 4)) (C := R_Bank) (T := T_Bank) (N := 7) hx hb hts (fun w h => gd_sub _ (iw_Bank w h)) hown hK hP 0 rfl rfl 4 (by decide) (hts _ (gd_sub _ q_108)) (fun _ h9 => h9) rfl d_Bank_read_89 ?_
            have hk : k_Bank_read sb p1 = (sb.1 4) := (by rw [k_Bank_read]; rw [if_neg c_184]; rw [if_neg c_185]; rw [if_neg c_186]; rw [if_neg c_187]; rw [if_pos c_188]; try rfl)
            exact ct_ri hx hb hr hlocks hP hD hK hS d_Bank_read_92 (by rw [hk]; first | done | rfl) rfl
          · by_cases c_189 : p1 = 67
            · refine lv_lookup (off := 92) (tgt := 93) hx hb d_Bank_read_1 (by decide) (by rw [c_189]; decide) (by decide) ?_
              refine lv_aload_n hx hb d_Bank_read_93 rfl (lv_at hl 0 rfl) ?_
              refine va_get (D := G.1) (ci := 0) (v := .int (sb.1 5)) (C := R_Bank) (T := T_Bank) (N := 7) hx hb hts (fun w h => gd_sub _ (iw_Bank w h)) hown hK hP 0 rfl rfl 5 (by decide) (hts _ (gd_sub _ q_109)) (fun _ h9 => h9) rfl d_Bank_read_94 ?_
              have hk : k_Bank_read sb p1 = (sb.1 5) := (by rw [k_Bank_read]; rw [if_neg c_184]; rw [if_neg c_185]; rw [if_neg c_186]; rw [if_neg c_187]; rw [if_neg c_188]; rw [if_pos c_189]; try rfl)
              exact ct_ri hx hb hr hlocks hP hD hK hS d_Bank_read_97 (by rw [hk]; first | done | rfl) rfl
            · by_cases c_190 : p1 = 128
              · refine lv_lookup (off := 97) (tgt := 98) hx hb d_Bank_read_1 (by decide) (by rw [c_190]; decide) (by decide) ?_
                refine lv_aload_n hx hb d_Bank_read_98 rfl (lv_at hl 0 rfl) ?_
                refine va_get (D := G.1) (ci := 0) (v := .int (sb.1 6)) (C := R_Bank) (T := T_Bank) (N := 7) hx hb hts (fun w h => gd_sub _ (iw_Bank w h)) hown hK hP 0 rfl rfl 6 (by decide) (hts _ (gd_sub _ q_110)) (fun _ h9 => h9) rfl d_Bank_read_99 ?_
                have hk : k_Bank_read sb p1 = (sb.1 6) := (by rw [k_Bank_read]; rw [if_neg c_184]; rw [if_neg c_185]; rw [if_neg c_186]; rw [if_neg c_187]; rw [if_neg c_188]; rw [if_neg c_189]; rw [if_pos c_190]; try rfl)
                exact ct_ri hx hb hr hlocks hP hD hK hS d_Bank_read_102 (by rw [hk]; first | done | rfl) rfl
              · refine lv_lookup (off := 102) (tgt := 103) hx hb d_Bank_read_1 (by decide) ((lv_osw c_184 (by decide)).trans ((lv_osw c_185 (by decide)).trans ((lv_osw c_186 (by decide)).trans ((lv_osw c_187 (by decide)).trans ((lv_osw c_188 (by decide)).trans ((lv_osw c_189 (by decide)).trans ((lv_osw c_190 (by decide)).trans rfl))))))) (by decide) ?_
                refine lv_iconst (v := 0) hx hb d_Bank_read_103 (by decide) ?_
                have hk : k_Bank_read sb p1 = 0 := (by rw [k_Bank_read]; rw [if_neg c_184]; rw [if_neg c_185]; rw [if_neg c_186]; rw [if_neg c_187]; rw [if_neg c_188]; rw [if_neg c_189]; rw [if_neg c_190]; try rfl)
                exact ct_ri hx hb hr hlocks hP hD hK hS d_Bank_read_104 (by rw [hk]; first | done | rfl) rfl
def k_Controls_readGuest (sc : ob) (sgs : ob) (sy : ob) (p1 : Int32) : Int32 :=
  if p1 = 4 then (k_Hyper_guestIe sy) else if p1 = 68 then (k_Hyper_guestIp sy) else (k_Bank_read sgs p1)
set_option maxHeartbeats 4000000 in
set_option maxRecDepth 100000 in
theorem c_Controls_readGuest (l : Launch) (G : gx) (tys : List (ClassId × FieldType)) (qc qgs qy qo qhs : Nat) (sc : ob) (sgs : ob) (sy : ob) (p1 : Int32) : ct_I l y_Controls_readGuest ws_Controls_readGuest ({ frames := 1, cells := 0, slots := 0, locals := 21 }) G tys [.ref qc, .int p1] [(qc, .inr (1, f_Controls qo qhs qgs qy sc)), (qgs, .inr (0, f_Bank sgs)), (qy, .inr (2, f_Hyper sy))] (k_Controls_readGuest sc sgs sy p1) [(qc, .inr (1, f_Controls qo qhs qgs qy sc)), (qgs, .inr (0, f_Bank sgs)), (qy, .inr (2, f_Hyper sy))] := by
  refine ct_hI (cc := cc_Controls_readGuest) (maxL := 2) (ret := (some .int)) (by decide) rfl (Nat.le_of_ble_eq_true rfl) ?_
  intro p e s m below meth c A ls hx hb hr hml hts hown hlocks hP hK hD hA hE hS hl
  have hl : lv_has ls 2 [(0, .ref qc), (1, .int p1)] := hl
  have hown : s.vm.findClass R_Controls = some m.cls := hown
  refine lv_iload_n hx hb d_Controls_readGuest_0 rfl (lv_at hl 1 rfl) ?_
  by_cases c_191 : p1 = 4
  · refine lv_lookup (off := 27) (tgt := 28) hx hb d_Controls_readGuest_1 (by decide) (by rw [c_191]; decide) (by decide) ?_
    refine lv_aload_n hx hb d_Controls_readGuest_28 rfl (lv_at hl 0 rfl) ?_
    refine va_get (D := G.1) (ci := 1) (v := .ref qy) (C := R_Controls) (T := T_Controls) (N := 6) hx hb hts (fun w h => gd_sub _ (iw_Controls w h)) hown hK hP 0 rfl rfl 3 (by decide) (hts _ (gd_sub _ q_169)) (fun _ h9 => h9) rfl d_Controls_readGuest_29 ?_
    refine ct_cVi (wr := [(qc, .inr (1, f_Controls qo qhs qgs qy sc)), (qgs, .inr (0, f_Bank sgs))]) (w1 := [(qy, .inr (2, f_Hyper sy))]) (w2 := [(qc, .inr (1, f_Controls qo qhs qgs qy sc)), (qgs, .inr (0, f_Bank sgs)), (qy, .inr (2, f_Hyper sy))]) (r := (k_Hyper_guestIe sy)) (As := []) (rest := []) (ci := 2) (q0 := 0) ⟨hx, hb, hml, hown, hts⟩ (c_Hyper_guestIe l G tys qy sy) (cwV 0 hts (gdV gd_gd q_358 q_359 q_360 q_45 q_361) rfl rfl rfl (by decide +kernel) ⟨Nat.le_of_ble_eq_true rfl, Nat.le_of_ble_eq_true rfl⟩) hE hK hP hD hS hA [2] [0, 1] [0, 1, 2] rfl (by decide) rfl (by decide) (by decide) rfl (by decide) rfl rfl rfl hl.1 rfl (Nat.le_of_ble_eq_true rfl) d_Controls_readGuest_32 ⟨Nat.zero_le _, Nat.zero_le _⟩ (fun H locs hP hD hS => ?_)
    have hk : k_Controls_readGuest sc sgs sy p1 = (k_Hyper_guestIe sy) := (by rw [k_Controls_readGuest]; rw [if_pos c_191]; try rfl)
    exact ct_ri hx hb hr hlocks hP hD hK hS d_Controls_readGuest_35 (by rw [hk]; first | done | rfl) rfl
  · by_cases c_192 : p1 = 68
    · refine lv_lookup (off := 35) (tgt := 36) hx hb d_Controls_readGuest_1 (by decide) (by rw [c_192]; decide) (by decide) ?_
      refine lv_aload_n hx hb d_Controls_readGuest_36 rfl (lv_at hl 0 rfl) ?_
      refine va_get (D := G.1) (ci := 1) (v := .ref qy) (C := R_Controls) (T := T_Controls) (N := 6) hx hb hts (fun w h => gd_sub _ (iw_Controls w h)) hown hK hP 0 rfl rfl 3 (by decide) (hts _ (gd_sub _ q_169)) (fun _ h9 => h9) rfl d_Controls_readGuest_37 ?_
      refine ct_cVi (wr := [(qc, .inr (1, f_Controls qo qhs qgs qy sc)), (qgs, .inr (0, f_Bank sgs))]) (w1 := [(qy, .inr (2, f_Hyper sy))]) (w2 := [(qc, .inr (1, f_Controls qo qhs qgs qy sc)), (qgs, .inr (0, f_Bank sgs)), (qy, .inr (2, f_Hyper sy))]) (r := (k_Hyper_guestIp sy)) (As := []) (rest := []) (ci := 2) (q0 := 0) ⟨hx, hb, hml, hown, hts⟩ (c_Hyper_guestIp l G tys qy sy) (cwV 0 hts (gdV gd_gd q_362 q_363 q_364 q_45 q_365) rfl rfl rfl (by decide +kernel) ⟨Nat.le_of_ble_eq_true rfl, Nat.le_of_ble_eq_true rfl⟩) hE hK hP hD hS hA [2] [0, 1] [0, 1, 2] rfl (by decide) rfl (by decide) (by decide) rfl (by decide) rfl rfl rfl hl.1 rfl (Nat.le_of_ble_eq_true rfl) d_Controls_readGuest_40 ⟨Nat.zero_le _, Nat.zero_le _⟩ (fun H locs hP hD hS => ?_)
      have hk : k_Controls_readGuest sc sgs sy p1 = (k_Hyper_guestIp sy) := (by rw [k_Controls_readGuest]; rw [if_neg c_191]; rw [if_pos c_192]; try rfl)
      exact ct_ri hx hb hr hlocks hP hD hK hS d_Controls_readGuest_43 (by rw [hk]; first | done | rfl) rfl
    · refine lv_lookup (off := 43) (tgt := 44) hx hb d_Controls_readGuest_1 (by decide) ((lv_osw c_191 (by decide)).trans ((lv_osw c_192 (by decide)).trans rfl)) (by decide) ?_
      refine lv_aload_n hx hb d_Controls_readGuest_44 rfl (lv_at hl 0 rfl) ?_
      refine va_get (D := G.1) (ci := 1) (v := .ref qgs) (C := R_Controls) (T := T_Controls) (N := 6) hx hb hts (fun w h => gd_sub _ (iw_Controls w h)) hown hK hP 0 rfl rfl 2 (by decide) (hts _ (gd_sub _ q_167)) (fun _ h9 => h9) rfl d_Controls_readGuest_45 ?_
      refine lv_iload_n hx hb d_Controls_readGuest_48 rfl (lv_at hl 1 rfl) ?_
      refine ct_cVi (wr := [(qc, .inr (1, f_Controls qo qhs qgs qy sc)), (qy, .inr (2, f_Hyper sy))]) (w1 := [(qgs, .inr (0, f_Bank sgs))]) (w2 := [(qc, .inr (1, f_Controls qo qhs qgs qy sc)), (qgs, .inr (0, f_Bank sgs)), (qy, .inr (2, f_Hyper sy))]) (r := (k_Bank_read sgs p1)) (As := [.int p1]) (rest := []) (ci := 0) (q0 := 0) ⟨hx, hb, hml, hown, hts⟩ (c_Bank_read l G tys qgs sgs p1) (cwV 1 hts (gdV gd_gd q_350 q_351 q_352 q_44 q_353) rfl rfl rfl (by decide +kernel) ⟨Nat.le_of_ble_eq_true rfl, Nat.le_of_ble_eq_true rfl⟩) hE hK hP hD hS hA [1] [0, 2] [0, 2, 1] rfl (by decide) rfl (by decide) (by decide) rfl (by decide) rfl rfl rfl hl.1 rfl (Nat.le_of_ble_eq_true rfl) d_Controls_readGuest_49 ⟨Nat.zero_le _, Nat.zero_le _⟩ (fun H locs hP hD hS => ?_)
      have hk : k_Controls_readGuest sc sgs sy p1 = (k_Bank_read sgs p1) := (by rw [k_Controls_readGuest]; rw [if_neg c_191]; rw [if_neg c_192]; try rfl)
      exact ct_ri hx hb hr hlocks hP hD hK hS d_Controls_readGuest_52 (by rw [hk]; first | done | rfl) rfl
def k_Outside_alarmRings (so : ob) : Bool :=
  if (lg_cmp (so.2.1 2) (so.2.1 3)) < 0 then false else true
set_option maxHeartbeats 4000000 in
set_option maxRecDepth 100000 in
theorem c_Outside_alarmRings (l : Launch) (G : gx) (tys : List (ClassId × FieldType)) (qo qa : Nat) (so : ob) : ct_I l y_Outside_alarmRings ws_Outside_alarmRings ({ frames := 0, cells := 0, slots := 0, locals := 0 }) G tys [.ref qo] [(qo, .inr (3, f_Outside qa so))] (bI (k_Outside_alarmRings so)) [(qo, .inr (3, f_Outside qa so))] := by
  refine ct_hI (cc := cc_Outside_alarmRings) (maxL := 1) (ret := (some .boolean)) (by decide) rfl (Nat.le_of_ble_eq_true rfl) ?_
  intro p e s m below meth c A ls hx hb hr hml hts hown hlocks hP hK hD hA hE hS hl
  have hl : lv_has ls 1 [(0, .ref qo)] := hl
  have hown : s.vm.findClass R_Outside = some m.cls := hown
  refine lv_aload_n hx hb d_Outside_alarmRings_0 rfl (lv_at hl 0 rfl) ?_
  refine va_get (D := G.1) (ci := 3) (v := .long (so.2.1 2)) (C := R_Outside) (T := T_Outside) (N := 6) hx hb hts (fun w h => gd_sub _ (iw_Outside w h)) hown hK hP 0 rfl rfl 2 (by decide) (hts _ (gd_sub _ q_73)) (fun _ h9 => h9) rfl d_Outside_alarmRings_1 ?_
  refine lv_aload_n hx hb d_Outside_alarmRings_4 rfl (lv_at hl 0 rfl) ?_
  refine va_get (D := G.1) (ci := 3) (v := .long (so.2.1 3)) (C := R_Outside) (T := T_Outside) (N := 6) hx hb hts (fun w h => gd_sub _ (iw_Outside w h)) hown hK hP 0 rfl rfl 3 (by decide) (hts _ (gd_sub _ q_76)) (fun _ h9 => h9) rfl d_Outside_alarmRings_5 ?_
  refine W.lcmp hx hb d_Outside_alarmRings_8 ?_
  refine lv_if_lt (tgt := 16) hx hb d_Outside_alarmRings_9 (by decide) (fun c_196 => ?_) (fun c_196 => ?_)
  · refine lv_iconst (v := 0) hx hb d_Outside_alarmRings_16 (by decide) ?_
    have hk : k_Outside_alarmRings so = false := (by rw [k_Outside_alarmRings]; rw [if_pos c_196]; try rfl)
    exact ct_rz hx hb hr hlocks hP hD hK hS d_Outside_alarmRings_17 rfl (by rw [hk]; first | done | rfl) rfl
  · refine lv_iconst (v := 1) hx hb d_Outside_alarmRings_12 (by decide) ?_
    refine lv_goto (tgt := 17) hx hb d_Outside_alarmRings_13 (by decide) ?_
    have hk : k_Outside_alarmRings so = true := (by rw [k_Outside_alarmRings]; rw [if_neg c_196]; try rfl)
    exact ct_rz hx hb hr hlocks hP hD hK hS d_Outside_alarmRings_17 rfl (by rw [hk]; first | done | rfl) rfl
def k_Controls_hostIp_j34 (sc : ob) (so : ob) (v1 : Int32) (t0 : Int32) : Int32 :=
  (((sc.1 5) ||| v1) ||| t0)
def k_Controls_hostIp_j16 (sc : ob) (so : ob) (t0 : Int32) : Int32 :=
  if (bI (so.2.2 4)) = 0 then (k_Controls_hostIp_j34 sc so t0 0) else (k_Controls_hostIp_j34 sc so t0 512)
def k_Controls_hostIp (sc : ob) (so : ob) : Int32 :=
  if (bI (k_Outside_alarmRings so)) = 0 then (k_Controls_hostIp_j16 sc so 0) else (k_Controls_hostIp_j16 sc so 32)
set_option maxHeartbeats 4000000 in
set_option maxRecDepth 100000 in
theorem c_Controls_hostIp (l : Launch) (G : gx) (tys : List (ClassId × FieldType)) (qc qo qhs qgs qy qa : Nat) (sc : ob) (so : ob) : ct_I l y_Controls_hostIp ws_Controls_hostIp ({ frames := 1, cells := 0, slots := 0, locals := 20 }) G tys [.ref qc] [(qc, .inr (1, f_Controls qo qhs qgs qy sc)), (qo, .inr (3, f_Outside qa so))] (k_Controls_hostIp sc so) [(qc, .inr (1, f_Controls qo qhs qgs qy sc)), (qo, .inr (3, f_Outside qa so))] := by
  refine ct_hI (cc := cc_Controls_hostIp) (maxL := 3) (ret := (some .int)) (by decide) rfl (Nat.le_of_ble_eq_true rfl) ?_
  intro p e s m below meth c A ls hx hb hr hml hts hown hlocks hP hK hD hA hE hS hl
  have hl : lv_has ls 3 [(0, .ref qc)] := hl
  have hown : s.vm.findClass R_Controls = some m.cls := hown
  have J34 : ∀ (v1 : Int32) (t0 : Int32) (H : Heap) (locs : List Loc) (ls : Array Slot), k_Controls_hostIp sc so = k_Controls_hostIp_j34 sc so v1 t0 → va_P G.1 vwCl [(qc, .inr (1, f_Controls qo qhs qgs qy sc)), (qo, .inr (3, f_Outside qa so))] H → va_D A [(qc, .inr (1, f_Controls qo qhs qgs qy sc)), (qo, .inr (3, f_Outside qa so))] → va_S A s.heap H locs → lv_has ls 3 [(0, .ref qc), (1, .int v1)] → W p l e ({ frames := 1, cells := 0, slots := 0, locals := 20 }) s m ([.ref qc] : List Value).toArray below meth c H locs 0 0 (MQ below (ct_qi G tys A (k_Controls_hostIp sc so) [(qc, .inr (1, f_Controls qo qhs qgs qy sc)), (qo, .inr (3, f_Outside qa so))]) ([.ref qc] : List Value).toArray s 0 0 A) (F0 m 34 ls [.int t0]) := by
    intro v1 t0 H locs ls hj hP hD hS hl
    refine lv_istore_n (lv' := [(2, .int t0), (0, .ref qc), (1, .int v1)]) hx hb d_Controls_hostIp_34 rfl hl (by decide) rfl (fun ls hl => ?_)
    refine lv_aload_n hx hb d_Controls_hostIp_35 rfl (lv_at hl 1 rfl) ?_
    refine va_get (D := G.1) (ci := 1) (v := .int (sc.1 5)) (C := R_Controls) (T := T_Controls) (N := 6) hx hb hts (fun w h => gd_sub _ (iw_Controls w h)) hown hK hP 0 rfl rfl 5 (by decide) (hts _ (gd_sub _ q_172)) (fun _ h9 => h9) rfl d_Controls_hostIp_36 ?_
    refine lv_iload_n hx hb d_Controls_hostIp_39 rfl (lv_at hl 2 rfl) ?_
    refine lv_ior hx hb d_Controls_hostIp_40 ?_
    refine lv_iload_n hx hb d_Controls_hostIp_41 rfl (lv_at hl 0 rfl) ?_
    refine lv_ior hx hb d_Controls_hostIp_42 ?_
    have hk : k_Controls_hostIp sc so = (((sc.1 5) ||| v1) ||| t0) := (hj.trans (by rw [k_Controls_hostIp_j34]; try rfl))
    exact ct_ri hx hb hr hlocks hP hD hK hS d_Controls_hostIp_43 (by rw [hk]; first | done | rfl) rfl
  have J16 : ∀ (t0 : Int32) (H : Heap) (locs : List Loc) (ls : Array Slot), k_Controls_hostIp sc so = k_Controls_hostIp_j16 sc so t0 → va_P G.1 vwCl [(qc, .inr (1, f_Controls qo qhs qgs qy sc)), (qo, .inr (3, f_Outside qa so))] H → va_D A [(qc, .inr (1, f_Controls qo qhs qgs qy sc)), (qo, .inr (3, f_Outside qa so))] → va_S A s.heap H locs → lv_has ls 3 [(0, .ref qc)] → W p l e ({ frames := 1, cells := 0, slots := 0, locals := 20 }) s m ([.ref qc] : List Value).toArray below meth c H locs 0 0 (MQ below (ct_qi G tys A (k_Controls_hostIp sc so) [(qc, .inr (1, f_Controls qo qhs qgs qy sc)), (qo, .inr (3, f_Outside qa so))]) ([.ref qc] : List Value).toArray s 0 0 A) (F0 m 16 ls [.int t0]) := by
    intro t0 H locs ls hj hP hD hS hl
    refine lv_istore_n (lv' := [(1, .int t0), (0, .ref qc)]) hx hb d_Controls_hostIp_16 rfl hl (by decide) rfl (fun ls hl => ?_)
    refine lv_aload_n hx hb d_Controls_hostIp_17 rfl (lv_at hl 1 rfl) ?_
    refine va_get (D := G.1) (ci := 1) (v := .ref qo) (C := R_Controls) (T := T_Controls) (N := 6) hx hb hts (fun w h => gd_sub _ (iw_Controls w h)) hown hK hP 0 rfl rfl 0 (by decide) (hts _ (gd_sub _ q_163)) (fun _ h9 => h9) rfl d_Controls_hostIp_18 ?_
    refine va_get (D := G.1) (ci := 3) (v := .int (bI (so.2.2 4))) (C := R_Outside) (T := T_Outside) (N := 6) hx hb hts (fun w h => gd_sub _ (iw_Outside w h)) hown hK hP 1 rfl rfl 4 (by decide) (hts _ (gd_sub _ q_80)) (fun _ h9 => h9) rfl d_Controls_hostIp_21 ?_
    refine lv_if_eq (tgt := 33) hx hb d_Controls_hostIp_24 (by decide) (fun c_199 => ?_) (fun c_199 => ?_)
    · refine lv_iconst (v := 0) hx hb d_Controls_hostIp_33 (by decide) ?_
      exact J34 t0 0 H locs ls (hj.trans (by rw [k_Controls_hostIp_j16]; rw [if_pos c_199]; try rfl)) hP hD hS (lv_sub hl [1, 0] rfl)
    · refine lv_sipush (v := 512) hx hb d_Controls_hostIp_27 (by decide) ?_
      refine lv_goto (tgt := 34) hx hb d_Controls_hostIp_30 (by decide) ?_
      exact J34 t0 512 H locs ls (hj.trans (by rw [k_Controls_hostIp_j16]; rw [if_neg c_199]; try rfl)) hP hD hS (lv_sub hl [1, 0] rfl)
  obtain ⟨H, eH⟩ : ∃ z, z = s.heap := ⟨_, rfl⟩
  obtain ⟨locs, eL⟩ : ∃ z, z = ([] : List Loc) := ⟨_, rfl⟩
  have hP : va_P G.1 vwCl [(qc, .inr (1, f_Controls qo qhs qgs qy sc)), (qo, .inr (3, f_Outside qa so))] H := by rw [eH]; exact hP
  have hS : va_S A s.heap H locs := by rw [eH, eL]; exact hS
  suffices hW : W p l e ({ frames := 1, cells := 0, slots := 0, locals := 20 }) s m ([.ref qc] : List Value).toArray below meth c H locs 0 0 (MQ below (ct_qi G tys A (k_Controls_hostIp sc so) [(qc, .inr (1, f_Controls qo qhs qgs qy sc)), (qo, .inr (3, f_Outside qa so))]) ([.ref qc] : List Value).toArray s 0 0 A) (F0 m 0 ls []) by rw [eH, eL] at hW; exact hW
  refine lv_aload_n hx hb d_Controls_hostIp_0 rfl (lv_at hl 0 rfl) ?_
  refine va_get (D := G.1) (ci := 1) (v := .ref qo) (C := R_Controls) (T := T_Controls) (N := 6) hx hb hts (fun w h => gd_sub _ (iw_Controls w h)) hown hK hP 0 rfl rfl 0 (by decide) (hts _ (gd_sub _ q_163)) (fun _ h9 => h9) rfl d_Controls_hostIp_1 ?_
  refine ct_cVi (wr := [(qc, .inr (1, f_Controls qo qhs qgs qy sc))]) (w1 := [(qo, .inr (3, f_Outside qa so))]) (w2 := [(qc, .inr (1, f_Controls qo qhs qgs qy sc)), (qo, .inr (3, f_Outside qa so))]) (r := (bI (k_Outside_alarmRings so))) (As := []) (rest := []) (ci := 3) (q0 := 0) ⟨hx, hb, hml, hown, hts⟩ (c_Outside_alarmRings l G tys qo qa so) (cwV 0 hts (gdV gd_gd q_346 q_347 q_348 q_43 q_349) rfl rfl rfl (by decide +kernel) ⟨Nat.le_of_ble_eq_true rfl, Nat.le_of_ble_eq_true rfl⟩) hE hK hP hD hS hA [1] [0] [0, 1] rfl (by decide) rfl (by decide) (by decide) rfl (by decide) rfl rfl rfl hl.1 rfl (Nat.le_of_ble_eq_true rfl) d_Controls_hostIp_4 ⟨Nat.zero_le _, Nat.zero_le _⟩ (fun H locs hP hD hS => ?_)
  refine lv_if_eq (tgt := 15) hx hb d_Controls_hostIp_7 (by decide) (fun c_200 => ?_) (fun c_200 => ?_)
  · refine lv_iconst (v := 0) hx hb d_Controls_hostIp_15 (by decide) ?_
    exact J16 0 H locs ls (by rw [k_Controls_hostIp]; rw [if_pos c_200]; try rfl) hP hD hS (lv_sub hl [0] rfl)
  · refine lv_bipush (v := 32) hx hb d_Controls_hostIp_10 (by decide) ?_
    refine lv_goto (tgt := 16) hx hb d_Controls_hostIp_12 (by decide) ?_
    exact J16 32 H locs ls (by rw [k_Controls_hostIp]; rw [if_neg c_200]; try rfl) hP hD hS (lv_sub hl [0] rfl)
def k_Controls_readHost (sc : ob) (so : ob) (shs : ob) (p1 : Int32) : Int32 :=
  if p1 = 4 then (sc.1 4) else if p1 = 68 then (k_Controls_hostIp sc so) else (k_Bank_read shs p1)
set_option maxHeartbeats 4000000 in
set_option maxRecDepth 100000 in
theorem c_Controls_readHost (l : Launch) (G : gx) (tys : List (ClassId × FieldType)) (qc qo qhs qgs qy qa : Nat) (sc : ob) (so : ob) (shs : ob) (p1 : Int32) : ct_I l y_Controls_readHost ws_Controls_readHost ({ frames := 2, cells := 0, slots := 0, locals := 42 }) G tys [.ref qc, .int p1] [(qc, .inr (1, f_Controls qo qhs qgs qy sc)), (qo, .inr (3, f_Outside qa so)), (qhs, .inr (0, f_Bank shs))] (k_Controls_readHost sc so shs p1) [(qc, .inr (1, f_Controls qo qhs qgs qy sc)), (qo, .inr (3, f_Outside qa so)), (qhs, .inr (0, f_Bank shs))] := by
  refine ct_hI (cc := cc_Controls_readHost) (maxL := 2) (ret := (some .int)) (by decide) rfl (Nat.le_of_ble_eq_true rfl) ?_
  intro p e s m below meth c A ls hx hb hr hml hts hown hlocks hP hK hD hA hE hS hl
  have hl : lv_has ls 2 [(0, .ref qc), (1, .int p1)] := hl
  have hown : s.vm.findClass R_Controls = some m.cls := hown
  refine lv_iload_n hx hb d_Controls_readHost_0 rfl (lv_at hl 1 rfl) ?_
  by_cases c_201 : p1 = 4
  · refine lv_lookup (off := 27) (tgt := 28) hx hb d_Controls_readHost_1 (by decide) (by rw [c_201]; decide) (by decide) ?_
    refine lv_aload_n hx hb d_Controls_readHost_28 rfl (lv_at hl 0 rfl) ?_
    refine va_get (D := G.1) (ci := 1) (v := .int (sc.1 4)) (C := R_Controls) (T := T_Controls) (N := 6) hx hb hts (fun w h => gd_sub _ (iw_Controls w h)) hown hK hP 0 rfl rfl 4 (by decide) (hts _ (gd_sub _ q_171)) (fun _ h9 => h9) rfl d_Controls_readHost_29 ?_
    have hk : k_Controls_readHost sc so shs p1 = (sc.1 4) := (by rw [k_Controls_readHost]; rw [if_pos c_201]; try rfl)
    exact ct_ri hx hb hr hlocks hP hD hK hS d_Controls_readHost_32 (by rw [hk]; first | done | rfl) rfl
  · by_cases c_202 : p1 = 68
    · refine lv_lookup (off := 32) (tgt := 33) hx hb d_Controls_readHost_1 (by decide) (by rw [c_202]; decide) (by decide) ?_
      refine lv_aload_n hx hb d_Controls_readHost_33 rfl (lv_at hl 0 rfl) ?_
      refine ct_cVi (wr := [(qhs, .inr (0, f_Bank shs))]) (w1 := [(qc, .inr (1, f_Controls qo qhs qgs qy sc)), (qo, .inr (3, f_Outside qa so))]) (w2 := [(qc, .inr (1, f_Controls qo qhs qgs qy sc)), (qo, .inr (3, f_Outside qa so)), (qhs, .inr (0, f_Bank shs))]) (r := (k_Controls_hostIp sc so)) (As := []) (rest := []) (ci := 1) (q0 := 0) ⟨hx, hb, hml, hown, hts⟩ (c_Controls_hostIp l G tys qc qo qhs qgs qy qa sc so) (cwV 0 hts (gdV gd_gd q_342 q_343 q_344 q_42 q_345) rfl rfl rfl (by decide +kernel) ⟨Nat.le_of_ble_eq_true rfl, Nat.le_of_ble_eq_true rfl⟩) hE hK hP hD hS hA [0, 1] [2] [1, 2, 0] rfl (by decide) rfl (by decide) (by decide) rfl (by decide) rfl rfl rfl hl.1 rfl (Nat.le_of_ble_eq_true rfl) d_Controls_readHost_34 ⟨Nat.zero_le _, Nat.zero_le _⟩ (fun H locs hP hD hS => ?_)
      have hk : k_Controls_readHost sc so shs p1 = (k_Controls_hostIp sc so) := (by rw [k_Controls_readHost]; rw [if_neg c_201]; rw [if_pos c_202]; try rfl)
      exact ct_ri hx hb hr hlocks hP hD hK hS d_Controls_readHost_37 (by rw [hk]; first | done | rfl) rfl
    · refine lv_lookup (off := 37) (tgt := 38) hx hb d_Controls_readHost_1 (by decide) ((lv_osw c_201 (by decide)).trans ((lv_osw c_202 (by decide)).trans rfl)) (by decide) ?_
      refine lv_aload_n hx hb d_Controls_readHost_38 rfl (lv_at hl 0 rfl) ?_
      refine va_get (D := G.1) (ci := 1) (v := .ref qhs) (C := R_Controls) (T := T_Controls) (N := 6) hx hb hts (fun w h => gd_sub _ (iw_Controls w h)) hown hK hP 0 rfl rfl 1 (by decide) (hts _ (gd_sub _ q_165)) (fun _ h9 => h9) rfl d_Controls_readHost_39 ?_
      refine lv_iload_n hx hb d_Controls_readHost_42 rfl (lv_at hl 1 rfl) ?_
      refine ct_cVi (wr := [(qc, .inr (1, f_Controls qo qhs qgs qy sc)), (qo, .inr (3, f_Outside qa so))]) (w1 := [(qhs, .inr (0, f_Bank shs))]) (w2 := [(qc, .inr (1, f_Controls qo qhs qgs qy sc)), (qo, .inr (3, f_Outside qa so)), (qhs, .inr (0, f_Bank shs))]) (r := (k_Bank_read shs p1)) (As := [.int p1]) (rest := []) (ci := 0) (q0 := 0) ⟨hx, hb, hml, hown, hts⟩ (c_Bank_read l G tys qhs shs p1) (cwV 1 hts (gdV gd_gd q_350 q_351 q_352 q_44 q_353) rfl rfl rfl (by decide +kernel) ⟨Nat.le_of_ble_eq_true rfl, Nat.le_of_ble_eq_true rfl⟩) hE hK hP hD hS hA [2] [0, 1] [0, 1, 2] rfl (by decide) rfl (by decide) (by decide) rfl (by decide) rfl rfl rfl hl.1 rfl (Nat.le_of_ble_eq_true rfl) d_Controls_readHost_43 ⟨Nat.zero_le _, Nat.zero_le _⟩ (fun H locs hP hD hS => ?_)
      have hk : k_Controls_readHost sc so shs p1 = (k_Bank_read shs p1) := (by rw [k_Controls_readHost]; rw [if_neg c_201]; rw [if_neg c_202]; try rfl)
      exact ct_ri hx hb hr hlocks hP hD hK hS d_Controls_readHost_46 (by rw [hk]; first | done | rfl) rfl
def k_Controls_read (sc : ob) (so : ob) (shs : ob) (sgs : ob) (sy : ob) (p1 : Int32) : Int32 :=
  if (bI (k_Numbers_isOfS p1)) = 0 then (if (bI (k_Numbers_isOfVs p1)) = 0 then (if p1 = 3073 then ((so.2.1 2).toInt32) else if p1 = 3201 then ((lush (so.2.1 2) 32).toInt32) else (k_Hyper_read sy p1)) else (k_Controls_readGuest sc sgs sy (k_Numbers_kindOf p1))) else (k_Controls_readHost sc so shs (k_Numbers_kindOf p1))
set_option maxHeartbeats 4000000 in
set_option maxRecDepth 100000 in
theorem c_Controls_read (l : Launch) (G : gx) (tys : List (ClassId × FieldType)) (qc qo qhs qgs qy qa : Nat) (sc : ob) (so : ob) (shs : ob) (sgs : ob) (sy : ob) (p1 : Int32) : ct_I l y_Controls_read ws_Controls_read ({ frames := 3, cells := 0, slots := 0, locals := 63 }) G tys [.ref qc, .int p1] [(qc, .inr (1, f_Controls qo qhs qgs qy sc)), (qo, .inr (3, f_Outside qa so)), (qhs, .inr (0, f_Bank shs)), (qgs, .inr (0, f_Bank sgs)), (qy, .inr (2, f_Hyper sy))] (k_Controls_read sc so shs sgs sy p1) [(qc, .inr (1, f_Controls qo qhs qgs qy sc)), (qo, .inr (3, f_Outside qa so)), (qhs, .inr (0, f_Bank shs)), (qgs, .inr (0, f_Bank sgs)), (qy, .inr (2, f_Hyper sy))] := by
  refine ct_hI (cc := cc_Controls_read) (maxL := 2) (ret := (some .int)) (by decide) rfl (Nat.le_of_ble_eq_true rfl) ?_
  intro p e s m below meth c A ls hx hb hr hml hts hown hlocks hP hK hD hA hE hS hl
  have hl : lv_has ls 2 [(0, .ref qc), (1, .int p1)] := hl
  have hown : s.vm.findClass R_Controls = some m.cls := hown
  refine lv_iload_n hx hb d_Controls_read_0 rfl (lv_at hl 1 rfl) ?_
  refine ct_cSi (wr := [(qc, .inr (1, f_Controls qo qhs qgs qy sc)), (qo, .inr (3, f_Outside qa so)), (qhs, .inr (0, f_Bank shs)), (qgs, .inr (0, f_Bank sgs)), (qy, .inr (2, f_Hyper sy))]) (w1 := []) (w2 := [(qc, .inr (1, f_Controls qo qhs qgs qy sc)), (qo, .inr (3, f_Outside qa so)), (qhs, .inr (0, f_Bank shs)), (qgs, .inr (0, f_Bank sgs)), (qy, .inr (2, f_Hyper sy))]) (r := (bI (k_Numbers_isOfS p1))) (As := [.int p1]) (rest := []) ⟨hx, hb, hml, hown, hts⟩ (c_Numbers_isOfS l G tys p1) (va_cwS 1 hts (gdS gd_gd q_295 q_270 q_48 q_271) rfl rfl rfl (by decide +kernel) ⟨Nat.le_of_ble_eq_true rfl, Nat.le_of_ble_eq_true rfl⟩) hE hK hP hD hS hA [] [0, 1, 2, 3, 4] [0, 1, 2, 3, 4] rfl (by decide) rfl (by decide) (by decide) rfl (by decide) rfl hl.1 rfl (Nat.le_of_ble_eq_true rfl) d_Controls_read_1 ⟨Nat.zero_le _, Nat.zero_le _⟩ (fun H locs hP hD hS => ?_)
  refine lv_if_eq (tgt := 16) hx hb d_Controls_read_4 (by decide) (fun c_203 => ?_) (fun c_203 => ?_)
  · refine lv_iload_n hx hb d_Controls_read_16 rfl (lv_at hl 1 rfl) ?_
    refine ct_cSi (wr := [(qc, .inr (1, f_Controls qo qhs qgs qy sc)), (qo, .inr (3, f_Outside qa so)), (qhs, .inr (0, f_Bank shs)), (qgs, .inr (0, f_Bank sgs)), (qy, .inr (2, f_Hyper sy))]) (w1 := []) (w2 := [(qc, .inr (1, f_Controls qo qhs qgs qy sc)), (qo, .inr (3, f_Outside qa so)), (qhs, .inr (0, f_Bank shs)), (qgs, .inr (0, f_Bank sgs)), (qy, .inr (2, f_Hyper sy))]) (r := (bI (k_Numbers_isOfVs p1))) (As := [.int p1]) (rest := []) ⟨hx, hb, hml, hown, hts⟩ (c_Numbers_isOfVs l G tys p1) (va_cwS 1 hts (gdS gd_gd q_307 q_282 q_48 q_283) rfl rfl rfl (by decide +kernel) ⟨Nat.le_of_ble_eq_true rfl, Nat.le_of_ble_eq_true rfl⟩) hE hK hP hD hS hA [] [0, 1, 2, 3, 4] [0, 1, 2, 3, 4] rfl (by decide) rfl (by decide) (by decide) rfl (by decide) rfl hl.1 rfl (Nat.le_of_ble_eq_true rfl) d_Controls_read_17 ⟨Nat.zero_le _, Nat.zero_le _⟩ (fun H locs hP hD hS => ?_)
    refine lv_if_eq (tgt := 32) hx hb d_Controls_read_20 (by decide) (fun c_204 => ?_) (fun c_204 => ?_)
    · refine lv_iload_n hx hb d_Controls_read_32 rfl (lv_at hl 1 rfl) ?_
      by_cases c_205 : p1 = 3073
      · refine lv_lookup (off := 27) (tgt := 60) hx hb d_Controls_read_33 (by decide) (by rw [c_205]; decide) (by decide) ?_
        refine lv_aload_n hx hb d_Controls_read_60 rfl (lv_at hl 0 rfl) ?_
        refine va_get (D := G.1) (ci := 1) (v := .ref qo) (C := R_Controls) (T := T_Controls) (N := 6) hx hb hts (fun w h => gd_sub _ (iw_Controls w h)) hown hK hP 0 rfl rfl 0 (by decide) (hts _ (gd_sub _ q_163)) (fun _ h9 => h9) rfl d_Controls_read_61 ?_
        refine va_get (D := G.1) (ci := 3) (v := .long (so.2.1 2)) (C := R_Outside) (T := T_Outside) (N := 6) hx hb hts (fun w h => gd_sub _ (iw_Outside w h)) hown hK hP 1 rfl rfl 2 (by decide) (hts _ (gd_sub _ q_74)) (fun _ h9 => h9) rfl d_Controls_read_64 ?_
        refine lv_l2i (v := (so.2.1 2).toInt32) hx hb d_Controls_read_67 rfl ?_
        have hk : k_Controls_read sc so shs sgs sy p1 = (so.2.1 2).toInt32 := (by rw [k_Controls_read]; rw [if_pos c_203]; rw [if_pos c_204]; rw [if_pos c_205]; try rfl)
        exact ct_ri hx hb hr hlocks hP hD hK hS d_Controls_read_68 (by rw [hk]; first | done | rfl) rfl
      · by_cases c_206 : p1 = 3201
        · refine lv_lookup (off := 36) (tgt := 69) hx hb d_Controls_read_33 (by decide) (by rw [c_206]; decide) (by decide) ?_
          refine lv_aload_n hx hb d_Controls_read_69 rfl (lv_at hl 0 rfl) ?_
          refine va_get (D := G.1) (ci := 1) (v := .ref qo) (C := R_Controls) (T := T_Controls) (N := 6) hx hb hts (fun w h => gd_sub _ (iw_Controls w h)) hown hK hP 0 rfl rfl 0 (by decide) (hts _ (gd_sub _ q_163)) (fun _ h9 => h9) rfl d_Controls_read_70 ?_
          refine va_get (D := G.1) (ci := 3) (v := .long (so.2.1 2)) (C := R_Outside) (T := T_Outside) (N := 6) hx hb hts (fun w h => gd_sub _ (iw_Outside w h)) hown hK hP 1 rfl rfl 2 (by decide) (hts _ (gd_sub _ q_74)) (fun _ h9 => h9) rfl d_Controls_read_73 ?_
          refine lv_bipush (v := 32) hx hb d_Controls_read_76 (by decide) ?_
          refine lv_lushr (v := (lush (so.2.1 2) 32)) hx hb d_Controls_read_78 rfl ?_
          refine lv_l2i (v := (lush (so.2.1 2) 32).toInt32) hx hb d_Controls_read_79 rfl ?_
          have hk : k_Controls_read sc so shs sgs sy p1 = (lush (so.2.1 2) 32).toInt32 := (by rw [k_Controls_read]; rw [if_pos c_203]; rw [if_pos c_204]; rw [if_neg c_205]; rw [if_pos c_206]; try rfl)
          exact ct_ri hx hb hr hlocks hP hD hK hS d_Controls_read_80 (by rw [hk]; first | done | rfl) rfl
        · refine lv_lookup (off := 48) (tgt := 81) hx hb d_Controls_read_33 (by decide) ((lv_osw c_205 (by decide)).trans ((lv_osw c_206 (by decide)).trans rfl)) (by decide) ?_
          refine lv_aload_n hx hb d_Controls_read_81 rfl (lv_at hl 0 rfl) ?_
          refine va_get (D := G.1) (ci := 1) (v := .ref qy) (C := R_Controls) (T := T_Controls) (N := 6) hx hb hts (fun w h => gd_sub _ (iw_Controls w h)) hown hK hP 0 rfl rfl 3 (by decide) (hts _ (gd_sub _ q_169)) (fun _ h9 => h9) rfl d_Controls_read_82 ?_
          refine lv_iload_n hx hb d_Controls_read_85 rfl (lv_at hl 1 rfl) ?_
          refine ct_cVi (wr := [(qc, .inr (1, f_Controls qo qhs qgs qy sc)), (qo, .inr (3, f_Outside qa so)), (qhs, .inr (0, f_Bank shs)), (qgs, .inr (0, f_Bank sgs))]) (w1 := [(qy, .inr (2, f_Hyper sy))]) (w2 := [(qc, .inr (1, f_Controls qo qhs qgs qy sc)), (qo, .inr (3, f_Outside qa so)), (qhs, .inr (0, f_Bank shs)), (qgs, .inr (0, f_Bank sgs)), (qy, .inr (2, f_Hyper sy))]) (r := (k_Hyper_read sy p1)) (As := [.int p1]) (rest := []) (ci := 2) (q0 := 0) ⟨hx, hb, hml, hown, hts⟩ (c_Hyper_read l G tys qy sy p1) (cwV 1 hts (gdV gd_gd q_366 q_367 q_368 q_45 q_369) rfl rfl rfl (by decide +kernel) ⟨Nat.le_of_ble_eq_true rfl, Nat.le_of_ble_eq_true rfl⟩) hE hK hP hD hS hA [4] [0, 1, 2, 3] [0, 1, 2, 3, 4] rfl (by decide) rfl (by decide) (by decide) rfl (by decide) rfl rfl rfl hl.1 rfl (Nat.le_of_ble_eq_true rfl) d_Controls_read_86 ⟨Nat.zero_le _, Nat.zero_le _⟩ (fun H locs hP hD hS => ?_)
          have hk : k_Controls_read sc so shs sgs sy p1 = (k_Hyper_read sy p1) := (by rw [k_Controls_read]; rw [if_pos c_203]; rw [if_pos c_204]; rw [if_neg c_205]; rw [if_neg c_206]; try rfl)
          exact ct_ri hx hb hr hlocks hP hD hK hS d_Controls_read_89 (by rw [hk]; first | done | rfl) rfl
    · refine lv_aload_n hx hb d_Controls_read_23 rfl (lv_at hl 0 rfl) ?_
      refine lv_iload_n hx hb d_Controls_read_24 rfl (lv_at hl 1 rfl) ?_
      refine ct_cSi (wr := [(qc, .inr (1, f_Controls qo qhs qgs qy sc)), (qo, .inr (3, f_Outside qa so)), (qhs, .inr (0, f_Bank shs)), (qgs, .inr (0, f_Bank sgs)), (qy, .inr (2, f_Hyper sy))]) (w1 := []) (w2 := [(qc, .inr (1, f_Controls qo qhs qgs qy sc)), (qo, .inr (3, f_Outside qa so)), (qhs, .inr (0, f_Bank shs)), (qgs, .inr (0, f_Bank sgs)), (qy, .inr (2, f_Hyper sy))]) (r := (k_Numbers_kindOf p1)) (As := [.int p1]) (rest := [.ref qc]) ⟨hx, hb, hml, hown, hts⟩ (c_Numbers_kindOf l G tys p1) (va_cwS 1 hts (gdS gd_gd q_296 q_276 q_48 q_277) rfl rfl rfl (by decide +kernel) ⟨Nat.le_of_ble_eq_true rfl, Nat.le_of_ble_eq_true rfl⟩) hE hK hP hD hS hA [] [0, 1, 2, 3, 4] [0, 1, 2, 3, 4] rfl (by decide) rfl (by decide) (by decide) rfl (by decide) rfl hl.1 rfl (Nat.le_of_ble_eq_true rfl) d_Controls_read_25 ⟨Nat.zero_le _, Nat.zero_le _⟩ (fun H locs hP hD hS => ?_)
      refine ct_cVi (wr := [(qo, .inr (3, f_Outside qa so)), (qhs, .inr (0, f_Bank shs))]) (w1 := [(qc, .inr (1, f_Controls qo qhs qgs qy sc)), (qgs, .inr (0, f_Bank sgs)), (qy, .inr (2, f_Hyper sy))]) (w2 := [(qc, .inr (1, f_Controls qo qhs qgs qy sc)), (qo, .inr (3, f_Outside qa so)), (qhs, .inr (0, f_Bank shs)), (qgs, .inr (0, f_Bank sgs)), (qy, .inr (2, f_Hyper sy))]) (r := (k_Controls_readGuest sc sgs sy (k_Numbers_kindOf p1))) (As := [.int (k_Numbers_kindOf p1)]) (rest := []) (ci := 1) (q0 := 0) ⟨hx, hb, hml, hown, hts⟩ (c_Controls_readGuest l G tys qc qgs qy qo qhs sc sgs sy (k_Numbers_kindOf p1)) (cwV 1 hts (gdV gd_gd q_354 q_355 q_356 q_42 q_357) rfl rfl rfl (by decide +kernel) ⟨Nat.le_of_ble_eq_true rfl, Nat.le_of_ble_eq_true rfl⟩) hE hK hP hD hS hA [0, 3, 4] [1, 2] [2, 0, 1, 3, 4] rfl (by decide) rfl (by decide) (by decide) rfl (by decide) rfl rfl rfl hl.1 rfl (Nat.le_of_ble_eq_true rfl) d_Controls_read_28 ⟨Nat.zero_le _, Nat.zero_le _⟩ (fun H locs hP hD hS => ?_)
      have hk : k_Controls_read sc so shs sgs sy p1 = (k_Controls_readGuest sc sgs sy (k_Numbers_kindOf p1)) := (by rw [k_Controls_read]; rw [if_pos c_203]; rw [if_neg c_204]; try rfl)
      exact ct_ri hx hb hr hlocks hP hD hK hS d_Controls_read_31 (by rw [hk]; first | done | rfl) rfl
  · refine lv_aload_n hx hb d_Controls_read_7 rfl (lv_at hl 0 rfl) ?_
    refine lv_iload_n hx hb d_Controls_read_8 rfl (lv_at hl 1 rfl) ?_
    refine ct_cSi (wr := [(qc, .inr (1, f_Controls qo qhs qgs qy sc)), (qo, .inr (3, f_Outside qa so)), (qhs, .inr (0, f_Bank shs)), (qgs, .inr (0, f_Bank sgs)), (qy, .inr (2, f_Hyper sy))]) (w1 := []) (w2 := [(qc, .inr (1, f_Controls qo qhs qgs qy sc)), (qo, .inr (3, f_Outside qa so)), (qhs, .inr (0, f_Bank shs)), (qgs, .inr (0, f_Bank sgs)), (qy, .inr (2, f_Hyper sy))]) (r := (k_Numbers_kindOf p1)) (As := [.int p1]) (rest := [.ref qc]) ⟨hx, hb, hml, hown, hts⟩ (c_Numbers_kindOf l G tys p1) (va_cwS 1 hts (gdS gd_gd q_296 q_276 q_48 q_277) rfl rfl rfl (by decide +kernel) ⟨Nat.le_of_ble_eq_true rfl, Nat.le_of_ble_eq_true rfl⟩) hE hK hP hD hS hA [] [0, 1, 2, 3, 4] [0, 1, 2, 3, 4] rfl (by decide) rfl (by decide) (by decide) rfl (by decide) rfl hl.1 rfl (Nat.le_of_ble_eq_true rfl) d_Controls_read_9 ⟨Nat.zero_le _, Nat.zero_le _⟩ (fun H locs hP hD hS => ?_)
    refine ct_cVi (wr := [(qgs, .inr (0, f_Bank sgs)), (qy, .inr (2, f_Hyper sy))]) (w1 := [(qc, .inr (1, f_Controls qo qhs qgs qy sc)), (qo, .inr (3, f_Outside qa so)), (qhs, .inr (0, f_Bank shs))]) (w2 := [(qc, .inr (1, f_Controls qo qhs qgs qy sc)), (qo, .inr (3, f_Outside qa so)), (qhs, .inr (0, f_Bank shs)), (qgs, .inr (0, f_Bank sgs)), (qy, .inr (2, f_Hyper sy))]) (r := (k_Controls_readHost sc so shs (k_Numbers_kindOf p1))) (As := [.int (k_Numbers_kindOf p1)]) (rest := []) (ci := 1) (q0 := 0) ⟨hx, hb, hml, hown, hts⟩ (c_Controls_readHost l G tys qc qo qhs qgs qy qa sc so shs (k_Numbers_kindOf p1)) (cwV 1 hts (gdV gd_gd q_338 q_339 q_340 q_42 q_341) rfl rfl rfl (by decide +kernel) ⟨Nat.le_of_ble_eq_true rfl, Nat.le_of_ble_eq_true rfl⟩) hE hK hP hD hS hA [0, 1, 2] [3, 4] [2, 3, 4, 0, 1] rfl (by decide) rfl (by decide) (by decide) rfl (by decide) rfl rfl rfl hl.1 rfl (Nat.le_of_ble_eq_true rfl) d_Controls_read_12 ⟨Nat.zero_le _, Nat.zero_le _⟩ (fun H locs hP hD hS => ?_)
    have hk : k_Controls_read sc so shs sgs sy p1 = (k_Controls_readHost sc so shs (k_Numbers_kindOf p1)) := (by rw [k_Controls_read]; rw [if_neg c_203]; try rfl)
    exact ct_ri hx hb hr hlocks hP hD hK hS d_Controls_read_15 (by rw [hk]; first | done | rfl) rfl
def k_Desk_get (sx : ob) (sc : ob) (so : ob) (shs : ob) (sgs : ob) (sy : ob) (p1 : Int32) : Int32 :=
  (k_Controls_read sc so shs sgs sy p1)
set_option maxHeartbeats 4000000 in
set_option maxRecDepth 100000 in
theorem c_Desk_get (l : Launch) (G : gx) (tys : List (ClassId × FieldType)) (qx qc qo qhs qgs qy qr qa : Nat) (sx : ob) (sc : ob) (so : ob) (shs : ob) (sgs : ob) (sy : ob) (p1 : Int32) : ct_I l y_Desk_get ws_Desk_get ({ frames := 4, cells := 0, slots := 0, locals := 84 }) G tys [.ref qx, .int p1] [(qx, .inr (5, f_Desk qc qo qr sx)), (qc, .inr (1, f_Controls qo qhs qgs qy sc)), (qo, .inr (3, f_Outside qa so)), (qhs, .inr (0, f_Bank shs)), (qgs, .inr (0, f_Bank sgs)), (qy, .inr (2, f_Hyper sy))] (k_Desk_get sx sc so shs sgs sy p1) [(qx, .inr (5, f_Desk qc qo qr sx)), (qc, .inr (1, f_Controls qo qhs qgs qy sc)), (qo, .inr (3, f_Outside qa so)), (qhs, .inr (0, f_Bank shs)), (qgs, .inr (0, f_Bank sgs)), (qy, .inr (2, f_Hyper sy))] := by
  refine ct_hI (cc := cc_Desk_get) (maxL := 2) (ret := (some .int)) (by decide) rfl (Nat.le_of_ble_eq_true rfl) ?_
  intro p e s m below meth c A ls hx hb hr hml hts hown hlocks hP hK hD hA hE hS hl
  have hl : lv_has ls 2 [(0, .ref qx), (1, .int p1)] := hl
  have hown : s.vm.findClass R_Desk = some m.cls := hown
  refine lv_aload_n hx hb d_Desk_get_0 rfl (lv_at hl 0 rfl) ?_
  refine va_get (D := G.1) (ci := 5) (v := .ref qc) (C := R_Desk) (T := T_Desk) (N := 8) hx hb hts (fun w h => gd_sub _ (iw_Desk w h)) hown hK hP 0 rfl rfl 0 (by decide) (hts _ (gd_sub _ q_205)) (fun _ h9 => h9) rfl d_Desk_get_1 ?_
  refine lv_iload_n hx hb d_Desk_get_4 rfl (lv_at hl 1 rfl) ?_
  refine ct_cVi (wr := [(qx, .inr (5, f_Desk qc qo qr sx))]) (w1 := [(qc, .inr (1, f_Controls qo qhs qgs qy sc)), (qo, .inr (3, f_Outside qa so)), (qhs, .inr (0, f_Bank shs)), (qgs, .inr (0, f_Bank sgs)), (qy, .inr (2, f_Hyper sy))]) (w2 := [(qx, .inr (5, f_Desk qc qo qr sx)), (qc, .inr (1, f_Controls qo qhs qgs qy sc)), (qo, .inr (3, f_Outside qa so)), (qhs, .inr (0, f_Bank shs)), (qgs, .inr (0, f_Bank sgs)), (qy, .inr (2, f_Hyper sy))]) (r := (k_Controls_read sc so shs sgs sy p1)) (As := [.int p1]) (rest := []) (ci := 1) (q0 := 0) ⟨hx, hb, hml, hown, hts⟩ (c_Controls_read l G tys qc qo qhs qgs qy qa sc so shs sgs sy p1) (cwV 1 hts (gdV gd_gd q_334 q_335 q_336 q_42 q_337) rfl rfl rfl (by decide +kernel) ⟨Nat.le_of_ble_eq_true rfl, Nat.le_of_ble_eq_true rfl⟩) hE hK hP hD hS hA [1, 2, 3, 4, 5] [0] [0, 1, 2, 3, 4, 5] rfl (by decide) rfl (by decide) (by decide) rfl (by decide) rfl rfl rfl hl.1 rfl (Nat.le_of_ble_eq_true rfl) d_Desk_get_5 ⟨Nat.zero_le _, Nat.zero_le _⟩ (fun H locs hP hD hS => ?_)
  have hk : k_Desk_get sx sc so shs sgs sy p1 = (k_Controls_read sc so shs sgs sy p1) := (by rw [k_Desk_get]; try rfl)
  exact ct_ri hx hb hr hlocks hP hD hK hS d_Desk_get_8 (by rw [hk]; first | done | rfl) rfl
def k_Desk_time (sx : ob) (so : ob) (p1 : Int64) : Int64 × ob :=
  if 0 ≤ (lg_cmp p1 0) then ((so.2.1 2), (ol so 2 p1)) else ((-1), so)
set_option maxHeartbeats 4000000 in
set_option maxRecDepth 100000 in
theorem c_Desk_time (l : Launch) (G : gx) (tys : List (ClassId × FieldType)) (qx qo qc qr qa : Nat) (sx : ob) (so : ob) (p1 : Int64) : ct_L l y_Desk_time ws_Desk_time ({ frames := 0, cells := 0, slots := 0, locals := 0 }) G tys [.ref qx, .long p1] [(qx, .inr (5, f_Desk qc qo qr sx)), (qo, .inr (3, f_Outside qa so))] ((k_Desk_time sx so p1).1) [(qx, .inr (5, f_Desk qc qo qr sx)), (qo, .inr (3, f_Outside qa ((k_Desk_time sx so p1).2)))] := by
  refine ct_hL (cc := cc_Desk_time) (maxL := 5) (ret := (some .long)) (by decide) rfl (Nat.le_of_ble_eq_true rfl) ?_
  intro p e s m below meth c A ls hx hb hr hml hts hown hlocks hP hK hD hA hE hS hl
  have hl : lv_has ls 5 [(0, .ref qx), (1, .long p1)] := hl
  have hown : s.vm.findClass R_Desk = some m.cls := hown
  refine lv_lload_n hx hb d_Desk_time_0 rfl (lv_at hl 1 rfl) ?_
  refine lv_lconst (v := 0) hx hb d_Desk_time_1 (by decide) ?_
  refine W.lcmp hx hb d_Desk_time_2 ?_
  refine lv_if_ge (tgt := 10) hx hb d_Desk_time_3 (by decide) (fun c_208 => ?_) (fun c_208 => ?_)
  · refine lv_aload_n hx hb d_Desk_time_10 rfl (lv_at hl 0 rfl) ?_
    refine va_get (D := G.1) (ci := 5) (v := .ref qo) (C := R_Desk) (T := T_Desk) (N := 8) hx hb hts (fun w h => gd_sub _ (iw_Desk w h)) hown hK hP 0 rfl rfl 1 (by decide) (hts _ (gd_sub _ q_206)) (fun _ h9 => h9) rfl d_Desk_time_11 ?_
    refine va_get (D := G.1) (ci := 3) (v := .long (so.2.1 2)) (C := R_Outside) (T := T_Outside) (N := 6) hx hb hts (fun w h => gd_sub _ (iw_Outside w h)) hown hK hP 1 rfl rfl 2 (by decide) (hts _ (gd_sub _ q_75)) (fun _ h9 => h9) rfl d_Desk_time_14 ?_
    refine lv_lstore_n (lv' := [(3, .long (so.2.1 2)), (0, .ref qx), (1, .long p1)]) hx hb d_Desk_time_17 rfl hl (by decide) rfl (fun ls hl => ?_)
    refine lv_aload_n hx hb d_Desk_time_18 rfl (lv_at hl 1 rfl) ?_
    refine va_get (D := G.1) (ci := 5) (v := .ref qo) (C := R_Desk) (T := T_Desk) (N := 8) hx hb hts (fun w h => gd_sub _ (iw_Desk w h)) hown hK hP 0 rfl rfl 1 (by decide) (hts _ (gd_sub _ q_206)) (fun _ h9 => h9) rfl d_Desk_time_19 ?_
    refine lv_lload_n hx hb d_Desk_time_22 rfl (lv_at hl 2 rfl) ?_
    refine va_put (D := G.1) (ci := 3) (v := .long p1) (ty := .long) (C := R_Outside) (T := T_Outside) (N := 6) hx hb hts (fun w h => gd_sub _ (iw_Outside w h)) ty_Outside tyok_Outside nm_Outside hown hK hP hD hS 1 rfl rfl 2 (by decide) (hts _ (gd_sub _ q_75)) (fun _ h9 => h9) rfl (by decide +kernel) rfl rfl (Nat.le_of_ble_eq_true rfl) d_Desk_time_23 (fun H locs hP hD hS => ?_)
    have hP : va_P G.1 vwCl [(qx, .inr (5, f_Desk qc qo qr sx)), (qo, .inr (3, f_Outside qa (ol so 2 p1)))] H := hP
    have hD : va_D A [(qx, .inr (5, f_Desk qc qo qr sx)), (qo, .inr (3, f_Outside qa (ol so 2 p1)))] := hD
    refine lv_lload_n hx hb d_Desk_time_26 rfl (lv_at hl 0 rfl) ?_
    have hk : k_Desk_time sx so p1 = ((so.2.1 2), (ol so 2 p1)) := (by rw [k_Desk_time]; rw [if_pos c_208]; try rfl)
    exact ct_rl hx hb hr hlocks hP hD hK hS d_Desk_time_27 (by rw [hk]; first | done | rfl) (by rw [hk]; first | done | rfl)
  · refine lv_ldc2 (v := (-1)) hx hb hown (hts _ (gd_sub _ q_374)) d_Desk_time_6 ?_
    have hk : k_Desk_time sx so p1 = ((-1), so) := (by rw [k_Desk_time]; rw [if_neg c_208]; try rfl)
    exact ct_rl hx hb hr hlocks hP hD hK hS d_Desk_time_9 (by rw [hk]; first | done | rfl) (by rw [hk]; first | done | rfl)
def k_Desk_line (sx : ob) (so : ob) (p1 : Bool) : Bool × ob :=
  ((so.2.2 4), (oz so 4 p1))
set_option maxHeartbeats 4000000 in
set_option maxRecDepth 100000 in
theorem c_Desk_line (l : Launch) (G : gx) (tys : List (ClassId × FieldType)) (qx qo qc qr qa : Nat) (sx : ob) (so : ob) (p1 : Bool) : ct_I l y_Desk_line ws_Desk_line ({ frames := 0, cells := 0, slots := 0, locals := 0 }) G tys [.ref qx, .int (bI p1)] [(qx, .inr (5, f_Desk qc qo qr sx)), (qo, .inr (3, f_Outside qa so))] (bI ((k_Desk_line sx so p1).1)) [(qx, .inr (5, f_Desk qc qo qr sx)), (qo, .inr (3, f_Outside qa ((k_Desk_line sx so p1).2)))] := by
  refine ct_hI (cc := cc_Desk_line) (maxL := 3) (ret := (some .boolean)) (by decide) rfl (Nat.le_of_ble_eq_true rfl) ?_
  intro p e s m below meth c A ls hx hb hr hml hts hown hlocks hP hK hD hA hE hS hl
  have hl : lv_has ls 3 [(0, .ref qx), (1, .int (bI p1))] := hl
  have hown : s.vm.findClass R_Desk = some m.cls := hown
  refine lv_aload_n hx hb d_Desk_line_0 rfl (lv_at hl 0 rfl) ?_
  refine va_get (D := G.1) (ci := 5) (v := .ref qo) (C := R_Desk) (T := T_Desk) (N := 8) hx hb hts (fun w h => gd_sub _ (iw_Desk w h)) hown hK hP 0 rfl rfl 1 (by decide) (hts _ (gd_sub _ q_206)) (fun _ h9 => h9) rfl d_Desk_line_1 ?_
  refine va_get (D := G.1) (ci := 3) (v := .int (bI (so.2.2 4))) (C := R_Outside) (T := T_Outside) (N := 6) hx hb hts (fun w h => gd_sub _ (iw_Outside w h)) hown hK hP 1 rfl rfl 4 (by decide) (hts _ (gd_sub _ q_79)) (fun _ h9 => h9) rfl d_Desk_line_4 ?_
  refine lv_istore_n (lv' := [(2, .int (bI (so.2.2 4))), (0, .ref qx), (1, .int (bI p1))]) hx hb d_Desk_line_7 rfl hl (by decide) rfl (fun ls hl => ?_)
  refine lv_aload_n hx hb d_Desk_line_8 rfl (lv_at hl 1 rfl) ?_
  refine va_get (D := G.1) (ci := 5) (v := .ref qo) (C := R_Desk) (T := T_Desk) (N := 8) hx hb hts (fun w h => gd_sub _ (iw_Desk w h)) hown hK hP 0 rfl rfl 1 (by decide) (hts _ (gd_sub _ q_206)) (fun _ h9 => h9) rfl d_Desk_line_9 ?_
  refine lv_iload_n hx hb d_Desk_line_12 rfl (lv_at hl 2 rfl) ?_
  refine va_put (D := G.1) (ci := 3) (v := .int (bI p1)) (ty := .boolean) (C := R_Outside) (T := T_Outside) (N := 6) hx hb hts (fun w h => gd_sub _ (iw_Outside w h)) ty_Outside tyok_Outside nm_Outside hown hK hP hD hS 1 rfl rfl 4 (by decide) (hts _ (gd_sub _ q_79)) (fun _ h9 => h9) rfl (by decide +kernel) (bI_n _) (bI_f _) (Nat.le_of_ble_eq_true rfl) d_Desk_line_13 (fun H locs hP hD hS => ?_)
  have hP : va_P G.1 vwCl [(qx, .inr (5, f_Desk qc qo qr sx)), (qo, .inr (3, f_Outside qa (oz so 4 p1)))] H := hP
  have hD : va_D A [(qx, .inr (5, f_Desk qc qo qr sx)), (qo, .inr (3, f_Outside qa (oz so 4 p1)))] := hD
  refine lv_iload_n hx hb d_Desk_line_16 rfl (lv_at hl 0 rfl) ?_
  have hk : k_Desk_line sx so p1 = ((so.2.2 4), (oz so 4 p1)) := (by rw [k_Desk_line]; try rfl)
  exact ct_rz hx hb hr hlocks hP hD hK hS d_Desk_line_17 (bI_n _) (by rw [hk]; first | done | rfl) (by rw [hk]; first | done | rfl)
