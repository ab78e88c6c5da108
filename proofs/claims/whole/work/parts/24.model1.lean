def k_Model_sip_j27 (sm : ob) (sk : Nat → Int32) (t0 : Int32) (t1 : Int32) : Int32 :=
  if (bI (sm.2.2 4)) = 0 then ((t1 ||| t0) ||| 0) else ((t1 ||| t0) ||| 512)
def k_Model_sip (sm : ob) (sk : Nat → Int32) : Int32 :=
  if (lg_cmp (sm.2.1 2) (sm.2.1 3)) < 0 then (k_Model_sip_j27 sm sk 0 ((sk 68) &&& 2)) else (k_Model_sip_j27 sm sk 32 ((sk 68) &&& 2))
set_option maxHeartbeats 4000000 in
set_option maxRecDepth 100000 in
theorem c_Model_sip (l : Launch) (G : gx) (tys : List (ClassId × FieldType)) {cD : ClassId} (ht2 : tys[2]? = some (cD, .int)) (qm qk qp : Nat) (sm : ob) (sk : Nat → Int32) : ct_I l y_Model_sip ws_Model_sip ({ frames := 0, cells := 0, slots := 0, locals := 0 }) G tys [.ref qm] [(qm, .inr (6, f_Model qp qk sm)), (qk, .inl (cD, 512, .inl sk))] (k_Model_sip sm sk) [(qm, .inr (6, f_Model qp qk sm)), (qk, .inl (cD, 512, .inl sk))] := by
  refine ct_hI (cc := cc_Model_sip) (maxL := 1) (ret := (some .int)) (by decide) rfl (Nat.le_of_ble_eq_true rfl) ?_
  intro p e s m below meth c A ls hx hb hr hml hts hown hlocks hP hK hD hA hE hS hl
  have hl : lv_has ls 1 [(0, .ref qm)] := hl
  have hown : s.vm.findClass R_Model = some m.cls := hown
  have J27 : ∀ (t0 : Int32) (t1 : Int32) (H : Heap) (locs : List Loc) (ls : Array Slot), k_Model_sip sm sk = k_Model_sip_j27 sm sk t0 t1 → va_P G.1 vwCl [(qm, .inr (6, f_Model qp qk sm)), (qk, .inl (cD, 512, .inl sk))] H → va_D A [(qm, .inr (6, f_Model qp qk sm)), (qk, .inl (cD, 512, .inl sk))] → va_S A s.heap H locs → lv_has ls 1 [(0, .ref qm)] → W p l e ({ frames := 0, cells := 0, slots := 0, locals := 0 }) s m ([.ref qm] : List Value).toArray below meth c H locs 0 0 (MQ below (ct_qi G tys A (k_Model_sip sm sk) [(qm, .inr (6, f_Model qp qk sm)), (qk, .inl (cD, 512, .inl sk))]) ([.ref qm] : List Value).toArray s 0 0 A) (F0 m 27 ls [.int t0, .int t1]) := by
    intro t0 t1 H locs ls hj hP hD hS hl
    refine lv_ior hx hb d_Model_sip_27 ?_
    refine lv_aload_n hx hb d_Model_sip_28 rfl (lv_at hl 0 rfl) ?_
    refine va_get (D := G.1) (ci := 6) (v := .int (bI (sm.2.2 4))) (C := R_Model) (T := T_Model) (N := 23) hx hb hts (fun w h => gd_sub _ (iw_Model w h)) hown hK hP 0 rfl rfl 4 (by decide) (hts _ (gd_sub _ q_611)) (fun _ h9 => h9) rfl d_Model_sip_29 ?_
    refine lv_if_eq (tgt := 41) hx hb d_Model_sip_32 (by decide) (fun c_797 => ?_) (fun c_797 => ?_)
    · refine lv_iconst (v := 0) hx hb d_Model_sip_41 (by decide) ?_
      refine lv_ior hx hb d_Model_sip_42 ?_
      have hk : k_Model_sip sm sk = ((t1 ||| t0) ||| 0) := (hj.trans (by rw [k_Model_sip_j27]; rw [if_pos c_797]; try rfl))
      exact ct_ri hx hb hr hlocks hP hD hK hS d_Model_sip_43 (by rw [hk]; first | done | rfl) rfl
    · refine lv_sipush (v := 512) hx hb d_Model_sip_35 (by decide) ?_
      refine lv_goto (tgt := 42) hx hb d_Model_sip_38 (by decide) ?_
      refine lv_ior hx hb d_Model_sip_42 ?_
      have hk : k_Model_sip sm sk = ((t1 ||| t0) ||| 512) := (hj.trans (by rw [k_Model_sip_j27]; rw [if_neg c_797]; try rfl))
      exact ct_ri hx hb hr hlocks hP hD hK hS d_Model_sip_43 (by rw [hk]; first | done | rfl) rfl
  obtain ⟨H, eH⟩ : ∃ z, z = s.heap := ⟨_, rfl⟩
  obtain ⟨locs, eL⟩ : ∃ z, z = ([] : List Loc) := ⟨_, rfl⟩
  have hP : va_P G.1 vwCl [(qm, .inr (6, f_Model qp qk sm)), (qk, .inl (cD, 512, .inl sk))] H := by rw [eH]; exact hP
  have hS : va_S A s.heap H locs := by rw [eH, eL]; exact hS
  suffices hW : W p l e ({ frames := 0, cells := 0, slots := 0, locals := 0 }) s m ([.ref qm] : List Value).toArray below meth c H locs 0 0 (MQ below (ct_qi G tys A (k_Model_sip sm sk) [(qm, .inr (6, f_Model qp qk sm)), (qk, .inl (cD, 512, .inl sk))]) ([.ref qm] : List Value).toArray s 0 0 A) (F0 m 0 ls []) by rw [eH, eL] at hW; exact hW
  refine lv_aload_n hx hb d_Model_sip_0 rfl (lv_at hl 0 rfl) ?_
  refine va_get (D := G.1) (ci := 6) (v := .ref qk) (C := R_Model) (T := T_Model) (N := 23) hx hb hts (fun w h => gd_sub _ (iw_Model w h)) hown hK hP 0 rfl rfl 14 (by decide) (hts _ (gd_sub _ q_621)) (fun _ h9 => h9) rfl d_Model_sip_1 ?_
  refine lv_bipush (v := 68) hx hb d_Model_sip_4 (by decide) ?_
  refine va_iald hx hb hK hP 1 2 rfl ht2 (by unfold vp_in; decide) d_Model_sip_6 ?_
  refine lv_topi (fun z9 e9 => ?_)
  obtain rfl : z9 = (sk 68) := e9
  refine lv_iconst (v := 2) hx hb d_Model_sip_7 (by decide) ?_
  refine lv_iand hx hb d_Model_sip_8 ?_
  refine lv_aload_n hx hb d_Model_sip_9 rfl (lv_at hl 0 rfl) ?_
  refine va_get (D := G.1) (ci := 6) (v := .long (sm.2.1 2)) (C := R_Model) (T := T_Model) (N := 23) hx hb hts (fun w h => gd_sub _ (iw_Model w h)) hown hK hP 0 rfl rfl 2 (by decide) (hts _ (gd_sub _ q_609)) (fun _ h9 => h9) rfl d_Model_sip_10 ?_
  refine lv_aload_n hx hb d_Model_sip_13 rfl (lv_at hl 0 rfl) ?_
  refine va_get (D := G.1) (ci := 6) (v := .long (sm.2.1 3)) (C := R_Model) (T := T_Model) (N := 23) hx hb hts (fun w h => gd_sub _ (iw_Model w h)) hown hK hP 0 rfl rfl 3 (by decide) (hts _ (gd_sub _ q_610)) (fun _ h9 => h9) rfl d_Model_sip_14 ?_
  refine W.lcmp hx hb d_Model_sip_17 ?_
  refine lv_if_lt (tgt := 26) hx hb d_Model_sip_18 (by decide) (fun c_798 => ?_) (fun c_798 => ?_)
  · refine lv_iconst (v := 0) hx hb d_Model_sip_26 (by decide) ?_
    exact J27 0 ((sk 68) &&& 2) H locs ls (by rw [k_Model_sip]; rw [if_pos c_798]; try rfl) hP hD hS (lv_sub hl [0] rfl)
  · refine lv_bipush (v := 32) hx hb d_Model_sip_21 (by decide) ?_
    refine lv_goto (tgt := 27) hx hb d_Model_sip_23 (by decide) ?_
    exact J27 32 ((sk 68) &&& 2) H locs ls (by rw [k_Model_sip]; rw [if_neg c_798]; try rfl) hP hD hS (lv_sub hl [0] rfl)
def k_Model_tells (sm : ob) (sk : Nat → Int32) (p1 : Int32) : Int32 :=
  if p1 = 324 then (k_Model_sip sm sk) else if p1 = 516 then (ush ((sm.1 18) &&& (sm.1 17)) 1) else if p1 = 580 then (ush ((sm.1 20) &&& (sm.1 17)) 1) else if p1 = 1536 then (sm.1 15) else if p1 = 1538 then (sm.1 16) else if p1 = 1539 then (sm.1 17) else if p1 = 1540 then (sm.1 18) else if p1 = 1603 then (sm.1 19) else if p1 = 1604 then (sm.1 20) else if p1 = 1605 then (sm.1 20) else if p1 = 1610 then (sm.1 21) else if p1 = 1664 then (sm.1 22) else if p1 = 3073 then ((sm.2.1 2).toInt32) else if p1 = 3201 then ((lshr (sm.2.1 2) 32).toInt32) else (sk (p1 - 256).toNatClampNeg)
set_option maxHeartbeats 4000000 in
set_option maxRecDepth 100000 in
theorem c_Model_tells (l : Launch) (G : gx) (tys : List (ClassId × FieldType)) {cD : ClassId} (ht2 : tys[2]? = some (cD, .int)) (qm qk qp : Nat) (sm : ob) (sk : Nat → Int32) (p1 : Int32) (h9 : okT p1) : ct_I l y_Model_tells ws_Model_tells ({ frames := 1, cells := 0, slots := 0, locals := 20 }) G tys [.ref qm, .int p1] [(qm, .inr (6, f_Model qp qk sm)), (qk, .inl (cD, 512, .inl sk))] (k_Model_tells sm sk p1) [(qm, .inr (6, f_Model qp qk sm)), (qk, .inl (cD, 512, .inl sk))] := by
  refine ct_hI (cc := cc_Model_tells) (maxL := 2) (ret := (some .int)) (by decide) rfl (Nat.le_of_ble_eq_true rfl) ?_
  intro p e s m below meth c A ls hx hb hr hml hts hown hlocks hP hK hD hA hE hS hl
  have hl : lv_has ls 2 [(0, .ref qm), (1, .int p1)] := hl
  have hown : s.vm.findClass R_Model = some m.cls := hown
  refine lv_iload_n hx hb d_Model_tells_0 rfl (lv_at hl 1 rfl) ?_
  by_cases c_813 : p1 = 324
  · refine lv_lookup (off := 123) (tgt := 124) hx hb d_Model_tells_1 (by decide) (by rw [c_813]; decide) (by decide) ?_
    refine lv_aload_n hx hb d_Model_tells_124 rfl (lv_at hl 0 rfl) ?_
    refine ct_cVi (wr := []) (w1 := [(qm, .inr (6, f_Model qp qk sm)), (qk, .inl (cD, 512, .inl sk))]) (w2 := [(qm, .inr (6, f_Model qp qk sm)), (qk, .inl (cD, 512, .inl sk))]) (r := (k_Model_sip sm sk)) (As := []) (rest := []) (ci := 6) (q0 := 0) ⟨hx, hb, hml, hown, hts⟩ (c_Model_sip l G tys ht2 qm qk qp sm sk) (cwV 0 hts (gdV gd_gd q_715 q_717 q_23 q_47 q_718) rfl rfl rfl (by decide +kernel) ⟨Nat.le_of_ble_eq_true rfl, Nat.le_of_ble_eq_true rfl⟩) hE hK hP hD hS hA [0, 1] [] [0, 1] rfl (by decide) rfl (by decide) (by decide) rfl (by decide) rfl rfl rfl hl.1 rfl (Nat.le_of_ble_eq_true rfl) d_Model_tells_125 ⟨Nat.zero_le _, Nat.zero_le _⟩ (fun H locs hP hD hS => ?_)
    have hk : k_Model_tells sm sk p1 = (k_Model_sip sm sk) := (by rw [k_Model_tells]; rw [if_pos c_813]; try rfl)
    exact ct_ri hx hb hr hlocks hP hD hK hS d_Model_tells_128 (by rw [hk]; first | done | rfl) rfl
  · by_cases c_814 : p1 = 516
    · refine lv_lookup (off := 128) (tgt := 129) hx hb d_Model_tells_1 (by decide) (by rw [c_814]; decide) (by decide) ?_
      refine lv_aload_n hx hb d_Model_tells_129 rfl (lv_at hl 0 rfl) ?_
      refine va_get (D := G.1) (ci := 6) (v := .int (sm.1 18)) (C := R_Model) (T := T_Model) (N := 23) hx hb hts (fun w h => gd_sub _ (iw_Model w h)) hown hK hP 0 rfl rfl 18 (by decide) (hts _ (gd_sub _ q_625)) (fun _ h9 => h9) rfl d_Model_tells_130 ?_
      refine lv_aload_n hx hb d_Model_tells_133 rfl (lv_at hl 0 rfl) ?_
      refine va_get (D := G.1) (ci := 6) (v := .int (sm.1 17)) (C := R_Model) (T := T_Model) (N := 23) hx hb hts (fun w h => gd_sub _ (iw_Model w h)) hown hK hP 0 rfl rfl 17 (by decide) (hts _ (gd_sub _ q_624)) (fun _ h9 => h9) rfl d_Model_tells_134 ?_
      refine lv_iand hx hb d_Model_tells_137 ?_
      refine lv_iconst (v := 1) hx hb d_Model_tells_138 (by decide) ?_
      refine lv_iushr (v := (ush ((sm.1 18) &&& (sm.1 17)) 1)) hx hb d_Model_tells_139 rfl ?_
      have hk : k_Model_tells sm sk p1 = (ush ((sm.1 18) &&& (sm.1 17)) 1) := (by rw [k_Model_tells]; rw [if_neg c_813]; rw [if_pos c_814]; try rfl)
      exact ct_ri hx hb hr hlocks hP hD hK hS d_Model_tells_140 (by rw [hk]; first | done | rfl) rfl
    · by_cases c_815 : p1 = 580
      · refine lv_lookup (off := 140) (tgt := 141) hx hb d_Model_tells_1 (by decide) (by rw [c_815]; decide) (by decide) ?_
        refine lv_aload_n hx hb d_Model_tells_141 rfl (lv_at hl 0 rfl) ?_
        refine va_get (D := G.1) (ci := 6) (v := .int (sm.1 20)) (C := R_Model) (T := T_Model) (N := 23) hx hb hts (fun w h => gd_sub _ (iw_Model w h)) hown hK hP 0 rfl rfl 20 (by decide) (hts _ (gd_sub _ q_627)) (fun _ h9 => h9) rfl d_Model_tells_142 ?_
        refine lv_aload_n hx hb d_Model_tells_145 rfl (lv_at hl 0 rfl) ?_
        refine va_get (D := G.1) (ci := 6) (v := .int (sm.1 17)) (C := R_Model) (T := T_Model) (N := 23) hx hb hts (fun w h => gd_sub _ (iw_Model w h)) hown hK hP 0 rfl rfl 17 (by decide) (hts _ (gd_sub _ q_624)) (fun _ h9 => h9) rfl d_Model_tells_146 ?_
        refine lv_iand hx hb d_Model_tells_149 ?_
        refine lv_iconst (v := 1) hx hb d_Model_tells_150 (by decide) ?_
        refine lv_iushr (v := (ush ((sm.1 20) &&& (sm.1 17)) 1)) hx hb d_Model_tells_151 rfl ?_
        have hk : k_Model_tells sm sk p1 = (ush ((sm.1 20) &&& (sm.1 17)) 1) := (by rw [k_Model_tells]; rw [if_neg c_813]; rw [if_neg c_814]; rw [if_pos c_815]; try rfl)
        exact ct_ri hx hb hr hlocks hP hD hK hS d_Model_tells_152 (by rw [hk]; first | done | rfl) rfl
      · by_cases c_816 : p1 = 1536
        · refine lv_lookup (off := 152) (tgt := 153) hx hb d_Model_tells_1 (by decide) (by rw [c_816]; decide) (by decide) ?_
          refine lv_aload_n hx hb d_Model_tells_153 rfl (lv_at hl 0 rfl) ?_
          refine va_get (D := G.1) (ci := 6) (v := .int (sm.1 15)) (C := R_Model) (T := T_Model) (N := 23) hx hb hts (fun w h => gd_sub _ (iw_Model w h)) hown hK hP 0 rfl rfl 15 (by decide) (hts _ (gd_sub _ q_622)) (fun _ h9 => h9) rfl d_Model_tells_154 ?_
          have hk : k_Model_tells sm sk p1 = (sm.1 15) := (by rw [k_Model_tells]; rw [if_neg c_813]; rw [if_neg c_814]; rw [if_neg c_815]; rw [if_pos c_816]; try rfl)
          exact ct_ri hx hb hr hlocks hP hD hK hS d_Model_tells_157 (by rw [hk]; first | done | rfl) rfl
        · by_cases c_817 : p1 = 1538
          · refine lv_lookup (off := 157) (tgt := 158) hx hb d_Model_tells_1 (by decide) (by rw [c_817]; decide) (by decide) ?_
            refine lv_aload_n hx hb d_Model_tells_158 rfl (lv_at hl 0 rfl) ?_
            refine va_get (D := G.1) (ci := 6) (v := .int (sm.1 16)) (C := R_Model) (T := T_Model) (N := 23) hx hb hts (fun w h => gd_sub _ (iw_Model w h)) hown hK hP 0 rfl rfl 16 (by decide) (hts _ (gd_sub _ q_623)) (fun _ h9 => h9) rfl d_Model_tells_159 ?_
            have hk : k_Model_tells sm sk p1 = (sm.1 16) := (by rw [k_Model_tells]; rw [if_neg c_813]; rw [if_neg c_814]; rw [if_neg c_815]; rw [if_neg c_816]; rw [if_pos c_817]; try rfl)
            exact ct_ri hx hb hr hlocks hP hD hK hS d_Model_tells_162 (by rw [hk]; first | done | rfl) rfl
          · by_cases c_818 : p1 = 1539
            · refine lv_lookup (off := 162) (tgt := 163) hx hb d_Model_tells_1 (by decide) (by rw [c_818]; decide) (by decide) ?_
              refine lv_aload_n hx hb d_Model_tells_163 rfl (lv_at hl 0 rfl) ?_
              refine va_get (D := G.1) (ci := 6) (v := .int (sm.1 17)) (C := R_Model) (T := T_Model) (N := 23) hx hb hts (fun w h => gd_sub _ (iw_Model w h)) hown hK hP 0 rfl rfl 17 (by decide) (hts _ (gd_sub _ q_624)) (fun _ h9 => h9) rfl d_Model_tells_164 ?_
              have hk : k_Model_tells sm sk p1 = (sm.1 17) := (by rw [k_Model_tells]; rw [if_neg c_813]; rw [if_neg c_814]; rw [if_neg c_815]; rw [if_neg c_816]; rw [if_neg c_817]; rw [if_pos c_818]; try rfl)
              exact ct_ri hx hb hr hlocks hP hD hK hS d_Model_tells_167 (by rw [hk]; first | done | rfl) rfl
            · by_cases c_819 : p1 = 1540
              · refine lv_lookup (off := 167) (tgt := 168) hx hb d_Model_tells_1 (by decide) (by rw [c_819]; decide) (by decide) ?_
                refine lv_aload_n hx hb d_Model_tells_168 rfl (lv_at hl 0 rfl) ?_
                refine va_get (D := G.1) (ci := 6) (v := .int (sm.1 18)) (C := R_Model) (T := T_Model) (N := 23) hx hb hts (fun w h => gd_sub _ (iw_Model w h)) hown hK hP 0 rfl rfl 18 (by decide) (hts _ (gd_sub _ q_625)) (fun _ h9 => h9) rfl d_Model_tells_169 ?_
                have hk : k_Model_tells sm sk p1 = (sm.1 18) := (by rw [k_Model_tells]; rw [if_neg c_813]; rw [if_neg c_814]; rw [if_neg c_815]; rw [if_neg c_816]; rw [if_neg c_817]; rw [if_neg c_818]; rw [if_pos c_819]; try rfl)
                exact ct_ri hx hb hr hlocks hP hD hK hS d_Model_tells_172 (by rw [hk]; first | done | rfl) rfl
              · by_cases c_820 : p1 = 1603
                · refine lv_lookup (off := 172) (tgt := 173) hx hb d_Model_tells_1 (by decide) (by rw [c_820]; decide) (by decide) ?_
                  refine lv_aload_n hx hb d_Model_tells_173 rfl (lv_at hl 0 rfl) ?_
                  refine va_get (D := G.1) (ci := 6) (v := .int (sm.1 19)) (C := R_Model) (T := T_Model) (N := 23) hx hb hts (fun w h => gd_sub _ (iw_Model w h)) hown hK hP 0 rfl rfl 19 (by decide) (hts _ (gd_sub _ q_626)) (fun _ h9 => h9) rfl d_Model_tells_174 ?_
                  have hk : k_Model_tells sm sk p1 = (sm.1 19) := (by rw [k_Model_tells]; rw [if_neg c_813]; rw [if_neg c_814]; rw [if_neg c_815]; rw [if_neg c_816]; rw [if_neg c_817]; rw [if_neg c_818]; rw [if_neg c_819]; rw [if_pos c_820]; try rfl)
                  exact ct_ri hx hb hr hlocks hP hD hK hS d_Model_tells_177 (by rw [hk]; first | done | rfl) rfl
                · by_cases c_821 : p1 = 1604
                  · refine lv_lookup (off := 177) (tgt := 178) hx hb d_Model_tells_1 (by decide) (by rw [c_821]; decide) (by decide) ?_
                    refine lv_aload_n hx hb d_Model_tells_178 rfl (lv_at hl 0 rfl) ?_
                    refine va_get (D := G.1) (ci := 6) (v := .int (sm.1 20)) (C := R_Model) (T := T_Model) (N := 23) hx hb hts (fun w h => gd_sub _ (iw_Model w h)) hown hK hP 0 rfl rfl 20 (by decide) (hts _ (gd_sub _ q_627)) (fun _ h9 => h9) rfl d_Model_tells_179 ?_
                    have hk : k_Model_tells sm sk p1 = (sm.1 20) := (by rw [k_Model_tells]; rw [if_neg c_813]; rw [if_neg c_814]; rw [if_neg c_815]; rw [if_neg c_816]; rw [if_neg c_817]; rw [if_neg c_818]; rw [if_neg c_819]; rw [if_neg c_820]; rw [if_pos c_821]; try rfl)
                    exact ct_ri hx hb hr hlocks hP hD hK hS d_Model_tells_182 (by rw [hk]; first | done | rfl) rfl
                  · by_cases c_822 : p1 = 1605
                    · refine lv_lookup (off := 177) (tgt := 178) hx hb d_Model_tells_1 (by decide) (by rw [c_822]; decide) (by decide) ?_
                      refine lv_aload_n hx hb d_Model_tells_178 rfl (lv_at hl 0 rfl) ?_
                      refine va_get (D := G.1) (ci := 6) (v := .int (sm.1 20)) (C := R_Model) (T := T_Model) (N := 23) hx hb hts (fun w h => gd_sub _ (iw_Model w h)) hown hK hP 0 rfl rfl 20 (by decide) (hts _ (gd_sub _ q_627)) (fun _ h9 => h9) rfl d_Model_tells_179 ?_
                      have hk : k_Model_tells sm sk p1 = (sm.1 20) := (by rw [k_Model_tells]; rw [if_neg c_813]; rw [if_neg c_814]; rw [if_neg c_815]; rw [if_neg c_816]; rw [if_neg c_817]; rw [if_neg c_818]; rw [if_neg c_819]; rw [if_neg c_820]; rw [if_neg c_821]; rw [if_pos c_822]; try rfl)
                      exact ct_ri hx hb hr hlocks hP hD hK hS d_Model_tells_182 (by rw [hk]; first | done | rfl) rfl
                    · by_cases c_823 : p1 = 1610
                      · refine lv_lookup (off := 182) (tgt := 183) hx hb d_Model_tells_1 (by decide) (by rw [c_823]; decide) (by decide) ?_
                        refine lv_aload_n hx hb d_Model_tells_183 rfl (lv_at hl 0 rfl) ?_
                        refine va_get (D := G.1) (ci := 6) (v := .int (sm.1 21)) (C := R_Model) (T := T_Model) (N := 23) hx hb hts (fun w h => gd_sub _ (iw_Model w h)) hown hK hP 0 rfl rfl 21 (by decide) (hts _ (gd_sub _ q_628)) (fun _ h9 => h9) rfl d_Model_tells_184 ?_
                        have hk : k_Model_tells sm sk p1 = (sm.1 21) := (by rw [k_Model_tells]; rw [if_neg c_813]; rw [if_neg c_814]; rw [if_neg c_815]; rw [if_neg c_816]; rw [if_neg c_817]; rw [if_neg c_818]; rw [if_neg c_819]; rw [if_neg c_820]; rw [if_neg c_821]; rw [if_neg c_822]; rw [if_pos c_823]; try rfl)
                        exact ct_ri hx hb hr hlocks hP hD hK hS d_Model_tells_187 (by rw [hk]; first | done | rfl) rfl
                      · by_cases c_824 : p1 = 1664
                        · refine lv_lookup (off := 187) (tgt := 188) hx hb d_Model_tells_1 (by decide) (by rw [c_824]; decide) (by decide) ?_
                          refine lv_aload_n hx hb d_Model_tells_188 rfl (lv_at hl 0 rfl) ?_
                          refine va_get (D := G.1) (ci := 6) (v := .int (sm.1 22)) (C := R_Model) (T := T_Model) (N := 23) hx hb hts (fun w h => gd_sub _ (iw_Model w h)) hown hK hP 0 rfl rfl 22 (by decide) (hts _ (gd_sub _ q_629)) (fun _ h9 => h9) rfl d_Model_tells_189 ?_
                          have hk : k_Model_tells sm sk p1 = (sm.1 22) := (by rw [k_Model_tells]; rw [if_neg c_813]; rw [if_neg c_814]; rw [if_neg c_815]; rw [if_neg c_816]; rw [if_neg c_817]; rw [if_neg c_818]; rw [if_neg c_819]; rw [if_neg c_820]; rw [if_neg c_821]; rw [if_neg c_822]; rw [if_neg c_823]; rw [if_pos c_824]; try rfl)
                          exact ct_ri hx hb hr hlocks hP hD hK hS d_Model_tells_192 (by rw [hk]; first | done | rfl) rfl
                        · by_cases c_825 : p1 = 3073
                          · refine lv_lookup (off := 192) (tgt := 193) hx hb d_Model_tells_1 (by decide) (by rw [c_825]; decide) (by decide) ?_
                            refine lv_aload_n hx hb d_Model_tells_193 rfl (lv_at hl 0 rfl) ?_
                            refine va_get (D := G.1) (ci := 6) (v := .long (sm.2.1 2)) (C := R_Model) (T := T_Model) (N := 23) hx hb hts (fun w h => gd_sub _ (iw_Model w h)) hown hK hP 0 rfl rfl 2 (by decide) (hts _ (gd_sub _ q_609)) (fun _ h9 => h9) rfl d_Model_tells_194 ?_
                            refine lv_l2i (v := (sm.2.1 2).toInt32) hx hb d_Model_tells_197 rfl ?_
                            have hk : k_Model_tells sm sk p1 = (sm.2.1 2).toInt32 := (by rw [k_Model_tells]; rw [if_neg c_813]; rw [if_neg c_814]; rw [if_neg c_815]; rw [if_neg c_816]; rw [if_neg c_817]; rw [if_neg c_818]; rw [if_neg c_819]; rw [if_neg c_820]; rw [if_neg c_821]; rw [if_neg c_822]; rw [if_neg c_823]; rw [if_neg c_824]; rw [if_pos c_825]; try rfl)
                            exact ct_ri hx hb hr hlocks hP hD hK hS d_Model_tells_198 (by rw [hk]; first | done | rfl) rfl
                          · by_cases c_826 : p1 = 3201
                            · refine lv_lookup (off := 198) (tgt := 199) hx hb d_Model_tells_1 (by decide) (by rw [c_826]; decide) (by decide) ?_
                              refine lv_aload_n hx hb d_Model_tells_199 rfl (lv_at hl 0 rfl) ?_
                              refine va_get (D := G.1) (ci := 6) (v := .long (sm.2.1 2)) (C := R_Model) (T := T_Model) (N := 23) hx hb hts (fun w h => gd_sub _ (iw_Model w h)) hown hK hP 0 rfl rfl 2 (by decide) (hts _ (gd_sub _ q_609)) (fun _ h9 => h9) rfl d_Model_tells_200 ?_
                              refine lv_bipush (v := 32) hx hb d_Model_tells_203 (by decide) ?_
                              refine lv_lshr (v := (lshr (sm.2.1 2) 32)) hx hb d_Model_tells_205 rfl ?_
                              refine lv_l2i (v := (lshr (sm.2.1 2) 32).toInt32) hx hb d_Model_tells_206 rfl ?_
                              have hk : k_Model_tells sm sk p1 = (lshr (sm.2.1 2) 32).toInt32 := (by rw [k_Model_tells]; rw [if_neg c_813]; rw [if_neg c_814]; rw [if_neg c_815]; rw [if_neg c_816]; rw [if_neg c_817]; rw [if_neg c_818]; rw [if_neg c_819]; rw [if_neg c_820]; rw [if_neg c_821]; rw [if_neg c_822]; rw [if_neg c_823]; rw [if_neg c_824]; rw [if_neg c_825]; rw [if_pos c_826]; try rfl)
                              exact ct_ri hx hb hr hlocks hP hD hK hS d_Model_tells_207 (by rw [hk]; first | done | rfl) rfl
                            · refine lv_lookup (off := 207) (tgt := 208) hx hb d_Model_tells_1 (by decide) ((lv_osw c_813 (by decide)).trans ((lv_osw c_814 (by decide)).trans ((lv_osw c_815 (by decide)).trans ((lv_osw c_816 (by decide)).trans ((lv_osw c_817 (by decide)).trans ((lv_osw c_818 (by decide)).trans ((lv_osw c_819 (by decide)).trans ((lv_osw c_820 (by decide)).trans ((lv_osw c_821 (by decide)).trans ((lv_osw c_822 (by decide)).trans ((lv_osw c_823 (by decide)).trans ((lv_osw c_824 (by decide)).trans ((lv_osw c_825 (by decide)).trans ((lv_osw c_826 (by decide)).trans rfl)))))))))))))) (by decide) ?_
                              refine lv_aload_n hx hb d_Model_tells_208 rfl (lv_at hl 0 rfl) ?_
                              refine va_get (D := G.1) (ci := 6) (v := .ref qk) (C := R_Model) (T := T_Model) (N := 23) hx hb hts (fun w h => gd_sub _ (iw_Model w h)) hown hK hP 0 rfl rfl 14 (by decide) (hts _ (gd_sub _ q_621)) (fun _ h9 => h9) rfl d_Model_tells_209 ?_
                              refine lv_iload_n hx hb d_Model_tells_212 rfl (lv_at hl 1 rfl) ?_
                              refine lv_sipush (v := 256) hx hb d_Model_tells_213 (by decide) ?_
                              refine lv_isub hx hb d_Model_tells_216 ?_
                              refine va_iald hx hb hK hP 1 2 rfl ht2 (h9 c_816 c_817 c_818 c_819 c_820 c_821 c_822 c_823 c_824 c_825 c_826) d_Model_tells_217 ?_
                              have hk : k_Model_tells sm sk p1 = (sk (p1 - 256).toNatClampNeg) := (by rw [k_Model_tells]; rw [if_neg c_813]; rw [if_neg c_814]; rw [if_neg c_815]; rw [if_neg c_816]; rw [if_neg c_817]; rw [if_neg c_818]; rw [if_neg c_819]; rw [if_neg c_820]; rw [if_neg c_821]; rw [if_neg c_822]; rw [if_neg c_823]; rw [if_neg c_824]; rw [if_neg c_825]; rw [if_neg c_826]; try rfl)
                              exact ct_ri hx hb hr hlocks hP hD hK hS d_Model_tells_218 (by rw [hk]; first | done | rfl) rfl
def k_Model_keeps (p1 : Int32) (p2 : Int32) : Int32 :=
  if p1 = 0 then (p2 &&& 786722) else if p1 = 4 then (p2 &&& 546) else if p1 = 5 then (p2 &&& (-3)) else if p1 = 65 then (p2 &&& (-4)) else if p1 = 68 then (p2 &&& 2) else if p1 = 128 then (p2 &&& (-2143289345)) else p2
set_option maxHeartbeats 4000000 in
set_option maxRecDepth 100000 in
theorem c_Model_keeps (l : Launch) (G : gx) (tys : List (ClassId × FieldType)) (p1 : Int32) (p2 : Int32) : ct_I l y_Model_keeps ws_Model_keeps ({ frames := 0, cells := 0, slots := 0, locals := 0 }) G tys [.int p1, .int p2] [] (k_Model_keeps p1 p2) [] := by
  refine ct_hI (cc := cc_Model_keeps) (maxL := 2) (ret := (some .int)) (by decide) rfl (Nat.le_of_ble_eq_true rfl) ?_
  intro p e s m below meth c A ls hx hb hr hml hts hown hlocks hP hK hD hA hE hS hl
  have hl : lv_has ls 2 [(0, .int p1), (1, .int p2)] := hl
  have hown : s.vm.findClass R_Model = some m.cls := hown
  refine lv_iload_n hx hb d_Model_keeps_0 rfl (lv_at hl 0 rfl) ?_
  by_cases c_833 : p1 = 0
  · refine lv_lookup (off := 59) (tgt := 60) hx hb d_Model_keeps_1 (by decide) (by rw [c_833]; decide) (by decide) ?_
    refine lv_iload_n hx hb d_Model_keeps_60 rfl (lv_at hl 1 rfl) ?_
    refine lv_ldc (v := 786722) hx hb hown (hts _ (gd_sub _ q_705)) d_Model_keeps_61 ?_
    refine lv_iand hx hb d_Model_keeps_63 ?_
    have hk : k_Model_keeps p1 p2 = (p2 &&& 786722) := (by rw [k_Model_keeps]; rw [if_pos c_833]; try rfl)
    exact ct_ri hx hb hr hlocks hP hD hK hS d_Model_keeps_64 (by rw [hk]; first | done | rfl) rfl
  · by_cases c_834 : p1 = 4
    · refine lv_lookup (off := 64) (tgt := 65) hx hb d_Model_keeps_1 (by decide) (by rw [c_834]; decide) (by decide) ?_
      refine lv_iload_n hx hb d_Model_keeps_65 rfl (lv_at hl 1 rfl) ?_
      refine lv_sipush (v := 546) hx hb d_Model_keeps_66 (by decide) ?_
      refine lv_iand hx hb d_Model_keeps_69 ?_
      have hk : k_Model_keeps p1 p2 = (p2 &&& 546) := (by rw [k_Model_keeps]; rw [if_neg c_833]; rw [if_pos c_834]; try rfl)
      exact ct_ri hx hb hr hlocks hP hD hK hS d_Model_keeps_70 (by rw [hk]; first | done | rfl) rfl
    · by_cases c_835 : p1 = 5
      · refine lv_lookup (off := 70) (tgt := 71) hx hb d_Model_keeps_1 (by decide) (by rw [c_835]; decide) (by decide) ?_
        refine lv_iload_n hx hb d_Model_keeps_71 rfl (lv_at hl 1 rfl) ?_
        refine lv_bipush (v := (-3)) hx hb d_Model_keeps_72 (by decide) ?_
        refine lv_iand hx hb d_Model_keeps_74 ?_
        have hk : k_Model_keeps p1 p2 = (p2 &&& (-3)) := (by rw [k_Model_keeps]; rw [if_neg c_833]; rw [if_neg c_834]; rw [if_pos c_835]; try rfl)
        exact ct_ri hx hb hr hlocks hP hD hK hS d_Model_keeps_75 (by rw [hk]; first | done | rfl) rfl
      · by_cases c_836 : p1 = 65
        · refine lv_lookup (off := 75) (tgt := 76) hx hb d_Model_keeps_1 (by decide) (by rw [c_836]; decide) (by decide) ?_
          refine lv_iload_n hx hb d_Model_keeps_76 rfl (lv_at hl 1 rfl) ?_
          refine lv_bipush (v := (-4)) hx hb d_Model_keeps_77 (by decide) ?_
          refine lv_iand hx hb d_Model_keeps_79 ?_
          have hk : k_Model_keeps p1 p2 = (p2 &&& (-4)) := (by rw [k_Model_keeps]; rw [if_neg c_833]; rw [if_neg c_834]; rw [if_neg c_835]; rw [if_pos c_836]; try rfl)
          exact ct_ri hx hb hr hlocks hP hD hK hS d_Model_keeps_80 (by rw [hk]; first | done | rfl) rfl
        · by_cases c_837 : p1 = 68
          · refine lv_lookup (off := 80) (tgt := 81) hx hb d_Model_keeps_1 (by decide) (by rw [c_837]; decide) (by decide) ?_
            refine lv_iload_n hx hb d_Model_keeps_81 rfl (lv_at hl 1 rfl) ?_
            refine lv_iconst (v := 2) hx hb d_Model_keeps_82 (by decide) ?_
            refine lv_iand hx hb d_Model_keeps_83 ?_
            have hk : k_Model_keeps p1 p2 = (p2 &&& 2) := (by rw [k_Model_keeps]; rw [if_neg c_833]; rw [if_neg c_834]; rw [if_neg c_835]; rw [if_neg c_836]; rw [if_pos c_837]; try rfl)
            exact ct_ri hx hb hr hlocks hP hD hK hS d_Model_keeps_84 (by rw [hk]; first | done | rfl) rfl
          · by_cases c_838 : p1 = 128
            · refine lv_lookup (off := 84) (tgt := 85) hx hb d_Model_keeps_1 (by decide) (by rw [c_838]; decide) (by decide) ?_
              refine lv_iload_n hx hb d_Model_keeps_85 rfl (lv_at hl 1 rfl) ?_
              refine lv_ldc (v := (-2143289345)) hx hb hown (hts _ (gd_sub _ q_706)) d_Model_keeps_86 ?_
              refine lv_iand hx hb d_Model_keeps_88 ?_
              have hk : k_Model_keeps p1 p2 = (p2 &&& (-2143289345)) := (by rw [k_Model_keeps]; rw [if_neg c_833]; rw [if_neg c_834]; rw [if_neg c_835]; rw [if_neg c_836]; rw [if_neg c_837]; rw [if_pos c_838]; try rfl)
              exact ct_ri hx hb hr hlocks hP hD hK hS d_Model_keeps_89 (by rw [hk]; first | done | rfl) rfl
            · refine lv_lookup (off := 89) (tgt := 90) hx hb d_Model_keeps_1 (by decide) ((lv_osw c_833 (by decide)).trans ((lv_osw c_834 (by decide)).trans ((lv_osw c_835 (by decide)).trans ((lv_osw c_836 (by decide)).trans ((lv_osw c_837 (by decide)).trans ((lv_osw c_838 (by decide)).trans rfl)))))) (by decide) ?_
              refine lv_iload_n hx hb d_Model_keeps_90 rfl (lv_at hl 1 rfl) ?_
              have hk : k_Model_keeps p1 p2 = p2 := (by rw [k_Model_keeps]; rw [if_neg c_833]; rw [if_neg c_834]; rw [if_neg c_835]; rw [if_neg c_836]; rw [if_neg c_837]; rw [if_neg c_838]; try rfl)
              exact ct_ri hx hb hr hlocks hP hD hK hS d_Model_keeps_91 (by rw [hk]; first | done | rfl) rfl
def k_Model_write (sm : ob) (sk : Nat → Int32) (p1 : Int32) (p2 : Int32) : ob × (Nat → Int32) :=
  if p1 = 516 then ((oi sm 18 (((sm.1 18) &&& (((sm.1 17) &&& 1092) ^^^ (-1))) ||| ((p2 <<< ((1 : Int32) &&& 31)) &&& ((sm.1 17) &&& 1092)))), sk) else if p1 = 580 then (if ((sm.1 17) &&& 4) = 0 then (sm, sk) else ((oi sm 20 (((sm.1 20) &&& (-5)) ||| ((p2 <<< ((1 : Int32) &&& 31)) &&& 4))), sk)) else if p1 = 1536 then ((oi sm 15 (p2 &&& 7340992)), sk) else if p1 = 1538 then ((oi sm 16 (p2 &&& 45567)), sk) else if p1 = 1539 then ((oi sm 17 (p2 &&& 1092)), sk) else if p1 = 1540 then ((oi sm 18 (p2 &&& 1092)), sk) else if p1 = 1603 then ((oi sm 19 p2), sk) else if p1 = 1604 then ((oi sm 20 (((sm.1 20) &&& (-5)) ||| (p2 &&& 4))), sk) else if p1 = 1605 then ((oi sm 20 (p2 &&& 1092)), sk) else if p1 = 1610 then ((oi sm 21 p2), sk) else if p1 = 1664 then ((oi sm 22 (p2 &&& (-2143289348))), sk) else (sm, (upd sk (p1 - 256).toNatClampNeg (k_Model_keeps (p1 &&& 255) p2)))
set_option maxHeartbeats 4000000 in
set_option maxRecDepth 100000 in
theorem c_Model_write (l : Launch) (G : gx) (tys : List (ClassId × FieldType)) {cD : ClassId} (ht2 : tys[2]? = some (cD, .int)) (qm qk qp : Nat) (sm : ob) (sk : Nat → Int32) (p1 : Int32) (p2 : Int32) (h8 : okW p1) : ct_V l y_Model_write ws_Model_write ({ frames := 1, cells := 0, slots := 0, locals := 21 }) G tys [.ref qm, .int p1, .int p2] [(qm, .inr (6, f_Model qp qk sm)), (qk, .inl (cD, 512, .inl sk))] [(qm, .inr (6, f_Model qp qk ((k_Model_write sm sk p1 p2).1))), (qk, .inl (cD, 512, .inl ((k_Model_write sm sk p1 p2).2)))] := by
  refine ct_hV (cc := cc_Model_write) (maxL := 4) (ret := none) (by decide) rfl (Nat.le_of_ble_eq_true rfl) ?_
  intro p e s m below meth c A ls hx hb hr hml hts hown hlocks hP hK hD hA hE hS hl
  have hl : lv_has ls 4 [(0, .ref qm), (1, .int p1), (2, .int p2)] := hl
  have hown : s.vm.findClass R_Model = some m.cls := hown
  refine lv_iload_n hx hb d_Model_write_0 rfl (lv_at hl 1 rfl) ?_
  by_cases c_851 : p1 = 516
  · refine lv_lookup (off := 99) (tgt := 100) hx hb d_Model_write_1 (by decide) (by rw [c_851]; decide) (by decide) ?_
    refine lv_aload_n hx hb d_Model_write_100 rfl (lv_at hl 0 rfl) ?_
    refine va_get (D := G.1) (ci := 6) (v := .int (sm.1 17)) (C := R_Model) (T := T_Model) (N := 23) hx hb hts (fun w h => gd_sub _ (iw_Model w h)) hown hK hP 0 rfl rfl 17 (by decide) (hts _ (gd_sub _ q_624)) (fun _ h9 => h9) rfl d_Model_write_101 ?_
    refine lv_sipush (v := 1092) hx hb d_Model_write_104 (by decide) ?_
    refine lv_iand hx hb d_Model_write_107 ?_
    refine lv_istore_n (lv' := [(3, .int ((sm.1 17) &&& 1092)), (0, .ref qm), (1, .int p1), (2, .int p2)]) hx hb d_Model_write_108 rfl hl (by decide) rfl (fun ls hl => ?_)
    refine lv_aload_n hx hb d_Model_write_109 rfl (lv_at hl 1 rfl) ?_
    refine lv_aload_n hx hb d_Model_write_110 rfl (lv_at hl 1 rfl) ?_
    refine va_get (D := G.1) (ci := 6) (v := .int (sm.1 18)) (C := R_Model) (T := T_Model) (N := 23) hx hb hts (fun w h => gd_sub _ (iw_Model w h)) hown hK hP 0 rfl rfl 18 (by decide) (hts _ (gd_sub _ q_625)) (fun _ h9 => h9) rfl d_Model_write_111 ?_
    refine lv_iload_n hx hb d_Model_write_114 rfl (lv_at hl 0 rfl) ?_
    refine lv_iconst (v := (-1)) hx hb d_Model_write_115 (by decide) ?_
    refine lv_ixor hx hb d_Model_write_116 ?_
    refine lv_iand hx hb d_Model_write_117 ?_
    refine lv_iload_n hx hb d_Model_write_118 rfl (lv_at hl 3 rfl) ?_
    refine lv_iconst (v := 1) hx hb d_Model_write_119 (by decide) ?_
    refine lv_ishl hx hb d_Model_write_120 ?_
    refine lv_iload_n hx hb d_Model_write_121 rfl (lv_at hl 0 rfl) ?_
    refine lv_iand hx hb d_Model_write_122 ?_
    refine lv_ior hx hb d_Model_write_123 ?_
    refine va_put (D := G.1) (ci := 6) (v := .int (((sm.1 18) &&& (((sm.1 17) &&& 1092) ^^^ (-1))) ||| ((p2 <<< ((1 : Int32) &&& 31)) &&& ((sm.1 17) &&& 1092)))) (ty := .int) (C := R_Model) (T := T_Model) (N := 23) hx hb hts (fun w h => gd_sub _ (iw_Model w h)) ty_Model tyok_Model nm_Model hown hK hP hD hS 0 rfl rfl 18 (by decide) (hts _ (gd_sub _ q_625)) (fun _ h9 => h9) rfl (by decide +kernel) rfl rfl (Nat.le_of_ble_eq_true rfl) d_Model_write_124 (fun H locs hP hD hS => ?_)
    have hP : va_P G.1 vwCl [(qm, .inr (6, f_Model qp qk (oi sm 18 (((sm.1 18) &&& (((sm.1 17) &&& 1092) ^^^ (-1))) ||| ((p2 <<< ((1 : Int32) &&& 31)) &&& ((sm.1 17) &&& 1092)))))), (qk, .inl (cD, 512, .inl sk))] H := hP
    have hD : va_D A [(qm, .inr (6, f_Model qp qk (oi sm 18 (((sm.1 18) &&& (((sm.1 17) &&& 1092) ^^^ (-1))) ||| ((p2 <<< ((1 : Int32) &&& 31)) &&& ((sm.1 17) &&& 1092)))))), (qk, .inl (cD, 512, .inl sk))] := hD
    refine lv_goto (tgt := 281) hx hb d_Model_write_127 (by decide) ?_
    have hk : k_Model_write sm sk p1 p2 = ((oi sm 18 (((sm.1 18) &&& (((sm.1 17) &&& 1092) ^^^ (-1))) ||| ((p2 <<< ((1 : Int32) &&& 31)) &&& ((sm.1 17) &&& 1092)))), sk) := (by rw [k_Model_write]; rw [if_pos c_851]; try rfl)
    exact ct_rv hx hb hr hlocks hP hD hK hS d_Model_write_281 (by rw [hk]; first | done | rfl)
  · by_cases c_852 : p1 = 580
    · refine lv_lookup (off := 129) (tgt := 130) hx hb d_Model_write_1 (by decide) (by rw [c_852]; decide) (by decide) ?_
      refine lv_aload_n hx hb d_Model_write_130 rfl (lv_at hl 0 rfl) ?_
      refine va_get (D := G.1) (ci := 6) (v := .int (sm.1 17)) (C := R_Model) (T := T_Model) (N := 23) hx hb hts (fun w h => gd_sub _ (iw_Model w h)) hown hK hP 0 rfl rfl 17 (by decide) (hts _ (gd_sub _ q_624)) (fun _ h9 => h9) rfl d_Model_write_131 ?_
      refine lv_iconst (v := 4) hx hb d_Model_write_134 (by decide) ?_
      refine lv_iand hx hb d_Model_write_135 ?_
      refine lv_if_eq (tgt := 281) hx hb d_Model_write_136 (by decide) (fun c_853 => ?_) (fun c_853 => ?_)
      · have hk : k_Model_write sm sk p1 p2 = (sm, sk) := (by rw [k_Model_write]; rw [if_neg c_851]; rw [if_pos c_852]; rw [if_pos c_853]; try rfl)
        exact ct_rv hx hb hr hlocks hP hD hK hS d_Model_write_281 (by rw [hk]; first | done | rfl)
      · refine lv_aload_n hx hb d_Model_write_139 rfl (lv_at hl 0 rfl) ?_
        refine lv_aload_n hx hb d_Model_write_140 rfl (lv_at hl 0 rfl) ?_
        refine va_get (D := G.1) (ci := 6) (v := .int (sm.1 20)) (C := R_Model) (T := T_Model) (N := 23) hx hb hts (fun w h => gd_sub _ (iw_Model w h)) hown hK hP 0 rfl rfl 20 (by decide) (hts _ (gd_sub _ q_627)) (fun _ h9 => h9) rfl d_Model_write_141 ?_
        refine lv_bipush (v := (-5)) hx hb d_Model_write_144 (by decide) ?_
        refine lv_iand hx hb d_Model_write_146 ?_
        refine lv_iload_n hx hb d_Model_write_147 rfl (lv_at hl 2 rfl) ?_
        refine lv_iconst (v := 1) hx hb d_Model_write_148 (by decide) ?_
        refine lv_ishl hx hb d_Model_write_149 ?_
        refine lv_iconst (v := 4) hx hb d_Model_write_150 (by decide) ?_
        refine lv_iand hx hb d_Model_write_151 ?_
        refine lv_ior hx hb d_Model_write_152 ?_
        refine va_put (D := G.1) (ci := 6) (v := .int (((sm.1 20) &&& (-5)) ||| ((p2 <<< ((1 : Int32) &&& 31)) &&& 4))) (ty := .int) (C := R_Model) (T := T_Model) (N := 23) hx hb hts (fun w h => gd_sub _ (iw_Model w h)) ty_Model tyok_Model nm_Model hown hK hP hD hS 0 rfl rfl 20 (by decide) (hts _ (gd_sub _ q_627)) (fun _ h9 => h9) rfl (by decide +kernel) rfl rfl (Nat.le_of_ble_eq_true rfl) d_Model_write_153 (fun H locs hP hD hS => ?_)
        have hP : va_P G.1 vwCl [(qm, .inr (6, f_Model qp qk (oi sm 20 (((sm.1 20) &&& (-5)) ||| ((p2 <<< ((1 : Int32) &&& 31)) &&& 4))))), (qk, .inl (cD, 512, .inl sk))] H := hP
        have hD : va_D A [(qm, .inr (6, f_Model qp qk (oi sm 20 (((sm.1 20) &&& (-5)) ||| ((p2 <<< ((1 : Int32) &&& 31)) &&& 4))))), (qk, .inl (cD, 512, .inl sk))] := hD
        refine lv_goto (tgt := 281) hx hb d_Model_write_156 (by decide) ?_
        have hk : k_Model_write sm sk p1 p2 = ((oi sm 20 (((sm.1 20) &&& (-5)) ||| ((p2 <<< ((1 : Int32) &&& 31)) &&& 4))), sk) := (by rw [k_Model_write]; rw [if_neg c_851]; rw [if_pos c_852]; rw [if_neg c_853]; try rfl)
        exact ct_rv hx hb hr hlocks hP hD hK hS d_Model_write_281 (by rw [hk]; first | done | rfl)
    · by_cases c_854 : p1 = 1536
      · refine lv_lookup (off := 158) (tgt := 159) hx hb d_Model_write_1 (by decide) (by rw [c_854]; decide) (by decide) ?_
        refine lv_aload_n hx hb d_Model_write_159 rfl (lv_at hl 0 rfl) ?_
        refine lv_iload_n hx hb d_Model_write_160 rfl (lv_at hl 2 rfl) ?_
        refine lv_ldc (v := 7340992) hx hb hown (hts _ (gd_sub _ q_699)) d_Model_write_161 ?_
        refine lv_iand hx hb d_Model_write_163 ?_
        refine va_put (D := G.1) (ci := 6) (v := .int (p2 &&& 7340992)) (ty := .int) (C := R_Model) (T := T_Model) (N := 23) hx hb hts (fun w h => gd_sub _ (iw_Model w h)) ty_Model tyok_Model nm_Model hown hK hP hD hS 0 rfl rfl 15 (by decide) (hts _ (gd_sub _ q_622)) (fun _ h9 => h9) rfl (by decide +kernel) rfl rfl (Nat.le_of_ble_eq_true rfl) d_Model_write_164 (fun H locs hP hD hS => ?_)
        have hP : va_P G.1 vwCl [(qm, .inr (6, f_Model qp qk (oi sm 15 (p2 &&& 7340992)))), (qk, .inl (cD, 512, .inl sk))] H := hP
        have hD : va_D A [(qm, .inr (6, f_Model qp qk (oi sm 15 (p2 &&& 7340992)))), (qk, .inl (cD, 512, .inl sk))] := hD
        refine lv_goto (tgt := 281) hx hb d_Model_write_167 (by decide) ?_
        have hk : k_Model_write sm sk p1 p2 = ((oi sm 15 (p2 &&& 7340992)), sk) := (by rw [k_Model_write]; rw [if_neg c_851]; rw [if_neg c_852]; rw [if_pos c_854]; try rfl)
        exact ct_rv hx hb hr hlocks hP hD hK hS d_Model_write_281 (by rw [hk]; first | done | rfl)
      · by_cases c_855 : p1 = 1538
        · refine lv_lookup (off := 169) (tgt := 170) hx hb d_Model_write_1 (by decide) (by rw [c_855]; decide) (by decide) ?_
          refine lv_aload_n hx hb d_Model_write_170 rfl (lv_at hl 0 rfl) ?_
          refine lv_iload_n hx hb d_Model_write_171 rfl (lv_at hl 2 rfl) ?_
          refine lv_ldc (v := 45567) hx hb hown (hts _ (gd_sub _ q_700)) d_Model_write_172 ?_
          refine lv_iand hx hb d_Model_write_174 ?_
          refine va_put (D := G.1) (ci := 6) (v := .int (p2 &&& 45567)) (ty := .int) (C := R_Model) (T := T_Model) (N := 23) hx hb hts (fun w h => gd_sub _ (iw_Model w h)) ty_Model tyok_Model nm_Model hown hK hP hD hS 0 rfl rfl 16 (by decide) (hts _ (gd_sub _ q_623)) (fun _ h9 => h9) rfl (by decide +kernel) rfl rfl (Nat.le_of_ble_eq_true rfl) d_Model_write_175 (fun H locs hP hD hS => ?_)
          have hP : va_P G.1 vwCl [(qm, .inr (6, f_Model qp qk (oi sm 16 (p2 &&& 45567)))), (qk, .inl (cD, 512, .inl sk))] H := hP
          have hD : va_D A [(qm, .inr (6, f_Model qp qk (oi sm 16 (p2 &&& 45567)))), (qk, .inl (cD, 512, .inl sk))] := hD
          refine lv_goto (tgt := 281) hx hb d_Model_write_178 (by decide) ?_
          have hk : k_Model_write sm sk p1 p2 = ((oi sm 16 (p2 &&& 45567)), sk) := (by rw [k_Model_write]; rw [if_neg c_851]; rw [if_neg c_852]; rw [if_neg c_854]; rw [if_pos c_855]; try rfl)
          exact ct_rv hx hb hr hlocks hP hD hK hS d_Model_write_281 (by rw [hk]; first | done | rfl)
        · by_cases c_856 : p1 = 1539
          · refine lv_lookup (off := 180) (tgt := 181) hx hb d_Model_write_1 (by decide) (by rw [c_856]; decide) (by decide) ?_
            refine lv_aload_n hx hb d_Model_write_181 rfl (lv_at hl 0 rfl) ?_
            refine lv_iload_n hx hb d_Model_write_182 rfl (lv_at hl 2 rfl) ?_
            refine lv_sipush (v := 1092) hx hb d_Model_write_183 (by decide) ?_
            refine lv_iand hx hb d_Model_write_186 ?_
            refine va_put (D := G.1) (ci := 6) (v := .int (p2 &&& 1092)) (ty := .int) (C := R_Model) (T := T_Model) (N := 23) hx hb hts (fun w h => gd_sub _ (iw_Model w h)) ty_Model tyok_Model nm_Model hown hK hP hD hS 0 rfl rfl 17 (by decide) (hts _ (gd_sub _ q_624)) (fun _ h9 => h9) rfl (by decide +kernel) rfl rfl (Nat.le_of_ble_eq_true rfl) d_Model_write_187 (fun H locs hP hD hS => ?_)
            have hP : va_P G.1 vwCl [(qm, .inr (6, f_Model qp qk (oi sm 17 (p2 &&& 1092)))), (qk, .inl (cD, 512, .inl sk))] H := hP
            have hD : va_D A [(qm, .inr (6, f_Model qp qk (oi sm 17 (p2 &&& 1092)))), (qk, .inl (cD, 512, .inl sk))] := hD
            refine lv_goto (tgt := 281) hx hb d_Model_write_190 (by decide) ?_
            have hk : k_Model_write sm sk p1 p2 = ((oi sm 17 (p2 &&& 1092)), sk) := (by rw [k_Model_write]; rw [if_neg c_851]; rw [if_neg c_852]; rw [if_neg c_854]; rw [if_neg c_855]; rw [if_pos c_856]; try rfl)
            exact ct_rv hx hb hr hlocks hP hD hK hS d_Model_write_281 (by rw [hk]; first | done | rfl)
          · by_cases c_857 : p1 = 1540
            · refine lv_lookup (off := 192) (tgt := 193) hx hb d_Model_write_1 (by decide) (by rw [c_857]; decide) (by decide) ?_
              refine lv_aload_n hx hb d_Model_write_193 rfl (lv_at hl 0 rfl) ?_
              refine lv_iload_n hx hb d_Model_write_194 rfl (lv_at hl 2 rfl) ?_
              refine lv_sipush (v := 1092) hx hb d_Model_write_195 (by decide) ?_
              refine lv_iand hx hb d_Model_write_198 ?_
              refine va_put (D := G.1) (ci := 6) (v := .int (p2 &&& 1092)) (ty := .int) (C := R_Model) (T := T_Model) (N := 23) hx hb hts (fun w h => gd_sub _ (iw_Model w h)) ty_Model tyok_Model nm_Model hown hK hP hD hS 0 rfl rfl 18 (by decide) (hts _ (gd_sub _ q_625)) (fun _ h9 => h9) rfl (by decide +kernel) rfl rfl (Nat.le_of_ble_eq_true rfl) d_Model_write_199 (fun H locs hP hD hS => ?_)
              have hP : va_P G.1 vwCl [(qm, .inr (6, f_Model qp qk (oi sm 18 (p2 &&& 1092)))), (qk, .inl (cD, 512, .inl sk))] H := hP
              have hD : va_D A [(qm, .inr (6, f_Model qp qk (oi sm 18 (p2 &&& 1092)))), (qk, .inl (cD, 512, .inl sk))] := hD
              refine lv_goto (tgt := 281) hx hb d_Model_write_202 (by decide) ?_
              have hk : k_Model_write sm sk p1 p2 = ((oi sm 18 (p2 &&& 1092)), sk) := (by rw [k_Model_write]; rw [if_neg c_851]; rw [if_neg c_852]; rw [if_neg c_854]; rw [if_neg c_855]; rw [if_neg c_856]; rw [if_pos c_857]; try rfl)
              exact ct_rv hx hb hr hlocks hP hD hK hS d_Model_write_281 (by rw [hk]; first | done | rfl)
            · by_cases c_858 : p1 = 1603
              · refine lv_lookup (off := 204) (tgt := 205) hx hb d_Model_write_1 (by decide) (by rw [c_858]; decide) (by decide) ?_
                refine lv_aload_n hx hb d_Model_write_205 rfl (lv_at hl 0 rfl) ?_
                refine lv_iload_n hx hb d_Model_write_206 rfl (lv_at hl 2 rfl) ?_
                refine va_put (D := G.1) (ci := 6) (v := .int p2) (ty := .int) (C := R_Model) (T := T_Model) (N := 23) hx hb hts (fun w h => gd_sub _ (iw_Model w h)) ty_Model tyok_Model nm_Model hown hK hP hD hS 0 rfl rfl 19 (by decide) (hts _ (gd_sub _ q_626)) (fun _ h9 => h9) rfl (by decide +kernel) rfl rfl (Nat.le_of_ble_eq_true rfl) d_Model_write_207 (fun H locs hP hD hS => ?_)
                have hP : va_P G.1 vwCl [(qm, .inr (6, f_Model qp qk (oi sm 19 p2))), (qk, .inl (cD, 512, .inl sk))] H := hP
                have hD : va_D A [(qm, .inr (6, f_Model qp qk (oi sm 19 p2))), (qk, .inl (cD, 512, .inl sk))] := hD
                refine lv_goto (tgt := 281) hx hb d_Model_write_210 (by decide) ?_
                have hk : k_Model_write sm sk p1 p2 = ((oi sm 19 p2), sk) := (by rw [k_Model_write]; rw [if_neg c_851]; rw [if_neg c_852]; rw [if_neg c_854]; rw [if_neg c_855]; rw [if_neg c_856]; rw [if_neg c_857]; rw [if_pos c_858]; try rfl)
                exact ct_rv hx hb hr hlocks hP hD hK hS d_Model_write_281 (by rw [hk]; first | done | rfl)
              · by_cases c_859 : p1 = 1604
                · refine lv_lookup (off := 212) (tgt := 213) hx hb d_Model_write_1 (by decide) (by rw [c_859]; decide) (by decide) ?_
                  refine lv_aload_n hx hb d_Model_write_213 rfl (lv_at hl 0 rfl) ?_
                  refine lv_aload_n hx hb d_Model_write_214 rfl (lv_at hl 0 rfl) ?_
                  refine va_get (D := G.1) (ci := 6) (v := .int (sm.1 20)) (C := R_Model) (T := T_Model) (N := 23) hx hb hts (fun w h => gd_sub _ (iw_Model w h)) hown hK hP 0 rfl rfl 20 (by decide) (hts _ (gd_sub _ q_627)) (fun _ h9 => h9) rfl d_Model_write_215 ?_
                  refine lv_bipush (v := (-5)) hx hb d_Model_write_218 (by decide) ?_
                  refine lv_iand hx hb d_Model_write_220 ?_
                  refine lv_iload_n hx hb d_Model_write_221 rfl (lv_at hl 2 rfl) ?_
                  refine lv_iconst (v := 4) hx hb d_Model_write_222 (by decide) ?_
                  refine lv_iand hx hb d_Model_write_223 ?_
                  refine lv_ior hx hb d_Model_write_224 ?_
                  refine va_put (D := G.1) (ci := 6) (v := .int (((sm.1 20) &&& (-5)) ||| (p2 &&& 4))) (ty := .int) (C := R_Model) (T := T_Model) (N := 23) hx hb hts (fun w h => gd_sub _ (iw_Model w h)) ty_Model tyok_Model nm_Model hown hK hP hD hS 0 rfl rfl 20 (by decide) (hts _ (gd_sub _ q_627)) (fun _ h9 => h9) rfl (by decide +kernel) rfl rfl (Nat.le_of_ble_eq_true rfl) d_Model_write_225 (fun H locs hP hD hS => ?_)
                  have hP : va_P G.1 vwCl [(qm, .inr (6, f_Model qp qk (oi sm 20 (((sm.1 20) &&& (-5)) ||| (p2 &&& 4))))), (qk, .inl (cD, 512, .inl sk))] H := hP
                  have hD : va_D A [(qm, .inr (6, f_Model qp qk (oi sm 20 (((sm.1 20) &&& (-5)) ||| (p2 &&& 4))))), (qk, .inl (cD, 512, .inl sk))] := hD
                  refine lv_goto (tgt := 281) hx hb d_Model_write_228 (by decide) ?_
                  have hk : k_Model_write sm sk p1 p2 = ((oi sm 20 (((sm.1 20) &&& (-5)) ||| (p2 &&& 4))), sk) := (by rw [k_Model_write]; rw [if_neg c_851]; rw [if_neg c_852]; rw [if_neg c_854]; rw [if_neg c_855]; rw [if_neg c_856]; rw [if_neg c_857]; rw [if_neg c_858]; rw [if_pos c_859]; try rfl)
                  exact ct_rv hx hb hr hlocks hP hD hK hS d_Model_write_281 (by rw [hk]; first | done | rfl)
                · by_cases c_860 : p1 = 1605
                  · refine lv_lookup (off := 230) (tgt := 231) hx hb d_Model_write_1 (by decide) (by rw [c_860]; decide) (by decide) ?_
                    refine lv_aload_n hx hb d_Model_write_231 rfl (lv_at hl 0 rfl) ?_
                    refine lv_iload_n hx hb d_Model_write_232 rfl (lv_at hl 2 rfl) ?_
                    refine lv_sipush (v := 1092) hx hb d_Model_write_233 (by decide) ?_
                    refine lv_iand hx hb d_Model_write_236 ?_
                    refine va_put (D := G.1) (ci := 6) (v := .int (p2 &&& 1092)) (ty := .int) (C := R_Model) (T := T_Model) (N := 23) hx hb hts (fun w h => gd_sub _ (iw_Model w h)) ty_Model tyok_Model nm_Model hown hK hP hD hS 0 rfl rfl 20 (by decide) (hts _ (gd_sub _ q_627)) (fun _ h9 => h9) rfl (by decide +kernel) rfl rfl (Nat.le_of_ble_eq_true rfl) d_Model_write_237 (fun H locs hP hD hS => ?_)
                    have hP : va_P G.1 vwCl [(qm, .inr (6, f_Model qp qk (oi sm 20 (p2 &&& 1092)))), (qk, .inl (cD, 512, .inl sk))] H := hP
                    have hD : va_D A [(qm, .inr (6, f_Model qp qk (oi sm 20 (p2 &&& 1092)))), (qk, .inl (cD, 512, .inl sk))] := hD
                    refine lv_goto (tgt := 281) hx hb d_Model_write_240 (by decide) ?_
                    have hk : k_Model_write sm sk p1 p2 = ((oi sm 20 (p2 &&& 1092)), sk) := (by rw [k_Model_write]; rw [if_neg c_851]; rw [if_neg c_852]; rw [if_neg c_854]; rw [if_neg c_855]; rw [if_neg c_856]; rw [if_neg c_857]; rw [if_neg c_858]; rw [if_neg c_859]; rw [if_pos c_860]; try rfl)
                    exact ct_rv hx hb hr hlocks hP hD hK hS d_Model_write_281 (by rw [hk]; first | done | rfl)
                  · by_cases c_861 : p1 = 1610
                    · refine lv_lookup (off := 242) (tgt := 243) hx hb d_Model_write_1 (by decide) (by rw [c_861]; decide) (by decide) ?_
                      refine lv_aload_n hx hb d_Model_write_243 rfl (lv_at hl 0 rfl) ?_
                      refine lv_iload_n hx hb d_Model_write_244 rfl (lv_at hl 2 rfl) ?_
                      refine va_put (D := G.1) (ci := 6) (v := .int p2) (ty := .int) (C := R_Model) (T := T_Model) (N := 23) hx hb hts (fun w h => gd_sub _ (iw_Model w h)) ty_Model tyok_Model nm_Model hown hK hP hD hS 0 rfl rfl 21 (by decide) (hts _ (gd_sub _ q_628)) (fun _ h9 => h9) rfl (by decide +kernel) rfl rfl (Nat.le_of_ble_eq_true rfl) d_Model_write_245 (fun H locs hP hD hS => ?_)
                      have hP : va_P G.1 vwCl [(qm, .inr (6, f_Model qp qk (oi sm 21 p2))), (qk, .inl (cD, 512, .inl sk))] H := hP
                      have hD : va_D A [(qm, .inr (6, f_Model qp qk (oi sm 21 p2))), (qk, .inl (cD, 512, .inl sk))] := hD
                      refine lv_goto (tgt := 281) hx hb d_Model_write_248 (by decide) ?_
                      have hk : k_Model_write sm sk p1 p2 = ((oi sm 21 p2), sk) := (by rw [k_Model_write]; rw [if_neg c_851]; rw [if_neg c_852]; rw [if_neg c_854]; rw [if_neg c_855]; rw [if_neg c_856]; rw [if_neg c_857]; rw [if_neg c_858]; rw [if_neg c_859]; rw [if_neg c_860]; rw [if_pos c_861]; try rfl)
                      exact ct_rv hx hb hr hlocks hP hD hK hS d_Model_write_281 (by rw [hk]; first | done | rfl)
                    · by_cases c_862 : p1 = 1664
                      · refine lv_lookup (off := 250) (tgt := 251) hx hb d_Model_write_1 (by decide) (by rw [c_862]; decide) (by decide) ?_
                        refine lv_aload_n hx hb d_Model_write_251 rfl (lv_at hl 0 rfl) ?_
                        refine lv_iload_n hx hb d_Model_write_252 rfl (lv_at hl 2 rfl) ?_
                        refine lv_ldc (v := (-2143289348)) hx hb hown (hts _ (gd_sub _ q_701)) d_Model_write_253 ?_
                        refine lv_iand hx hb d_Model_write_255 ?_
                        refine va_put (D := G.1) (ci := 6) (v := .int (p2 &&& (-2143289348))) (ty := .int) (C := R_Model) (T := T_Model) (N := 23) hx hb hts (fun w h => gd_sub _ (iw_Model w h)) ty_Model tyok_Model nm_Model hown hK hP hD hS 0 rfl rfl 22 (by decide) (hts _ (gd_sub _ q_629)) (fun _ h9 => h9) rfl (by decide +kernel) rfl rfl (Nat.le_of_ble_eq_true rfl) d_Model_write_256 (fun H locs hP hD hS => ?_)
                        have hP : va_P G.1 vwCl [(qm, .inr (6, f_Model qp qk (oi sm 22 (p2 &&& (-2143289348))))), (qk, .inl (cD, 512, .inl sk))] H := hP
                        have hD : va_D A [(qm, .inr (6, f_Model qp qk (oi sm 22 (p2 &&& (-2143289348))))), (qk, .inl (cD, 512, .inl sk))] := hD
                        refine lv_goto (tgt := 281) hx hb d_Model_write_259 (by decide) ?_
                        have hk : k_Model_write sm sk p1 p2 = ((oi sm 22 (p2 &&& (-2143289348))), sk) := (by rw [k_Model_write]; rw [if_neg c_851]; rw [if_neg c_852]; rw [if_neg c_854]; rw [if_neg c_855]; rw [if_neg c_856]; rw [if_neg c_857]; rw [if_neg c_858]; rw [if_neg c_859]; rw [if_neg c_860]; rw [if_neg c_861]; rw [if_pos c_862]; try rfl)
                        exact ct_rv hx hb hr hlocks hP hD hK hS d_Model_write_281 (by rw [hk]; first | done | rfl)
                      · refine lv_lookup (off := 261) (tgt := 262) hx hb d_Model_write_1 (by decide) ((lv_osw c_851 (by decide)).trans ((lv_osw c_852 (by decide)).trans ((lv_osw c_854 (by decide)).trans ((lv_osw c_855 (by decide)).trans ((lv_osw c_856 (by decide)).trans ((lv_osw c_857 (by decide)).trans ((lv_osw c_858 (by decide)).trans ((lv_osw c_859 (by decide)).trans ((lv_osw c_860 (by decide)).trans ((lv_osw c_861 (by decide)).trans ((lv_osw c_862 (by decide)).trans rfl))))))))))) (by decide) ?_
                        refine lv_aload_n hx hb d_Model_write_262 rfl (lv_at hl 0 rfl) ?_
                        refine va_get (D := G.1) (ci := 6) (v := .ref qk) (C := R_Model) (T := T_Model) (N := 23) hx hb hts (fun w h => gd_sub _ (iw_Model w h)) hown hK hP 0 rfl rfl 14 (by decide) (hts _ (gd_sub _ q_621)) (fun _ h9 => h9) rfl d_Model_write_263 ?_
                        refine lv_iload_n hx hb d_Model_write_266 rfl (lv_at hl 1 rfl) ?_
                        refine lv_sipush (v := 256) hx hb d_Model_write_267 (by decide) ?_
                        refine lv_isub hx hb d_Model_write_270 ?_
                        refine lv_iload_n hx hb d_Model_write_271 rfl (lv_at hl 1 rfl) ?_
                        refine lv_sipush (v := 255) hx hb d_Model_write_272 (by decide) ?_
                        refine lv_iand hx hb d_Model_write_275 ?_
                        refine lv_iload_n hx hb d_Model_write_276 rfl (lv_at hl 2 rfl) ?_
                        refine ct_cSi (wr := [(qm, .inr (6, f_Model qp qk sm)), (qk, .inl (cD, 512, .inl sk))]) (w1 := []) (w2 := [(qm, .inr (6, f_Model qp qk sm)), (qk, .inl (cD, 512, .inl sk))]) (r := (k_Model_keeps (p1 &&& 255) p2)) (As := [.int (p1 &&& 255), .int p2]) (rest := [.int (p1 - 256), .ref qk]) ⟨hx, hb, hml, hown, hts⟩ (c_Model_keeps l G tys (p1 &&& 255) p2) (va_cwS 2 hts (gdS gd_gd q_702 q_703 q_47 q_704) rfl rfl rfl (by decide +kernel) ⟨Nat.le_of_ble_eq_true rfl, Nat.le_of_ble_eq_true rfl⟩) hE hK hP hD hS hA [] [0, 1] [0, 1] rfl (by decide) rfl (by decide) (by decide) rfl (by decide) rfl hl.1 rfl (Nat.le_of_ble_eq_true rfl) d_Model_write_277 ⟨Nat.zero_le _, Nat.zero_le _⟩ (fun H locs hP hD hS => ?_)
                        refine va_iast hx hb hK hP hD hS 1 2 rfl ht2 (h8 c_854 c_855 c_856 c_857 c_858 c_859 c_860 c_861 c_862) d_Model_write_280 (fun H locs hP hD hS => ?_)
                        have hP : va_P G.1 vwCl [(qm, .inr (6, f_Model qp qk sm)), (qk, .inl (cD, 512, .inl (upd sk (p1 - 256).toNatClampNeg (k_Model_keeps (p1 &&& 255) p2))))] H := hP
                        have hD : va_D A [(qm, .inr (6, f_Model qp qk sm)), (qk, .inl (cD, 512, .inl (upd sk (p1 - 256).toNatClampNeg (k_Model_keeps (p1 &&& 255) p2))))] := hD
                        have hk : k_Model_write sm sk p1 p2 = (sm, (upd sk (p1 - 256).toNatClampNeg (k_Model_keeps (p1 &&& 255) p2))) := (by rw [k_Model_write]; rw [if_neg c_851]; rw [if_neg c_852]; rw [if_neg c_854]; rw [if_neg c_855]; rw [if_neg c_856]; rw [if_neg c_857]; rw [if_neg c_858]; rw [if_neg c_859]; rw [if_neg c_860]; rw [if_neg c_861]; rw [if_neg c_862]; try rfl)
                        exact ct_rv hx hb hr hlocks hP hD hK hS d_Model_write_281 (by rw [hk]; first | done | rfl)
def k_Model_put (sm : ob) (sk : Nat → Int32) (p1 : Int32) (p2 : Int32) : Int32 × ob × (Nat → Int32) :=
  if (bI (k_Model_isOne p1)) = 0 then ((-1), sm, sk) else (if (bI (k_Model_isTime p1)) = 0 then (0, ((k_Model_write sm sk p1 p2).1), ((k_Model_write sm sk p1 p2).2)) else ((-1), sm, sk))
set_option maxHeartbeats 4000000 in
set_option maxRecDepth 100000 in
theorem c_Model_put (l : Launch) (G : gx) (tys : List (ClassId × FieldType)) {cD : ClassId} (ht2 : tys[2]? = some (cD, .int)) (qm qk qp : Nat) (sm : ob) (sk : Nat → Int32) (p1 : Int32) (p2 : Int32) : ct_I l y_Model_put ws_Model_put ({ frames := 2, cells := 0, slots := 0, locals := 44 }) G tys [.ref qm, .int p1, .int p2] [(qm, .inr (6, f_Model qp qk sm)), (qk, .inl (cD, 512, .inl sk))] ((k_Model_put sm sk p1 p2).1) [(qm, .inr (6, f_Model qp qk ((k_Model_put sm sk p1 p2).2.1))), (qk, .inl (cD, 512, .inl ((k_Model_put sm sk p1 p2).2.2)))] := by
  refine ct_hI (cc := cc_Model_put) (maxL := 3) (ret := (some .int)) (by decide) rfl (Nat.le_of_ble_eq_true rfl) ?_
  intro p e s m below meth c A ls hx hb hr hml hts hown hlocks hP hK hD hA hE hS hl
  have hl : lv_has ls 3 [(0, .ref qm), (1, .int p1), (2, .int p2)] := hl
  have hown : s.vm.findClass R_Model = some m.cls := hown
  refine lv_iload_n hx hb d_Model_put_0 rfl (lv_at hl 1 rfl) ?_
  refine ct_cSi (wr := [(qm, .inr (6, f_Model qp qk sm)), (qk, .inl (cD, 512, .inl sk))]) (w1 := []) (w2 := [(qm, .inr (6, f_Model qp qk sm)), (qk, .inl (cD, 512, .inl sk))]) (r := (bI (k_Model_isOne p1))) (As := [.int p1]) (rest := []) ⟨hx, hb, hml, hown, hts⟩ (c_Model_isOne l G tys p1) (va_cwS 1 hts (gdS gd_gd q_683 q_684 q_47 q_685) rfl rfl rfl (by decide +kernel) ⟨Nat.le_of_ble_eq_true rfl, Nat.le_of_ble_eq_true rfl⟩) hE hK hP hD hS hA [] [0, 1] [0, 1] rfl (by decide) rfl (by decide) (by decide) rfl (by decide) rfl hl.1 rfl (Nat.le_of_ble_eq_true rfl) d_Model_put_1 ⟨Nat.zero_le _, Nat.zero_le _⟩ (fun H locs hP hD hS => ?_)
  refine lv_if_eq (tgt := 14) hx hb d_Model_put_4 (by decide) (fun c_867 => ?_) (fun c_867 => ?_)
  · refine lv_iconst (v := (-1)) hx hb d_Model_put_14 (by decide) ?_
    have hk : k_Model_put sm sk p1 p2 = ((-1), sm, sk) := (by rw [k_Model_put]; rw [if_pos c_867]; try rfl)
    exact ct_ri hx hb hr hlocks hP hD hK hS d_Model_put_15 (by rw [hk]; first | done | rfl) (by rw [hk]; first | done | rfl)
  · refine lv_iload_n hx hb d_Model_put_7 rfl (lv_at hl 1 rfl) ?_
    refine ct_cSi (wr := [(qm, .inr (6, f_Model qp qk sm)), (qk, .inl (cD, 512, .inl sk))]) (w1 := []) (w2 := [(qm, .inr (6, f_Model qp qk sm)), (qk, .inl (cD, 512, .inl sk))]) (r := (bI (k_Model_isTime p1))) (As := [.int p1]) (rest := []) ⟨hx, hb, hml, hown, hts⟩ (c_Model_isTime l G tys p1) (va_cwS 1 hts (gdS gd_gd q_692 q_693 q_47 q_694) rfl rfl rfl (by decide +kernel) ⟨Nat.le_of_ble_eq_true rfl, Nat.le_of_ble_eq_true rfl⟩) hE hK hP hD hS hA [] [0, 1] [0, 1] rfl (by decide) rfl (by decide) (by decide) rfl (by decide) rfl hl.1 rfl (Nat.le_of_ble_eq_true rfl) d_Model_put_8 ⟨Nat.zero_le _, Nat.zero_le _⟩ (fun H locs hP hD hS => ?_)
    refine lv_if_eq (tgt := 16) hx hb d_Model_put_11 (by decide) (fun c_868 => ?_) (fun c_868 => ?_)
    · refine lv_aload_n hx hb d_Model_put_16 rfl (lv_at hl 0 rfl) ?_
      refine lv_iload_n hx hb d_Model_put_17 rfl (lv_at hl 1 rfl) ?_
      refine lv_iload_n hx hb d_Model_put_18 rfl (lv_at hl 2 rfl) ?_
      obtain ⟨sm_869, esm_869⟩ : ∃ z, z = (k_Model_write sm sk p1 p2).1 := ⟨_, rfl⟩
      obtain ⟨sk_870, esk_870⟩ : ∃ z, z = (k_Model_write sm sk p1 p2).2 := ⟨_, rfl⟩
      have hM := c_Model_write l G tys ht2 qm qk qp sm sk p1 p2 (okW_of c_867 c_868)
      rw [← esm_869, ← esk_870] at hM
      refine ct_cVv (wr := []) (w1 := [(qm, .inr (6, f_Model qp qk sm_869)), (qk, .inl (cD, 512, .inl sk_870))]) (w2 := [(qm, .inr (6, f_Model qp qk sm_869)), (qk, .inl (cD, 512, .inl sk_870))]) (As := [.int p1, .int p2]) (rest := []) (ci := 6) (q0 := 0) ⟨hx, hb, hml, hown, hts⟩ hM (cwV 2 hts (gdV gd_gd q_695 q_697 q_21 q_47 q_698) rfl rfl rfl (by decide +kernel) ⟨Nat.le_of_ble_eq_true rfl, Nat.le_of_ble_eq_true rfl⟩) hE hK hP hD hS hA [0, 1] [] [0, 1] rfl (by decide) rfl (by decide) (by decide) rfl (by decide) rfl rfl rfl hl.1 rfl (Nat.le_of_ble_eq_true rfl) d_Model_put_19 ⟨Nat.zero_le _, Nat.zero_le _⟩ (fun H locs hP hD hS => ?_)
      refine lv_iconst (v := 0) hx hb d_Model_put_22 (by decide) ?_
      have hk : k_Model_put sm sk p1 p2 = (0, sm_869, sk_870) := (by rw [k_Model_put]; rw [if_neg c_867]; rw [if_pos c_868]; try rw [← esm_869]; try rw [← esk_870]; try rfl)
      exact ct_ri hx hb hr hlocks hP hD hK hS d_Model_put_23 (by rw [hk]; first | done | rfl) (by rw [hk]; first | done | rfl)
    · refine lv_iconst (v := (-1)) hx hb d_Model_put_14 (by decide) ?_
      have hk : k_Model_put sm sk p1 p2 = ((-1), sm, sk) := (by rw [k_Model_put]; rw [if_neg c_867]; rw [if_neg c_868]; try rfl)
      exact ct_ri hx hb hr hlocks hP hD hK hS d_Model_put_15 (by rw [hk]; first | done | rfl) (by rw [hk]; first | done | rfl)
def k_Model_get (sm : ob) (sk : Nat → Int32) (p1 : Int32) : Int32 :=
  if (bI (k_Model_isOne p1)) = 0 then 0 else (k_Model_tells sm sk p1)
set_option maxHeartbeats 4000000 in
set_option maxRecDepth 100000 in
theorem c_Model_get (l : Launch) (G : gx) (tys : List (ClassId × FieldType)) {cD : ClassId} (ht2 : tys[2]? = some (cD, .int)) (qm qk qp : Nat) (sm : ob) (sk : Nat → Int32) (p1 : Int32) : ct_I l y_Model_get ws_Model_get ({ frames := 2, cells := 0, slots := 0, locals := 41 }) G tys [.ref qm, .int p1] [(qm, .inr (6, f_Model qp qk sm)), (qk, .inl (cD, 512, .inl sk))] (k_Model_get sm sk p1) [(qm, .inr (6, f_Model qp qk sm)), (qk, .inl (cD, 512, .inl sk))] := by
  refine ct_hI (cc := cc_Model_get) (maxL := 2) (ret := (some .int)) (by decide) rfl (Nat.le_of_ble_eq_true rfl) ?_
  intro p e s m below meth c A ls hx hb hr hml hts hown hlocks hP hK hD hA hE hS hl
  have hl : lv_has ls 2 [(0, .ref qm), (1, .int p1)] := hl
  have hown : s.vm.findClass R_Model = some m.cls := hown
  refine lv_iload_n hx hb d_Model_get_0 rfl (lv_at hl 1 rfl) ?_
  refine ct_cSi (wr := [(qm, .inr (6, f_Model qp qk sm)), (qk, .inl (cD, 512, .inl sk))]) (w1 := []) (w2 := [(qm, .inr (6, f_Model qp qk sm)), (qk, .inl (cD, 512, .inl sk))]) (r := (bI (k_Model_isOne p1))) (As := [.int p1]) (rest := []) ⟨hx, hb, hml, hown, hts⟩ (c_Model_isOne l G tys p1) (va_cwS 1 hts (gdS gd_gd q_683 q_684 q_47 q_685) rfl rfl rfl (by decide +kernel) ⟨Nat.le_of_ble_eq_true rfl, Nat.le_of_ble_eq_true rfl⟩) hE hK hP hD hS hA [] [0, 1] [0, 1] rfl (by decide) rfl (by decide) (by decide) rfl (by decide) rfl hl.1 rfl (Nat.le_of_ble_eq_true rfl) d_Model_get_1 ⟨Nat.zero_le _, Nat.zero_le _⟩ (fun H locs hP hD hS => ?_)
  refine lv_if_eq (tgt := 15) hx hb d_Model_get_4 (by decide) (fun c_872 => ?_) (fun c_872 => ?_)
  · refine lv_iconst (v := 0) hx hb d_Model_get_15 (by decide) ?_
    have hk : k_Model_get sm sk p1 = 0 := (by rw [k_Model_get]; rw [if_pos c_872]; try rfl)
    exact ct_ri hx hb hr hlocks hP hD hK hS d_Model_get_16 (by rw [hk]; first | done | rfl) rfl
  · refine lv_aload_n hx hb d_Model_get_7 rfl (lv_at hl 0 rfl) ?_
    refine lv_iload_n hx hb d_Model_get_8 rfl (lv_at hl 1 rfl) ?_
    refine ct_cVi (wr := []) (w1 := [(qm, .inr (6, f_Model qp qk sm)), (qk, .inl (cD, 512, .inl sk))]) (w2 := [(qm, .inr (6, f_Model qp qk sm)), (qk, .inl (cD, 512, .inl sk))]) (r := (k_Model_tells sm sk p1)) (As := [.int p1]) (rest := []) (ci := 6) (q0 := 0) ⟨hx, hb, hml, hown, hts⟩ (c_Model_tells l G tys ht2 qm qk qp sm sk p1 (okT_of c_872)) (cwV 1 hts (gdV gd_gd q_711 q_713 q_22 q_47 q_714) rfl rfl rfl (by decide +kernel) ⟨Nat.le_of_ble_eq_true rfl, Nat.le_of_ble_eq_true rfl⟩) hE hK hP hD hS hA [0, 1] [] [0, 1] rfl (by decide) rfl (by decide) (by decide) rfl (by decide) rfl rfl rfl hl.1 rfl (Nat.le_of_ble_eq_true rfl) d_Model_get_9 ⟨Nat.zero_le _, Nat.zero_le _⟩ (fun H locs hP hD hS => ?_)
    refine lv_goto (tgt := 16) hx hb d_Model_get_12 (by decide) ?_
    have hk : k_Model_get sm sk p1 = (k_Model_tells sm sk p1) := (by rw [k_Model_get]; rw [if_neg c_872]; try rfl)
    exact ct_ri hx hb hr hlocks hP hD hK hS d_Model_get_16 (by rw [hk]; first | done | rfl) rfl
