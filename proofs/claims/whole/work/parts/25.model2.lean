def k_Model_isAddress_j20 (p1 : Int32) : Bool :=
  if p1 = 12 then true else (if p1 = 13 then true else (if p1 = 15 then true else (if p1 = 20 then true else (if p1 = 21 then true else (if p1 = 23 then true else false)))))
def k_Model_isAddress (p1 : Int32) : Bool :=
  if p1 = 0 then true else (if p1 = 1 then true else (if p1 < 3 then (k_Model_isAddress_j20 p1) else (if p1 ≤ 7 then true else (k_Model_isAddress_j20 p1))))
set_option maxHeartbeats 4000000 in
set_option maxRecDepth 100000 in
theorem c_Model_isAddress (l : Launch) (G : gx) (tys : List (ClassId × FieldType)) (p1 : Int32) : ct_I l y_Model_isAddress ws_Model_isAddress ({ frames := 0, cells := 0, slots := 0, locals := 0 }) G tys [.int p1] [] (bI (k_Model_isAddress p1)) [] := by
  refine ct_hI (cc := cc_Model_isAddress) (maxL := 1) (ret := (some .boolean)) (by decide) rfl (Nat.le_of_ble_eq_true rfl) ?_
  intro p e s m below meth c A ls hx hb hr hml hts hown hlocks hP hK hD hA hE hS hl
  have hl : lv_has ls 1 [(0, .int p1)] := hl
  have hown : s.vm.findClass R_Model = some m.cls := hown
  have J20 : ∀ (H : Heap) (locs : List Loc) (ls : Array Slot), k_Model_isAddress p1 = k_Model_isAddress_j20 p1 → va_P G.1 vwCl [] H → va_D A [] → va_S A s.heap H locs → lv_has ls 1 [(0, .int p1)] → W p l e ({ frames := 0, cells := 0, slots := 0, locals := 0 }) s m ([.int p1] : List Value).toArray below meth c H locs 0 0 (MQ below (ct_qi G tys A (bI (k_Model_isAddress p1)) []) ([.int p1] : List Value).toArray s 0 0 A) (F0 m 20 ls []) := by
    intro H locs ls hj hP hD hS hl
    refine lv_iload_n hx hb d_Model_isAddress_20 rfl (lv_at hl 0 rfl) ?_
    refine lv_bipush (v := 12) hx hb d_Model_isAddress_21 (by decide) ?_
    refine lv_icmp_eq (tgt := 56) hx hb d_Model_isAddress_23 (by decide) (fun c_883 => ?_) (fun c_883 => ?_)
    · refine lv_iconst (v := 1) hx hb d_Model_isAddress_56 (by decide) ?_
      refine lv_goto (tgt := 61) hx hb d_Model_isAddress_57 (by decide) ?_
      have hk : k_Model_isAddress p1 = true := (hj.trans (by rw [k_Model_isAddress_j20]; rw [if_pos c_883]; try rfl))
      exact ct_rz hx hb hr hlocks hP hD hK hS d_Model_isAddress_61 rfl (by rw [hk]; first | done | rfl) rfl
    · refine lv_iload_n hx hb d_Model_isAddress_26 rfl (lv_at hl 0 rfl) ?_
      refine lv_bipush (v := 13) hx hb d_Model_isAddress_27 (by decide) ?_
      refine lv_icmp_eq (tgt := 56) hx hb d_Model_isAddress_29 (by decide) (fun c_884 => ?_) (fun c_884 => ?_)
      · refine lv_iconst (v := 1) hx hb d_Model_isAddress_56 (by decide) ?_
        refine lv_goto (tgt := 61) hx hb d_Model_isAddress_57 (by decide) ?_
        have hk : k_Model_isAddress p1 = true := (hj.trans (by rw [k_Model_isAddress_j20]; rw [if_neg c_883]; rw [if_pos c_884]; try rfl))
        exact ct_rz hx hb hr hlocks hP hD hK hS d_Model_isAddress_61 rfl (by rw [hk]; first | done | rfl) rfl
      · refine lv_iload_n hx hb d_Model_isAddress_32 rfl (lv_at hl 0 rfl) ?_
        refine lv_bipush (v := 15) hx hb d_Model_isAddress_33 (by decide) ?_
        refine lv_icmp_eq (tgt := 56) hx hb d_Model_isAddress_35 (by decide) (fun c_885 => ?_) (fun c_885 => ?_)
        · refine lv_iconst (v := 1) hx hb d_Model_isAddress_56 (by decide) ?_
          refine lv_goto (tgt := 61) hx hb d_Model_isAddress_57 (by decide) ?_
          have hk : k_Model_isAddress p1 = true := (hj.trans (by rw [k_Model_isAddress_j20]; rw [if_neg c_883]; rw [if_neg c_884]; rw [if_pos c_885]; try rfl))
          exact ct_rz hx hb hr hlocks hP hD hK hS d_Model_isAddress_61 rfl (by rw [hk]; first | done | rfl) rfl
        · refine lv_iload_n hx hb d_Model_isAddress_38 rfl (lv_at hl 0 rfl) ?_
          refine lv_bipush (v := 20) hx hb d_Model_isAddress_39 (by decide) ?_
          refine lv_icmp_eq (tgt := 56) hx hb d_Model_isAddress_41 (by decide) (fun c_886 => ?_) (fun c_886 => ?_)
          · refine lv_iconst (v := 1) hx hb d_Model_isAddress_56 (by decide) ?_
            refine lv_goto (tgt := 61) hx hb d_Model_isAddress_57 (by decide) ?_
            have hk : k_Model_isAddress p1 = true := (hj.trans (by rw [k_Model_isAddress_j20]; rw [if_neg c_883]; rw [if_neg c_884]; rw [if_neg c_885]; rw [if_pos c_886]; try rfl))
            exact ct_rz hx hb hr hlocks hP hD hK hS d_Model_isAddress_61 rfl (by rw [hk]; first | done | rfl) rfl
          · refine lv_iload_n hx hb d_Model_isAddress_44 rfl (lv_at hl 0 rfl) ?_
            refine lv_bipush (v := 21) hx hb d_Model_isAddress_45 (by decide) ?_
            refine lv_icmp_eq (tgt := 56) hx hb d_Model_isAddress_47 (by decide) (fun c_887 => ?_) (fun c_887 => ?_)
            · refine lv_iconst (v := 1) hx hb d_Model_isAddress_56 (by decide) ?_
              refine lv_goto (tgt := 61) hx hb d_Model_isAddress_57 (by decide) ?_
              have hk : k_Model_isAddress p1 = true := (hj.trans (by rw [k_Model_isAddress_j20]; rw [if_neg c_883]; rw [if_neg c_884]; rw [if_neg c_885]; rw [if_neg c_886]; rw [if_pos c_887]; try rfl))
              exact ct_rz hx hb hr hlocks hP hD hK hS d_Model_isAddress_61 rfl (by rw [hk]; first | done | rfl) rfl
            · refine lv_iload_n hx hb d_Model_isAddress_50 rfl (lv_at hl 0 rfl) ?_
              refine lv_bipush (v := 23) hx hb d_Model_isAddress_51 (by decide) ?_
              refine lv_icmp_ne (tgt := 60) hx hb d_Model_isAddress_53 (by decide) (fun c_888 => ?_) (fun c_888 => ?_)
              · refine lv_iconst (v := 0) hx hb d_Model_isAddress_60 (by decide) ?_
                have hk : k_Model_isAddress p1 = false := (hj.trans (by rw [k_Model_isAddress_j20]; rw [if_neg c_883]; rw [if_neg c_884]; rw [if_neg c_885]; rw [if_neg c_886]; rw [if_neg c_887]; rw [if_neg c_888]; try rfl))
                exact ct_rz hx hb hr hlocks hP hD hK hS d_Model_isAddress_61 rfl (by rw [hk]; first | done | rfl) rfl
              · refine lv_iconst (v := 1) hx hb d_Model_isAddress_56 (by decide) ?_
                refine lv_goto (tgt := 61) hx hb d_Model_isAddress_57 (by decide) ?_
                have hk : k_Model_isAddress p1 = true := (hj.trans (by rw [k_Model_isAddress_j20]; rw [if_neg c_883]; rw [if_neg c_884]; rw [if_neg c_885]; rw [if_neg c_886]; rw [if_neg c_887]; rw [if_pos c_888]; try rfl))
                exact ct_rz hx hb hr hlocks hP hD hK hS d_Model_isAddress_61 rfl (by rw [hk]; first | done | rfl) rfl
  obtain ⟨H, eH⟩ : ∃ z, z = s.heap := ⟨_, rfl⟩
  obtain ⟨locs, eL⟩ : ∃ z, z = ([] : List Loc) := ⟨_, rfl⟩
  have hP : va_P G.1 vwCl [] H := by rw [eH]; exact hP
  have hS : va_S A s.heap H locs := by rw [eH, eL]; exact hS
  suffices hW : W p l e ({ frames := 0, cells := 0, slots := 0, locals := 0 }) s m ([.int p1] : List Value).toArray below meth c H locs 0 0 (MQ below (ct_qi G tys A (bI (k_Model_isAddress p1)) []) ([.int p1] : List Value).toArray s 0 0 A) (F0 m 0 ls []) by rw [eH, eL] at hW; exact hW
  refine lv_iload_n hx hb d_Model_isAddress_0 rfl (lv_at hl 0 rfl) ?_
  refine lv_if_eq (tgt := 56) hx hb d_Model_isAddress_1 (by decide) (fun c_889 => ?_) (fun c_889 => ?_)
  · refine lv_iconst (v := 1) hx hb d_Model_isAddress_56 (by decide) ?_
    refine lv_goto (tgt := 61) hx hb d_Model_isAddress_57 (by decide) ?_
    have hk : k_Model_isAddress p1 = true := (by rw [k_Model_isAddress]; rw [if_pos c_889]; try rfl)
    exact ct_rz hx hb hr hlocks hP hD hK hS d_Model_isAddress_61 rfl (by rw [hk]; first | done | rfl) rfl
  · refine lv_iload_n hx hb d_Model_isAddress_4 rfl (lv_at hl 0 rfl) ?_
    refine lv_iconst (v := 1) hx hb d_Model_isAddress_5 (by decide) ?_
    refine lv_icmp_eq (tgt := 56) hx hb d_Model_isAddress_6 (by decide) (fun c_890 => ?_) (fun c_890 => ?_)
    · refine lv_iconst (v := 1) hx hb d_Model_isAddress_56 (by decide) ?_
      refine lv_goto (tgt := 61) hx hb d_Model_isAddress_57 (by decide) ?_
      have hk : k_Model_isAddress p1 = true := (by rw [k_Model_isAddress]; rw [if_neg c_889]; rw [if_pos c_890]; try rfl)
      exact ct_rz hx hb hr hlocks hP hD hK hS d_Model_isAddress_61 rfl (by rw [hk]; first | done | rfl) rfl
    · refine lv_iload_n hx hb d_Model_isAddress_9 rfl (lv_at hl 0 rfl) ?_
      refine lv_iconst (v := 3) hx hb d_Model_isAddress_10 (by decide) ?_
      refine lv_icmp_lt (tgt := 20) hx hb d_Model_isAddress_11 (by decide) (fun c_891 => ?_) (fun c_891 => ?_)
      · exact J20 H locs ls (by rw [k_Model_isAddress]; rw [if_neg c_889]; rw [if_neg c_890]; rw [if_pos c_891]; try rfl) hP hD hS (lv_sub hl [0] rfl)
      · refine lv_iload_n hx hb d_Model_isAddress_14 rfl (lv_at hl 0 rfl) ?_
        refine lv_bipush (v := 7) hx hb d_Model_isAddress_15 (by decide) ?_
        refine lv_icmp_le (tgt := 56) hx hb d_Model_isAddress_17 (by decide) (fun c_892 => ?_) (fun c_892 => ?_)
        · refine lv_iconst (v := 1) hx hb d_Model_isAddress_56 (by decide) ?_
          refine lv_goto (tgt := 61) hx hb d_Model_isAddress_57 (by decide) ?_
          have hk : k_Model_isAddress p1 = true := (by rw [k_Model_isAddress]; rw [if_neg c_889]; rw [if_neg c_890]; rw [if_neg c_891]; rw [if_pos c_892]; try rfl)
          exact ct_rz hx hb hr hlocks hP hD hK hS d_Model_isAddress_61 rfl (by rw [hk]; first | done | rfl) rfl
        · exact J20 H locs ls (by rw [k_Model_isAddress]; rw [if_neg c_889]; rw [if_neg c_890]; rw [if_neg c_891]; rw [if_neg c_892]; try rfl) hP hD hS (lv_sub hl [0] rfl)
def k_Model_isVirtual (sm : ob) : Bool :=
  if (sm.1 0) < 2 then false else true
set_option maxHeartbeats 4000000 in
set_option maxRecDepth 100000 in
theorem c_Model_isVirtual (l : Launch) (G : gx) (tys : List (ClassId × FieldType)) (qm qp qk : Nat) (sm : ob) : ct_I l y_Model_isVirtual ws_Model_isVirtual ({ frames := 0, cells := 0, slots := 0, locals := 0 }) G tys [.ref qm] [(qm, .inr (6, f_Model qp qk sm))] (bI (k_Model_isVirtual sm)) [(qm, .inr (6, f_Model qp qk sm))] := by
  refine ct_hI (cc := cc_Model_isVirtual) (maxL := 1) (ret := (some .boolean)) (by decide) rfl (Nat.le_of_ble_eq_true rfl) ?_
  intro p e s m below meth c A ls hx hb hr hml hts hown hlocks hP hK hD hA hE hS hl
  have hl : lv_has ls 1 [(0, .ref qm)] := hl
  have hown : s.vm.findClass R_Model = some m.cls := hown
  refine lv_aload_n hx hb d_Model_isVirtual_0 rfl (lv_at hl 0 rfl) ?_
  refine va_get (D := G.1) (ci := 6) (v := .int (sm.1 0)) (C := R_Model) (T := T_Model) (N := 23) hx hb hts (fun w h => gd_sub _ (iw_Model w h)) hown hK hP 0 rfl rfl 0 (by decide) (hts _ (gd_sub _ q_607)) (fun _ h9 => h9) rfl d_Model_isVirtual_1 ?_
  refine lv_iconst (v := 2) hx hb d_Model_isVirtual_4 (by decide) ?_
  refine lv_icmp_lt (tgt := 12) hx hb d_Model_isVirtual_5 (by decide) (fun c_894 => ?_) (fun c_894 => ?_)
  · refine lv_iconst (v := 0) hx hb d_Model_isVirtual_12 (by decide) ?_
    have hk : k_Model_isVirtual sm = false := (by rw [k_Model_isVirtual]; rw [if_pos c_894]; try rfl)
    exact ct_rz hx hb hr hlocks hP hD hK hS d_Model_isVirtual_13 rfl (by rw [hk]; first | done | rfl) rfl
  · refine lv_iconst (v := 1) hx hb d_Model_isVirtual_8 (by decide) ?_
    refine lv_goto (tgt := 13) hx hb d_Model_isVirtual_9 (by decide) ?_
    have hk : k_Model_isVirtual sm = true := (by rw [k_Model_isVirtual]; rw [if_neg c_894]; try rfl)
    exact ct_rz hx hb hr hlocks hP hD hK hS d_Model_isVirtual_13 rfl (by rw [hk]; first | done | rfl) rfl
def k_Model_leave_0_j91 (sm : ob) (sk : Nat → Int32) (p2 : Int32) (p3 : Int32) (v4 : Int32) (v5 : Bool) (t0 : Int32) (t1 : Int32) (uk : Nat → Int32) : ob × (Nat → Int32) :=
  if 0 ≤ p2 then ((oi sm 1 ((uk 5) &&& (-4))), (upd uk 0 (t1 ||| t0))) else (if ((uk 5) &&& 1) = 1 then ((oi (oi sm 1 ((uk 5) &&& (-4))) 1 (((uk 5) &&& (-4)) + (4 * (p2 &&& 2147483647)))), (upd uk 0 (t1 ||| t0))) else ((oi sm 1 ((uk 5) &&& (-4))), (upd uk 0 (t1 ||| t0))))
def k_Model_leave_0_j64 (sm : ob) (sk : Nat → Int32) (p2 : Int32) (p3 : Int32) (v4 : Int32) (t0 : Bool) (uk : Nat → Int32) : ob × (Nat → Int32) :=
  if (bI t0) = 0 then (k_Model_leave_0_j91 sm sk p2 p3 v4 t0 0 ((v4 &&& (-291)) ||| ((v4 &&& 2) <<< ((4 : Int32) &&& 31))) uk) else (k_Model_leave_0_j91 sm sk p2 p3 v4 t0 256 ((v4 &&& (-291)) ||| ((v4 &&& 2) <<< ((4 : Int32) &&& 31))) uk)
def k_Model_leave_0_j59 (sm : ob) (sk : Nat → Int32) (p2 : Int32) (p3 : Int32) (v4 : Int32) (uk : Nat → Int32) : ob × (Nat → Int32) :=
  k_Model_leave_0_j64 sm sk p2 p3 v4 true uk
def k_Model_leave_0 (sm : ob) (sk : Nat → Int32) (p2 : Int32) (p3 : Int32) : ob × (Nat → Int32) :=
  if (sm.1 0) = 1 then (k_Model_leave_0_j59 sm sk p2 p3 (sk 0) (upd (upd (upd sk 65 (sm.1 1)) 66 p2) 67 p3)) else (if (sm.1 0) = 3 then (k_Model_leave_0_j59 sm sk p2 p3 (sk 0) (upd (upd (upd sk 65 (sm.1 1)) 66 p2) 67 p3)) else (k_Model_leave_0_j64 sm sk p2 p3 (sk 0) false (upd (upd (upd sk 65 (sm.1 1)) 66 p2) 67 p3)))
set_option maxHeartbeats 4000000 in
set_option maxRecDepth 100000 in
theorem c_Model_leave_0 (l : Launch) (G : gx) (tys : List (ClassId × FieldType)) {cD : ClassId} (ht2 : tys[2]? = some (cD, .int)) (qm qk qp : Nat) (sm : ob) (sk : Nat → Int32) (p2 : Int32) (p3 : Int32) : ct_V l y_Model_leave ws_Model_leave ({ frames := 0, cells := 0, slots := 0, locals := 0 }) G tys [.ref qm, .int 0, .int p2, .int p3] [(qm, .inr (6, f_Model qp qk sm)), (qk, .inl (cD, 512, .inl sk))] [(qm, .inr (6, f_Model qp qk ((k_Model_leave_0 sm sk p2 p3).1))), (qk, .inl (cD, 512, .inl ((k_Model_leave_0 sm sk p2 p3).2)))] := by
  refine ct_hV (cc := cc_Model_leave) (maxL := 7) (ret := none) (by decide) rfl (Nat.le_of_ble_eq_true rfl) ?_
  intro p e s m below meth c A ls hx hb hr hml hts hown hlocks hP hK hD hA hE hS hl
  have hl : lv_has ls 7 [(0, .ref qm), (1, .int 0), (2, .int p2), (3, .int p3)] := hl
  have hown : s.vm.findClass R_Model = some m.cls := hown
  have J91 : ∀ (v4 : Int32) (v5 : Bool) (t0 : Int32) (t1 : Int32) (uk : Nat → Int32) (H : Heap) (locs : List Loc) (ls : Array Slot), k_Model_leave_0 sm sk p2 p3 = k_Model_leave_0_j91 sm sk p2 p3 v4 v5 t0 t1 uk → va_P G.1 vwCl [(qm, .inr (6, f_Model qp qk sm)), (qk, .inl (cD, 512, .inl uk))] H → va_D A [(qm, .inr (6, f_Model qp qk sm)), (qk, .inl (cD, 512, .inl uk))] → va_S A s.heap H locs → lv_has ls 7 [(0, .ref qm), (1, .int 0), (2, .int p2), (3, .int p3), (4, .int v4), (5, .int (bI v5))] → W p l e ({ frames := 0, cells := 0, slots := 0, locals := 0 }) s m ([.ref qm, .int 0, .int p2, .int p3] : List Value).toArray below meth c H locs 0 0 (MQ below (ct_qv G tys A [(qm, .inr (6, f_Model qp qk ((k_Model_leave_0 sm sk p2 p3).1))), (qk, .inl (cD, 512, .inl ((k_Model_leave_0 sm sk p2 p3).2)))]) ([.ref qm, .int 0, .int p2, .int p3] : List Value).toArray s 0 0 A) (F0 m 91 ls [.int t0, .int t1]) := by
    intro v4 v5 t0 t1 uk H locs ls hj hP hD hS hl
    refine lv_ior hx hb d_Model_leave_91 ?_
    refine lv_istore (lv' := [(4, .int (t1 ||| t0)), (0, .ref qm), (1, .int 0), (2, .int p2), (3, .int p3), (5, .int (bI v5))]) hx hb d_Model_leave_92 hl (by decide) rfl (fun ls hl => ?_)
    refine lv_aload_n hx hb d_Model_leave_94 rfl (lv_at hl 1 rfl) ?_
    refine va_get (D := G.1) (ci := 6) (v := .ref qk) (C := R_Model) (T := T_Model) (N := 23) hx hb hts (fun w h => gd_sub _ (iw_Model w h)) hown hK hP 0 rfl rfl 14 (by decide) (hts _ (gd_sub _ q_621)) (fun _ h9 => h9) rfl d_Model_leave_95 ?_
    refine lv_iload_n hx hb d_Model_leave_98 rfl (lv_at hl 2 rfl) ?_
    refine lv_iconst (v := 0) hx hb d_Model_leave_99 (by decide) ?_
    refine lv_iadd hx hb d_Model_leave_100 ?_
    refine lv_topi (fun z9 e9 => ?_)
    obtain rfl : z9 = 0 := e9.trans (by decide)
    refine lv_iload hx hb d_Model_leave_101 (lv_at hl 0 rfl) ?_
    refine va_iast hx hb hK hP hD hS 1 2 rfl ht2 (by unfold vp_in; decide) d_Model_leave_103 (fun H locs hP hD hS => ?_)
    have hP : va_P G.1 vwCl [(qm, .inr (6, f_Model qp qk sm)), (qk, .inl (cD, 512, .inl (upd uk 0 (t1 ||| t0))))] H := hP
    have hD : va_D A [(qm, .inr (6, f_Model qp qk sm)), (qk, .inl (cD, 512, .inl (upd uk 0 (t1 ||| t0))))] := hD
    refine lv_aload_n hx hb d_Model_leave_104 rfl (lv_at hl 1 rfl) ?_
    refine va_get (D := G.1) (ci := 6) (v := .ref qk) (C := R_Model) (T := T_Model) (N := 23) hx hb hts (fun w h => gd_sub _ (iw_Model w h)) hown hK hP 0 rfl rfl 14 (by decide) (hts _ (gd_sub _ q_621)) (fun _ h9 => h9) rfl d_Model_leave_105 ?_
    refine lv_iload_n hx hb d_Model_leave_108 rfl (lv_at hl 2 rfl) ?_
    refine lv_iconst (v := 5) hx hb d_Model_leave_109 (by decide) ?_
    refine lv_iadd hx hb d_Model_leave_110 ?_
    refine lv_topi (fun z9 e9 => ?_)
    obtain rfl : z9 = 5 := e9.trans (by decide)
    refine va_iald hx hb hK hP 1 2 rfl ht2 (by unfold vp_in; decide) d_Model_leave_111 ?_
    refine lv_topi (fun z9 e9 => ?_)
    obtain rfl : z9 = (uk 5) := e9
    refine lv_istore (lv' := [(6, .int (uk 5)), (4, .int (t1 ||| t0)), (0, .ref qm), (1, .int 0), (2, .int p2), (3, .int p3), (5, .int (bI v5))]) hx hb d_Model_leave_112 hl (by decide) rfl (fun ls hl => ?_)
    refine lv_aload_n hx hb d_Model_leave_114 rfl (lv_at hl 2 rfl) ?_
    refine lv_iload hx hb d_Model_leave_115 (lv_at hl 0 rfl) ?_
    refine lv_bipush (v := (-4)) hx hb d_Model_leave_117 (by decide) ?_
    refine lv_iand hx hb d_Model_leave_119 ?_
    refine va_put (D := G.1) (ci := 6) (v := .int ((uk 5) &&& (-4))) (ty := .int) (C := R_Model) (T := T_Model) (N := 23) hx hb hts (fun w h => gd_sub _ (iw_Model w h)) ty_Model tyok_Model nm_Model hown hK hP hD hS 0 rfl rfl 1 (by decide) (hts _ (gd_sub _ q_608)) (fun _ h9 => h9) rfl (by decide +kernel) rfl rfl (Nat.le_of_ble_eq_true rfl) d_Model_leave_120 (fun H locs hP hD hS => ?_)
    have hP : va_P G.1 vwCl [(qm, .inr (6, f_Model qp qk (oi sm 1 ((uk 5) &&& (-4))))), (qk, .inl (cD, 512, .inl (upd uk 0 (t1 ||| t0))))] H := hP
    have hD : va_D A [(qm, .inr (6, f_Model qp qk (oi sm 1 ((uk 5) &&& (-4))))), (qk, .inl (cD, 512, .inl (upd uk 0 (t1 ||| t0))))] := hD
    refine lv_iload_n hx hb d_Model_leave_123 rfl (lv_at hl 4 rfl) ?_
    refine lv_if_ge (tgt := 150) hx hb d_Model_leave_124 (by decide) (fun c_908 => ?_) (fun c_908 => ?_)
    · have hk : k_Model_leave_0 sm sk p2 p3 = ((oi sm 1 ((uk 5) &&& (-4))), (upd uk 0 (t1 ||| t0))) := (hj.trans (by rw [k_Model_leave_0_j91]; rw [if_pos c_908]; try rfl))
      exact ct_rv hx hb hr hlocks hP hD hK hS d_Model_leave_150 (by rw [hk]; first | done | rfl)
    · refine lv_iload hx hb d_Model_leave_127 (lv_at hl 0 rfl) ?_
      refine lv_iconst (v := 1) hx hb d_Model_leave_129 (by decide) ?_
      refine lv_iand hx hb d_Model_leave_130 ?_
      refine lv_iconst (v := 1) hx hb d_Model_leave_131 (by decide) ?_
      refine lv_icmp_ne (tgt := 150) hx hb d_Model_leave_132 (by decide) (fun c_909 => ?_) (fun c_909 => ?_)
      · have hk : k_Model_leave_0 sm sk p2 p3 = ((oi sm 1 ((uk 5) &&& (-4))), (upd uk 0 (t1 ||| t0))) := (hj.trans (by rw [k_Model_leave_0_j91]; rw [if_neg c_908]; rw [if_neg c_909]; try rfl))
        exact ct_rv hx hb hr hlocks hP hD hK hS d_Model_leave_150 (by rw [hk]; first | done | rfl)
      · refine lv_aload_n hx hb d_Model_leave_135 rfl (lv_at hl 2 rfl) ?_
        refine lv_dup hx hb d_Model_leave_136 rfl ?_
        refine va_get (D := G.1) (ci := 6) (v := .int ((uk 5) &&& (-4))) (C := R_Model) (T := T_Model) (N := 23) hx hb hts (fun w h => gd_sub _ (iw_Model w h)) hown hK hP 0 rfl rfl 1 (by decide) (hts _ (gd_sub _ q_608)) (fun _ h9 => h9) rfl d_Model_leave_137 ?_
        refine lv_iconst (v := 4) hx hb d_Model_leave_140 (by decide) ?_
        refine lv_iload_n hx hb d_Model_leave_141 rfl (lv_at hl 4 rfl) ?_
        refine lv_ldc (v := 2147483647) hx hb hown (hts _ (gd_sub _ q_743)) d_Model_leave_142 ?_
        refine lv_iand hx hb d_Model_leave_144 ?_
        refine lv_imul hx hb d_Model_leave_145 ?_
        refine lv_iadd hx hb d_Model_leave_146 ?_
        refine va_put (D := G.1) (ci := 6) (v := .int (((uk 5) &&& (-4)) + (4 * (p2 &&& 2147483647)))) (ty := .int) (C := R_Model) (T := T_Model) (N := 23) hx hb hts (fun w h => gd_sub _ (iw_Model w h)) ty_Model tyok_Model nm_Model hown hK hP hD hS 0 rfl rfl 1 (by decide) (hts _ (gd_sub _ q_608)) (fun _ h9 => h9) rfl (by decide +kernel) rfl rfl (Nat.le_of_ble_eq_true rfl) d_Model_leave_147 (fun H locs hP hD hS => ?_)
        have hP : va_P G.1 vwCl [(qm, .inr (6, f_Model qp qk (oi (oi sm 1 ((uk 5) &&& (-4))) 1 (((uk 5) &&& (-4)) + (4 * (p2 &&& 2147483647)))))), (qk, .inl (cD, 512, .inl (upd uk 0 (t1 ||| t0))))] H := hP
        have hD : va_D A [(qm, .inr (6, f_Model qp qk (oi (oi sm 1 ((uk 5) &&& (-4))) 1 (((uk 5) &&& (-4)) + (4 * (p2 &&& 2147483647)))))), (qk, .inl (cD, 512, .inl (upd uk 0 (t1 ||| t0))))] := hD
        have hk : k_Model_leave_0 sm sk p2 p3 = ((oi (oi sm 1 ((uk 5) &&& (-4))) 1 (((uk 5) &&& (-4)) + (4 * (p2 &&& 2147483647)))), (upd uk 0 (t1 ||| t0))) := (hj.trans (by rw [k_Model_leave_0_j91]; rw [if_neg c_908]; rw [if_pos c_909]; try rfl))
        exact ct_rv hx hb hr hlocks hP hD hK hS d_Model_leave_150 (by rw [hk]; first | done | rfl)
  have J64 : ∀ (v4 : Int32) (t0 : Bool) (uk : Nat → Int32) (H : Heap) (locs : List Loc) (ls : Array Slot), k_Model_leave_0 sm sk p2 p3 = k_Model_leave_0_j64 sm sk p2 p3 v4 t0 uk → va_P G.1 vwCl [(qm, .inr (6, f_Model qp qk sm)), (qk, .inl (cD, 512, .inl uk))] H → va_D A [(qm, .inr (6, f_Model qp qk sm)), (qk, .inl (cD, 512, .inl uk))] → va_S A s.heap H locs → lv_has ls 7 [(0, .ref qm), (1, .int 0), (2, .int p2), (3, .int p3), (4, .int v4)] → W p l e ({ frames := 0, cells := 0, slots := 0, locals := 0 }) s m ([.ref qm, .int 0, .int p2, .int p3] : List Value).toArray below meth c H locs 0 0 (MQ below (ct_qv G tys A [(qm, .inr (6, f_Model qp qk ((k_Model_leave_0 sm sk p2 p3).1))), (qk, .inl (cD, 512, .inl ((k_Model_leave_0 sm sk p2 p3).2)))]) ([.ref qm, .int 0, .int p2, .int p3] : List Value).toArray s 0 0 A) (F0 m 64 ls [.int (bI t0)]) := by
    intro v4 t0 uk H locs ls hj hP hD hS hl
    refine lv_istore (lv' := [(5, .int (bI t0)), (0, .ref qm), (1, .int 0), (2, .int p2), (3, .int p3), (4, .int v4)]) hx hb d_Model_leave_64 hl (by decide) rfl (fun ls hl => ?_)
    refine lv_iload hx hb d_Model_leave_66 (lv_at hl 5 rfl) ?_
    refine lv_sipush (v := (-291)) hx hb d_Model_leave_68 (by decide) ?_
    refine lv_iand hx hb d_Model_leave_71 ?_
    refine lv_iload hx hb d_Model_leave_72 (lv_at hl 5 rfl) ?_
    refine lv_iconst (v := 2) hx hb d_Model_leave_74 (by decide) ?_
    refine lv_iand hx hb d_Model_leave_75 ?_
    refine lv_iconst (v := 4) hx hb d_Model_leave_76 (by decide) ?_
    refine lv_ishl hx hb d_Model_leave_77 ?_
    refine lv_ior hx hb d_Model_leave_78 ?_
    refine lv_iload hx hb d_Model_leave_79 (lv_at hl 0 rfl) ?_
    refine lv_if_eq (tgt := 90) hx hb d_Model_leave_81 (by decide) (fun c_910 => ?_) (fun c_910 => ?_)
    · refine lv_iconst (v := 0) hx hb d_Model_leave_90 (by decide) ?_
      exact J91 v4 t0 0 ((v4 &&& (-291)) ||| ((v4 &&& 2) <<< ((4 : Int32) &&& 31))) uk H locs ls (hj.trans (by rw [k_Model_leave_0_j64]; rw [if_pos c_910]; try rfl)) hP hD hS (lv_sub hl [1, 2, 3, 4, 5, 0] rfl)
    · refine lv_sipush (v := 256) hx hb d_Model_leave_84 (by decide) ?_
      refine lv_goto (tgt := 91) hx hb d_Model_leave_87 (by decide) ?_
      exact J91 v4 t0 256 ((v4 &&& (-291)) ||| ((v4 &&& 2) <<< ((4 : Int32) &&& 31))) uk H locs ls (hj.trans (by rw [k_Model_leave_0_j64]; rw [if_neg c_910]; try rfl)) hP hD hS (lv_sub hl [1, 2, 3, 4, 5, 0] rfl)
  have J59 : ∀ (v4 : Int32) (uk : Nat → Int32) (H : Heap) (locs : List Loc) (ls : Array Slot), k_Model_leave_0 sm sk p2 p3 = k_Model_leave_0_j59 sm sk p2 p3 v4 uk → va_P G.1 vwCl [(qm, .inr (6, f_Model qp qk sm)), (qk, .inl (cD, 512, .inl uk))] H → va_D A [(qm, .inr (6, f_Model qp qk sm)), (qk, .inl (cD, 512, .inl uk))] → va_S A s.heap H locs → lv_has ls 7 [(0, .ref qm), (1, .int 0), (2, .int p2), (3, .int p3), (4, .int v4)] → W p l e ({ frames := 0, cells := 0, slots := 0, locals := 0 }) s m ([.ref qm, .int 0, .int p2, .int p3] : List Value).toArray below meth c H locs 0 0 (MQ below (ct_qv G tys A [(qm, .inr (6, f_Model qp qk ((k_Model_leave_0 sm sk p2 p3).1))), (qk, .inl (cD, 512, .inl ((k_Model_leave_0 sm sk p2 p3).2)))]) ([.ref qm, .int 0, .int p2, .int p3] : List Value).toArray s 0 0 A) (F0 m 59 ls []) := by
    intro v4 uk H locs ls hj hP hD hS hl
    refine lv_iconst (v := 1) hx hb d_Model_leave_59 (by decide) ?_
    refine lv_goto (tgt := 64) hx hb d_Model_leave_60 (by decide) ?_
    exact J64 v4 true uk H locs ls (hj.trans (by rw [k_Model_leave_0_j59]; try rfl)) hP hD hS (lv_sub hl [0, 1, 2, 3, 4] rfl)
  obtain ⟨H, eH⟩ : ∃ z, z = s.heap := ⟨_, rfl⟩
  obtain ⟨locs, eL⟩ : ∃ z, z = ([] : List Loc) := ⟨_, rfl⟩
  have hP : va_P G.1 vwCl [(qm, .inr (6, f_Model qp qk sm)), (qk, .inl (cD, 512, .inl sk))] H := by rw [eH]; exact hP
  have hS : va_S A s.heap H locs := by rw [eH, eL]; exact hS
  suffices hW : W p l e ({ frames := 0, cells := 0, slots := 0, locals := 0 }) s m ([.ref qm, .int 0, .int p2, .int p3] : List Value).toArray below meth c H locs 0 0 (MQ below (ct_qv G tys A [(qm, .inr (6, f_Model qp qk ((k_Model_leave_0 sm sk p2 p3).1))), (qk, .inl (cD, 512, .inl ((k_Model_leave_0 sm sk p2 p3).2)))]) ([.ref qm, .int 0, .int p2, .int p3] : List Value).toArray s 0 0 A) (F0 m 0 ls []) by rw [eH, eL] at hW; exact hW
  refine lv_aload_n hx hb d_Model_leave_0 rfl (lv_at hl 0 rfl) ?_
  refine va_get (D := G.1) (ci := 6) (v := .ref qk) (C := R_Model) (T := T_Model) (N := 23) hx hb hts (fun w h => gd_sub _ (iw_Model w h)) hown hK hP 0 rfl rfl 14 (by decide) (hts _ (gd_sub _ q_621)) (fun _ h9 => h9) rfl d_Model_leave_1 ?_
  refine lv_iload_n hx hb d_Model_leave_4 rfl (lv_at hl 1 rfl) ?_
  refine lv_bipush (v := 65) hx hb d_Model_leave_5 (by decide) ?_
  refine lv_iadd hx hb d_Model_leave_7 ?_
  refine lv_topi (fun z9 e9 => ?_)
  obtain rfl : z9 = 65 := e9.trans (by decide)
  refine lv_aload_n hx hb d_Model_leave_8 rfl (lv_at hl 0 rfl) ?_
  refine va_get (D := G.1) (ci := 6) (v := .int (sm.1 1)) (C := R_Model) (T := T_Model) (N := 23) hx hb hts (fun w h => gd_sub _ (iw_Model w h)) hown hK hP 0 rfl rfl 1 (by decide) (hts _ (gd_sub _ q_608)) (fun _ h9 => h9) rfl d_Model_leave_9 ?_
  refine va_iast hx hb hK hP hD hS 1 2 rfl ht2 (by unfold vp_in; decide) d_Model_leave_12 (fun H locs hP hD hS => ?_)
  have hP : va_P G.1 vwCl [(qm, .inr (6, f_Model qp qk sm)), (qk, .inl (cD, 512, .inl (upd sk 65 (sm.1 1))))] H := hP
  have hD : va_D A [(qm, .inr (6, f_Model qp qk sm)), (qk, .inl (cD, 512, .inl (upd sk 65 (sm.1 1))))] := hD
  refine lv_aload_n hx hb d_Model_leave_13 rfl (lv_at hl 0 rfl) ?_
  refine va_get (D := G.1) (ci := 6) (v := .ref qk) (C := R_Model) (T := T_Model) (N := 23) hx hb hts (fun w h => gd_sub _ (iw_Model w h)) hown hK hP 0 rfl rfl 14 (by decide) (hts _ (gd_sub _ q_621)) (fun _ h9 => h9) rfl d_Model_leave_14 ?_
  refine lv_iload_n hx hb d_Model_leave_17 rfl (lv_at hl 1 rfl) ?_
  refine lv_bipush (v := 66) hx hb d_Model_leave_18 (by decide) ?_
  refine lv_iadd hx hb d_Model_leave_20 ?_
  refine lv_topi (fun z9 e9 => ?_)
  obtain rfl : z9 = 66 := e9.trans (by decide)
  refine lv_iload_n hx hb d_Model_leave_21 rfl (lv_at hl 2 rfl) ?_
  refine va_iast hx hb hK hP hD hS 1 2 rfl ht2 (by unfold vp_in; decide) d_Model_leave_22 (fun H locs hP hD hS => ?_)
  have hP : va_P G.1 vwCl [(qm, .inr (6, f_Model qp qk sm)), (qk, .inl (cD, 512, .inl (upd (upd sk 65 (sm.1 1)) 66 p2)))] H := hP
  have hD : va_D A [(qm, .inr (6, f_Model qp qk sm)), (qk, .inl (cD, 512, .inl (upd (upd sk 65 (sm.1 1)) 66 p2)))] := hD
  refine lv_aload_n hx hb d_Model_leave_23 rfl (lv_at hl 0 rfl) ?_
  refine va_get (D := G.1) (ci := 6) (v := .ref qk) (C := R_Model) (T := T_Model) (N := 23) hx hb hts (fun w h => gd_sub _ (iw_Model w h)) hown hK hP 0 rfl rfl 14 (by decide) (hts _ (gd_sub _ q_621)) (fun _ h9 => h9) rfl d_Model_leave_24 ?_
  refine lv_iload_n hx hb d_Model_leave_27 rfl (lv_at hl 1 rfl) ?_
  refine lv_bipush (v := 67) hx hb d_Model_leave_28 (by decide) ?_
  refine lv_iadd hx hb d_Model_leave_30 ?_
  refine lv_topi (fun z9 e9 => ?_)
  obtain rfl : z9 = 67 := e9.trans (by decide)
  refine lv_iload_n hx hb d_Model_leave_31 rfl (lv_at hl 3 rfl) ?_
  refine va_iast hx hb hK hP hD hS 1 2 rfl ht2 (by unfold vp_in; decide) d_Model_leave_32 (fun H locs hP hD hS => ?_)
  have hP : va_P G.1 vwCl [(qm, .inr (6, f_Model qp qk sm)), (qk, .inl (cD, 512, .inl (upd (upd (upd sk 65 (sm.1 1)) 66 p2) 67 p3)))] H := hP
  have hD : va_D A [(qm, .inr (6, f_Model qp qk sm)), (qk, .inl (cD, 512, .inl (upd (upd (upd sk 65 (sm.1 1)) 66 p2) 67 p3)))] := hD
  refine lv_aload_n hx hb d_Model_leave_33 rfl (lv_at hl 0 rfl) ?_
  refine va_get (D := G.1) (ci := 6) (v := .ref qk) (C := R_Model) (T := T_Model) (N := 23) hx hb hts (fun w h => gd_sub _ (iw_Model w h)) hown hK hP 0 rfl rfl 14 (by decide) (hts _ (gd_sub _ q_621)) (fun _ h9 => h9) rfl d_Model_leave_34 ?_
  refine lv_iload_n hx hb d_Model_leave_37 rfl (lv_at hl 1 rfl) ?_
  refine lv_iconst (v := 0) hx hb d_Model_leave_38 (by decide) ?_
  refine lv_iadd hx hb d_Model_leave_39 ?_
  refine lv_topi (fun z9 e9 => ?_)
  obtain rfl : z9 = 0 := e9.trans (by decide)
  refine va_iald hx hb hK hP 1 2 rfl ht2 (by unfold vp_in; decide) d_Model_leave_40 ?_
  refine lv_topi (fun z9 e9 => ?_)
  obtain rfl : z9 = (sk 0) := e9
  refine lv_istore (lv' := [(4, .int (sk 0)), (0, .ref qm), (1, .int 0), (2, .int p2), (3, .int p3)]) hx hb d_Model_leave_41 hl (by decide) rfl (fun ls hl => ?_)
  refine lv_aload_n hx hb d_Model_leave_43 rfl (lv_at hl 1 rfl) ?_
  refine va_get (D := G.1) (ci := 6) (v := .int (sm.1 0)) (C := R_Model) (T := T_Model) (N := 23) hx hb hts (fun w h => gd_sub _ (iw_Model w h)) hown hK hP 0 rfl rfl 0 (by decide) (hts _ (gd_sub _ q_607)) (fun _ h9 => h9) rfl d_Model_leave_44 ?_
  refine lv_iconst (v := 1) hx hb d_Model_leave_47 (by decide) ?_
  refine lv_icmp_eq (tgt := 59) hx hb d_Model_leave_48 (by decide) (fun c_911 => ?_) (fun c_911 => ?_)
  · exact J59 (sk 0) (upd (upd (upd sk 65 (sm.1 1)) 66 p2) 67 p3) H locs ls (by rw [k_Model_leave_0]; rw [if_pos c_911]; try rfl) hP hD hS (lv_sub hl [1, 2, 3, 4, 0] rfl)
  · refine lv_aload_n hx hb d_Model_leave_51 rfl (lv_at hl 1 rfl) ?_
    refine va_get (D := G.1) (ci := 6) (v := .int (sm.1 0)) (C := R_Model) (T := T_Model) (N := 23) hx hb hts (fun w h => gd_sub _ (iw_Model w h)) hown hK hP 0 rfl rfl 0 (by decide) (hts _ (gd_sub _ q_607)) (fun _ h9 => h9) rfl d_Model_leave_52 ?_
    refine lv_iconst (v := 3) hx hb d_Model_leave_55 (by decide) ?_
    refine lv_icmp_ne (tgt := 63) hx hb d_Model_leave_56 (by decide) (fun c_912 => ?_) (fun c_912 => ?_)
    · refine lv_iconst (v := 0) hx hb d_Model_leave_63 (by decide) ?_
      exact J64 (sk 0) false (upd (upd (upd sk 65 (sm.1 1)) 66 p2) 67 p3) H locs ls (by rw [k_Model_leave_0]; rw [if_neg c_911]; rw [if_neg c_912]; try rfl) hP hD hS (lv_sub hl [1, 2, 3, 4, 0] rfl)
    · exact J59 (sk 0) (upd (upd (upd sk 65 (sm.1 1)) 66 p2) 67 p3) H locs ls (by rw [k_Model_leave_0]; rw [if_neg c_911]; rw [if_pos c_912]; try rfl) hP hD hS (lv_sub hl [1, 2, 3, 4, 0] rfl)
def k_Model_toS_j169 (sm : ob) (sk : Nat → Int32) (p1 : Int32) (p2 : Int32) (p3 : Bool) (p4 : Int32) (p5 : Bool) (v6 : Bool) (v7 : Bool) (v8 : Bool) (t0 : Int32) (um : ob) (uk : Nat → Int32) : ob × (Nat → Int32) :=
  ((oi (oi (oi um 21 t0) 0 1) 11 ((um.1 11) + 1)), uk)
def k_Model_toS_j168 (sm : ob) (sk : Nat → Int32) (p1 : Int32) (p2 : Int32) (p3 : Bool) (p4 : Int32) (p5 : Bool) (v6 : Bool) (v7 : Bool) (v8 : Bool) (um : ob) (uk : Nat → Int32) : ob × (Nat → Int32) :=
  k_Model_toS_j169 sm sk p1 p2 p3 p4 p5 v6 v7 v8 0 um uk
def k_Model_toS_j148 (sm : ob) (sk : Nat → Int32) (p1 : Int32) (p2 : Int32) (p3 : Bool) (p4 : Int32) (p5 : Bool) (v6 : Bool) (v7 : Bool) (v8 : Bool) (t0 : Int32) (um : ob) (uk : Nat → Int32) : ob × (Nat → Int32) :=
  if (bI v8) = 0 then (k_Model_toS_j168 sm sk p1 p2 p3 p4 p5 v6 v7 v8 (oi um 19 t0) uk) else (if (bI p5) = 0 then (k_Model_toS_j168 sm sk p1 p2 p3 p4 p5 v6 v7 v8 (oi um 19 t0) uk) else (k_Model_toS_j169 sm sk p1 p2 p3 p4 p5 v6 v7 v8 8192 (oi um 19 t0) uk))
def k_Model_toS_j136 (sm : ob) (sk : Nat → Int32) (p1 : Int32) (p2 : Int32) (p3 : Bool) (p4 : Int32) (p5 : Bool) (v6 : Bool) (v7 : Bool) (v8 : Bool) (um : ob) (uk : Nat → Int32) : ob × (Nat → Int32) :=
  if (bI v8) = 0 then (k_Model_toS_j148 sm sk p1 p2 p3 p4 p5 v6 v7 v8 0 um uk) else (k_Model_toS_j148 sm sk p1 p2 p3 p4 p5 v6 v7 v8 p4 um uk)
def k_Model_toS_j132 (sm : ob) (sk : Nat → Int32) (p1 : Int32) (p2 : Int32) (p3 : Bool) (p4 : Int32) (p5 : Bool) (v6 : Bool) (v7 : Bool) (v8 : Bool) (t0 : Int32) (t1 : Int32) (um : ob) (uk : Nat → Int32) : ob × (Nat → Int32) :=
  k_Model_toS_j136 sm sk p1 p2 p3 p4 p5 v6 v7 v8 (oi um 15 (t1 ||| t0)) uk
def k_Model_toS_j93 (sm : ob) (sk : Nat → Int32) (p1 : Int32) (p2 : Int32) (p3 : Bool) (p4 : Int32) (p5 : Bool) (v6 : Bool) (v7 : Bool) (v8 : Bool) (t0 : Int32) (t1 : Int32) (um : ob) (uk : Nat → Int32) : ob × (Nat → Int32) :=
  if (bI (k_Model_isVirtual (oi um 15 (t1 ||| t0)))) = 0 then (k_Model_toS_j136 sm sk p1 p2 p3 p4 p5 v6 v7 v8 (oi um 15 (t1 ||| t0)) uk) else (if (um.1 0) = 3 then (k_Model_toS_j132 sm sk p1 p2 p3 p4 p5 v6 v7 v8 256 (((t1 ||| t0) &&& (-257)) ||| 128) (oi um 15 (t1 ||| t0)) uk) else (k_Model_toS_j132 sm sk p1 p2 p3 p4 p5 v6 v7 v8 0 (((t1 ||| t0) &&& (-257)) ||| 128) (oi um 15 (t1 ||| t0)) uk))
def k_Model_toS_j64 (sm : ob) (sk : Nat → Int32) (p1 : Int32) (p2 : Int32) (p3 : Bool) (p4 : Int32) (p5 : Bool) (v6 : Bool) (v7 : Bool) (t0 : Bool) : ob × (Nat → Int32) :=
  if (bI v7) = 0 then (k_Model_toS_j93 sm sk p1 p2 p3 p4 p5 v6 v7 t0 0 ((((k_Model_leave_0 sm sk p1 p2).1).1 15) &&& (-193)) ((k_Model_leave_0 sm sk p1 p2).1) ((k_Model_leave_0 sm sk p1 p2).2)) else (k_Model_toS_j93 sm sk p1 p2 p3 p4 p5 v6 v7 t0 64 ((((k_Model_leave_0 sm sk p1 p2).1).1 15) &&& (-193)) ((k_Model_leave_0 sm sk p1 p2).1) ((k_Model_leave_0 sm sk p1 p2).2))
def k_Model_toS_j59 (sm : ob) (sk : Nat → Int32) (p1 : Int32) (p2 : Int32) (p3 : Bool) (p4 : Int32) (p5 : Bool) (v6 : Bool) (v7 : Bool) : ob × (Nat → Int32) :=
  k_Model_toS_j64 sm sk p1 p2 p3 p4 p5 v6 v7 true
def k_Model_toS_j39 (sm : ob) (sk : Nat → Int32) (p1 : Int32) (p2 : Int32) (p3 : Bool) (p4 : Int32) (p5 : Bool) (v6 : Bool) (t0 : Bool) : ob × (Nat → Int32) :=
  if p1 = 20 then (k_Model_toS_j59 sm sk p1 p2 p3 p4 p5 v6 t0) else (if p1 = 21 then (k_Model_toS_j59 sm sk p1 p2 p3 p4 p5 v6 t0) else (if p1 = 23 then (k_Model_toS_j59 sm sk p1 p2 p3 p4 p5 v6 t0) else (k_Model_toS_j64 sm sk p1 p2 p3 p4 p5 v6 t0 false)))
def k_Model_toS_j38 (sm : ob) (sk : Nat → Int32) (p1 : Int32) (p2 : Int32) (p3 : Bool) (p4 : Int32) (p5 : Bool) (v6 : Bool) : ob × (Nat → Int32) :=
  k_Model_toS_j39 sm sk p1 p2 p3 p4 p5 v6 false
def k_Model_toS_j34 (sm : ob) (sk : Nat → Int32) (p1 : Int32) (p2 : Int32) (p3 : Bool) (p4 : Int32) (p5 : Bool) (v6 : Bool) : ob × (Nat → Int32) :=
  k_Model_toS_j39 sm sk p1 p2 p3 p4 p5 v6 true
def k_Model_toS_j16 (sm : ob) (sk : Nat → Int32) (p1 : Int32) (p2 : Int32) (p3 : Bool) (p4 : Int32) (p5 : Bool) (t0 : Bool) : ob × (Nat → Int32) :=
  if (bI t0) = 0 then (k_Model_toS_j38 sm sk p1 p2 p3 p4 p5 t0) else (if (bI (k_Model_isVirtual sm)) = 0 then (if (bI p3) = 0 then (k_Model_toS_j38 sm sk p1 p2 p3 p4 p5 t0) else (k_Model_toS_j34 sm sk p1 p2 p3 p4 p5 t0)) else (k_Model_toS_j34 sm sk p1 p2 p3 p4 p5 t0))
def k_Model_toS_j15 (sm : ob) (sk : Nat → Int32) (p1 : Int32) (p2 : Int32) (p3 : Bool) (p4 : Int32) (p5 : Bool) : ob × (Nat → Int32) :=
  k_Model_toS_j16 sm sk p1 p2 p3 p4 p5 false
def k_Model_toS (sm : ob) (sk : Nat → Int32) (p1 : Int32) (p2 : Int32) (p3 : Bool) (p4 : Int32) (p5 : Bool) : ob × (Nat → Int32) :=
  if p1 < 0 then (k_Model_toS_j15 sm sk p1 p2 p3 p4 p5) else (if (bI (k_Model_isAddress p1)) = 0 then (k_Model_toS_j15 sm sk p1 p2 p3 p4 p5) else (k_Model_toS_j16 sm sk p1 p2 p3 p4 p5 true))
set_option maxHeartbeats 4000000 in
set_option maxRecDepth 100000 in
theorem c_Model_toS (l : Launch) (G : gx) (tys : List (ClassId × FieldType)) {cD : ClassId} (ht2 : tys[2]? = some (cD, .int)) (qm qk qp : Nat) (sm : ob) (sk : Nat → Int32) (p1 : Int32) (p2 : Int32) (p3 : Bool) (p4 : Int32) (p5 : Bool) : ct_V l y_Model_toS ws_Model_toS ({ frames := 1, cells := 0, slots := 0, locals := 26 }) G tys [.ref qm, .int p1, .int p2, .int (bI p3), .int p4, .int (bI p5)] [(qm, .inr (6, f_Model qp qk sm)), (qk, .inl (cD, 512, .inl sk))] [(qm, .inr (6, f_Model qp qk ((k_Model_toS sm sk p1 p2 p3 p4 p5).1))), (qk, .inl (cD, 512, .inl ((k_Model_toS sm sk p1 p2 p3 p4 p5).2)))] := by
  refine ct_hV (cc := cc_Model_toS) (maxL := 9) (ret := none) (by decide) rfl (Nat.le_of_ble_eq_true rfl) ?_
  intro p e s m below meth c A ls hx hb hr hml hts hown hlocks hP hK hD hA hE hS hl
  have hl : lv_has ls 9 [(0, .ref qm), (1, .int p1), (2, .int p2), (3, .int (bI p3)), (4, .int p4), (5, .int (bI p5))] := hl
  have hown : s.vm.findClass R_Model = some m.cls := hown
  have J169 : ∀ (v6 : Bool) (v7 : Bool) (v8 : Bool) (t0 : Int32) (um : ob) (uk : Nat → Int32) (H : Heap) (locs : List Loc) (ls : Array Slot), k_Model_toS sm sk p1 p2 p3 p4 p5 = k_Model_toS_j169 sm sk p1 p2 p3 p4 p5 v6 v7 v8 t0 um uk → va_P G.1 vwCl [(qm, .inr (6, f_Model qp qk um)), (qk, .inl (cD, 512, .inl uk))] H → va_D A [(qm, .inr (6, f_Model qp qk um)), (qk, .inl (cD, 512, .inl uk))] → va_S A s.heap H locs → lv_has ls 9 [(0, .ref qm), (1, .int p1), (2, .int p2), (3, .int (bI p3)), (4, .int p4), (5, .int (bI p5)), (6, .int (bI v6)), (7, .int (bI v7)), (8, .int (bI v8))] → W p l e ({ frames := 1, cells := 0, slots := 0, locals := 26 }) s m ([.ref qm, .int p1, .int p2, .int (bI p3), .int p4, .int (bI p5)] : List Value).toArray below meth c H locs 0 0 (MQ below (ct_qv G tys A [(qm, .inr (6, f_Model qp qk ((k_Model_toS sm sk p1 p2 p3 p4 p5).1))), (qk, .inl (cD, 512, .inl ((k_Model_toS sm sk p1 p2 p3 p4 p5).2)))]) ([.ref qm, .int p1, .int p2, .int (bI p3), .int p4, .int (bI p5)] : List Value).toArray s 0 0 A) (F0 m 169 ls [.int t0, .ref qm]) := by
    intro v6 v7 v8 t0 um uk H locs ls hj hP hD hS hl
    refine va_put (D := G.1) (ci := 6) (v := .int t0) (ty := .int) (C := R_Model) (T := T_Model) (N := 23) hx hb hts (fun w h => gd_sub _ (iw_Model w h)) ty_Model tyok_Model nm_Model hown hK hP hD hS 0 rfl rfl 21 (by decide) (hts _ (gd_sub _ q_628)) (fun _ h9 => h9) rfl (by decide +kernel) rfl rfl (Nat.le_of_ble_eq_true rfl) d_Model_toS_169 (fun H locs hP hD hS => ?_)
    have hP : va_P G.1 vwCl [(qm, .inr (6, f_Model qp qk (oi um 21 t0))), (qk, .inl (cD, 512, .inl uk))] H := hP
    have hD : va_D A [(qm, .inr (6, f_Model qp qk (oi um 21 t0))), (qk, .inl (cD, 512, .inl uk))] := hD
    refine lv_aload_n hx hb d_Model_toS_172 rfl (lv_at hl 0 rfl) ?_
    refine lv_iconst (v := 1) hx hb d_Model_toS_173 (by decide) ?_
    refine va_put (D := G.1) (ci := 6) (v := .int 1) (ty := .int) (C := R_Model) (T := T_Model) (N := 23) hx hb hts (fun w h => gd_sub _ (iw_Model w h)) ty_Model tyok_Model nm_Model hown hK hP hD hS 0 rfl rfl 0 (by decide) (hts _ (gd_sub _ q_607)) (fun _ h9 => h9) rfl (by decide +kernel) rfl rfl (Nat.le_of_ble_eq_true rfl) d_Model_toS_174 (fun H locs hP hD hS => ?_)
    have hP : va_P G.1 vwCl [(qm, .inr (6, f_Model qp qk (oi (oi um 21 t0) 0 1))), (qk, .inl (cD, 512, .inl uk))] H := hP
    have hD : va_D A [(qm, .inr (6, f_Model qp qk (oi (oi um 21 t0) 0 1))), (qk, .inl (cD, 512, .inl uk))] := hD
    refine lv_aload_n hx hb d_Model_toS_177 rfl (lv_at hl 0 rfl) ?_
    refine lv_dup hx hb d_Model_toS_178 rfl ?_
    refine va_get (D := G.1) (ci := 6) (v := .int (um.1 11)) (C := R_Model) (T := T_Model) (N := 23) hx hb hts (fun w h => gd_sub _ (iw_Model w h)) hown hK hP 0 rfl rfl 11 (by decide) (hts _ (gd_sub _ q_618)) (fun _ h9 => h9) rfl d_Model_toS_179 ?_
    refine lv_iconst (v := 1) hx hb d_Model_toS_182 (by decide) ?_
    refine lv_iadd hx hb d_Model_toS_183 ?_
    refine va_put (D := G.1) (ci := 6) (v := .int ((um.1 11) + 1)) (ty := .int) (C := R_Model) (T := T_Model) (N := 23) hx hb hts (fun w h => gd_sub _ (iw_Model w h)) ty_Model tyok_Model nm_Model hown hK hP hD hS 0 rfl rfl 11 (by decide) (hts _ (gd_sub _ q_618)) (fun _ h9 => h9) rfl (by decide +kernel) rfl rfl (Nat.le_of_ble_eq_true rfl) d_Model_toS_184 (fun H locs hP hD hS => ?_)
    have hP : va_P G.1 vwCl [(qm, .inr (6, f_Model qp qk (oi (oi (oi um 21 t0) 0 1) 11 ((um.1 11) + 1)))), (qk, .inl (cD, 512, .inl uk))] H := hP
    have hD : va_D A [(qm, .inr (6, f_Model qp qk (oi (oi (oi um 21 t0) 0 1) 11 ((um.1 11) + 1)))), (qk, .inl (cD, 512, .inl uk))] := hD
    have hk : k_Model_toS sm sk p1 p2 p3 p4 p5 = ((oi (oi (oi um 21 t0) 0 1) 11 ((um.1 11) + 1)), uk) := (hj.trans (by rw [k_Model_toS_j169]; try rfl))
    exact ct_rv hx hb hr hlocks hP hD hK hS d_Model_toS_187 (by rw [hk]; first | done | rfl)
  have J168 : ∀ (v6 : Bool) (v7 : Bool) (v8 : Bool) (um : ob) (uk : Nat → Int32) (H : Heap) (locs : List Loc) (ls : Array Slot), k_Model_toS sm sk p1 p2 p3 p4 p5 = k_Model_toS_j168 sm sk p1 p2 p3 p4 p5 v6 v7 v8 um uk → va_P G.1 vwCl [(qm, .inr (6, f_Model qp qk um)), (qk, .inl (cD, 512, .inl uk))] H → va_D A [(qm, .inr (6, f_Model qp qk um)), (qk, .inl (cD, 512, .inl uk))] → va_S A s.heap H locs → lv_has ls 9 [(0, .ref qm), (1, .int p1), (2, .int p2), (3, .int (bI p3)), (4, .int p4), (5, .int (bI p5)), (6, .int (bI v6)), (7, .int (bI v7)), (8, .int (bI v8))] → W p l e ({ frames := 1, cells := 0, slots := 0, locals := 26 }) s m ([.ref qm, .int p1, .int p2, .int (bI p3), .int p4, .int (bI p5)] : List Value).toArray below meth c H locs 0 0 (MQ below (ct_qv G tys A [(qm, .inr (6, f_Model qp qk ((k_Model_toS sm sk p1 p2 p3 p4 p5).1))), (qk, .inl (cD, 512, .inl ((k_Model_toS sm sk p1 p2 p3 p4 p5).2)))]) ([.ref qm, .int p1, .int p2, .int (bI p3), .int p4, .int (bI p5)] : List Value).toArray s 0 0 A) (F0 m 168 ls [.ref qm]) := by
    intro v6 v7 v8 um uk H locs ls hj hP hD hS hl
    refine lv_iconst (v := 0) hx hb d_Model_toS_168 (by decide) ?_
    exact J169 v6 v7 v8 0 um uk H locs ls (hj.trans (by rw [k_Model_toS_j168]; try rfl)) hP hD hS (lv_sub hl [0, 1, 2, 3, 4, 5, 6, 7, 8] rfl)
  have J148 : ∀ (v6 : Bool) (v7 : Bool) (v8 : Bool) (t0 : Int32) (um : ob) (uk : Nat → Int32) (H : Heap) (locs : List Loc) (ls : Array Slot), k_Model_toS sm sk p1 p2 p3 p4 p5 = k_Model_toS_j148 sm sk p1 p2 p3 p4 p5 v6 v7 v8 t0 um uk → va_P G.1 vwCl [(qm, .inr (6, f_Model qp qk um)), (qk, .inl (cD, 512, .inl uk))] H → va_D A [(qm, .inr (6, f_Model qp qk um)), (qk, .inl (cD, 512, .inl uk))] → va_S A s.heap H locs → lv_has ls 9 [(0, .ref qm), (1, .int p1), (2, .int p2), (3, .int (bI p3)), (4, .int p4), (5, .int (bI p5)), (6, .int (bI v6)), (7, .int (bI v7)), (8, .int (bI v8))] → W p l e ({ frames := 1, cells := 0, slots := 0, locals := 26 }) s m ([.ref qm, .int p1, .int p2, .int (bI p3), .int p4, .int (bI p5)] : List Value).toArray below meth c H locs 0 0 (MQ below (ct_qv G tys A [(qm, .inr (6, f_Model qp qk ((k_Model_toS sm sk p1 p2 p3 p4 p5).1))), (qk, .inl (cD, 512, .inl ((k_Model_toS sm sk p1 p2 p3 p4 p5).2)))]) ([.ref qm, .int p1, .int p2, .int (bI p3), .int p4, .int (bI p5)] : List Value).toArray s 0 0 A) (F0 m 148 ls [.int t0, .ref qm]) := by
    intro v6 v7 v8 t0 um uk H locs ls hj hP hD hS hl
    refine va_put (D := G.1) (ci := 6) (v := .int t0) (ty := .int) (C := R_Model) (T := T_Model) (N := 23) hx hb hts (fun w h => gd_sub _ (iw_Model w h)) ty_Model tyok_Model nm_Model hown hK hP hD hS 0 rfl rfl 19 (by decide) (hts _ (gd_sub _ q_626)) (fun _ h9 => h9) rfl (by decide +kernel) rfl rfl (Nat.le_of_ble_eq_true rfl) d_Model_toS_148 (fun H locs hP hD hS => ?_)
    have hP : va_P G.1 vwCl [(qm, .inr (6, f_Model qp qk (oi um 19 t0))), (qk, .inl (cD, 512, .inl uk))] H := hP
    have hD : va_D A [(qm, .inr (6, f_Model qp qk (oi um 19 t0))), (qk, .inl (cD, 512, .inl uk))] := hD
    refine lv_aload_n hx hb d_Model_toS_151 rfl (lv_at hl 0 rfl) ?_
    refine lv_iload hx hb d_Model_toS_152 (lv_at hl 8 rfl) ?_
    refine lv_if_eq (tgt := 168) hx hb d_Model_toS_154 (by decide) (fun c_921 => ?_) (fun c_921 => ?_)
    · exact J168 v6 v7 v8 (oi um 19 t0) uk H locs ls (hj.trans (by rw [k_Model_toS_j148]; rw [if_pos c_921]; try rfl)) hP hD hS (lv_sub hl [0, 1, 2, 3, 4, 5, 6, 7, 8] rfl)
    · refine lv_iload hx hb d_Model_toS_157 (lv_at hl 5 rfl) ?_
      refine lv_if_eq (tgt := 168) hx hb d_Model_toS_159 (by decide) (fun c_922 => ?_) (fun c_922 => ?_)
      · exact J168 v6 v7 v8 (oi um 19 t0) uk H locs ls (hj.trans (by rw [k_Model_toS_j148]; rw [if_neg c_921]; rw [if_pos c_922]; try rfl)) hP hD hS (lv_sub hl [0, 1, 2, 3, 4, 5, 6, 7, 8] rfl)
      · refine lv_sipush (v := 8192) hx hb d_Model_toS_162 (by decide) ?_
        refine lv_goto (tgt := 169) hx hb d_Model_toS_165 (by decide) ?_
        exact J169 v6 v7 v8 8192 (oi um 19 t0) uk H locs ls (hj.trans (by rw [k_Model_toS_j148]; rw [if_neg c_921]; rw [if_neg c_922]; try rfl)) hP hD hS (lv_sub hl [0, 1, 2, 3, 4, 5, 6, 7, 8] rfl)
  have J136 : ∀ (v6 : Bool) (v7 : Bool) (v8 : Bool) (um : ob) (uk : Nat → Int32) (H : Heap) (locs : List Loc) (ls : Array Slot), k_Model_toS sm sk p1 p2 p3 p4 p5 = k_Model_toS_j136 sm sk p1 p2 p3 p4 p5 v6 v7 v8 um uk → va_P G.1 vwCl [(qm, .inr (6, f_Model qp qk um)), (qk, .inl (cD, 512, .inl uk))] H → va_D A [(qm, .inr (6, f_Model qp qk um)), (qk, .inl (cD, 512, .inl uk))] → va_S A s.heap H locs → lv_has ls 9 [(0, .ref qm), (1, .int p1), (2, .int p2), (3, .int (bI p3)), (4, .int p4), (5, .int (bI p5)), (6, .int (bI v6)), (7, .int (bI v7)), (8, .int (bI v8))] → W p l e ({ frames := 1, cells := 0, slots := 0, locals := 26 }) s m ([.ref qm, .int p1, .int p2, .int (bI p3), .int p4, .int (bI p5)] : List Value).toArray below meth c H locs 0 0 (MQ below (ct_qv G tys A [(qm, .inr (6, f_Model qp qk ((k_Model_toS sm sk p1 p2 p3 p4 p5).1))), (qk, .inl (cD, 512, .inl ((k_Model_toS sm sk p1 p2 p3 p4 p5).2)))]) ([.ref qm, .int p1, .int p2, .int (bI p3), .int p4, .int (bI p5)] : List Value).toArray s 0 0 A) (F0 m 136 ls []) := by
    intro v6 v7 v8 um uk H locs ls hj hP hD hS hl
    refine lv_aload_n hx hb d_Model_toS_136 rfl (lv_at hl 0 rfl) ?_
    refine lv_iload hx hb d_Model_toS_137 (lv_at hl 8 rfl) ?_
    refine lv_if_eq (tgt := 147) hx hb d_Model_toS_139 (by decide) (fun c_923 => ?_) (fun c_923 => ?_)
    · refine lv_iconst (v := 0) hx hb d_Model_toS_147 (by decide) ?_
      exact J148 v6 v7 v8 0 um uk H locs ls (hj.trans (by rw [k_Model_toS_j136]; rw [if_pos c_923]; try rfl)) hP hD hS (lv_sub hl [0, 1, 2, 3, 4, 5, 6, 7, 8] rfl)
    · refine lv_iload hx hb d_Model_toS_142 (lv_at hl 4 rfl) ?_
      refine lv_goto (tgt := 148) hx hb d_Model_toS_144 (by decide) ?_
      exact J148 v6 v7 v8 p4 um uk H locs ls (hj.trans (by rw [k_Model_toS_j136]; rw [if_neg c_923]; try rfl)) hP hD hS (lv_sub hl [0, 1, 2, 3, 4, 5, 6, 7, 8] rfl)
  have J132 : ∀ (v6 : Bool) (v7 : Bool) (v8 : Bool) (t0 : Int32) (t1 : Int32) (um : ob) (uk : Nat → Int32) (H : Heap) (locs : List Loc) (ls : Array Slot), k_Model_toS sm sk p1 p2 p3 p4 p5 = k_Model_toS_j132 sm sk p1 p2 p3 p4 p5 v6 v7 v8 t0 t1 um uk → va_P G.1 vwCl [(qm, .inr (6, f_Model qp qk um)), (qk, .inl (cD, 512, .inl uk))] H → va_D A [(qm, .inr (6, f_Model qp qk um)), (qk, .inl (cD, 512, .inl uk))] → va_S A s.heap H locs → lv_has ls 9 [(0, .ref qm), (1, .int p1), (2, .int p2), (3, .int (bI p3)), (4, .int p4), (5, .int (bI p5)), (6, .int (bI v6)), (7, .int (bI v7)), (8, .int (bI v8))] → W p l e ({ frames := 1, cells := 0, slots := 0, locals := 26 }) s m ([.ref qm, .int p1, .int p2, .int (bI p3), .int p4, .int (bI p5)] : List Value).toArray below meth c H locs 0 0 (MQ below (ct_qv G tys A [(qm, .inr (6, f_Model qp qk ((k_Model_toS sm sk p1 p2 p3 p4 p5).1))), (qk, .inl (cD, 512, .inl ((k_Model_toS sm sk p1 p2 p3 p4 p5).2)))]) ([.ref qm, .int p1, .int p2, .int (bI p3), .int p4, .int (bI p5)] : List Value).toArray s 0 0 A) (F0 m 132 ls [.int t0, .int t1, .ref qm]) := by
    intro v6 v7 v8 t0 t1 um uk H locs ls hj hP hD hS hl
    refine lv_ior hx hb d_Model_toS_132 ?_
    refine va_put (D := G.1) (ci := 6) (v := .int (t1 ||| t0)) (ty := .int) (C := R_Model) (T := T_Model) (N := 23) hx hb hts (fun w h => gd_sub _ (iw_Model w h)) ty_Model tyok_Model nm_Model hown hK hP hD hS 0 rfl rfl 15 (by decide) (hts _ (gd_sub _ q_622)) (fun _ h9 => h9) rfl (by decide +kernel) rfl rfl (Nat.le_of_ble_eq_true rfl) d_Model_toS_133 (fun H locs hP hD hS => ?_)
    have hP : va_P G.1 vwCl [(qm, .inr (6, f_Model qp qk (oi um 15 (t1 ||| t0)))), (qk, .inl (cD, 512, .inl uk))] H := hP
    have hD : va_D A [(qm, .inr (6, f_Model qp qk (oi um 15 (t1 ||| t0)))), (qk, .inl (cD, 512, .inl uk))] := hD
    exact J136 v6 v7 v8 (oi um 15 (t1 ||| t0)) uk H locs ls (hj.trans (by rw [k_Model_toS_j132]; try rfl)) hP hD hS (lv_sub hl [0, 1, 2, 3, 4, 5, 6, 7, 8] rfl)
  have J93 : ∀ (v6 : Bool) (v7 : Bool) (v8 : Bool) (t0 : Int32) (t1 : Int32) (um : ob) (uk : Nat → Int32) (H : Heap) (locs : List Loc) (ls : Array Slot), k_Model_toS sm sk p1 p2 p3 p4 p5 = k_Model_toS_j93 sm sk p1 p2 p3 p4 p5 v6 v7 v8 t0 t1 um uk → va_P G.1 vwCl [(qm, .inr (6, f_Model qp qk um)), (qk, .inl (cD, 512, .inl uk))] H → va_D A [(qm, .inr (6, f_Model qp qk um)), (qk, .inl (cD, 512, .inl uk))] → va_S A s.heap H locs → lv_has ls 9 [(0, .ref qm), (1, .int p1), (2, .int p2), (3, .int (bI p3)), (4, .int p4), (5, .int (bI p5)), (6, .int (bI v6)), (7, .int (bI v7)), (8, .int (bI v8))] → W p l e ({ frames := 1, cells := 0, slots := 0, locals := 26 }) s m ([.ref qm, .int p1, .int p2, .int (bI p3), .int p4, .int (bI p5)] : List Value).toArray below meth c H locs 0 0 (MQ below (ct_qv G tys A [(qm, .inr (6, f_Model qp qk ((k_Model_toS sm sk p1 p2 p3 p4 p5).1))), (qk, .inl (cD, 512, .inl ((k_Model_toS sm sk p1 p2 p3 p4 p5).2)))]) ([.ref qm, .int p1, .int p2, .int (bI p3), .int p4, .int (bI p5)] : List Value).toArray s 0 0 A) (F0 m 93 ls [.int t0, .int t1, .ref qm]) := by
    intro v6 v7 v8 t0 t1 um uk H locs ls hj hP hD hS hl
    refine lv_ior hx hb d_Model_toS_93 ?_
    refine va_put (D := G.1) (ci := 6) (v := .int (t1 ||| t0)) (ty := .int) (C := R_Model) (T := T_Model) (N := 23) hx hb hts (fun w h => gd_sub _ (iw_Model w h)) ty_Model tyok_Model nm_Model hown hK hP hD hS 0 rfl rfl 15 (by decide) (hts _ (gd_sub _ q_622)) (fun _ h9 => h9) rfl (by decide +kernel) rfl rfl (Nat.le_of_ble_eq_true rfl) d_Model_toS_94 (fun H locs hP hD hS => ?_)
    have hP : va_P G.1 vwCl [(qm, .inr (6, f_Model qp qk (oi um 15 (t1 ||| t0)))), (qk, .inl (cD, 512, .inl uk))] H := hP
    have hD : va_D A [(qm, .inr (6, f_Model qp qk (oi um 15 (t1 ||| t0)))), (qk, .inl (cD, 512, .inl uk))] := hD
    refine lv_aload_n hx hb d_Model_toS_97 rfl (lv_at hl 0 rfl) ?_
    refine ct_cVi (wr := [(qk, .inl (cD, 512, .inl uk))]) (w1 := [(qm, .inr (6, f_Model qp qk (oi um 15 (t1 ||| t0))))]) (w2 := [(qm, .inr (6, f_Model qp qk (oi um 15 (t1 ||| t0)))), (qk, .inl (cD, 512, .inl uk))]) (r := (bI (k_Model_isVirtual (oi um 15 (t1 ||| t0))))) (As := []) (rest := []) (ci := 6) (q0 := 0) ⟨hx, hb, hml, hown, hts⟩ (c_Model_isVirtual l G tys qm qp qk (oi um 15 (t1 ||| t0))) (cwV 0 hts (gdV gd_gd q_731 q_733 q_25 q_47 q_734) rfl rfl rfl (by decide +kernel) ⟨Nat.le_of_ble_eq_true rfl, Nat.le_of_ble_eq_true rfl⟩) hE hK hP hD hS hA [0] [1] [1, 0] rfl (by decide) rfl (by decide) (by decide) rfl (by decide) rfl rfl rfl hl.1 rfl (Nat.le_of_ble_eq_true rfl) d_Model_toS_98 ⟨Nat.zero_le _, Nat.zero_le _⟩ (fun H locs hP hD hS => ?_)
    refine lv_if_eq (tgt := 136) hx hb d_Model_toS_101 (by decide) (fun c_924 => ?_) (fun c_924 => ?_)
    · exact J136 v6 v7 v8 (oi um 15 (t1 ||| t0)) uk H locs ls (hj.trans (by rw [k_Model_toS_j93]; rw [if_pos c_924]; try rfl)) hP hD hS (lv_sub hl [0, 1, 2, 3, 4, 5, 6, 7, 8] rfl)
    · refine lv_aload_n hx hb d_Model_toS_104 rfl (lv_at hl 0 rfl) ?_
      refine lv_aload_n hx hb d_Model_toS_105 rfl (lv_at hl 0 rfl) ?_
      refine va_get (D := G.1) (ci := 6) (v := .int (t1 ||| t0)) (C := R_Model) (T := T_Model) (N := 23) hx hb hts (fun w h => gd_sub _ (iw_Model w h)) hown hK hP 0 rfl rfl 15 (by decide) (hts _ (gd_sub _ q_622)) (fun _ h9 => h9) rfl d_Model_toS_106 ?_
      refine lv_sipush (v := (-257)) hx hb d_Model_toS_109 (by decide) ?_
      refine lv_iand hx hb d_Model_toS_112 ?_
      refine lv_sipush (v := 128) hx hb d_Model_toS_113 (by decide) ?_
      refine lv_ior hx hb d_Model_toS_116 ?_
      refine lv_aload_n hx hb d_Model_toS_117 rfl (lv_at hl 0 rfl) ?_
      refine va_get (D := G.1) (ci := 6) (v := .int (um.1 0)) (C := R_Model) (T := T_Model) (N := 23) hx hb hts (fun w h => gd_sub _ (iw_Model w h)) hown hK hP 0 rfl rfl 0 (by decide) (hts _ (gd_sub _ q_607)) (fun _ h9 => h9) rfl d_Model_toS_118 ?_
      refine lv_iconst (v := 3) hx hb d_Model_toS_121 (by decide) ?_
      refine lv_icmp_ne (tgt := 131) hx hb d_Model_toS_122 (by decide) (fun c_925 => ?_) (fun c_925 => ?_)
      · refine lv_iconst (v := 0) hx hb d_Model_toS_131 (by decide) ?_
        exact J132 v6 v7 v8 0 (((t1 ||| t0) &&& (-257)) ||| 128) (oi um 15 (t1 ||| t0)) uk H locs ls (hj.trans (by rw [k_Model_toS_j93]; rw [if_neg c_924]; rw [if_neg c_925]; try rfl)) hP hD hS (lv_sub hl [0, 1, 2, 3, 4, 5, 6, 7, 8] rfl)
      · refine lv_sipush (v := 256) hx hb d_Model_toS_125 (by decide) ?_
        refine lv_goto (tgt := 132) hx hb d_Model_toS_128 (by decide) ?_
        exact J132 v6 v7 v8 256 (((t1 ||| t0) &&& (-257)) ||| 128) (oi um 15 (t1 ||| t0)) uk H locs ls (hj.trans (by rw [k_Model_toS_j93]; rw [if_neg c_924]; rw [if_pos c_925]; try rfl)) hP hD hS (lv_sub hl [0, 1, 2, 3, 4, 5, 6, 7, 8] rfl)
  have J64 : ∀ (v6 : Bool) (v7 : Bool) (t0 : Bool) (H : Heap) (locs : List Loc) (ls : Array Slot), k_Model_toS sm sk p1 p2 p3 p4 p5 = k_Model_toS_j64 sm sk p1 p2 p3 p4 p5 v6 v7 t0 → va_P G.1 vwCl [(qm, .inr (6, f_Model qp qk sm)), (qk, .inl (cD, 512, .inl sk))] H → va_D A [(qm, .inr (6, f_Model qp qk sm)), (qk, .inl (cD, 512, .inl sk))] → va_S A s.heap H locs → lv_has ls 9 [(0, .ref qm), (1, .int p1), (2, .int p2), (3, .int (bI p3)), (4, .int p4), (5, .int (bI p5)), (6, .int (bI v6)), (7, .int (bI v7))] → W p l e ({ frames := 1, cells := 0, slots := 0, locals := 26 }) s m ([.ref qm, .int p1, .int p2, .int (bI p3), .int p4, .int (bI p5)] : List Value).toArray below meth c H locs 0 0 (MQ below (ct_qv G tys A [(qm, .inr (6, f_Model qp qk ((k_Model_toS sm sk p1 p2 p3 p4 p5).1))), (qk, .inl (cD, 512, .inl ((k_Model_toS sm sk p1 p2 p3 p4 p5).2)))]) ([.ref qm, .int p1, .int p2, .int (bI p3), .int p4, .int (bI p5)] : List Value).toArray s 0 0 A) (F0 m 64 ls [.int (bI t0)]) := by
    intro v6 v7 t0 H locs ls hj hP hD hS hl
    refine lv_istore (lv' := [(8, .int (bI t0)), (0, .ref qm), (1, .int p1), (2, .int p2), (3, .int (bI p3)), (4, .int p4), (5, .int (bI p5)), (6, .int (bI v6)), (7, .int (bI v7))]) hx hb d_Model_toS_64 hl (by decide) rfl (fun ls hl => ?_)
    refine lv_aload_n hx hb d_Model_toS_66 rfl (lv_at hl 1 rfl) ?_
    refine lv_iconst (v := 0) hx hb d_Model_toS_67 (by decide) ?_
    refine lv_iload_n hx hb d_Model_toS_68 rfl (lv_at hl 2 rfl) ?_
    refine lv_iload_n hx hb d_Model_toS_69 rfl (lv_at hl 3 rfl) ?_
    obtain ⟨sm_926, esm_926⟩ : ∃ z, z = (k_Model_leave_0 sm sk p1 p2).1 := ⟨_, rfl⟩
    obtain ⟨sk_927, esk_927⟩ : ∃ z, z = (k_Model_leave_0 sm sk p1 p2).2 := ⟨_, rfl⟩
    have hM := c_Model_leave_0 l G tys ht2 qm qk qp sm sk p1 p2
    rw [← esm_926, ← esk_927] at hM
    refine ct_cVv (wr := []) (w1 := [(qm, .inr (6, f_Model qp qk sm_926)), (qk, .inl (cD, 512, .inl sk_927))]) (w2 := [(qm, .inr (6, f_Model qp qk sm_926)), (qk, .inl (cD, 512, .inl sk_927))]) (As := [.int 0, .int p1, .int p2]) (rest := []) (ci := 6) (q0 := 0) ⟨hx, hb, hml, hown, hts⟩ hM (cwV 3 hts (gdV gd_gd q_739 q_741 q_27 q_47 q_742) rfl rfl rfl (by decide +kernel) ⟨Nat.le_of_ble_eq_true rfl, Nat.le_of_ble_eq_true rfl⟩) hE hK hP hD hS hA [0, 1] [] [0, 1] rfl (by decide) rfl (by decide) (by decide) rfl (by decide) rfl rfl rfl hl.1 rfl (Nat.le_of_ble_eq_true rfl) d_Model_toS_70 ⟨Nat.zero_le _, Nat.zero_le _⟩ (fun H locs hP hD hS => ?_)
    refine lv_aload_n hx hb d_Model_toS_73 rfl (lv_at hl 1 rfl) ?_
    refine lv_aload_n hx hb d_Model_toS_74 rfl (lv_at hl 1 rfl) ?_
    refine va_get (D := G.1) (ci := 6) (v := .int (sm_926.1 15)) (C := R_Model) (T := T_Model) (N := 23) hx hb hts (fun w h => gd_sub _ (iw_Model w h)) hown hK hP 0 rfl rfl 15 (by decide) (hts _ (gd_sub _ q_622)) (fun _ h9 => h9) rfl d_Model_toS_75 ?_
    refine lv_sipush (v := (-193)) hx hb d_Model_toS_78 (by decide) ?_
    refine lv_iand hx hb d_Model_toS_81 ?_
    refine lv_iload hx hb d_Model_toS_82 (lv_at hl 8 rfl) ?_
    refine lv_if_eq (tgt := 92) hx hb d_Model_toS_84 (by decide) (fun c_928 => ?_) (fun c_928 => ?_)
    · refine lv_iconst (v := 0) hx hb d_Model_toS_92 (by decide) ?_
      exact J93 v6 v7 t0 0 ((sm_926.1 15) &&& (-193)) sm_926 sk_927 H locs ls (hj.trans (by rw [k_Model_toS_j64]; try rw [← esm_926]; try rw [← esk_927]; rw [if_pos c_928]; try rfl)) hP hD hS (lv_sub hl [1, 2, 3, 4, 5, 6, 7, 8, 0] rfl)
    · refine lv_bipush (v := 64) hx hb d_Model_toS_87 (by decide) ?_
      refine lv_goto (tgt := 93) hx hb d_Model_toS_89 (by decide) ?_
      exact J93 v6 v7 t0 64 ((sm_926.1 15) &&& (-193)) sm_926 sk_927 H locs ls (hj.trans (by rw [k_Model_toS_j64]; try rw [← esm_926]; try rw [← esk_927]; rw [if_neg c_928]; try rfl)) hP hD hS (lv_sub hl [1, 2, 3, 4, 5, 6, 7, 8, 0] rfl)
  have J59 : ∀ (v6 : Bool) (v7 : Bool) (H : Heap) (locs : List Loc) (ls : Array Slot), k_Model_toS sm sk p1 p2 p3 p4 p5 = k_Model_toS_j59 sm sk p1 p2 p3 p4 p5 v6 v7 → va_P G.1 vwCl [(qm, .inr (6, f_Model qp qk sm)), (qk, .inl (cD, 512, .inl sk))] H → va_D A [(qm, .inr (6, f_Model qp qk sm)), (qk, .inl (cD, 512, .inl sk))] → va_S A s.heap H locs → lv_has ls 9 [(0, .ref qm), (1, .int p1), (2, .int p2), (3, .int (bI p3)), (4, .int p4), (5, .int (bI p5)), (6, .int (bI v6)), (7, .int (bI v7))] → W p l e ({ frames := 1, cells := 0, slots := 0, locals := 26 }) s m ([.ref qm, .int p1, .int p2, .int (bI p3), .int p4, .int (bI p5)] : List Value).toArray below meth c H locs 0 0 (MQ below (ct_qv G tys A [(qm, .inr (6, f_Model qp qk ((k_Model_toS sm sk p1 p2 p3 p4 p5).1))), (qk, .inl (cD, 512, .inl ((k_Model_toS sm sk p1 p2 p3 p4 p5).2)))]) ([.ref qm, .int p1, .int p2, .int (bI p3), .int p4, .int (bI p5)] : List Value).toArray s 0 0 A) (F0 m 59 ls []) := by
    intro v6 v7 H locs ls hj hP hD hS hl
    refine lv_iconst (v := 1) hx hb d_Model_toS_59 (by decide) ?_
    refine lv_goto (tgt := 64) hx hb d_Model_toS_60 (by decide) ?_
    exact J64 v6 v7 true H locs ls (hj.trans (by rw [k_Model_toS_j59]; try rfl)) hP hD hS (lv_sub hl [0, 1, 2, 3, 4, 5, 6, 7] rfl)
  have J39 : ∀ (v6 : Bool) (t0 : Bool) (H : Heap) (locs : List Loc) (ls : Array Slot), k_Model_toS sm sk p1 p2 p3 p4 p5 = k_Model_toS_j39 sm sk p1 p2 p3 p4 p5 v6 t0 → va_P G.1 vwCl [(qm, .inr (6, f_Model qp qk sm)), (qk, .inl (cD, 512, .inl sk))] H → va_D A [(qm, .inr (6, f_Model qp qk sm)), (qk, .inl (cD, 512, .inl sk))] → va_S A s.heap H locs → lv_has ls 9 [(0, .ref qm), (1, .int p1), (2, .int p2), (3, .int (bI p3)), (4, .int p4), (5, .int (bI p5)), (6, .int (bI v6))] → W p l e ({ frames := 1, cells := 0, slots := 0, locals := 26 }) s m ([.ref qm, .int p1, .int p2, .int (bI p3), .int p4, .int (bI p5)] : List Value).toArray below meth c H locs 0 0 (MQ below (ct_qv G tys A [(qm, .inr (6, f_Model qp qk ((k_Model_toS sm sk p1 p2 p3 p4 p5).1))), (qk, .inl (cD, 512, .inl ((k_Model_toS sm sk p1 p2 p3 p4 p5).2)))]) ([.ref qm, .int p1, .int p2, .int (bI p3), .int p4, .int (bI p5)] : List Value).toArray s 0 0 A) (F0 m 39 ls [.int (bI t0)]) := by
    intro v6 t0 H locs ls hj hP hD hS hl
    refine lv_istore (lv' := [(7, .int (bI t0)), (0, .ref qm), (1, .int p1), (2, .int p2), (3, .int (bI p3)), (4, .int p4), (5, .int (bI p5)), (6, .int (bI v6))]) hx hb d_Model_toS_39 hl (by decide) rfl (fun ls hl => ?_)
    refine lv_iload_n hx hb d_Model_toS_41 rfl (lv_at hl 2 rfl) ?_
    refine lv_bipush (v := 20) hx hb d_Model_toS_42 (by decide) ?_
    refine lv_icmp_eq (tgt := 59) hx hb d_Model_toS_44 (by decide) (fun c_929 => ?_) (fun c_929 => ?_)
    · exact J59 v6 t0 H locs ls (hj.trans (by rw [k_Model_toS_j39]; rw [if_pos c_929]; try rfl)) hP hD hS (lv_sub hl [1, 2, 3, 4, 5, 6, 7, 0] rfl)
    · refine lv_iload_n hx hb d_Model_toS_47 rfl (lv_at hl 2 rfl) ?_
      refine lv_bipush (v := 21) hx hb d_Model_toS_48 (by decide) ?_
      refine lv_icmp_eq (tgt := 59) hx hb d_Model_toS_50 (by decide) (fun c_930 => ?_) (fun c_930 => ?_)
      · exact J59 v6 t0 H locs ls (hj.trans (by rw [k_Model_toS_j39]; rw [if_neg c_929]; rw [if_pos c_930]; try rfl)) hP hD hS (lv_sub hl [1, 2, 3, 4, 5, 6, 7, 0] rfl)
      · refine lv_iload_n hx hb d_Model_toS_53 rfl (lv_at hl 2 rfl) ?_
        refine lv_bipush (v := 23) hx hb d_Model_toS_54 (by decide) ?_
        refine lv_icmp_ne (tgt := 63) hx hb d_Model_toS_56 (by decide) (fun c_931 => ?_) (fun c_931 => ?_)
        · refine lv_iconst (v := 0) hx hb d_Model_toS_63 (by decide) ?_
          exact J64 v6 t0 false H locs ls (hj.trans (by rw [k_Model_toS_j39]; rw [if_neg c_929]; rw [if_neg c_930]; rw [if_neg c_931]; try rfl)) hP hD hS (lv_sub hl [1, 2, 3, 4, 5, 6, 7, 0] rfl)
        · exact J59 v6 t0 H locs ls (hj.trans (by rw [k_Model_toS_j39]; rw [if_neg c_929]; rw [if_neg c_930]; rw [if_pos c_931]; try rfl)) hP hD hS (lv_sub hl [1, 2, 3, 4, 5, 6, 7, 0] rfl)
  have J38 : ∀ (v6 : Bool) (H : Heap) (locs : List Loc) (ls : Array Slot), k_Model_toS sm sk p1 p2 p3 p4 p5 = k_Model_toS_j38 sm sk p1 p2 p3 p4 p5 v6 → va_P G.1 vwCl [(qm, .inr (6, f_Model qp qk sm)), (qk, .inl (cD, 512, .inl sk))] H → va_D A [(qm, .inr (6, f_Model qp qk sm)), (qk, .inl (cD, 512, .inl sk))] → va_S A s.heap H locs → lv_has ls 9 [(0, .ref qm), (1, .int p1), (2, .int p2), (3, .int (bI p3)), (4, .int p4), (5, .int (bI p5)), (6, .int (bI v6))] → W p l e ({ frames := 1, cells := 0, slots := 0, locals := 26 }) s m ([.ref qm, .int p1, .int p2, .int (bI p3), .int p4, .int (bI p5)] : List Value).toArray below meth c H locs 0 0 (MQ below (ct_qv G tys A [(qm, .inr (6, f_Model qp qk ((k_Model_toS sm sk p1 p2 p3 p4 p5).1))), (qk, .inl (cD, 512, .inl ((k_Model_toS sm sk p1 p2 p3 p4 p5).2)))]) ([.ref qm, .int p1, .int p2, .int (bI p3), .int p4, .int (bI p5)] : List Value).toArray s 0 0 A) (F0 m 38 ls []) := by
    intro v6 H locs ls hj hP hD hS hl
    refine lv_iconst (v := 0) hx hb d_Model_toS_38 (by decide) ?_
    exact J39 v6 false H locs ls (hj.trans (by rw [k_Model_toS_j38]; try rfl)) hP hD hS (lv_sub hl [0, 1, 2, 3, 4, 5, 6] rfl)
  have J34 : ∀ (v6 : Bool) (H : Heap) (locs : List Loc) (ls : Array Slot), k_Model_toS sm sk p1 p2 p3 p4 p5 = k_Model_toS_j34 sm sk p1 p2 p3 p4 p5 v6 → va_P G.1 vwCl [(qm, .inr (6, f_Model qp qk sm)), (qk, .inl (cD, 512, .inl sk))] H → va_D A [(qm, .inr (6, f_Model qp qk sm)), (qk, .inl (cD, 512, .inl sk))] → va_S A s.heap H locs → lv_has ls 9 [(0, .ref qm), (1, .int p1), (2, .int p2), (3, .int (bI p3)), (4, .int p4), (5, .int (bI p5)), (6, .int (bI v6))] → W p l e ({ frames := 1, cells := 0, slots := 0, locals := 26 }) s m ([.ref qm, .int p1, .int p2, .int (bI p3), .int p4, .int (bI p5)] : List Value).toArray below meth c H locs 0 0 (MQ below (ct_qv G tys A [(qm, .inr (6, f_Model qp qk ((k_Model_toS sm sk p1 p2 p3 p4 p5).1))), (qk, .inl (cD, 512, .inl ((k_Model_toS sm sk p1 p2 p3 p4 p5).2)))]) ([.ref qm, .int p1, .int p2, .int (bI p3), .int p4, .int (bI p5)] : List Value).toArray s 0 0 A) (F0 m 34 ls []) := by
    intro v6 H locs ls hj hP hD hS hl
    refine lv_iconst (v := 1) hx hb d_Model_toS_34 (by decide) ?_
    refine lv_goto (tgt := 39) hx hb d_Model_toS_35 (by decide) ?_
    exact J39 v6 true H locs ls (hj.trans (by rw [k_Model_toS_j34]; try rfl)) hP hD hS (lv_sub hl [0, 1, 2, 3, 4, 5, 6] rfl)
  have J16 : ∀ (t0 : Bool) (H : Heap) (locs : List Loc) (ls : Array Slot), k_Model_toS sm sk p1 p2 p3 p4 p5 = k_Model_toS_j16 sm sk p1 p2 p3 p4 p5 t0 → va_P G.1 vwCl [(qm, .inr (6, f_Model qp qk sm)), (qk, .inl (cD, 512, .inl sk))] H → va_D A [(qm, .inr (6, f_Model qp qk sm)), (qk, .inl (cD, 512, .inl sk))] → va_S A s.heap H locs → lv_has ls 9 [(0, .ref qm), (1, .int p1), (2, .int p2), (3, .int (bI p3)), (4, .int p4), (5, .int (bI p5))] → W p l e ({ frames := 1, cells := 0, slots := 0, locals := 26 }) s m ([.ref qm, .int p1, .int p2, .int (bI p3), .int p4, .int (bI p5)] : List Value).toArray below meth c H locs 0 0 (MQ below (ct_qv G tys A [(qm, .inr (6, f_Model qp qk ((k_Model_toS sm sk p1 p2 p3 p4 p5).1))), (qk, .inl (cD, 512, .inl ((k_Model_toS sm sk p1 p2 p3 p4 p5).2)))]) ([.ref qm, .int p1, .int p2, .int (bI p3), .int p4, .int (bI p5)] : List Value).toArray s 0 0 A) (F0 m 16 ls [.int (bI t0)]) := by
    intro t0 H locs ls hj hP hD hS hl
    refine lv_istore (lv' := [(6, .int (bI t0)), (0, .ref qm), (1, .int p1), (2, .int p2), (3, .int (bI p3)), (4, .int p4), (5, .int (bI p5))]) hx hb d_Model_toS_16 hl (by decide) rfl (fun ls hl => ?_)
    refine lv_iload hx hb d_Model_toS_18 (lv_at hl 0 rfl) ?_
    refine lv_if_eq (tgt := 38) hx hb d_Model_toS_20 (by decide) (fun c_932 => ?_) (fun c_932 => ?_)
    · exact J38 t0 H locs ls (hj.trans (by rw [k_Model_toS_j16]; rw [if_pos c_932]; try rfl)) hP hD hS (lv_sub hl [1, 2, 3, 4, 5, 6, 0] rfl)
    · refine lv_aload_n hx hb d_Model_toS_23 rfl (lv_at hl 1 rfl) ?_
      refine ct_cVi (wr := [(qk, .inl (cD, 512, .inl sk))]) (w1 := [(qm, .inr (6, f_Model qp qk sm))]) (w2 := [(qm, .inr (6, f_Model qp qk sm)), (qk, .inl (cD, 512, .inl sk))]) (r := (bI (k_Model_isVirtual sm))) (As := []) (rest := []) (ci := 6) (q0 := 0) ⟨hx, hb, hml, hown, hts⟩ (c_Model_isVirtual l G tys qm qp qk sm) (cwV 0 hts (gdV gd_gd q_731 q_733 q_25 q_47 q_734) rfl rfl rfl (by decide +kernel) ⟨Nat.le_of_ble_eq_true rfl, Nat.le_of_ble_eq_true rfl⟩) hE hK hP hD hS hA [0] [1] [1, 0] rfl (by decide) rfl (by decide) (by decide) rfl (by decide) rfl rfl rfl hl.1 rfl (Nat.le_of_ble_eq_true rfl) d_Model_toS_24 ⟨Nat.zero_le _, Nat.zero_le _⟩ (fun H locs hP hD hS => ?_)
      refine lv_if_ne (tgt := 34) hx hb d_Model_toS_27 (by decide) (fun c_933 => ?_) (fun c_933 => ?_)
      · exact J34 t0 H locs ls (hj.trans (by rw [k_Model_toS_j16]; rw [if_neg c_932]; rw [if_neg c_933]; try rfl)) hP hD hS (lv_sub hl [1, 2, 3, 4, 5, 6, 0] rfl)
      · refine lv_iload_n hx hb d_Model_toS_30 rfl (lv_at hl 4 rfl) ?_
        refine lv_if_eq (tgt := 38) hx hb d_Model_toS_31 (by decide) (fun c_934 => ?_) (fun c_934 => ?_)
        · exact J38 t0 H locs ls (hj.trans (by rw [k_Model_toS_j16]; rw [if_neg c_932]; rw [if_pos c_933]; rw [if_pos c_934]; try rfl)) hP hD hS (lv_sub hl [1, 2, 3, 4, 5, 6, 0] rfl)
        · exact J34 t0 H locs ls (hj.trans (by rw [k_Model_toS_j16]; rw [if_neg c_932]; rw [if_pos c_933]; rw [if_neg c_934]; try rfl)) hP hD hS (lv_sub hl [1, 2, 3, 4, 5, 6, 0] rfl)
  have J15 : ∀ (H : Heap) (locs : List Loc) (ls : Array Slot), k_Model_toS sm sk p1 p2 p3 p4 p5 = k_Model_toS_j15 sm sk p1 p2 p3 p4 p5 → va_P G.1 vwCl [(qm, .inr (6, f_Model qp qk sm)), (qk, .inl (cD, 512, .inl sk))] H → va_D A [(qm, .inr (6, f_Model qp qk sm)), (qk, .inl (cD, 512, .inl sk))] → va_S A s.heap H locs → lv_has ls 9 [(0, .ref qm), (1, .int p1), (2, .int p2), (3, .int (bI p3)), (4, .int p4), (5, .int (bI p5))] → W p l e ({ frames := 1, cells := 0, slots := 0, locals := 26 }) s m ([.ref qm, .int p1, .int p2, .int (bI p3), .int p4, .int (bI p5)] : List Value).toArray below meth c H locs 0 0 (MQ below (ct_qv G tys A [(qm, .inr (6, f_Model qp qk ((k_Model_toS sm sk p1 p2 p3 p4 p5).1))), (qk, .inl (cD, 512, .inl ((k_Model_toS sm sk p1 p2 p3 p4 p5).2)))]) ([.ref qm, .int p1, .int p2, .int (bI p3), .int p4, .int (bI p5)] : List Value).toArray s 0 0 A) (F0 m 15 ls []) := by
    intro H locs ls hj hP hD hS hl
    refine lv_iconst (v := 0) hx hb d_Model_toS_15 (by decide) ?_
    exact J16 false H locs ls (hj.trans (by rw [k_Model_toS_j15]; try rfl)) hP hD hS (lv_sub hl [0, 1, 2, 3, 4, 5] rfl)
  obtain ⟨H, eH⟩ : ∃ z, z = s.heap := ⟨_, rfl⟩
  obtain ⟨locs, eL⟩ : ∃ z, z = ([] : List Loc) := ⟨_, rfl⟩
  have hP : va_P G.1 vwCl [(qm, .inr (6, f_Model qp qk sm)), (qk, .inl (cD, 512, .inl sk))] H := by rw [eH]; exact hP
  have hS : va_S A s.heap H locs := by rw [eH, eL]; exact hS
  suffices hW : W p l e ({ frames := 1, cells := 0, slots := 0, locals := 26 }) s m ([.ref qm, .int p1, .int p2, .int (bI p3), .int p4, .int (bI p5)] : List Value).toArray below meth c H locs 0 0 (MQ below (ct_qv G tys A [(qm, .inr (6, f_Model qp qk ((k_Model_toS sm sk p1 p2 p3 p4 p5).1))), (qk, .inl (cD, 512, .inl ((k_Model_toS sm sk p1 p2 p3 p4 p5).2)))]) ([.ref qm, .int p1, .int p2, .int (bI p3), .int p4, .int (bI p5)] : List Value).toArray s 0 0 A) (F0 m 0 ls []) by rw [eH, eL] at hW; exact hW
  refine lv_iload_n hx hb d_Model_toS_0 rfl (lv_at hl 1 rfl) ?_
  refine lv_if_lt (tgt := 15) hx hb d_Model_toS_1 (by decide) (fun c_935 => ?_) (fun c_935 => ?_)
  · exact J15 H locs ls (by rw [k_Model_toS]; rw [if_pos c_935]; try rfl) hP hD hS (lv_sub hl [0, 1, 2, 3, 4, 5] rfl)
  · refine lv_iload_n hx hb d_Model_toS_4 rfl (lv_at hl 1 rfl) ?_
    refine ct_cSi (wr := [(qm, .inr (6, f_Model qp qk sm)), (qk, .inl (cD, 512, .inl sk))]) (w1 := []) (w2 := [(qm, .inr (6, f_Model qp qk sm)), (qk, .inl (cD, 512, .inl sk))]) (r := (bI (k_Model_isAddress p1))) (As := [.int p1]) (rest := []) ⟨hx, hb, hml, hown, hts⟩ (c_Model_isAddress l G tys p1) (va_cwS 1 hts (gdS gd_gd q_723 q_724 q_47 q_725) rfl rfl rfl (by decide +kernel) ⟨Nat.le_of_ble_eq_true rfl, Nat.le_of_ble_eq_true rfl⟩) hE hK hP hD hS hA [] [0, 1] [0, 1] rfl (by decide) rfl (by decide) (by decide) rfl (by decide) rfl hl.1 rfl (Nat.le_of_ble_eq_true rfl) d_Model_toS_5 ⟨Nat.zero_le _, Nat.zero_le _⟩ (fun H locs hP hD hS => ?_)
    refine lv_if_eq (tgt := 15) hx hb d_Model_toS_8 (by decide) (fun c_936 => ?_) (fun c_936 => ?_)
    · exact J15 H locs ls (by rw [k_Model_toS]; rw [if_neg c_935]; rw [if_pos c_936]; try rfl) hP hD hS (lv_sub hl [0, 1, 2, 3, 4, 5] rfl)
    · refine lv_iconst (v := 1) hx hb d_Model_toS_11 (by decide) ?_
      refine lv_goto (tgt := 16) hx hb d_Model_toS_12 (by decide) ?_
      exact J16 true H locs ls (by rw [k_Model_toS]; rw [if_neg c_935]; rw [if_neg c_936]; try rfl) hP hD hS (lv_sub hl [0, 1, 2, 3, 4, 5] rfl)
