def k_Model_isKind_j26 (p1 : Int32) : Bool :=
  if p1 = 128 then true else false
def k_Model_isKind (p1 : Int32) : Bool :=
  if p1 = 0 then true else (if p1 = 4 then true else (if p1 = 5 then true else (if p1 < 64 then (k_Model_isKind_j26 p1) else (if p1 ≤ 68 then true else (k_Model_isKind_j26 p1)))))
set_option maxHeartbeats 4000000 in
set_option maxRecDepth 100000 in
theorem c_Model_isKind (l : Launch) (G : gx) (tys : List (ClassId × FieldType)) (p1 : Int32) : ct_I l y_Model_isKind ws_Model_isKind ({ frames := 0, cells := 0, slots := 0, locals := 0 }) G tys [.int p1] [] (bI (k_Model_isKind p1)) [] := by
  refine ct_hI (cc := cc_Model_isKind) (maxL := 1) (ret := (some .boolean)) (by decide) rfl (Nat.le_of_ble_eq_true rfl) ?_
  intro p e s m below meth c A ls hx hb hr hml hts hown hlocks hP hK hD hA hE hS hl
  have hl : lv_has ls 1 [(0, .int p1)] := hl
  have hown : s.vm.findClass R_Model = some m.cls := hown
  have J26 : ∀ (H : Heap) (locs : List Loc) (ls : Array Slot), k_Model_isKind p1 = k_Model_isKind_j26 p1 → va_P G.1 vwCl [] H → va_D A [] → va_S A s.heap H locs → lv_has ls 1 [(0, .int p1)] → W p l e ({ frames := 0, cells := 0, slots := 0, locals := 0 }) s m ([.int p1] : List Value).toArray below meth c H locs 0 0 (MQ below (ct_qi G tys A (bI (k_Model_isKind p1)) []) ([.int p1] : List Value).toArray s 0 0 A) (F0 m 26 ls []) := by
    intro H locs ls hj hP hD hS hl
    refine lv_iload_n hx hb d_Model_isKind_26 rfl (lv_at hl 0 rfl) ?_
    refine lv_sipush (v := 128) hx hb d_Model_isKind_27 (by decide) ?_
    refine lv_icmp_ne (tgt := 37) hx hb d_Model_isKind_30 (by decide) (fun c_733 => ?_) (fun c_733 => ?_)
    · refine lv_iconst (v := 0) hx hb d_Model_isKind_37 (by decide) ?_
      have hk : k_Model_isKind p1 = false := (hj.trans (by rw [k_Model_isKind_j26]; rw [if_neg c_733]; try rfl))
      exact ct_rz hx hb hr hlocks hP hD hK hS d_Model_isKind_38 rfl (by rw [hk]; first | done | rfl) rfl
    · refine lv_iconst (v := 1) hx hb d_Model_isKind_33 (by decide) ?_
      refine lv_goto (tgt := 38) hx hb d_Model_isKind_34 (by decide) ?_
      have hk : k_Model_isKind p1 = true := (hj.trans (by rw [k_Model_isKind_j26]; rw [if_pos c_733]; try rfl))
      exact ct_rz hx hb hr hlocks hP hD hK hS d_Model_isKind_38 rfl (by rw [hk]; first | done | rfl) rfl
  obtain ⟨H, eH⟩ : ∃ z, z = s.heap := ⟨_, rfl⟩
  obtain ⟨locs, eL⟩ : ∃ z, z = ([] : List Loc) := ⟨_, rfl⟩
  have hP : va_P G.1 vwCl [] H := by rw [eH]; exact hP
  have hS : va_S A s.heap H locs := by rw [eH, eL]; exact hS
  suffices hW : W p l e ({ frames := 0, cells := 0, slots := 0, locals := 0 }) s m ([.int p1] : List Value).toArray below meth c H locs 0 0 (MQ below (ct_qi G tys A (bI (k_Model_isKind p1)) []) ([.int p1] : List Value).toArray s 0 0 A) (F0 m 0 ls []) by rw [eH, eL] at hW; exact hW
  refine lv_iload_n hx hb d_Model_isKind_0 rfl (lv_at hl 0 rfl) ?_
  refine lv_if_eq (tgt := 33) hx hb d_Model_isKind_1 (by decide) (fun c_734 => ?_) (fun c_734 => ?_)
  · refine lv_iconst (v := 1) hx hb d_Model_isKind_33 (by decide) ?_
    refine lv_goto (tgt := 38) hx hb d_Model_isKind_34 (by decide) ?_
    have hk : k_Model_isKind p1 = true := (by rw [k_Model_isKind]; rw [if_pos c_734]; try rfl)
    exact ct_rz hx hb hr hlocks hP hD hK hS d_Model_isKind_38 rfl (by rw [hk]; first | done | rfl) rfl
  · refine lv_iload_n hx hb d_Model_isKind_4 rfl (lv_at hl 0 rfl) ?_
    refine lv_iconst (v := 4) hx hb d_Model_isKind_5 (by decide) ?_
    refine lv_icmp_eq (tgt := 33) hx hb d_Model_isKind_6 (by decide) (fun c_735 => ?_) (fun c_735 => ?_)
    · refine lv_iconst (v := 1) hx hb d_Model_isKind_33 (by decide) ?_
      refine lv_goto (tgt := 38) hx hb d_Model_isKind_34 (by decide) ?_
      have hk : k_Model_isKind p1 = true := (by rw [k_Model_isKind]; rw [if_neg c_734]; rw [if_pos c_735]; try rfl)
      exact ct_rz hx hb hr hlocks hP hD hK hS d_Model_isKind_38 rfl (by rw [hk]; first | done | rfl) rfl
    · refine lv_iload_n hx hb d_Model_isKind_9 rfl (lv_at hl 0 rfl) ?_
      refine lv_iconst (v := 5) hx hb d_Model_isKind_10 (by decide) ?_
      refine lv_icmp_eq (tgt := 33) hx hb d_Model_isKind_11 (by decide) (fun c_736 => ?_) (fun c_736 => ?_)
      · refine lv_iconst (v := 1) hx hb d_Model_isKind_33 (by decide) ?_
        refine lv_goto (tgt := 38) hx hb d_Model_isKind_34 (by decide) ?_
        have hk : k_Model_isKind p1 = true := (by rw [k_Model_isKind]; rw [if_neg c_734]; rw [if_neg c_735]; rw [if_pos c_736]; try rfl)
        exact ct_rz hx hb hr hlocks hP hD hK hS d_Model_isKind_38 rfl (by rw [hk]; first | done | rfl) rfl
      · refine lv_iload_n hx hb d_Model_isKind_14 rfl (lv_at hl 0 rfl) ?_
        refine lv_bipush (v := 64) hx hb d_Model_isKind_15 (by decide) ?_
        refine lv_icmp_lt (tgt := 26) hx hb d_Model_isKind_17 (by decide) (fun c_737 => ?_) (fun c_737 => ?_)
        · exact J26 H locs ls (by rw [k_Model_isKind]; rw [if_neg c_734]; rw [if_neg c_735]; rw [if_neg c_736]; rw [if_pos c_737]; try rfl) hP hD hS (lv_sub hl [0] rfl)
        · refine lv_iload_n hx hb d_Model_isKind_20 rfl (lv_at hl 0 rfl) ?_
          refine lv_bipush (v := 68) hx hb d_Model_isKind_21 (by decide) ?_
          refine lv_icmp_le (tgt := 33) hx hb d_Model_isKind_23 (by decide) (fun c_738 => ?_) (fun c_738 => ?_)
          · refine lv_iconst (v := 1) hx hb d_Model_isKind_33 (by decide) ?_
            refine lv_goto (tgt := 38) hx hb d_Model_isKind_34 (by decide) ?_
            have hk : k_Model_isKind p1 = true := (by rw [k_Model_isKind]; rw [if_neg c_734]; rw [if_neg c_735]; rw [if_neg c_736]; rw [if_neg c_737]; rw [if_pos c_738]; try rfl)
            exact ct_rz hx hb hr hlocks hP hD hK hS d_Model_isKind_38 rfl (by rw [hk]; first | done | rfl) rfl
          · exact J26 H locs ls (by rw [k_Model_isKind]; rw [if_neg c_734]; rw [if_neg c_735]; rw [if_neg c_736]; rw [if_neg c_737]; rw [if_neg c_738]; try rfl) hP hD hS (lv_sub hl [0] rfl)
def k_Model_isTime (p1 : Int32) : Bool :=
  if p1 = 3073 then true else (if p1 = 3201 then true else false)
set_option maxHeartbeats 4000000 in
set_option maxRecDepth 100000 in
theorem c_Model_isTime (l : Launch) (G : gx) (tys : List (ClassId × FieldType)) (p1 : Int32) : ct_I l y_Model_isTime ws_Model_isTime ({ frames := 0, cells := 0, slots := 0, locals := 0 }) G tys [.int p1] [] (bI (k_Model_isTime p1)) [] := by
  refine ct_hI (cc := cc_Model_isTime) (maxL := 1) (ret := (some .boolean)) (by decide) rfl (Nat.le_of_ble_eq_true rfl) ?_
  intro p e s m below meth c A ls hx hb hr hml hts hown hlocks hP hK hD hA hE hS hl
  have hl : lv_has ls 1 [(0, .int p1)] := hl
  have hown : s.vm.findClass R_Model = some m.cls := hown
  refine lv_iload_n hx hb d_Model_isTime_0 rfl (lv_at hl 0 rfl) ?_
  refine lv_sipush (v := 3073) hx hb d_Model_isTime_1 (by decide) ?_
  refine lv_icmp_eq (tgt := 14) hx hb d_Model_isTime_4 (by decide) (fun c_741 => ?_) (fun c_741 => ?_)
  · refine lv_iconst (v := 1) hx hb d_Model_isTime_14 (by decide) ?_
    refine lv_goto (tgt := 19) hx hb d_Model_isTime_15 (by decide) ?_
    have hk : k_Model_isTime p1 = true := (by rw [k_Model_isTime]; rw [if_pos c_741]; try rfl)
    exact ct_rz hx hb hr hlocks hP hD hK hS d_Model_isTime_19 rfl (by rw [hk]; first | done | rfl) rfl
  · refine lv_iload_n hx hb d_Model_isTime_7 rfl (lv_at hl 0 rfl) ?_
    refine lv_sipush (v := 3201) hx hb d_Model_isTime_8 (by decide) ?_
    refine lv_icmp_ne (tgt := 18) hx hb d_Model_isTime_11 (by decide) (fun c_742 => ?_) (fun c_742 => ?_)
    · refine lv_iconst (v := 0) hx hb d_Model_isTime_18 (by decide) ?_
      have hk : k_Model_isTime p1 = false := (by rw [k_Model_isTime]; rw [if_neg c_741]; rw [if_neg c_742]; try rfl)
      exact ct_rz hx hb hr hlocks hP hD hK hS d_Model_isTime_19 rfl (by rw [hk]; first | done | rfl) rfl
    · refine lv_iconst (v := 1) hx hb d_Model_isTime_14 (by decide) ?_
      refine lv_goto (tgt := 19) hx hb d_Model_isTime_15 (by decide) ?_
      have hk : k_Model_isTime p1 = true := (by rw [k_Model_isTime]; rw [if_neg c_741]; rw [if_pos c_742]; try rfl)
      exact ct_rz hx hb hr hlocks hP hD hK hS d_Model_isTime_19 rfl (by rw [hk]; first | done | rfl) rfl
def k_Model_isH (p1 : Int32) : Bool :=
  if p1 = 1536 then true else if p1 = 1538 then true else if p1 = 1539 then true else if p1 = 1540 then true else if p1 = 1603 then true else if p1 = 1604 then true else if p1 = 1605 then true else if p1 = 1610 then true else if p1 = 1664 then true else false
set_option maxHeartbeats 4000000 in
set_option maxRecDepth 100000 in
theorem c_Model_isH (l : Launch) (G : gx) (tys : List (ClassId × FieldType)) (p1 : Int32) : ct_I l y_Model_isH ws_Model_isH ({ frames := 0, cells := 0, slots := 0, locals := 0 }) G tys [.int p1] [] (bI (k_Model_isH p1)) [] := by
  refine ct_hI (cc := cc_Model_isH) (maxL := 1) (ret := (some .boolean)) (by decide) rfl (Nat.le_of_ble_eq_true rfl) ?_
  intro p e s m below meth c A ls hx hb hr hml hts hown hlocks hP hK hD hA hE hS hl
  have hl : lv_has ls 1 [(0, .int p1)] := hl
  have hown : s.vm.findClass R_Model = some m.cls := hown
  refine lv_iload_n hx hb d_Model_isH_0 rfl (lv_at hl 0 rfl) ?_
  by_cases c_752 : p1 = 1536
  · refine lv_lookup (off := 83) (tgt := 84) hx hb d_Model_isH_1 (by decide) (by rw [c_752]; decide) (by decide) ?_
    refine lv_iconst (v := 1) hx hb d_Model_isH_84 (by decide) ?_
    have hk : k_Model_isH p1 = true := (by rw [k_Model_isH]; rw [if_pos c_752]; try rfl)
    exact ct_rz hx hb hr hlocks hP hD hK hS d_Model_isH_85 rfl (by rw [hk]; first | done | rfl) rfl
  · by_cases c_753 : p1 = 1538
    · refine lv_lookup (off := 83) (tgt := 84) hx hb d_Model_isH_1 (by decide) (by rw [c_753]; decide) (by decide) ?_
      refine lv_iconst (v := 1) hx hb d_Model_isH_84 (by decide) ?_
      have hk : k_Model_isH p1 = true := (by rw [k_Model_isH]; rw [if_neg c_752]; rw [if_pos c_753]; try rfl)
      exact ct_rz hx hb hr hlocks hP hD hK hS d_Model_isH_85 rfl (by rw [hk]; first | done | rfl) rfl
    · by_cases c_754 : p1 = 1539
      · refine lv_lookup (off := 83) (tgt := 84) hx hb d_Model_isH_1 (by decide) (by rw [c_754]; decide) (by decide) ?_
        refine lv_iconst (v := 1) hx hb d_Model_isH_84 (by decide) ?_
        have hk : k_Model_isH p1 = true := (by rw [k_Model_isH]; rw [if_neg c_752]; rw [if_neg c_753]; rw [if_pos c_754]; try rfl)
        exact ct_rz hx hb hr hlocks hP hD hK hS d_Model_isH_85 rfl (by rw [hk]; first | done | rfl) rfl
      · by_cases c_755 : p1 = 1540
        · refine lv_lookup (off := 83) (tgt := 84) hx hb d_Model_isH_1 (by decide) (by rw [c_755]; decide) (by decide) ?_
          refine lv_iconst (v := 1) hx hb d_Model_isH_84 (by decide) ?_
          have hk : k_Model_isH p1 = true := (by rw [k_Model_isH]; rw [if_neg c_752]; rw [if_neg c_753]; rw [if_neg c_754]; rw [if_pos c_755]; try rfl)
          exact ct_rz hx hb hr hlocks hP hD hK hS d_Model_isH_85 rfl (by rw [hk]; first | done | rfl) rfl
        · by_cases c_756 : p1 = 1603
          · refine lv_lookup (off := 83) (tgt := 84) hx hb d_Model_isH_1 (by decide) (by rw [c_756]; decide) (by decide) ?_
            refine lv_iconst (v := 1) hx hb d_Model_isH_84 (by decide) ?_
            have hk : k_Model_isH p1 = true := (by rw [k_Model_isH]; rw [if_neg c_752]; rw [if_neg c_753]; rw [if_neg c_754]; rw [if_neg c_755]; rw [if_pos c_756]; try rfl)
            exact ct_rz hx hb hr hlocks hP hD hK hS d_Model_isH_85 rfl (by rw [hk]; first | done | rfl) rfl
          · by_cases c_757 : p1 = 1604
            · refine lv_lookup (off := 83) (tgt := 84) hx hb d_Model_isH_1 (by decide) (by rw [c_757]; decide) (by decide) ?_
              refine lv_iconst (v := 1) hx hb d_Model_isH_84 (by decide) ?_
              have hk : k_Model_isH p1 = true := (by rw [k_Model_isH]; rw [if_neg c_752]; rw [if_neg c_753]; rw [if_neg c_754]; rw [if_neg c_755]; rw [if_neg c_756]; rw [if_pos c_757]; try rfl)
              exact ct_rz hx hb hr hlocks hP hD hK hS d_Model_isH_85 rfl (by rw [hk]; first | done | rfl) rfl
            · by_cases c_758 : p1 = 1605
              · refine lv_lookup (off := 83) (tgt := 84) hx hb d_Model_isH_1 (by decide) (by rw [c_758]; decide) (by decide) ?_
                refine lv_iconst (v := 1) hx hb d_Model_isH_84 (by decide) ?_
                have hk : k_Model_isH p1 = true := (by rw [k_Model_isH]; rw [if_neg c_752]; rw [if_neg c_753]; rw [if_neg c_754]; rw [if_neg c_755]; rw [if_neg c_756]; rw [if_neg c_757]; rw [if_pos c_758]; try rfl)
                exact ct_rz hx hb hr hlocks hP hD hK hS d_Model_isH_85 rfl (by rw [hk]; first | done | rfl) rfl
              · by_cases c_759 : p1 = 1610
                · refine lv_lookup (off := 83) (tgt := 84) hx hb d_Model_isH_1 (by decide) (by rw [c_759]; decide) (by decide) ?_
                  refine lv_iconst (v := 1) hx hb d_Model_isH_84 (by decide) ?_
                  have hk : k_Model_isH p1 = true := (by rw [k_Model_isH]; rw [if_neg c_752]; rw [if_neg c_753]; rw [if_neg c_754]; rw [if_neg c_755]; rw [if_neg c_756]; rw [if_neg c_757]; rw [if_neg c_758]; rw [if_pos c_759]; try rfl)
                  exact ct_rz hx hb hr hlocks hP hD hK hS d_Model_isH_85 rfl (by rw [hk]; first | done | rfl) rfl
                · by_cases c_760 : p1 = 1664
                  · refine lv_lookup (off := 83) (tgt := 84) hx hb d_Model_isH_1 (by decide) (by rw [c_760]; decide) (by decide) ?_
                    refine lv_iconst (v := 1) hx hb d_Model_isH_84 (by decide) ?_
                    have hk : k_Model_isH p1 = true := (by rw [k_Model_isH]; rw [if_neg c_752]; rw [if_neg c_753]; rw [if_neg c_754]; rw [if_neg c_755]; rw [if_neg c_756]; rw [if_neg c_757]; rw [if_neg c_758]; rw [if_neg c_759]; rw [if_pos c_760]; try rfl)
                    exact ct_rz hx hb hr hlocks hP hD hK hS d_Model_isH_85 rfl (by rw [hk]; first | done | rfl) rfl
                  · refine lv_lookup (off := 85) (tgt := 86) hx hb d_Model_isH_1 (by decide) ((lv_osw c_752 (by decide)).trans ((lv_osw c_753 (by decide)).trans ((lv_osw c_754 (by decide)).trans ((lv_osw c_755 (by decide)).trans ((lv_osw c_756 (by decide)).trans ((lv_osw c_757 (by decide)).trans ((lv_osw c_758 (by decide)).trans ((lv_osw c_759 (by decide)).trans ((lv_osw c_760 (by decide)).trans rfl))))))))) (by decide) ?_
                    refine lv_iconst (v := 0) hx hb d_Model_isH_86 (by decide) ?_
                    have hk : k_Model_isH p1 = false := (by rw [k_Model_isH]; rw [if_neg c_752]; rw [if_neg c_753]; rw [if_neg c_754]; rw [if_neg c_755]; rw [if_neg c_756]; rw [if_neg c_757]; rw [if_neg c_758]; rw [if_neg c_759]; rw [if_neg c_760]; try rfl)
                    exact ct_rz hx hb hr hlocks hP hD hK hS d_Model_isH_87 rfl (by rw [hk]; first | done | rfl) rfl
def k_Model_isOne_j26 (p1 : Int32) (v1 : Int32) : Bool :=
  if (bI (k_Model_isH p1)) = 0 then (if (bI (k_Model_isTime p1)) = 0 then false else true) else true
def k_Model_isOne_j15 (p1 : Int32) (v1 : Int32) : Bool :=
  if (bI (k_Model_isKind (p1 &&& 255))) = 0 then (k_Model_isOne_j26 p1 v1) else true
def k_Model_isOne (p1 : Int32) : Bool :=
  if (p1 >>> ((8 : Int32) &&& 31)) = 1 then (k_Model_isOne_j15 p1 (p1 >>> ((8 : Int32) &&& 31))) else (if (p1 >>> ((8 : Int32) &&& 31)) = 2 then (k_Model_isOne_j15 p1 (p1 >>> ((8 : Int32) &&& 31))) else (k_Model_isOne_j26 p1 (p1 >>> ((8 : Int32) &&& 31))))
set_option maxHeartbeats 4000000 in
set_option maxRecDepth 100000 in
theorem c_Model_isOne (l : Launch) (G : gx) (tys : List (ClassId × FieldType)) (p1 : Int32) : ct_I l y_Model_isOne ws_Model_isOne ({ frames := 1, cells := 0, slots := 0, locals := 20 }) G tys [.int p1] [] (bI (k_Model_isOne p1)) [] := by
  refine ct_hI (cc := cc_Model_isOne) (maxL := 2) (ret := (some .boolean)) (by decide) rfl (Nat.le_of_ble_eq_true rfl) ?_
  intro p e s m below meth c A ls hx hb hr hml hts hown hlocks hP hK hD hA hE hS hl
  have hl : lv_has ls 2 [(0, .int p1)] := hl
  have hown : s.vm.findClass R_Model = some m.cls := hown
  have J26 : ∀ (v1 : Int32) (H : Heap) (locs : List Loc) (ls : Array Slot), k_Model_isOne p1 = k_Model_isOne_j26 p1 v1 → va_P G.1 vwCl [] H → va_D A [] → va_S A s.heap H locs → lv_has ls 2 [(0, .int p1), (1, .int v1)] → W p l e ({ frames := 1, cells := 0, slots := 0, locals := 20 }) s m ([.int p1] : List Value).toArray below meth c H locs 0 0 (MQ below (ct_qi G tys A (bI (k_Model_isOne p1)) []) ([.int p1] : List Value).toArray s 0 0 A) (F0 m 26 ls []) := by
    intro v1 H locs ls hj hP hD hS hl
    refine lv_iload_n hx hb d_Model_isOne_26 rfl (lv_at hl 0 rfl) ?_
    refine ct_cSi (wr := []) (w1 := []) (w2 := []) (r := (bI (k_Model_isH p1))) (As := [.int p1]) (rest := []) ⟨hx, hb, hml, hown, hts⟩ (c_Model_isH l G tys p1) (va_cwS 1 hts (gdS gd_gd q_689 q_690 q_47 q_691) rfl rfl rfl (by decide +kernel) ⟨Nat.le_of_ble_eq_true rfl, Nat.le_of_ble_eq_true rfl⟩) hE hK hP hD hS hA [] [] [] rfl (by decide) rfl (by decide) (by decide) rfl (by decide) rfl hl.1 rfl (Nat.le_of_ble_eq_true rfl) d_Model_isOne_27 ⟨Nat.zero_le _, Nat.zero_le _⟩ (fun H locs hP hD hS => ?_)
    refine lv_if_ne (tgt := 40) hx hb d_Model_isOne_30 (by decide) (fun c_766 => ?_) (fun c_766 => ?_)
    · refine lv_iconst (v := 1) hx hb d_Model_isOne_40 (by decide) ?_
      refine lv_goto (tgt := 45) hx hb d_Model_isOne_41 (by decide) ?_
      have hk : k_Model_isOne p1 = true := (hj.trans (by rw [k_Model_isOne_j26]; rw [if_neg c_766]; try rfl))
      exact ct_rz hx hb hr hlocks hP hD hK hS d_Model_isOne_45 rfl (by rw [hk]; first | done | rfl) rfl
    · refine lv_iload_n hx hb d_Model_isOne_33 rfl (lv_at hl 0 rfl) ?_
      refine ct_cSi (wr := []) (w1 := []) (w2 := []) (r := (bI (k_Model_isTime p1))) (As := [.int p1]) (rest := []) ⟨hx, hb, hml, hown, hts⟩ (c_Model_isTime l G tys p1) (va_cwS 1 hts (gdS gd_gd q_692 q_693 q_47 q_694) rfl rfl rfl (by decide +kernel) ⟨Nat.le_of_ble_eq_true rfl, Nat.le_of_ble_eq_true rfl⟩) hE hK hP hD hS hA [] [] [] rfl (by decide) rfl (by decide) (by decide) rfl (by decide) rfl hl.1 rfl (Nat.le_of_ble_eq_true rfl) d_Model_isOne_34 ⟨Nat.zero_le _, Nat.zero_le _⟩ (fun H locs hP hD hS => ?_)
      refine lv_if_eq (tgt := 44) hx hb d_Model_isOne_37 (by decide) (fun c_767 => ?_) (fun c_767 => ?_)
      · refine lv_iconst (v := 0) hx hb d_Model_isOne_44 (by decide) ?_
        have hk : k_Model_isOne p1 = false := (hj.trans (by rw [k_Model_isOne_j26]; rw [if_pos c_766]; rw [if_pos c_767]; try rfl))
        exact ct_rz hx hb hr hlocks hP hD hK hS d_Model_isOne_45 rfl (by rw [hk]; first | done | rfl) rfl
      · refine lv_iconst (v := 1) hx hb d_Model_isOne_40 (by decide) ?_
        refine lv_goto (tgt := 45) hx hb d_Model_isOne_41 (by decide) ?_
        have hk : k_Model_isOne p1 = true := (hj.trans (by rw [k_Model_isOne_j26]; rw [if_pos c_766]; rw [if_neg c_767]; try rfl))
        exact ct_rz hx hb hr hlocks hP hD hK hS d_Model_isOne_45 rfl (by rw [hk]; first | done | rfl) rfl
  have J15 : ∀ (v1 : Int32) (H : Heap) (locs : List Loc) (ls : Array Slot), k_Model_isOne p1 = k_Model_isOne_j15 p1 v1 → va_P G.1 vwCl [] H → va_D A [] → va_S A s.heap H locs → lv_has ls 2 [(0, .int p1), (1, .int v1)] → W p l e ({ frames := 1, cells := 0, slots := 0, locals := 20 }) s m ([.int p1] : List Value).toArray below meth c H locs 0 0 (MQ below (ct_qi G tys A (bI (k_Model_isOne p1)) []) ([.int p1] : List Value).toArray s 0 0 A) (F0 m 15 ls []) := by
    intro v1 H locs ls hj hP hD hS hl
    refine lv_iload_n hx hb d_Model_isOne_15 rfl (lv_at hl 0 rfl) ?_
    refine lv_sipush (v := 255) hx hb d_Model_isOne_16 (by decide) ?_
    refine lv_iand hx hb d_Model_isOne_19 ?_
    refine ct_cSi (wr := []) (w1 := []) (w2 := []) (r := (bI (k_Model_isKind (p1 &&& 255)))) (As := [.int (p1 &&& 255)]) (rest := []) ⟨hx, hb, hml, hown, hts⟩ (c_Model_isKind l G tys (p1 &&& 255)) (va_cwS 1 hts (gdS gd_gd q_686 q_687 q_47 q_688) rfl rfl rfl (by decide +kernel) ⟨Nat.le_of_ble_eq_true rfl, Nat.le_of_ble_eq_true rfl⟩) hE hK hP hD hS hA [] [] [] rfl (by decide) rfl (by decide) (by decide) rfl (by decide) rfl hl.1 rfl (Nat.le_of_ble_eq_true rfl) d_Model_isOne_20 ⟨Nat.zero_le _, Nat.zero_le _⟩ (fun H locs hP hD hS => ?_)
    refine lv_if_ne (tgt := 40) hx hb d_Model_isOne_23 (by decide) (fun c_768 => ?_) (fun c_768 => ?_)
    · refine lv_iconst (v := 1) hx hb d_Model_isOne_40 (by decide) ?_
      refine lv_goto (tgt := 45) hx hb d_Model_isOne_41 (by decide) ?_
      have hk : k_Model_isOne p1 = true := (hj.trans (by rw [k_Model_isOne_j15]; rw [if_neg c_768]; try rfl))
      exact ct_rz hx hb hr hlocks hP hD hK hS d_Model_isOne_45 rfl (by rw [hk]; first | done | rfl) rfl
    · exact J26 v1 H locs ls (hj.trans (by rw [k_Model_isOne_j15]; rw [if_pos c_768]; try rfl)) hP hD hS (lv_sub hl [0, 1] rfl)
  obtain ⟨H, eH⟩ : ∃ z, z = s.heap := ⟨_, rfl⟩
  obtain ⟨locs, eL⟩ : ∃ z, z = ([] : List Loc) := ⟨_, rfl⟩
  have hP : va_P G.1 vwCl [] H := by rw [eH]; exact hP
  have hS : va_S A s.heap H locs := by rw [eH, eL]; exact hS
  suffices hW : W p l e ({ frames := 1, cells := 0, slots := 0, locals := 20 }) s m ([.int p1] : List Value).toArray below meth c H locs 0 0 (MQ below (ct_qi G tys A (bI (k_Model_isOne p1)) []) ([.int p1] : List Value).toArray s 0 0 A) (F0 m 0 ls []) by rw [eH, eL] at hW; exact hW
  refine lv_iload_n hx hb d_Model_isOne_0 rfl (lv_at hl 0 rfl) ?_
  refine lv_bipush (v := 8) hx hb d_Model_isOne_1 (by decide) ?_
  refine lv_ishr hx hb d_Model_isOne_3 ?_
  refine lv_istore_n (lv' := [(1, .int (p1 >>> ((8 : Int32) &&& 31))), (0, .int p1)]) hx hb d_Model_isOne_4 rfl hl (by decide) rfl (fun ls hl => ?_)
  refine lv_iload_n hx hb d_Model_isOne_5 rfl (lv_at hl 0 rfl) ?_
  refine lv_iconst (v := 1) hx hb d_Model_isOne_6 (by decide) ?_
  refine lv_icmp_eq (tgt := 15) hx hb d_Model_isOne_7 (by decide) (fun c_769 => ?_) (fun c_769 => ?_)
  · exact J15 (p1 >>> ((8 : Int32) &&& 31)) H locs ls (by rw [k_Model_isOne]; rw [if_pos c_769]; try rfl) hP hD hS (lv_sub hl [1, 0] rfl)
  · refine lv_iload_n hx hb d_Model_isOne_10 rfl (lv_at hl 0 rfl) ?_
    refine lv_iconst (v := 2) hx hb d_Model_isOne_11 (by decide) ?_
    refine lv_icmp_ne (tgt := 26) hx hb d_Model_isOne_12 (by decide) (fun c_770 => ?_) (fun c_770 => ?_)
    · exact J26 (p1 >>> ((8 : Int32) &&& 31)) H locs ls (by rw [k_Model_isOne]; rw [if_neg c_769]; rw [if_neg c_770]; try rfl) hP hD hS (lv_sub hl [1, 0] rfl)
    · exact J15 (p1 >>> ((8 : Int32) &&& 31)) H locs ls (by rw [k_Model_isOne]; rw [if_neg c_769]; rw [if_pos c_770]; try rfl) hP hD hS (lv_sub hl [1, 0] rfl)
def k_Model_has (sm : ob) (p1 : Int32) : Bool :=
  if ((sm.1 15) &&& p1) = 0 then false else true
set_option maxHeartbeats 4000000 in
set_option maxRecDepth 100000 in
theorem c_Model_has (l : Launch) (G : gx) (tys : List (ClassId × FieldType)) (qm qp qk : Nat) (sm : ob) (p1 : Int32) : ct_I l y_Model_has ws_Model_has ({ frames := 0, cells := 0, slots := 0, locals := 0 }) G tys [.ref qm, .int p1] [(qm, .inr (6, f_Model qp qk sm))] (bI (k_Model_has sm p1)) [(qm, .inr (6, f_Model qp qk sm))] := by
  refine ct_hI (cc := cc_Model_has) (maxL := 2) (ret := (some .boolean)) (by decide) rfl (Nat.le_of_ble_eq_true rfl) ?_
  intro p e s m below meth c A ls hx hb hr hml hts hown hlocks hP hK hD hA hE hS hl
  have hl : lv_has ls 2 [(0, .ref qm), (1, .int p1)] := hl
  have hown : s.vm.findClass R_Model = some m.cls := hown
  refine lv_aload_n hx hb d_Model_has_0 rfl (lv_at hl 0 rfl) ?_
  refine va_get (D := G.1) (ci := 6) (v := .int (sm.1 15)) (C := R_Model) (T := T_Model) (N := 23) hx hb hts (fun w h => gd_sub _ (iw_Model w h)) hown hK hP 0 rfl rfl 15 (by decide) (hts _ (gd_sub _ q_622)) (fun _ h9 => h9) rfl d_Model_has_1 ?_
  refine lv_iload_n hx hb d_Model_has_4 rfl (lv_at hl 1 rfl) ?_
  refine lv_iand hx hb d_Model_has_5 ?_
  refine lv_if_eq (tgt := 13) hx hb d_Model_has_6 (by decide) (fun c_772 => ?_) (fun c_772 => ?_)
  · refine lv_iconst (v := 0) hx hb d_Model_has_13 (by decide) ?_
    have hk : k_Model_has sm p1 = false := (by rw [k_Model_has]; rw [if_pos c_772]; try rfl)
    exact ct_rz hx hb hr hlocks hP hD hK hS d_Model_has_14 rfl (by rw [hk]; first | done | rfl) rfl
  · refine lv_iconst (v := 1) hx hb d_Model_has_9 (by decide) ?_
    refine lv_goto (tgt := 14) hx hb d_Model_has_10 (by decide) ?_
    have hk : k_Model_has sm p1 = true := (by rw [k_Model_has]; rw [if_neg c_772]; try rfl)
    exact ct_rz hx hb hr hlocks hP hD hK hS d_Model_has_14 rfl (by rw [hk]; first | done | rfl) rfl
def k_Model_access_j75 (sm : ob) (p1 : Int32) (p2 : Bool) (t0 : Bool) : Int32 :=
  if (sm.1 0) = 3 then (if (bI t0) = 0 then 22 else 0) else 22
def k_Model_access_j74 (sm : ob) (p1 : Int32) (p2 : Bool) : Int32 :=
  k_Model_access_j75 sm p1 p2 false
def k_Model_access_j70 (sm : ob) (p1 : Int32) (p2 : Bool) : Int32 :=
  k_Model_access_j75 sm p1 p2 true
def k_Model_access_j20 (sm : ob) (p1 : Int32) (p2 : Bool) : Int32 :=
  if (sm.1 0) = 1 then 0 else (if (bI (k_Model_isTime p1)) = 0 then (if (sm.1 0) = 0 then 2 else (if (p1 >>> ((8 : Int32) &&& 31)) = 1 then (if p1 = 384 then (if (bI (k_Model_has sm 1048576)) = 0 then (k_Model_access_j70 sm p1 p2) else (k_Model_access_j74 sm p1 p2)) else (k_Model_access_j70 sm p1 p2)) else (k_Model_access_j74 sm p1 p2))) else 0)
def k_Model_access (sm : ob) (p1 : Int32) (p2 : Bool) : Int32 :=
  if (bI (k_Model_isOne p1)) = 0 then 2 else (if (bI p2) = 0 then (k_Model_access_j20 sm p1 p2) else (if (bI (k_Model_isTime p1)) = 0 then (k_Model_access_j20 sm p1 p2) else 2))
set_option maxHeartbeats 4000000 in
set_option maxRecDepth 100000 in
theorem c_Model_access (l : Launch) (G : gx) (tys : List (ClassId × FieldType)) (qm qp qk : Nat) (sm : ob) (p1 : Int32) (p2 : Bool) : ct_I l y_Model_access ws_Model_access ({ frames := 2, cells := 0, slots := 0, locals := 41 }) G tys [.ref qm, .int p1, .int (bI p2)] [(qm, .inr (6, f_Model qp qk sm))] (k_Model_access sm p1 p2) [(qm, .inr (6, f_Model qp qk sm))] := by
  refine ct_hI (cc := cc_Model_access) (maxL := 4) (ret := (some .int)) (by decide) rfl (Nat.le_of_ble_eq_true rfl) ?_
  intro p e s m below meth c A ls hx hb hr hml hts hown hlocks hP hK hD hA hE hS hl
  have hl : lv_has ls 4 [(0, .ref qm), (1, .int p1), (2, .int (bI p2))] := hl
  have hown : s.vm.findClass R_Model = some m.cls := hown
  have J75 : ∀ (t0 : Bool) (H : Heap) (locs : List Loc) (ls : Array Slot), k_Model_access sm p1 p2 = k_Model_access_j75 sm p1 p2 t0 → va_P G.1 vwCl [(qm, .inr (6, f_Model qp qk sm))] H → va_D A [(qm, .inr (6, f_Model qp qk sm))] → va_S A s.heap H locs → lv_has ls 4 [(0, .ref qm), (1, .int p1), (2, .int (bI p2))] → W p l e ({ frames := 2, cells := 0, slots := 0, locals := 41 }) s m ([.ref qm, .int p1, .int (bI p2)] : List Value).toArray below meth c H locs 0 0 (MQ below (ct_qi G tys A (k_Model_access sm p1 p2) [(qm, .inr (6, f_Model qp qk sm))]) ([.ref qm, .int p1, .int (bI p2)] : List Value).toArray s 0 0 A) (F0 m 75 ls [.int (bI t0)]) := by
    intro t0 H locs ls hj hP hD hS hl
    refine lv_istore_n (lv' := [(3, .int (bI t0)), (0, .ref qm), (1, .int p1), (2, .int (bI p2))]) hx hb d_Model_access_75 rfl hl (by decide) rfl (fun ls hl => ?_)
    refine lv_aload_n hx hb d_Model_access_76 rfl (lv_at hl 1 rfl) ?_
    refine va_get (D := G.1) (ci := 6) (v := .int (sm.1 0)) (C := R_Model) (T := T_Model) (N := 23) hx hb hts (fun w h => gd_sub _ (iw_Model w h)) hown hK hP 0 rfl rfl 0 (by decide) (hts _ (gd_sub _ q_607)) (fun _ h9 => h9) rfl d_Model_access_77 ?_
    refine lv_iconst (v := 3) hx hb d_Model_access_80 (by decide) ?_
    refine lv_icmp_ne (tgt := 92) hx hb d_Model_access_81 (by decide) (fun c_784 => ?_) (fun c_784 => ?_)
    · refine lv_bipush (v := 22) hx hb d_Model_access_92 (by decide) ?_
      have hk : k_Model_access sm p1 p2 = 22 := (hj.trans (by rw [k_Model_access_j75]; rw [if_neg c_784]; try rfl))
      exact ct_ri hx hb hr hlocks hP hD hK hS d_Model_access_94 (by rw [hk]; first | done | rfl) rfl
    · refine lv_iload_n hx hb d_Model_access_84 rfl (lv_at hl 0 rfl) ?_
      refine lv_if_eq (tgt := 92) hx hb d_Model_access_85 (by decide) (fun c_785 => ?_) (fun c_785 => ?_)
      · refine lv_bipush (v := 22) hx hb d_Model_access_92 (by decide) ?_
        have hk : k_Model_access sm p1 p2 = 22 := (hj.trans (by rw [k_Model_access_j75]; rw [if_pos c_784]; rw [if_pos c_785]; try rfl))
        exact ct_ri hx hb hr hlocks hP hD hK hS d_Model_access_94 (by rw [hk]; first | done | rfl) rfl
      · refine lv_iconst (v := 0) hx hb d_Model_access_88 (by decide) ?_
        refine lv_goto (tgt := 94) hx hb d_Model_access_89 (by decide) ?_
        have hk : k_Model_access sm p1 p2 = 0 := (hj.trans (by rw [k_Model_access_j75]; rw [if_pos c_784]; rw [if_neg c_785]; try rfl))
        exact ct_ri hx hb hr hlocks hP hD hK hS d_Model_access_94 (by rw [hk]; first | done | rfl) rfl
  have J74 : ∀ (H : Heap) (locs : List Loc) (ls : Array Slot), k_Model_access sm p1 p2 = k_Model_access_j74 sm p1 p2 → va_P G.1 vwCl [(qm, .inr (6, f_Model qp qk sm))] H → va_D A [(qm, .inr (6, f_Model qp qk sm))] → va_S A s.heap H locs → lv_has ls 4 [(0, .ref qm), (1, .int p1), (2, .int (bI p2))] → W p l e ({ frames := 2, cells := 0, slots := 0, locals := 41 }) s m ([.ref qm, .int p1, .int (bI p2)] : List Value).toArray below meth c H locs 0 0 (MQ below (ct_qi G tys A (k_Model_access sm p1 p2) [(qm, .inr (6, f_Model qp qk sm))]) ([.ref qm, .int p1, .int (bI p2)] : List Value).toArray s 0 0 A) (F0 m 74 ls []) := by
    intro H locs ls hj hP hD hS hl
    refine lv_iconst (v := 0) hx hb d_Model_access_74 (by decide) ?_
    exact J75 false H locs ls (hj.trans (by rw [k_Model_access_j74]; try rfl)) hP hD hS (lv_sub hl [0, 1, 2] rfl)
  have J70 : ∀ (H : Heap) (locs : List Loc) (ls : Array Slot), k_Model_access sm p1 p2 = k_Model_access_j70 sm p1 p2 → va_P G.1 vwCl [(qm, .inr (6, f_Model qp qk sm))] H → va_D A [(qm, .inr (6, f_Model qp qk sm))] → va_S A s.heap H locs → lv_has ls 4 [(0, .ref qm), (1, .int p1), (2, .int (bI p2))] → W p l e ({ frames := 2, cells := 0, slots := 0, locals := 41 }) s m ([.ref qm, .int p1, .int (bI p2)] : List Value).toArray below meth c H locs 0 0 (MQ below (ct_qi G tys A (k_Model_access sm p1 p2) [(qm, .inr (6, f_Model qp qk sm))]) ([.ref qm, .int p1, .int (bI p2)] : List Value).toArray s 0 0 A) (F0 m 70 ls []) := by
    intro H locs ls hj hP hD hS hl
    refine lv_iconst (v := 1) hx hb d_Model_access_70 (by decide) ?_
    refine lv_goto (tgt := 75) hx hb d_Model_access_71 (by decide) ?_
    exact J75 true H locs ls (hj.trans (by rw [k_Model_access_j70]; try rfl)) hP hD hS (lv_sub hl [0, 1, 2] rfl)
  have J20 : ∀ (H : Heap) (locs : List Loc) (ls : Array Slot), k_Model_access sm p1 p2 = k_Model_access_j20 sm p1 p2 → va_P G.1 vwCl [(qm, .inr (6, f_Model qp qk sm))] H → va_D A [(qm, .inr (6, f_Model qp qk sm))] → va_S A s.heap H locs → lv_has ls 4 [(0, .ref qm), (1, .int p1), (2, .int (bI p2))] → W p l e ({ frames := 2, cells := 0, slots := 0, locals := 41 }) s m ([.ref qm, .int p1, .int (bI p2)] : List Value).toArray below meth c H locs 0 0 (MQ below (ct_qi G tys A (k_Model_access sm p1 p2) [(qm, .inr (6, f_Model qp qk sm))]) ([.ref qm, .int p1, .int (bI p2)] : List Value).toArray s 0 0 A) (F0 m 20 ls []) := by
    intro H locs ls hj hP hD hS hl
    refine lv_aload_n hx hb d_Model_access_20 rfl (lv_at hl 0 rfl) ?_
    refine va_get (D := G.1) (ci := 6) (v := .int (sm.1 0)) (C := R_Model) (T := T_Model) (N := 23) hx hb hts (fun w h => gd_sub _ (iw_Model w h)) hown hK hP 0 rfl rfl 0 (by decide) (hts _ (gd_sub _ q_607)) (fun _ h9 => h9) rfl d_Model_access_21 ?_
    refine lv_iconst (v := 1) hx hb d_Model_access_24 (by decide) ?_
    refine lv_icmp_eq (tgt := 35) hx hb d_Model_access_25 (by decide) (fun c_786 => ?_) (fun c_786 => ?_)
    · refine lv_iconst (v := 0) hx hb d_Model_access_35 (by decide) ?_
      have hk : k_Model_access sm p1 p2 = 0 := (hj.trans (by rw [k_Model_access_j20]; rw [if_pos c_786]; try rfl))
      exact ct_ri hx hb hr hlocks hP hD hK hS d_Model_access_36 (by rw [hk]; first | done | rfl) rfl
    · refine lv_iload_n hx hb d_Model_access_28 rfl (lv_at hl 1 rfl) ?_
      refine ct_cSi (wr := [(qm, .inr (6, f_Model qp qk sm))]) (w1 := []) (w2 := [(qm, .inr (6, f_Model qp qk sm))]) (r := (bI (k_Model_isTime p1))) (As := [.int p1]) (rest := []) ⟨hx, hb, hml, hown, hts⟩ (c_Model_isTime l G tys p1) (va_cwS 1 hts (gdS gd_gd q_692 q_693 q_47 q_694) rfl rfl rfl (by decide +kernel) ⟨Nat.le_of_ble_eq_true rfl, Nat.le_of_ble_eq_true rfl⟩) hE hK hP hD hS hA [] [0] [0] rfl (by decide) rfl (by decide) (by decide) rfl (by decide) rfl hl.1 rfl (Nat.le_of_ble_eq_true rfl) d_Model_access_29 ⟨Nat.zero_le _, Nat.zero_le _⟩ (fun H locs hP hD hS => ?_)
      refine lv_if_eq (tgt := 37) hx hb d_Model_access_32 (by decide) (fun c_787 => ?_) (fun c_787 => ?_)
      · refine lv_aload_n hx hb d_Model_access_37 rfl (lv_at hl 0 rfl) ?_
        refine va_get (D := G.1) (ci := 6) (v := .int (sm.1 0)) (C := R_Model) (T := T_Model) (N := 23) hx hb hts (fun w h => gd_sub _ (iw_Model w h)) hown hK hP 0 rfl rfl 0 (by decide) (hts _ (gd_sub _ q_607)) (fun _ h9 => h9) rfl d_Model_access_38 ?_
        refine lv_if_ne (tgt := 46) hx hb d_Model_access_41 (by decide) (fun c_788 => ?_) (fun c_788 => ?_)
        · refine lv_iload_n hx hb d_Model_access_46 rfl (lv_at hl 1 rfl) ?_
          refine lv_bipush (v := 8) hx hb d_Model_access_47 (by decide) ?_
          refine lv_ishr hx hb d_Model_access_49 ?_
          refine lv_iconst (v := 1) hx hb d_Model_access_50 (by decide) ?_
          refine lv_icmp_ne (tgt := 74) hx hb d_Model_access_51 (by decide) (fun c_789 => ?_) (fun c_789 => ?_)
          · exact J74 H locs ls (hj.trans (by rw [k_Model_access_j20]; rw [if_neg c_786]; rw [if_pos c_787]; rw [if_neg c_788]; rw [if_neg c_789]; try rfl)) hP hD hS (lv_sub hl [0, 1, 2] rfl)
          · refine lv_iload_n hx hb d_Model_access_54 rfl (lv_at hl 1 rfl) ?_
            refine lv_sipush (v := 384) hx hb d_Model_access_55 (by decide) ?_
            refine lv_icmp_ne (tgt := 70) hx hb d_Model_access_58 (by decide) (fun c_790 => ?_) (fun c_790 => ?_)
            · exact J70 H locs ls (hj.trans (by rw [k_Model_access_j20]; rw [if_neg c_786]; rw [if_pos c_787]; rw [if_neg c_788]; rw [if_pos c_789]; rw [if_neg c_790]; try rfl)) hP hD hS (lv_sub hl [0, 1, 2] rfl)
            · refine lv_aload_n hx hb d_Model_access_61 rfl (lv_at hl 0 rfl) ?_
              refine lv_ldc (v := 1048576) hx hb hown (hts _ (gd_sub _ q_771)) d_Model_access_62 ?_
              refine ct_cVi (wr := []) (w1 := [(qm, .inr (6, f_Model qp qk sm))]) (w2 := [(qm, .inr (6, f_Model qp qk sm))]) (r := (bI (k_Model_has sm 1048576))) (As := [.int 1048576]) (rest := []) (ci := 6) (q0 := 0) ⟨hx, hb, hml, hown, hts⟩ (c_Model_has l G tys qm qp qk sm 1048576) (cwV 1 hts (gdV gd_gd q_763 q_765 q_29 q_47 q_766) rfl rfl rfl (by decide +kernel) ⟨Nat.le_of_ble_eq_true rfl, Nat.le_of_ble_eq_true rfl⟩) hE hK hP hD hS hA [0] [] [0] rfl (by decide) rfl (by decide) (by decide) rfl (by decide) rfl rfl rfl hl.1 rfl (Nat.le_of_ble_eq_true rfl) d_Model_access_64 ⟨Nat.zero_le _, Nat.zero_le _⟩ (fun H locs hP hD hS => ?_)
              refine lv_if_ne (tgt := 74) hx hb d_Model_access_67 (by decide) (fun c_791 => ?_) (fun c_791 => ?_)
              · exact J74 H locs ls (hj.trans (by rw [k_Model_access_j20]; rw [if_neg c_786]; rw [if_pos c_787]; rw [if_neg c_788]; rw [if_pos c_789]; rw [if_pos c_790]; rw [if_neg c_791]; try rfl)) hP hD hS (lv_sub hl [0, 1, 2] rfl)
              · exact J70 H locs ls (hj.trans (by rw [k_Model_access_j20]; rw [if_neg c_786]; rw [if_pos c_787]; rw [if_neg c_788]; rw [if_pos c_789]; rw [if_pos c_790]; rw [if_pos c_791]; try rfl)) hP hD hS (lv_sub hl [0, 1, 2] rfl)
        · refine lv_iconst (v := 2) hx hb d_Model_access_44 (by decide) ?_
          have hk : k_Model_access sm p1 p2 = 2 := (hj.trans (by rw [k_Model_access_j20]; rw [if_neg c_786]; rw [if_pos c_787]; rw [if_pos c_788]; try rfl))
          exact ct_ri hx hb hr hlocks hP hD hK hS d_Model_access_45 (by rw [hk]; first | done | rfl) rfl
      · refine lv_iconst (v := 0) hx hb d_Model_access_35 (by decide) ?_
        have hk : k_Model_access sm p1 p2 = 0 := (hj.trans (by rw [k_Model_access_j20]; rw [if_neg c_786]; rw [if_neg c_787]; try rfl))
        exact ct_ri hx hb hr hlocks hP hD hK hS d_Model_access_36 (by rw [hk]; first | done | rfl) rfl
  obtain ⟨H, eH⟩ : ∃ z, z = s.heap := ⟨_, rfl⟩
  obtain ⟨locs, eL⟩ : ∃ z, z = ([] : List Loc) := ⟨_, rfl⟩
  have hP : va_P G.1 vwCl [(qm, .inr (6, f_Model qp qk sm))] H := by rw [eH]; exact hP
  have hS : va_S A s.heap H locs := by rw [eH, eL]; exact hS
  suffices hW : W p l e ({ frames := 2, cells := 0, slots := 0, locals := 41 }) s m ([.ref qm, .int p1, .int (bI p2)] : List Value).toArray below meth c H locs 0 0 (MQ below (ct_qi G tys A (k_Model_access sm p1 p2) [(qm, .inr (6, f_Model qp qk sm))]) ([.ref qm, .int p1, .int (bI p2)] : List Value).toArray s 0 0 A) (F0 m 0 ls []) by rw [eH, eL] at hW; exact hW
  refine lv_iload_n hx hb d_Model_access_0 rfl (lv_at hl 1 rfl) ?_
  refine ct_cSi (wr := [(qm, .inr (6, f_Model qp qk sm))]) (w1 := []) (w2 := [(qm, .inr (6, f_Model qp qk sm))]) (r := (bI (k_Model_isOne p1))) (As := [.int p1]) (rest := []) ⟨hx, hb, hml, hown, hts⟩ (c_Model_isOne l G tys p1) (va_cwS 1 hts (gdS gd_gd q_683 q_684 q_47 q_685) rfl rfl rfl (by decide +kernel) ⟨Nat.le_of_ble_eq_true rfl, Nat.le_of_ble_eq_true rfl⟩) hE hK hP hD hS hA [] [0] [0] rfl (by decide) rfl (by decide) (by decide) rfl (by decide) rfl hl.1 rfl (Nat.le_of_ble_eq_true rfl) d_Model_access_1 ⟨Nat.zero_le _, Nat.zero_le _⟩ (fun H locs hP hD hS => ?_)
  refine lv_if_eq (tgt := 18) hx hb d_Model_access_4 (by decide) (fun c_792 => ?_) (fun c_792 => ?_)
  · refine lv_iconst (v := 2) hx hb d_Model_access_18 (by decide) ?_
    have hk : k_Model_access sm p1 p2 = 2 := (by rw [k_Model_access]; rw [if_pos c_792]; try rfl)
    exact ct_ri hx hb hr hlocks hP hD hK hS d_Model_access_19 (by rw [hk]; first | done | rfl) rfl
  · refine lv_iload_n hx hb d_Model_access_7 rfl (lv_at hl 2 rfl) ?_
    refine lv_if_eq (tgt := 20) hx hb d_Model_access_8 (by decide) (fun c_793 => ?_) (fun c_793 => ?_)
    · exact J20 H locs ls (by rw [k_Model_access]; rw [if_neg c_792]; rw [if_pos c_793]; try rfl) hP hD hS (lv_sub hl [0, 1, 2] rfl)
    · refine lv_iload_n hx hb d_Model_access_11 rfl (lv_at hl 1 rfl) ?_
      refine ct_cSi (wr := [(qm, .inr (6, f_Model qp qk sm))]) (w1 := []) (w2 := [(qm, .inr (6, f_Model qp qk sm))]) (r := (bI (k_Model_isTime p1))) (As := [.int p1]) (rest := []) ⟨hx, hb, hml, hown, hts⟩ (c_Model_isTime l G tys p1) (va_cwS 1 hts (gdS gd_gd q_692 q_693 q_47 q_694) rfl rfl rfl (by decide +kernel) ⟨Nat.le_of_ble_eq_true rfl, Nat.le_of_ble_eq_true rfl⟩) hE hK hP hD hS hA [] [0] [0] rfl (by decide) rfl (by decide) (by decide) rfl (by decide) rfl hl.1 rfl (Nat.le_of_ble_eq_true rfl) d_Model_access_12 ⟨Nat.zero_le _, Nat.zero_le _⟩ (fun H locs hP hD hS => ?_)
      refine lv_if_eq (tgt := 20) hx hb d_Model_access_15 (by decide) (fun c_794 => ?_) (fun c_794 => ?_)
      · exact J20 H locs ls (by rw [k_Model_access]; rw [if_neg c_792]; rw [if_neg c_793]; rw [if_pos c_794]; try rfl) hP hD hS (lv_sub hl [0, 1, 2] rfl)
      · refine lv_iconst (v := 2) hx hb d_Model_access_18 (by decide) ?_
        have hk : k_Model_access sm p1 p2 = 2 := (by rw [k_Model_access]; rw [if_neg c_792]; rw [if_neg c_793]; rw [if_neg c_794]; try rfl)
        exact ct_ri hx hb hr hlocks hP hD hK hS d_Model_access_19 (by rw [hk]; first | done | rfl) rfl
