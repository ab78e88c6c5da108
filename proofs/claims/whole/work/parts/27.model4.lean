def k_Model_trap_j28 (sm : ob) (sk : Nat → Int32) (p1 : Int32) (p2 : Int32) (p3 : Bool) (p4 : Int32) (p5 : Bool) : ob × (Nat → Int32) :=
  (((k_Model_toS sm sk p1 p2 p3 p4 p5).1), ((k_Model_toS sm sk p1 p2 p3 p4 p5).2))
def k_Model_trap (sm : ob) (sk : Nat → Int32) (p1 : Int32) (p2 : Int32) (p3 : Bool) (p4 : Int32) (p5 : Bool) : ob × (Nat → Int32) :=
  if (bI (k_Model_isVirtual sm)) = 0 then (k_Model_trap_j28 sm sk p1 p2 p3 p4 p5) else (if ((ush (sm.1 16) p1) &&& 1) = 1 then (((k_Model_toVs sm sk p1 p2).1), ((k_Model_toVs sm sk p1 p2).2)) else (k_Model_trap_j28 sm sk p1 p2 p3 p4 p5))
set_option maxHeartbeats 4000000 in
set_option maxRecDepth 100000 in
theorem c_Model_trap (l : Launch) (G : gx) (tys : List (ClassId × FieldType)) {cD : ClassId} (ht2 : tys[2]? = some (cD, .int)) (qm qk qp : Nat) (sm : ob) (sk : Nat → Int32) (p1 : Int32) (p2 : Int32) (p3 : Bool) (p4 : Int32) (p5 : Bool) : ct_V l y_Model_trap ws_Model_trap ({ frames := 2, cells := 0, slots := 0, locals := 54 }) G tys [.ref qm, .int p1, .int p2, .int (bI p3), .int p4, .int (bI p5)] [(qm, .inr (6, f_Model qp qk sm)), (qk, .inl (cD, 512, .inl sk))] [(qm, .inr (6, f_Model qp qk ((k_Model_trap sm sk p1 p2 p3 p4 p5).1))), (qk, .inl (cD, 512, .inl ((k_Model_trap sm sk p1 p2 p3 p4 p5).2)))] := by
  refine ct_hV (cc := cc_Model_trap) (maxL := 6) (ret := none) (by decide) rfl (Nat.le_of_ble_eq_true rfl) ?_
  intro p e s m below meth c A ls hx hb hr hml hts hown hlocks hP hK hD hA hE hS hl
  have hl : lv_has ls 6 [(0, .ref qm), (1, .int p1), (2, .int p2), (3, .int (bI p3)), (4, .int p4), (5, .int (bI p5))] := hl
  have hown : s.vm.findClass R_Model = some m.cls := hown
  have J28 : ∀ (H : Heap) (locs : List Loc) (ls : Array Slot), k_Model_trap sm sk p1 p2 p3 p4 p5 = k_Model_trap_j28 sm sk p1 p2 p3 p4 p5 → va_P G.1 vwCl [(qm, .inr (6, f_Model qp qk sm)), (qk, .inl (cD, 512, .inl sk))] H → va_D A [(qm, .inr (6, f_Model qp qk sm)), (qk, .inl (cD, 512, .inl sk))] → va_S A s.heap H locs → lv_has ls 6 [(0, .ref qm), (1, .int p1), (2, .int p2), (3, .int (bI p3)), (4, .int p4), (5, .int (bI p5))] → W p l e ({ frames := 2, cells := 0, slots := 0, locals := 54 }) s m ([.ref qm, .int p1, .int p2, .int (bI p3), .int p4, .int (bI p5)] : List Value).toArray below meth c H locs 0 0 (MQ below (ct_qv G tys A [(qm, .inr (6, f_Model qp qk ((k_Model_trap sm sk p1 p2 p3 p4 p5).1))), (qk, .inl (cD, 512, .inl ((k_Model_trap sm sk p1 p2 p3 p4 p5).2)))]) ([.ref qm, .int p1, .int p2, .int (bI p3), .int p4, .int (bI p5)] : List Value).toArray s 0 0 A) (F0 m 28 ls []) := by
    intro H locs ls hj hP hD hS hl
    refine lv_aload_n hx hb d_Model_trap_28 rfl (lv_at hl 0 rfl) ?_
    refine lv_iload_n hx hb d_Model_trap_29 rfl (lv_at hl 1 rfl) ?_
    refine lv_iload_n hx hb d_Model_trap_30 rfl (lv_at hl 2 rfl) ?_
    refine lv_iload_n hx hb d_Model_trap_31 rfl (lv_at hl 3 rfl) ?_
    refine lv_iload hx hb d_Model_trap_32 (lv_at hl 4 rfl) ?_
    refine lv_iload hx hb d_Model_trap_34 (lv_at hl 5 rfl) ?_
    obtain ⟨sm_957, esm_957⟩ : ∃ z, z = (k_Model_toS sm sk p1 p2 p3 p4 p5).1 := ⟨_, rfl⟩
    obtain ⟨sk_958, esk_958⟩ : ∃ z, z = (k_Model_toS sm sk p1 p2 p3 p4 p5).2 := ⟨_, rfl⟩
    have hM := c_Model_toS l G tys ht2 qm qk qp sm sk p1 p2 p3 p4 p5
    rw [← esm_957, ← esk_958] at hM
    refine ct_cVv (wr := []) (w1 := [(qm, .inr (6, f_Model qp qk sm_957)), (qk, .inl (cD, 512, .inl sk_958))]) (w2 := [(qm, .inr (6, f_Model qp qk sm_957)), (qk, .inl (cD, 512, .inl sk_958))]) (As := [.int p1, .int p2, .int (bI p3), .int p4, .int (bI p5)]) (rest := []) (ci := 6) (q0 := 0) ⟨hx, hb, hml, hown, hts⟩ hM (cwV 5 hts (gdV gd_gd q_744 q_746 q_28 q_47 q_747) rfl rfl rfl (by decide +kernel) ⟨Nat.le_of_ble_eq_true rfl, Nat.le_of_ble_eq_true rfl⟩) hE hK hP hD hS hA [0, 1] [] [0, 1] rfl (by decide) rfl (by decide) (by decide) rfl (by decide) rfl rfl rfl hl.1 rfl (Nat.le_of_ble_eq_true rfl) d_Model_trap_36 ⟨Nat.zero_le _, Nat.zero_le _⟩ (fun H locs hP hD hS => ?_)
    have hk : k_Model_trap sm sk p1 p2 p3 p4 p5 = (sm_957, sk_958) := (hj.trans (by rw [k_Model_trap_j28]; try rw [← esm_957]; try rw [← esk_958]; try rfl))
    exact ct_rv hx hb hr hlocks hP hD hK hS d_Model_trap_39 (by rw [hk]; first | done | rfl)
  obtain ⟨H, eH⟩ : ∃ z, z = s.heap := ⟨_, rfl⟩
  obtain ⟨locs, eL⟩ : ∃ z, z = ([] : List Loc) := ⟨_, rfl⟩
  have hP : va_P G.1 vwCl [(qm, .inr (6, f_Model qp qk sm)), (qk, .inl (cD, 512, .inl sk))] H := by rw [eH]; exact hP
  have hS : va_S A s.heap H locs := by rw [eH, eL]; exact hS
  suffices hW : W p l e ({ frames := 2, cells := 0, slots := 0, locals := 54 }) s m ([.ref qm, .int p1, .int p2, .int (bI p3), .int p4, .int (bI p5)] : List Value).toArray below meth c H locs 0 0 (MQ below (ct_qv G tys A [(qm, .inr (6, f_Model qp qk ((k_Model_trap sm sk p1 p2 p3 p4 p5).1))), (qk, .inl (cD, 512, .inl ((k_Model_trap sm sk p1 p2 p3 p4 p5).2)))]) ([.ref qm, .int p1, .int p2, .int (bI p3), .int p4, .int (bI p5)] : List Value).toArray s 0 0 A) (F0 m 0 ls []) by rw [eH, eL] at hW; exact hW
  refine lv_aload_n hx hb d_Model_trap_0 rfl (lv_at hl 0 rfl) ?_
  refine ct_cVi (wr := [(qk, .inl (cD, 512, .inl sk))]) (w1 := [(qm, .inr (6, f_Model qp qk sm))]) (w2 := [(qm, .inr (6, f_Model qp qk sm)), (qk, .inl (cD, 512, .inl sk))]) (r := (bI (k_Model_isVirtual sm))) (As := []) (rest := []) (ci := 6) (q0 := 0) ⟨hx, hb, hml, hown, hts⟩ (c_Model_isVirtual l G tys qm qp qk sm) (cwV 0 hts (gdV gd_gd q_731 q_733 q_25 q_47 q_734) rfl rfl rfl (by decide +kernel) ⟨Nat.le_of_ble_eq_true rfl, Nat.le_of_ble_eq_true rfl⟩) hE hK hP hD hS hA [0] [1] [1, 0] rfl (by decide) rfl (by decide) (by decide) rfl (by decide) rfl rfl rfl hl.1 rfl (Nat.le_of_ble_eq_true rfl) d_Model_trap_1 ⟨Nat.zero_le _, Nat.zero_le _⟩ (fun H locs hP hD hS => ?_)
  refine lv_if_eq (tgt := 28) hx hb d_Model_trap_4 (by decide) (fun c_959 => ?_) (fun c_959 => ?_)
  · exact J28 H locs ls (by rw [k_Model_trap]; rw [if_pos c_959]; try rfl) hP hD hS (lv_sub hl [0, 1, 2, 3, 4, 5] rfl)
  · refine lv_aload_n hx hb d_Model_trap_7 rfl (lv_at hl 0 rfl) ?_
    refine va_get (D := G.1) (ci := 6) (v := .int (sm.1 16)) (C := R_Model) (T := T_Model) (N := 23) hx hb hts (fun w h => gd_sub _ (iw_Model w h)) hown hK hP 0 rfl rfl 16 (by decide) (hts _ (gd_sub _ q_623)) (fun _ h9 => h9) rfl d_Model_trap_8 ?_
    refine lv_iload_n hx hb d_Model_trap_11 rfl (lv_at hl 1 rfl) ?_
    refine lv_iushr (v := (ush (sm.1 16) p1)) hx hb d_Model_trap_12 rfl ?_
    refine lv_iconst (v := 1) hx hb d_Model_trap_13 (by decide) ?_
    refine lv_iand hx hb d_Model_trap_14 ?_
    refine lv_iconst (v := 1) hx hb d_Model_trap_15 (by decide) ?_
    refine lv_icmp_ne (tgt := 28) hx hb d_Model_trap_16 (by decide) (fun c_960 => ?_) (fun c_960 => ?_)
    · exact J28 H locs ls (by rw [k_Model_trap]; rw [if_neg c_959]; rw [if_neg c_960]; try rfl) hP hD hS (lv_sub hl [0, 1, 2, 3, 4, 5] rfl)
    · refine lv_aload_n hx hb d_Model_trap_19 rfl (lv_at hl 0 rfl) ?_
      refine lv_iload_n hx hb d_Model_trap_20 rfl (lv_at hl 1 rfl) ?_
      refine lv_iload_n hx hb d_Model_trap_21 rfl (lv_at hl 2 rfl) ?_
      obtain ⟨sm_961, esm_961⟩ : ∃ z, z = (k_Model_toVs sm sk p1 p2).1 := ⟨_, rfl⟩
      obtain ⟨sk_962, esk_962⟩ : ∃ z, z = (k_Model_toVs sm sk p1 p2).2 := ⟨_, rfl⟩
      have hM := c_Model_toVs l G tys ht2 qm qk qp sm sk p1 p2
      rw [← esm_961, ← esk_962] at hM
      refine ct_cVv (wr := []) (w1 := [(qm, .inr (6, f_Model qp qk sm_961)), (qk, .inl (cD, 512, .inl sk_962))]) (w2 := [(qm, .inr (6, f_Model qp qk sm_961)), (qk, .inl (cD, 512, .inl sk_962))]) (As := [.int p1, .int p2]) (rest := []) (ci := 6) (q0 := 0) ⟨hx, hb, hml, hown, hts⟩ hM (cwV 2 hts (gdV gd_gd q_735 q_737 q_26 q_47 q_738) rfl rfl rfl (by decide +kernel) ⟨Nat.le_of_ble_eq_true rfl, Nat.le_of_ble_eq_true rfl⟩) hE hK hP hD hS hA [0, 1] [] [0, 1] rfl (by decide) rfl (by decide) (by decide) rfl (by decide) rfl rfl rfl hl.1 rfl (Nat.le_of_ble_eq_true rfl) d_Model_trap_22 ⟨Nat.zero_le _, Nat.zero_le _⟩ (fun H locs hP hD hS => ?_)
      refine lv_goto (tgt := 39) hx hb d_Model_trap_25 (by decide) ?_
      have hk : k_Model_trap sm sk p1 p2 p3 p4 p5 = (sm_961, sk_962) := (by rw [k_Model_trap]; rw [if_neg c_959]; rw [if_pos c_960]; try rw [← esm_961]; try rw [← esk_962]; try rfl)
      exact ct_rv hx hb hr hlocks hP hD hK hS d_Model_trap_39 (by rw [hk]; first | done | rfl)
def k_Model_fail_j17 (sm : ob) (sk : Nat → Int32) (p1 : Int32) (p2 : Int32) (p3 : Bool) (p4 : Int64) (p5 : Bool) (t0 : Bool) : Int32 × ob × (Nat → Int32) :=
  if (bI t0) = 0 then ((-1), sm, sk) else (if (lg_cmp p4 0) < 0 then ((-1), sm, sk) else (if (lg_cmp p4 17179869184) < 0 then (if (bI (sm.2.2 10)) = 0 then ((((k_Model_trap sm sk p1 p2 p3 ((lshr p4 2).toInt32) p5).1).1 0), ((k_Model_trap sm sk p1 p2 p3 ((lshr p4 2).toInt32) p5).1), ((k_Model_trap sm sk p1 p2 p3 ((lshr p4 2).toInt32) p5).2)) else ((-3), sm, sk)) else ((-1), sm, sk)))
def k_Model_fail_j16 (sm : ob) (sk : Nat → Int32) (p1 : Int32) (p2 : Int32) (p3 : Bool) (p4 : Int64) (p5 : Bool) : Int32 × ob × (Nat → Int32) :=
  k_Model_fail_j17 sm sk p1 p2 p3 p4 p5 false
def k_Model_fail (sm : ob) (sk : Nat → Int32) (p1 : Int32) (p2 : Int32) (p3 : Bool) (p4 : Int64) (p5 : Bool) : Int32 × ob × (Nat → Int32) :=
  if (bI (k_Model_isAddress p1)) = 0 then (k_Model_fail_j16 sm sk p1 p2 p3 p4 p5) else (if p1 = 3 then (k_Model_fail_j16 sm sk p1 p2 p3 p4 p5) else (k_Model_fail_j17 sm sk p1 p2 p3 p4 p5 true))
set_option maxHeartbeats 4000000 in
set_option maxRecDepth 100000 in
theorem c_Model_fail (l : Launch) (G : gx) (tys : List (ClassId × FieldType)) {cD : ClassId} (ht2 : tys[2]? = some (cD, .int)) (qm qk qp : Nat) (sm : ob) (sk : Nat → Int32) (p1 : Int32) (p2 : Int32) (p3 : Bool) (p4 : Int64) (p5 : Bool) : ct_I l y_Model_fail ws_Model_fail ({ frames := 3, cells := 0, slots := 0, locals := 79 }) G tys [.ref qm, .int p1, .int p2, .int (bI p3), .long p4, .int (bI p5)] [(qm, .inr (6, f_Model qp qk sm)), (qk, .inl (cD, 512, .inl sk))] ((k_Model_fail sm sk p1 p2 p3 p4 p5).1) [(qm, .inr (6, f_Model qp qk ((k_Model_fail sm sk p1 p2 p3 p4 p5).2.1))), (qk, .inl (cD, 512, .inl ((k_Model_fail sm sk p1 p2 p3 p4 p5).2.2)))] := by
  refine ct_hI (cc := cc_Model_fail) (maxL := 8) (ret := (some .int)) (by decide) rfl (Nat.le_of_ble_eq_true rfl) ?_
  intro p e s m below meth c A ls hx hb hr hml hts hown hlocks hP hK hD hA hE hS hl
  have hl : lv_has ls 8 [(0, .ref qm), (1, .int p1), (2, .int p2), (3, .int (bI p3)), (4, .long p4), (6, .int (bI p5))] := hl
  have hown : s.vm.findClass R_Model = some m.cls := hown
  have J17 : ∀ (t0 : Bool) (H : Heap) (locs : List Loc) (ls : Array Slot), k_Model_fail sm sk p1 p2 p3 p4 p5 = k_Model_fail_j17 sm sk p1 p2 p3 p4 p5 t0 → va_P G.1 vwCl [(qm, .inr (6, f_Model qp qk sm)), (qk, .inl (cD, 512, .inl sk))] H → va_D A [(qm, .inr (6, f_Model qp qk sm)), (qk, .inl (cD, 512, .inl sk))] → va_S A s.heap H locs → lv_has ls 8 [(0, .ref qm), (1, .int p1), (2, .int p2), (3, .int (bI p3)), (4, .long p4), (6, .int (bI p5))] → W p l e ({ frames := 3, cells := 0, slots := 0, locals := 79 }) s m ([.ref qm, .int p1, .int p2, .int (bI p3), .long p4, .int (bI p5)] : List Value).toArray below meth c H locs 0 0 (MQ below (ct_qi G tys A ((k_Model_fail sm sk p1 p2 p3 p4 p5).1) [(qm, .inr (6, f_Model qp qk ((k_Model_fail sm sk p1 p2 p3 p4 p5).2.1))), (qk, .inl (cD, 512, .inl ((k_Model_fail sm sk p1 p2 p3 p4 p5).2.2)))]) ([.ref qm, .int p1, .int p2, .int (bI p3), .long p4, .int (bI p5)] : List Value).toArray s 0 0 A) (F0 m 17 ls [.int (bI t0)]) := by
    intro t0 H locs ls hj hP hD hS hl
    refine lv_istore (lv' := [(7, .int (bI t0)), (0, .ref qm), (1, .int p1), (2, .int p2), (3, .int (bI p3)), (4, .long p4), (6, .int (bI p5))]) hx hb d_Model_fail_17 hl (by decide) rfl (fun ls hl => ?_)
    refine lv_iload hx hb d_Model_fail_19 (lv_at hl 0 rfl) ?_
    refine lv_if_eq (tgt := 40) hx hb d_Model_fail_21 (by decide) (fun c_971 => ?_) (fun c_971 => ?_)
    · refine lv_iconst (v := (-1)) hx hb d_Model_fail_40 (by decide) ?_
      have hk : k_Model_fail sm sk p1 p2 p3 p4 p5 = ((-1), sm, sk) := (hj.trans (by rw [k_Model_fail_j17]; rw [if_pos c_971]; try rfl))
      exact ct_ri hx hb hr hlocks hP hD hK hS d_Model_fail_41 (by rw [hk]; first | done | rfl) (by rw [hk]; first | done | rfl)
    · refine lv_lload hx hb d_Model_fail_24 (lv_at hl 5 rfl) ?_
      refine lv_lconst (v := 0) hx hb d_Model_fail_26 (by decide) ?_
      refine W.lcmp hx hb d_Model_fail_27 ?_
      refine lv_if_lt (tgt := 40) hx hb d_Model_fail_28 (by decide) (fun c_972 => ?_) (fun c_972 => ?_)
      · refine lv_iconst (v := (-1)) hx hb d_Model_fail_40 (by decide) ?_
        have hk : k_Model_fail sm sk p1 p2 p3 p4 p5 = ((-1), sm, sk) := (hj.trans (by rw [k_Model_fail_j17]; rw [if_neg c_971]; rw [if_pos c_972]; try rfl))
        exact ct_ri hx hb hr hlocks hP hD hK hS d_Model_fail_41 (by rw [hk]; first | done | rfl) (by rw [hk]; first | done | rfl)
      · refine lv_lload hx hb d_Model_fail_31 (lv_at hl 5 rfl) ?_
        refine lv_ldc2 (v := 17179869184) hx hb hown (hts _ (gd_sub _ q_726)) d_Model_fail_33 ?_
        refine W.lcmp hx hb d_Model_fail_36 ?_
        refine lv_if_lt (tgt := 42) hx hb d_Model_fail_37 (by decide) (fun c_973 => ?_) (fun c_973 => ?_)
        · refine lv_aload_n hx hb d_Model_fail_42 rfl (lv_at hl 1 rfl) ?_
          refine va_get (D := G.1) (ci := 6) (v := .int (bI (sm.2.2 10))) (C := R_Model) (T := T_Model) (N := 23) hx hb hts (fun w h => gd_sub _ (iw_Model w h)) hown hK hP 0 rfl rfl 10 (by decide) (hts _ (gd_sub _ q_617)) (fun _ h9 => h9) rfl d_Model_fail_43 ?_
          refine lv_if_eq (tgt := 52) hx hb d_Model_fail_46 (by decide) (fun c_974 => ?_) (fun c_974 => ?_)
          · refine lv_aload_n hx hb d_Model_fail_52 rfl (lv_at hl 1 rfl) ?_
            refine lv_iload_n hx hb d_Model_fail_53 rfl (lv_at hl 2 rfl) ?_
            refine lv_iload_n hx hb d_Model_fail_54 rfl (lv_at hl 3 rfl) ?_
            refine lv_iload_n hx hb d_Model_fail_55 rfl (lv_at hl 4 rfl) ?_
            refine lv_lload hx hb d_Model_fail_56 (lv_at hl 5 rfl) ?_
            refine lv_iconst (v := 2) hx hb d_Model_fail_58 (by decide) ?_
            refine lv_lshr (v := (lshr p4 2)) hx hb d_Model_fail_59 rfl ?_
            refine lv_l2i (v := (lshr p4 2).toInt32) hx hb d_Model_fail_60 rfl ?_
            refine lv_iload hx hb d_Model_fail_61 (lv_at hl 6 rfl) ?_
            obtain ⟨sm_975, esm_975⟩ : ∃ z, z = (k_Model_trap sm sk p1 p2 p3 ((lshr p4 2).toInt32) p5).1 := ⟨_, rfl⟩
            obtain ⟨sk_976, esk_976⟩ : ∃ z, z = (k_Model_trap sm sk p1 p2 p3 ((lshr p4 2).toInt32) p5).2 := ⟨_, rfl⟩
            have hM := c_Model_trap l G tys ht2 qm qk qp sm sk p1 p2 p3 ((lshr p4 2).toInt32) p5
            rw [← esm_975, ← esk_976] at hM
            refine ct_cVv (wr := []) (w1 := [(qm, .inr (6, f_Model qp qk sm_975)), (qk, .inl (cD, 512, .inl sk_976))]) (w2 := [(qm, .inr (6, f_Model qp qk sm_975)), (qk, .inl (cD, 512, .inl sk_976))]) (As := [.int p1, .int p2, .int (bI p3), .int ((lshr p4 2).toInt32), .int (bI p5)]) (rest := []) (ci := 6) (q0 := 0) ⟨hx, hb, hml, hown, hts⟩ hM (cwV 5 hts (gdV gd_gd q_727 q_729 q_24 q_47 q_730) rfl rfl rfl (by decide +kernel) ⟨Nat.le_of_ble_eq_true rfl, Nat.le_of_ble_eq_true rfl⟩) hE hK hP hD hS hA [0, 1] [] [0, 1] rfl (by decide) rfl (by decide) (by decide) rfl (by decide) rfl rfl rfl hl.1 rfl (Nat.le_of_ble_eq_true rfl) d_Model_fail_63 ⟨Nat.zero_le _, Nat.zero_le _⟩ (fun H locs hP hD hS => ?_)
            refine lv_aload_n hx hb d_Model_fail_66 rfl (lv_at hl 1 rfl) ?_
            refine va_get (D := G.1) (ci := 6) (v := .int (sm_975.1 0)) (C := R_Model) (T := T_Model) (N := 23) hx hb hts (fun w h => gd_sub _ (iw_Model w h)) hown hK hP 0 rfl rfl 0 (by decide) (hts _ (gd_sub _ q_607)) (fun _ h9 => h9) rfl d_Model_fail_67 ?_
            have hk : k_Model_fail sm sk p1 p2 p3 p4 p5 = ((sm_975.1 0), sm_975, sk_976) := (hj.trans (by rw [k_Model_fail_j17]; rw [if_neg c_971]; rw [if_neg c_972]; rw [if_pos c_973]; rw [if_pos c_974]; try rw [← esm_975]; try rw [← esk_976]; try rfl))
            exact ct_ri hx hb hr hlocks hP hD hK hS d_Model_fail_70 (by rw [hk]; first | done | rfl) (by rw [hk]; first | done | rfl)
          · refine lv_bipush (v := (-3)) hx hb d_Model_fail_49 (by decide) ?_
            have hk : k_Model_fail sm sk p1 p2 p3 p4 p5 = ((-3), sm, sk) := (hj.trans (by rw [k_Model_fail_j17]; rw [if_neg c_971]; rw [if_neg c_972]; rw [if_pos c_973]; rw [if_neg c_974]; try rfl))
            exact ct_ri hx hb hr hlocks hP hD hK hS d_Model_fail_51 (by rw [hk]; first | done | rfl) (by rw [hk]; first | done | rfl)
        · refine lv_iconst (v := (-1)) hx hb d_Model_fail_40 (by decide) ?_
          have hk : k_Model_fail sm sk p1 p2 p3 p4 p5 = ((-1), sm, sk) := (hj.trans (by rw [k_Model_fail_j17]; rw [if_neg c_971]; rw [if_neg c_972]; rw [if_neg c_973]; try rfl))
          exact ct_ri hx hb hr hlocks hP hD hK hS d_Model_fail_41 (by rw [hk]; first | done | rfl) (by rw [hk]; first | done | rfl)
  have J16 : ∀ (H : Heap) (locs : List Loc) (ls : Array Slot), k_Model_fail sm sk p1 p2 p3 p4 p5 = k_Model_fail_j16 sm sk p1 p2 p3 p4 p5 → va_P G.1 vwCl [(qm, .inr (6, f_Model qp qk sm)), (qk, .inl (cD, 512, .inl sk))] H → va_D A [(qm, .inr (6, f_Model qp qk sm)), (qk, .inl (cD, 512, .inl sk))] → va_S A s.heap H locs → lv_has ls 8 [(0, .ref qm), (1, .int p1), (2, .int p2), (3, .int (bI p3)), (4, .long p4), (6, .int (bI p5))] → W p l e ({ frames := 3, cells := 0, slots := 0, locals := 79 }) s m ([.ref qm, .int p1, .int p2, .int (bI p3), .long p4, .int (bI p5)] : List Value).toArray below meth c H locs 0 0 (MQ below (ct_qi G tys A ((k_Model_fail sm sk p1 p2 p3 p4 p5).1) [(qm, .inr (6, f_Model qp qk ((k_Model_fail sm sk p1 p2 p3 p4 p5).2.1))), (qk, .inl (cD, 512, .inl ((k_Model_fail sm sk p1 p2 p3 p4 p5).2.2)))]) ([.ref qm, .int p1, .int p2, .int (bI p3), .long p4, .int (bI p5)] : List Value).toArray s 0 0 A) (F0 m 16 ls []) := by
    intro H locs ls hj hP hD hS hl
    refine lv_iconst (v := 0) hx hb d_Model_fail_16 (by decide) ?_
    exact J17 false H locs ls (hj.trans (by rw [k_Model_fail_j16]; try rfl)) hP hD hS (lv_sub hl [0, 1, 2, 3, 4, 5] rfl)
  obtain ⟨H, eH⟩ : ∃ z, z = s.heap := ⟨_, rfl⟩
  obtain ⟨locs, eL⟩ : ∃ z, z = ([] : List Loc) := ⟨_, rfl⟩
  have hP : va_P G.1 vwCl [(qm, .inr (6, f_Model qp qk sm)), (qk, .inl (cD, 512, .inl sk))] H := by rw [eH]; exact hP
  have hS : va_S A s.heap H locs := by rw [eH, eL]; exact hS
  suffices hW : W p l e ({ frames := 3, cells := 0, slots := 0, locals := 79 }) s m ([.ref qm, .int p1, .int p2, .int (bI p3), .long p4, .int (bI p5)] : List Value).toArray below meth c H locs 0 0 (MQ below (ct_qi G tys A ((k_Model_fail sm sk p1 p2 p3 p4 p5).1) [(qm, .inr (6, f_Model qp qk ((k_Model_fail sm sk p1 p2 p3 p4 p5).2.1))), (qk, .inl (cD, 512, .inl ((k_Model_fail sm sk p1 p2 p3 p4 p5).2.2)))]) ([.ref qm, .int p1, .int p2, .int (bI p3), .long p4, .int (bI p5)] : List Value).toArray s 0 0 A) (F0 m 0 ls []) by rw [eH, eL] at hW; exact hW
  refine lv_iload_n hx hb d_Model_fail_0 rfl (lv_at hl 1 rfl) ?_
  refine ct_cSi (wr := [(qm, .inr (6, f_Model qp qk sm)), (qk, .inl (cD, 512, .inl sk))]) (w1 := []) (w2 := [(qm, .inr (6, f_Model qp qk sm)), (qk, .inl (cD, 512, .inl sk))]) (r := (bI (k_Model_isAddress p1))) (As := [.int p1]) (rest := []) ⟨hx, hb, hml, hown, hts⟩ (c_Model_isAddress l G tys p1) (va_cwS 1 hts (gdS gd_gd q_723 q_724 q_47 q_725) rfl rfl rfl (by decide +kernel) ⟨Nat.le_of_ble_eq_true rfl, Nat.le_of_ble_eq_true rfl⟩) hE hK hP hD hS hA [] [0, 1] [0, 1] rfl (by decide) rfl (by decide) (by decide) rfl (by decide) rfl hl.1 rfl (Nat.le_of_ble_eq_true rfl) d_Model_fail_1 ⟨Nat.zero_le _, Nat.zero_le _⟩ (fun H locs hP hD hS => ?_)
  refine lv_if_eq (tgt := 16) hx hb d_Model_fail_4 (by decide) (fun c_977 => ?_) (fun c_977 => ?_)
  · exact J16 H locs ls (by rw [k_Model_fail]; rw [if_pos c_977]; try rfl) hP hD hS (lv_sub hl [0, 1, 2, 3, 4, 5] rfl)
  · refine lv_iload_n hx hb d_Model_fail_7 rfl (lv_at hl 1 rfl) ?_
    refine lv_iconst (v := 3) hx hb d_Model_fail_8 (by decide) ?_
    refine lv_icmp_eq (tgt := 16) hx hb d_Model_fail_9 (by decide) (fun c_978 => ?_) (fun c_978 => ?_)
    · exact J16 H locs ls (by rw [k_Model_fail]; rw [if_neg c_977]; rw [if_pos c_978]; try rfl) hP hD hS (lv_sub hl [0, 1, 2, 3, 4, 5] rfl)
    · refine lv_iconst (v := 1) hx hb d_Model_fail_12 (by decide) ?_
      refine lv_goto (tgt := 17) hx hb d_Model_fail_13 (by decide) ?_
      exact J17 true H locs ls (by rw [k_Model_fail]; rw [if_neg c_977]; rw [if_neg c_978]; try rfl) hP hD hS (lv_sub hl [0, 1, 2, 3, 4, 5] rfl)
def k_Model_first (p1 : Int32) (p2 : Int32) (p3 : Int32) (p4 : Int32) : Int32 :=
  if ((p1 >>> (p2 &&& 31)) &&& 1) = 1 then p2 else (if ((p1 >>> (p3 &&& 31)) &&& 1) = 1 then p3 else (if ((p1 >>> (p4 &&& 31)) &&& 1) = 1 then p4 else (-1)))
set_option maxHeartbeats 4000000 in
set_option maxRecDepth 100000 in
theorem c_Model_first (l : Launch) (G : gx) (tys : List (ClassId × FieldType)) (p1 : Int32) (p2 : Int32) (p3 : Int32) (p4 : Int32) : ct_I l y_Model_first ws_Model_first ({ frames := 0, cells := 0, slots := 0, locals := 0 }) G tys [.int p1, .int p2, .int p3, .int p4] [] (k_Model_first p1 p2 p3 p4) [] := by
  refine ct_hI (cc := cc_Model_first) (maxL := 4) (ret := (some .int)) (by decide) rfl (Nat.le_of_ble_eq_true rfl) ?_
  intro p e s m below meth c A ls hx hb hr hml hts hown hlocks hP hK hD hA hE hS hl
  have hl : lv_has ls 4 [(0, .int p1), (1, .int p2), (2, .int p3), (3, .int p4)] := hl
  have hown : s.vm.findClass R_Model = some m.cls := hown
  refine lv_iload_n hx hb d_Model_first_0 rfl (lv_at hl 0 rfl) ?_
  refine lv_iload_n hx hb d_Model_first_1 rfl (lv_at hl 1 rfl) ?_
  refine lv_ishr hx hb d_Model_first_2 ?_
  refine lv_iconst (v := 1) hx hb d_Model_first_3 (by decide) ?_
  refine lv_iand hx hb d_Model_first_4 ?_
  refine lv_iconst (v := 1) hx hb d_Model_first_5 (by decide) ?_
  refine lv_icmp_ne (tgt := 13) hx hb d_Model_first_6 (by decide) (fun c_982 => ?_) (fun c_982 => ?_)
  · refine lv_iload_n hx hb d_Model_first_13 rfl (lv_at hl 0 rfl) ?_
    refine lv_iload_n hx hb d_Model_first_14 rfl (lv_at hl 2 rfl) ?_
    refine lv_ishr hx hb d_Model_first_15 ?_
    refine lv_iconst (v := 1) hx hb d_Model_first_16 (by decide) ?_
    refine lv_iand hx hb d_Model_first_17 ?_
    refine lv_iconst (v := 1) hx hb d_Model_first_18 (by decide) ?_
    refine lv_icmp_ne (tgt := 26) hx hb d_Model_first_19 (by decide) (fun c_983 => ?_) (fun c_983 => ?_)
    · refine lv_iload_n hx hb d_Model_first_26 rfl (lv_at hl 0 rfl) ?_
      refine lv_iload_n hx hb d_Model_first_27 rfl (lv_at hl 3 rfl) ?_
      refine lv_ishr hx hb d_Model_first_28 ?_
      refine lv_iconst (v := 1) hx hb d_Model_first_29 (by decide) ?_
      refine lv_iand hx hb d_Model_first_30 ?_
      refine lv_iconst (v := 1) hx hb d_Model_first_31 (by decide) ?_
      refine lv_icmp_ne (tgt := 39) hx hb d_Model_first_32 (by decide) (fun c_984 => ?_) (fun c_984 => ?_)
      · refine lv_iconst (v := (-1)) hx hb d_Model_first_39 (by decide) ?_
        have hk : k_Model_first p1 p2 p3 p4 = (-1) := (by rw [k_Model_first]; rw [if_neg c_982]; rw [if_neg c_983]; rw [if_neg c_984]; try rfl)
        exact ct_ri hx hb hr hlocks hP hD hK hS d_Model_first_40 (by rw [hk]; first | done | rfl) rfl
      · refine lv_iload_n hx hb d_Model_first_35 rfl (lv_at hl 3 rfl) ?_
        refine lv_goto (tgt := 40) hx hb d_Model_first_36 (by decide) ?_
        have hk : k_Model_first p1 p2 p3 p4 = p4 := (by rw [k_Model_first]; rw [if_neg c_982]; rw [if_neg c_983]; rw [if_pos c_984]; try rfl)
        exact ct_ri hx hb hr hlocks hP hD hK hS d_Model_first_40 (by rw [hk]; first | done | rfl) rfl
    · refine lv_iload_n hx hb d_Model_first_22 rfl (lv_at hl 2 rfl) ?_
      refine lv_goto (tgt := 40) hx hb d_Model_first_23 (by decide) ?_
      have hk : k_Model_first p1 p2 p3 p4 = p3 := (by rw [k_Model_first]; rw [if_neg c_982]; rw [if_pos c_983]; try rfl)
      exact ct_ri hx hb hr hlocks hP hD hK hS d_Model_first_40 (by rw [hk]; first | done | rfl) rfl
  · refine lv_iload_n hx hb d_Model_first_9 rfl (lv_at hl 1 rfl) ?_
    refine lv_goto (tgt := 40) hx hb d_Model_first_10 (by decide) ?_
    have hk : k_Model_first p1 p2 p3 p4 = p2 := (by rw [k_Model_first]; rw [if_pos c_982]; try rfl)
    exact ct_ri hx hb hr hlocks hP hD hK hS d_Model_first_40 (by rw [hk]; first | done | rfl) rfl
def k_Model_interrupt_j169 (sm : ob) (sk : Nat → Int32) (v1 : Int32) (v2 : Int32) (v3 : Int32) (v4 : Int32) : Int32 × ob × (Nat → Int32) :=
  (((100 + v4) - 1), (oi ((k_Model_toVs sm sk ((-2147483648) ||| (v4 - 1)) 0).1) 13 ((((k_Model_toVs sm sk ((-2147483648) ||| (v4 - 1)) 0).1).1 13) + 1)), ((k_Model_toVs sm sk ((-2147483648) ||| (v4 - 1)) 0).2))
def k_Model_interrupt_j111 (sm : ob) (sk : Nat → Int32) (v1 : Int32) (v2 : Int32) (v3 : Int32) : Int32 × ob × (Nat → Int32) :=
  if (k_Model_first (((sm.1 20) &&& (sm.1 18)) &&& (sm.1 17)) 10 2 6) < 0 then ((-1), sm, sk) else (if (sm.1 0) = 2 then (k_Model_interrupt_j169 sm sk v1 v2 v3 (k_Model_first (((sm.1 20) &&& (sm.1 18)) &&& (sm.1 17)) 10 2 6)) else (if (sm.1 0) = 3 then (if ((sk 256) &&& 2) = 0 then ((-1), sm, sk) else (k_Model_interrupt_j169 sm sk v1 v2 v3 (k_Model_first (((sm.1 20) &&& (sm.1 18)) &&& (sm.1 17)) 10 2 6))) else ((-1), sm, sk)))
def k_Model_interrupt_j87 (sm : ob) (sk : Nat → Int32) (v1 : Int32) (v2 : Int32) (v3 : Int32) : Int32 × ob × (Nat → Int32) :=
  (v3, (oi ((k_Model_toS sm sk ((-2147483648) ||| v3) 0 false 0 false).1) 13 ((((k_Model_toS sm sk ((-2147483648) ||| v3) 0 false 0 false).1).1 13) + 1)), ((k_Model_toS sm sk ((-2147483648) ||| v3) 0 false 0 false).2))
def k_Model_interrupt_j63 (sm : ob) (sk : Nat → Int32) (v1 : Int32) (v2 : Int32) (t0 : Int32) : Int32 × ob × (Nat → Int32) :=
  if t0 < 0 then (k_Model_interrupt_j111 sm sk v1 v2 t0) else (if (sm.1 0) = 1 then (if ((sk 0) &&& 2) = 0 then (k_Model_interrupt_j111 sm sk v1 v2 t0) else (k_Model_interrupt_j87 sm sk v1 v2 t0)) else (k_Model_interrupt_j87 sm sk v1 v2 t0))
def k_Model_interrupt (sm : ob) (sk : Nat → Int32) : Int32 × ob × (Nat → Int32) :=
  if (bI (sm.2.2 10)) = 0 then (if (k_Model_first ((k_Model_sip sm sk) &&& (sk 4)) 9 1 5) < 0 then (k_Model_interrupt_j63 sm sk (k_Model_first ((k_Model_sip sm sk) &&& (sk 4)) 9 1 5) (k_Model_first (((sm.1 20) &&& (sm.1 18)) &&& ((sm.1 17) ^^^ (-1))) 10 2 6) (k_Model_first (((sm.1 20) &&& (sm.1 18)) &&& ((sm.1 17) ^^^ (-1))) 10 2 6)) else (k_Model_interrupt_j63 sm sk (k_Model_first ((k_Model_sip sm sk) &&& (sk 4)) 9 1 5) (k_Model_first (((sm.1 20) &&& (sm.1 18)) &&& ((sm.1 17) ^^^ (-1))) 10 2 6) (k_Model_first ((k_Model_sip sm sk) &&& (sk 4)) 9 1 5))) else ((-3), sm, sk)
set_option maxHeartbeats 4000000 in
set_option maxRecDepth 100000 in
theorem c_Model_interrupt (l : Launch) (G : gx) (tys : List (ClassId × FieldType)) {cD : ClassId} (ht2 : tys[2]? = some (cD, .int)) (qm qk qp : Nat) (sm : ob) (sk : Nat → Int32) : ct_I l y_Model_interrupt ws_Model_interrupt ({ frames := 2, cells := 0, slots := 0, locals := 54 }) G tys [.ref qm] [(qm, .inr (6, f_Model qp qk sm)), (qk, .inl (cD, 512, .inl sk))] ((k_Model_interrupt sm sk).1) [(qm, .inr (6, f_Model qp qk ((k_Model_interrupt sm sk).2.1))), (qk, .inl (cD, 512, .inl ((k_Model_interrupt sm sk).2.2)))] := by
  refine ct_hI (cc := cc_Model_interrupt) (maxL := 5) (ret := (some .int)) (by decide) rfl (Nat.le_of_ble_eq_true rfl) ?_
  intro p e s m below meth c A ls hx hb hr hml hts hown hlocks hP hK hD hA hE hS hl
  have hl : lv_has ls 5 [(0, .ref qm)] := hl
  have hown : s.vm.findClass R_Model = some m.cls := hown
  have J169 : ∀ (v1 : Int32) (v2 : Int32) (v3 : Int32) (v4 : Int32) (H : Heap) (locs : List Loc) (ls : Array Slot), k_Model_interrupt sm sk = k_Model_interrupt_j169 sm sk v1 v2 v3 v4 → va_P G.1 vwCl [(qm, .inr (6, f_Model qp qk sm)), (qk, .inl (cD, 512, .inl sk))] H → va_D A [(qm, .inr (6, f_Model qp qk sm)), (qk, .inl (cD, 512, .inl sk))] → va_S A s.heap H locs → lv_has ls 5 [(0, .ref qm), (1, .int v1), (2, .int v2), (3, .int v3), (4, .int v4)] → W p l e ({ frames := 2, cells := 0, slots := 0, locals := 54 }) s m ([.ref qm] : List Value).toArray below meth c H locs 0 0 (MQ below (ct_qi G tys A ((k_Model_interrupt sm sk).1) [(qm, .inr (6, f_Model qp qk ((k_Model_interrupt sm sk).2.1))), (qk, .inl (cD, 512, .inl ((k_Model_interrupt sm sk).2.2)))]) ([.ref qm] : List Value).toArray s 0 0 A) (F0 m 169 ls []) := by
    intro v1 v2 v3 v4 H locs ls hj hP hD hS hl
    refine lv_aload_n hx hb d_Model_interrupt_169 rfl (lv_at hl 0 rfl) ?_
    refine lv_ldc (v := (-2147483648)) hx hb hown (hts _ (gd_sub _ q_755)) d_Model_interrupt_170 ?_
    refine lv_iload hx hb d_Model_interrupt_172 (lv_at hl 4 rfl) ?_
    refine lv_iconst (v := 1) hx hb d_Model_interrupt_174 (by decide) ?_
    refine lv_isub hx hb d_Model_interrupt_175 ?_
    refine lv_ior hx hb d_Model_interrupt_176 ?_
    refine lv_iconst (v := 0) hx hb d_Model_interrupt_177 (by decide) ?_
    obtain ⟨sm_998, esm_998⟩ : ∃ z, z = (k_Model_toVs sm sk ((-2147483648) ||| (v4 - 1)) 0).1 := ⟨_, rfl⟩
    obtain ⟨sk_999, esk_999⟩ : ∃ z, z = (k_Model_toVs sm sk ((-2147483648) ||| (v4 - 1)) 0).2 := ⟨_, rfl⟩
    have hM := c_Model_toVs l G tys ht2 qm qk qp sm sk ((-2147483648) ||| (v4 - 1)) 0
    rw [← esm_998, ← esk_999] at hM
    refine ct_cVv (wr := []) (w1 := [(qm, .inr (6, f_Model qp qk sm_998)), (qk, .inl (cD, 512, .inl sk_999))]) (w2 := [(qm, .inr (6, f_Model qp qk sm_998)), (qk, .inl (cD, 512, .inl sk_999))]) (As := [.int ((-2147483648) ||| (v4 - 1)), .int 0]) (rest := []) (ci := 6) (q0 := 0) ⟨hx, hb, hml, hown, hts⟩ hM (cwV 2 hts (gdV gd_gd q_735 q_737 q_26 q_47 q_738) rfl rfl rfl (by decide +kernel) ⟨Nat.le_of_ble_eq_true rfl, Nat.le_of_ble_eq_true rfl⟩) hE hK hP hD hS hA [0, 1] [] [0, 1] rfl (by decide) rfl (by decide) (by decide) rfl (by decide) rfl rfl rfl hl.1 rfl (Nat.le_of_ble_eq_true rfl) d_Model_interrupt_178 ⟨Nat.zero_le _, Nat.zero_le _⟩ (fun H locs hP hD hS => ?_)
    refine lv_aload_n hx hb d_Model_interrupt_181 rfl (lv_at hl 0 rfl) ?_
    refine lv_dup hx hb d_Model_interrupt_182 rfl ?_
    refine va_get (D := G.1) (ci := 6) (v := .int (sm_998.1 13)) (C := R_Model) (T := T_Model) (N := 23) hx hb hts (fun w h => gd_sub _ (iw_Model w h)) hown hK hP 0 rfl rfl 13 (by decide) (hts _ (gd_sub _ q_620)) (fun _ h9 => h9) rfl d_Model_interrupt_183 ?_
    refine lv_iconst (v := 1) hx hb d_Model_interrupt_186 (by decide) ?_
    refine lv_iadd hx hb d_Model_interrupt_187 ?_
    refine va_put (D := G.1) (ci := 6) (v := .int ((sm_998.1 13) + 1)) (ty := .int) (C := R_Model) (T := T_Model) (N := 23) hx hb hts (fun w h => gd_sub _ (iw_Model w h)) ty_Model tyok_Model nm_Model hown hK hP hD hS 0 rfl rfl 13 (by decide) (hts _ (gd_sub _ q_620)) (fun _ h9 => h9) rfl (by decide +kernel) rfl rfl (Nat.le_of_ble_eq_true rfl) d_Model_interrupt_188 (fun H locs hP hD hS => ?_)
    have hP : va_P G.1 vwCl [(qm, .inr (6, f_Model qp qk (oi sm_998 13 ((sm_998.1 13) + 1)))), (qk, .inl (cD, 512, .inl sk_999))] H := hP
    have hD : va_D A [(qm, .inr (6, f_Model qp qk (oi sm_998 13 ((sm_998.1 13) + 1)))), (qk, .inl (cD, 512, .inl sk_999))] := hD
    refine lv_bipush (v := 100) hx hb d_Model_interrupt_191 (by decide) ?_
    refine lv_iload hx hb d_Model_interrupt_193 (lv_at hl 4 rfl) ?_
    refine lv_iadd hx hb d_Model_interrupt_195 ?_
    refine lv_iconst (v := 1) hx hb d_Model_interrupt_196 (by decide) ?_
    refine lv_isub hx hb d_Model_interrupt_197 ?_
    have hk : k_Model_interrupt sm sk = (((100 + v4) - 1), (oi sm_998 13 ((sm_998.1 13) + 1)), sk_999) := (hj.trans (by rw [k_Model_interrupt_j169]; try rw [← esm_998]; try rw [← esk_999]; try rfl))
    exact ct_ri hx hb hr hlocks hP hD hK hS d_Model_interrupt_198 (by rw [hk]; first | done | rfl) (by rw [hk]; first | done | rfl)
  have J111 : ∀ (v1 : Int32) (v2 : Int32) (v3 : Int32) (H : Heap) (locs : List Loc) (ls : Array Slot), k_Model_interrupt sm sk = k_Model_interrupt_j111 sm sk v1 v2 v3 → va_P G.1 vwCl [(qm, .inr (6, f_Model qp qk sm)), (qk, .inl (cD, 512, .inl sk))] H → va_D A [(qm, .inr (6, f_Model qp qk sm)), (qk, .inl (cD, 512, .inl sk))] → va_S A s.heap H locs → lv_has ls 5 [(0, .ref qm), (1, .int v1), (2, .int v2), (3, .int v3)] → W p l e ({ frames := 2, cells := 0, slots := 0, locals := 54 }) s m ([.ref qm] : List Value).toArray below meth c H locs 0 0 (MQ below (ct_qi G tys A ((k_Model_interrupt sm sk).1) [(qm, .inr (6, f_Model qp qk ((k_Model_interrupt sm sk).2.1))), (qk, .inl (cD, 512, .inl ((k_Model_interrupt sm sk).2.2)))]) ([.ref qm] : List Value).toArray s 0 0 A) (F0 m 111 ls []) := by
    intro v1 v2 v3 H locs ls hj hP hD hS hl
    refine lv_aload_n hx hb d_Model_interrupt_111 rfl (lv_at hl 0 rfl) ?_
    refine va_get (D := G.1) (ci := 6) (v := .int (sm.1 20)) (C := R_Model) (T := T_Model) (N := 23) hx hb hts (fun w h => gd_sub _ (iw_Model w h)) hown hK hP 0 rfl rfl 20 (by decide) (hts _ (gd_sub _ q_627)) (fun _ h9 => h9) rfl d_Model_interrupt_112 ?_
    refine lv_aload_n hx hb d_Model_interrupt_115 rfl (lv_at hl 0 rfl) ?_
    refine va_get (D := G.1) (ci := 6) (v := .int (sm.1 18)) (C := R_Model) (T := T_Model) (N := 23) hx hb hts (fun w h => gd_sub _ (iw_Model w h)) hown hK hP 0 rfl rfl 18 (by decide) (hts _ (gd_sub _ q_625)) (fun _ h9 => h9) rfl d_Model_interrupt_116 ?_
    refine lv_iand hx hb d_Model_interrupt_119 ?_
    refine lv_aload_n hx hb d_Model_interrupt_120 rfl (lv_at hl 0 rfl) ?_
    refine va_get (D := G.1) (ci := 6) (v := .int (sm.1 17)) (C := R_Model) (T := T_Model) (N := 23) hx hb hts (fun w h => gd_sub _ (iw_Model w h)) hown hK hP 0 rfl rfl 17 (by decide) (hts _ (gd_sub _ q_624)) (fun _ h9 => h9) rfl d_Model_interrupt_121 ?_
    refine lv_iand hx hb d_Model_interrupt_124 ?_
    refine lv_bipush (v := 10) hx hb d_Model_interrupt_125 (by decide) ?_
    refine lv_iconst (v := 2) hx hb d_Model_interrupt_127 (by decide) ?_
    refine lv_bipush (v := 6) hx hb d_Model_interrupt_128 (by decide) ?_
    refine ct_cSi (wr := [(qm, .inr (6, f_Model qp qk sm)), (qk, .inl (cD, 512, .inl sk))]) (w1 := []) (w2 := [(qm, .inr (6, f_Model qp qk sm)), (qk, .inl (cD, 512, .inl sk))]) (r := (k_Model_first (((sm.1 20) &&& (sm.1 18)) &&& (sm.1 17)) 10 2 6)) (As := [.int (((sm.1 20) &&& (sm.1 18)) &&& (sm.1 17)), .int 10, .int 2, .int 6]) (rest := []) ⟨hx, hb, hml, hown, hts⟩ (c_Model_first l G tys (((sm.1 20) &&& (sm.1 18)) &&& (sm.1 17)) 10 2 6) (va_cwS 4 hts (gdS gd_gd q_752 q_753 q_47 q_754) rfl rfl rfl (by decide +kernel) ⟨Nat.le_of_ble_eq_true rfl, Nat.le_of_ble_eq_true rfl⟩) hE hK hP hD hS hA [] [0, 1] [0, 1] rfl (by decide) rfl (by decide) (by decide) rfl (by decide) rfl hl.1 rfl (Nat.le_of_ble_eq_true rfl) d_Model_interrupt_130 ⟨Nat.zero_le _, Nat.zero_le _⟩ (fun H locs hP hD hS => ?_)
    refine lv_istore (lv' := [(4, .int (k_Model_first (((sm.1 20) &&& (sm.1 18)) &&& (sm.1 17)) 10 2 6)), (0, .ref qm), (1, .int v1), (2, .int v2), (3, .int v3)]) hx hb d_Model_interrupt_133 hl (by decide) rfl (fun ls hl => ?_)
    refine lv_iload hx hb d_Model_interrupt_135 (lv_at hl 0 rfl) ?_
    refine lv_if_lt (tgt := 199) hx hb d_Model_interrupt_137 (by decide) (fun c_1000 => ?_) (fun c_1000 => ?_)
    · refine lv_iconst (v := (-1)) hx hb d_Model_interrupt_199 (by decide) ?_
      have hk : k_Model_interrupt sm sk = ((-1), sm, sk) := (hj.trans (by rw [k_Model_interrupt_j111]; rw [if_pos c_1000]; try rfl))
      exact ct_ri hx hb hr hlocks hP hD hK hS d_Model_interrupt_200 (by rw [hk]; first | done | rfl) (by rw [hk]; first | done | rfl)
    · refine lv_aload_n hx hb d_Model_interrupt_140 rfl (lv_at hl 1 rfl) ?_
      refine va_get (D := G.1) (ci := 6) (v := .int (sm.1 0)) (C := R_Model) (T := T_Model) (N := 23) hx hb hts (fun w h => gd_sub _ (iw_Model w h)) hown hK hP 0 rfl rfl 0 (by decide) (hts _ (gd_sub _ q_607)) (fun _ h9 => h9) rfl d_Model_interrupt_141 ?_
      refine lv_iconst (v := 2) hx hb d_Model_interrupt_144 (by decide) ?_
      refine lv_icmp_eq (tgt := 169) hx hb d_Model_interrupt_145 (by decide) (fun c_1001 => ?_) (fun c_1001 => ?_)
      · exact J169 v1 v2 v3 (k_Model_first (((sm.1 20) &&& (sm.1 18)) &&& (sm.1 17)) 10 2 6) H locs ls (hj.trans (by rw [k_Model_interrupt_j111]; rw [if_neg c_1000]; rw [if_pos c_1001]; try rfl)) hP hD hS (lv_sub hl [1, 2, 3, 4, 0] rfl)
      · refine lv_aload_n hx hb d_Model_interrupt_148 rfl (lv_at hl 1 rfl) ?_
        refine va_get (D := G.1) (ci := 6) (v := .int (sm.1 0)) (C := R_Model) (T := T_Model) (N := 23) hx hb hts (fun w h => gd_sub _ (iw_Model w h)) hown hK hP 0 rfl rfl 0 (by decide) (hts _ (gd_sub _ q_607)) (fun _ h9 => h9) rfl d_Model_interrupt_149 ?_
        refine lv_iconst (v := 3) hx hb d_Model_interrupt_152 (by decide) ?_
        refine lv_icmp_ne (tgt := 199) hx hb d_Model_interrupt_153 (by decide) (fun c_1002 => ?_) (fun c_1002 => ?_)
        · refine lv_iconst (v := (-1)) hx hb d_Model_interrupt_199 (by decide) ?_
          have hk : k_Model_interrupt sm sk = ((-1), sm, sk) := (hj.trans (by rw [k_Model_interrupt_j111]; rw [if_neg c_1000]; rw [if_neg c_1001]; rw [if_neg c_1002]; try rfl))
          exact ct_ri hx hb hr hlocks hP hD hK hS d_Model_interrupt_200 (by rw [hk]; first | done | rfl) (by rw [hk]; first | done | rfl)
        · refine lv_aload_n hx hb d_Model_interrupt_156 rfl (lv_at hl 1 rfl) ?_
          refine va_get (D := G.1) (ci := 6) (v := .ref qk) (C := R_Model) (T := T_Model) (N := 23) hx hb hts (fun w h => gd_sub _ (iw_Model w h)) hown hK hP 0 rfl rfl 14 (by decide) (hts _ (gd_sub _ q_621)) (fun _ h9 => h9) rfl d_Model_interrupt_157 ?_
          refine lv_sipush (v := 256) hx hb d_Model_interrupt_160 (by decide) ?_
          refine va_iald hx hb hK hP 1 2 rfl ht2 (by unfold vp_in; decide) d_Model_interrupt_163 ?_
          refine lv_topi (fun z9 e9 => ?_)
          obtain rfl : z9 = (sk 256) := e9
          refine lv_iconst (v := 2) hx hb d_Model_interrupt_164 (by decide) ?_
          refine lv_iand hx hb d_Model_interrupt_165 ?_
          refine lv_if_eq (tgt := 199) hx hb d_Model_interrupt_166 (by decide) (fun c_1003 => ?_) (fun c_1003 => ?_)
          · refine lv_iconst (v := (-1)) hx hb d_Model_interrupt_199 (by decide) ?_
            have hk : k_Model_interrupt sm sk = ((-1), sm, sk) := (hj.trans (by rw [k_Model_interrupt_j111]; rw [if_neg c_1000]; rw [if_neg c_1001]; rw [if_pos c_1002]; rw [if_pos c_1003]; try rfl))
            exact ct_ri hx hb hr hlocks hP hD hK hS d_Model_interrupt_200 (by rw [hk]; first | done | rfl) (by rw [hk]; first | done | rfl)
          · exact J169 v1 v2 v3 (k_Model_first (((sm.1 20) &&& (sm.1 18)) &&& (sm.1 17)) 10 2 6) H locs ls (hj.trans (by rw [k_Model_interrupt_j111]; rw [if_neg c_1000]; rw [if_neg c_1001]; rw [if_pos c_1002]; rw [if_neg c_1003]; try rfl)) hP hD hS (lv_sub hl [1, 2, 3, 4, 0] rfl)
  have J87 : ∀ (v1 : Int32) (v2 : Int32) (v3 : Int32) (H : Heap) (locs : List Loc) (ls : Array Slot), k_Model_interrupt sm sk = k_Model_interrupt_j87 sm sk v1 v2 v3 → va_P G.1 vwCl [(qm, .inr (6, f_Model qp qk sm)), (qk, .inl (cD, 512, .inl sk))] H → va_D A [(qm, .inr (6, f_Model qp qk sm)), (qk, .inl (cD, 512, .inl sk))] → va_S A s.heap H locs → lv_has ls 5 [(0, .ref qm), (1, .int v1), (2, .int v2), (3, .int v3)] → W p l e ({ frames := 2, cells := 0, slots := 0, locals := 54 }) s m ([.ref qm] : List Value).toArray below meth c H locs 0 0 (MQ below (ct_qi G tys A ((k_Model_interrupt sm sk).1) [(qm, .inr (6, f_Model qp qk ((k_Model_interrupt sm sk).2.1))), (qk, .inl (cD, 512, .inl ((k_Model_interrupt sm sk).2.2)))]) ([.ref qm] : List Value).toArray s 0 0 A) (F0 m 87 ls []) := by
    intro v1 v2 v3 H locs ls hj hP hD hS hl
    refine lv_aload_n hx hb d_Model_interrupt_87 rfl (lv_at hl 0 rfl) ?_
    refine lv_ldc (v := (-2147483648)) hx hb hown (hts _ (gd_sub _ q_755)) d_Model_interrupt_88 ?_
    refine lv_iload_n hx hb d_Model_interrupt_90 rfl (lv_at hl 3 rfl) ?_
    refine lv_ior hx hb d_Model_interrupt_91 ?_
    refine lv_iconst (v := 0) hx hb d_Model_interrupt_92 (by decide) ?_
    refine lv_iconst (v := 0) hx hb d_Model_interrupt_93 (by decide) ?_
    refine lv_iconst (v := 0) hx hb d_Model_interrupt_94 (by decide) ?_
    refine lv_iconst (v := 0) hx hb d_Model_interrupt_95 (by decide) ?_
    obtain ⟨sm_1004, esm_1004⟩ : ∃ z, z = (k_Model_toS sm sk ((-2147483648) ||| v3) 0 false 0 false).1 := ⟨_, rfl⟩
    obtain ⟨sk_1005, esk_1005⟩ : ∃ z, z = (k_Model_toS sm sk ((-2147483648) ||| v3) 0 false 0 false).2 := ⟨_, rfl⟩
    have hM := c_Model_toS l G tys ht2 qm qk qp sm sk ((-2147483648) ||| v3) 0 false 0 false
    rw [← esm_1004, ← esk_1005] at hM
    refine ct_cVv (wr := []) (w1 := [(qm, .inr (6, f_Model qp qk sm_1004)), (qk, .inl (cD, 512, .inl sk_1005))]) (w2 := [(qm, .inr (6, f_Model qp qk sm_1004)), (qk, .inl (cD, 512, .inl sk_1005))]) (As := [.int ((-2147483648) ||| v3), .int 0, .int (bI false), .int 0, .int (bI false)]) (rest := []) (ci := 6) (q0 := 0) ⟨hx, hb, hml, hown, hts⟩ hM (cwV 5 hts (gdV gd_gd q_744 q_746 q_28 q_47 q_747) rfl rfl rfl (by decide +kernel) ⟨Nat.le_of_ble_eq_true rfl, Nat.le_of_ble_eq_true rfl⟩) hE hK hP hD hS hA [0, 1] [] [0, 1] rfl (by decide) rfl (by decide) (by decide) rfl (by decide) rfl rfl rfl hl.1 rfl (Nat.le_of_ble_eq_true rfl) d_Model_interrupt_96 ⟨Nat.zero_le _, Nat.zero_le _⟩ (fun H locs hP hD hS => ?_)
    refine lv_aload_n hx hb d_Model_interrupt_99 rfl (lv_at hl 0 rfl) ?_
    refine lv_dup hx hb d_Model_interrupt_100 rfl ?_
    refine va_get (D := G.1) (ci := 6) (v := .int (sm_1004.1 13)) (C := R_Model) (T := T_Model) (N := 23) hx hb hts (fun w h => gd_sub _ (iw_Model w h)) hown hK hP 0 rfl rfl 13 (by decide) (hts _ (gd_sub _ q_620)) (fun _ h9 => h9) rfl d_Model_interrupt_101 ?_
    refine lv_iconst (v := 1) hx hb d_Model_interrupt_104 (by decide) ?_
    refine lv_iadd hx hb d_Model_interrupt_105 ?_
    refine va_put (D := G.1) (ci := 6) (v := .int ((sm_1004.1 13) + 1)) (ty := .int) (C := R_Model) (T := T_Model) (N := 23) hx hb hts (fun w h => gd_sub _ (iw_Model w h)) ty_Model tyok_Model nm_Model hown hK hP hD hS 0 rfl rfl 13 (by decide) (hts _ (gd_sub _ q_620)) (fun _ h9 => h9) rfl (by decide +kernel) rfl rfl (Nat.le_of_ble_eq_true rfl) d_Model_interrupt_106 (fun H locs hP hD hS => ?_)
    have hP : va_P G.1 vwCl [(qm, .inr (6, f_Model qp qk (oi sm_1004 13 ((sm_1004.1 13) + 1)))), (qk, .inl (cD, 512, .inl sk_1005))] H := hP
    have hD : va_D A [(qm, .inr (6, f_Model qp qk (oi sm_1004 13 ((sm_1004.1 13) + 1)))), (qk, .inl (cD, 512, .inl sk_1005))] := hD
    refine lv_iload_n hx hb d_Model_interrupt_109 rfl (lv_at hl 3 rfl) ?_
    have hk : k_Model_interrupt sm sk = (v3, (oi sm_1004 13 ((sm_1004.1 13) + 1)), sk_1005) := (hj.trans (by rw [k_Model_interrupt_j87]; try rw [← esm_1004]; try rw [← esk_1005]; try rfl))
    exact ct_ri hx hb hr hlocks hP hD hK hS d_Model_interrupt_110 (by rw [hk]; first | done | rfl) (by rw [hk]; first | done | rfl)
  have J63 : ∀ (v1 : Int32) (v2 : Int32) (t0 : Int32) (H : Heap) (locs : List Loc) (ls : Array Slot), k_Model_interrupt sm sk = k_Model_interrupt_j63 sm sk v1 v2 t0 → va_P G.1 vwCl [(qm, .inr (6, f_Model qp qk sm)), (qk, .inl (cD, 512, .inl sk))] H → va_D A [(qm, .inr (6, f_Model qp qk sm)), (qk, .inl (cD, 512, .inl sk))] → va_S A s.heap H locs → lv_has ls 5 [(0, .ref qm), (1, .int v1), (2, .int v2)] → W p l e ({ frames := 2, cells := 0, slots := 0, locals := 54 }) s m ([.ref qm] : List Value).toArray below meth c H locs 0 0 (MQ below (ct_qi G tys A ((k_Model_interrupt sm sk).1) [(qm, .inr (6, f_Model qp qk ((k_Model_interrupt sm sk).2.1))), (qk, .inl (cD, 512, .inl ((k_Model_interrupt sm sk).2.2)))]) ([.ref qm] : List Value).toArray s 0 0 A) (F0 m 63 ls [.int t0]) := by
    intro v1 v2 t0 H locs ls hj hP hD hS hl
    refine lv_istore_n (lv' := [(3, .int t0), (0, .ref qm), (1, .int v1), (2, .int v2)]) hx hb d_Model_interrupt_63 rfl hl (by decide) rfl (fun ls hl => ?_)
    refine lv_iload_n hx hb d_Model_interrupt_64 rfl (lv_at hl 0 rfl) ?_
    refine lv_if_lt (tgt := 111) hx hb d_Model_interrupt_65 (by decide) (fun c_1006 => ?_) (fun c_1006 => ?_)
    · exact J111 v1 v2 t0 H locs ls (hj.trans (by rw [k_Model_interrupt_j63]; rw [if_pos c_1006]; try rfl)) hP hD hS (lv_sub hl [1, 2, 3, 0] rfl)
    · refine lv_aload_n hx hb d_Model_interrupt_68 rfl (lv_at hl 1 rfl) ?_
      refine va_get (D := G.1) (ci := 6) (v := .int (sm.1 0)) (C := R_Model) (T := T_Model) (N := 23) hx hb hts (fun w h => gd_sub _ (iw_Model w h)) hown hK hP 0 rfl rfl 0 (by decide) (hts _ (gd_sub _ q_607)) (fun _ h9 => h9) rfl d_Model_interrupt_69 ?_
      refine lv_iconst (v := 1) hx hb d_Model_interrupt_72 (by decide) ?_
      refine lv_icmp_ne (tgt := 87) hx hb d_Model_interrupt_73 (by decide) (fun c_1007 => ?_) (fun c_1007 => ?_)
      · exact J87 v1 v2 t0 H locs ls (hj.trans (by rw [k_Model_interrupt_j63]; rw [if_neg c_1006]; rw [if_neg c_1007]; try rfl)) hP hD hS (lv_sub hl [1, 2, 3, 0] rfl)
      · refine lv_aload_n hx hb d_Model_interrupt_76 rfl (lv_at hl 1 rfl) ?_
        refine va_get (D := G.1) (ci := 6) (v := .ref qk) (C := R_Model) (T := T_Model) (N := 23) hx hb hts (fun w h => gd_sub _ (iw_Model w h)) hown hK hP 0 rfl rfl 14 (by decide) (hts _ (gd_sub _ q_621)) (fun _ h9 => h9) rfl d_Model_interrupt_77 ?_
        refine lv_iconst (v := 0) hx hb d_Model_interrupt_80 (by decide) ?_
        refine va_iald hx hb hK hP 1 2 rfl ht2 (by unfold vp_in; decide) d_Model_interrupt_81 ?_
        refine lv_topi (fun z9 e9 => ?_)
        obtain rfl : z9 = (sk 0) := e9
        refine lv_iconst (v := 2) hx hb d_Model_interrupt_82 (by decide) ?_
        refine lv_iand hx hb d_Model_interrupt_83 ?_
        refine lv_if_eq (tgt := 111) hx hb d_Model_interrupt_84 (by decide) (fun c_1008 => ?_) (fun c_1008 => ?_)
        · exact J111 v1 v2 t0 H locs ls (hj.trans (by rw [k_Model_interrupt_j63]; rw [if_neg c_1006]; rw [if_pos c_1007]; rw [if_pos c_1008]; try rfl)) hP hD hS (lv_sub hl [1, 2, 3, 0] rfl)
        · exact J87 v1 v2 t0 H locs ls (hj.trans (by rw [k_Model_interrupt_j63]; rw [if_neg c_1006]; rw [if_pos c_1007]; rw [if_neg c_1008]; try rfl)) hP hD hS (lv_sub hl [1, 2, 3, 0] rfl)
  obtain ⟨H, eH⟩ : ∃ z, z = s.heap := ⟨_, rfl⟩
  obtain ⟨locs, eL⟩ : ∃ z, z = ([] : List Loc) := ⟨_, rfl⟩
  have hP : va_P G.1 vwCl [(qm, .inr (6, f_Model qp qk sm)), (qk, .inl (cD, 512, .inl sk))] H := by rw [eH]; exact hP
  have hS : va_S A s.heap H locs := by rw [eH, eL]; exact hS
  suffices hW : W p l e ({ frames := 2, cells := 0, slots := 0, locals := 54 }) s m ([.ref qm] : List Value).toArray below meth c H locs 0 0 (MQ below (ct_qi G tys A ((k_Model_interrupt sm sk).1) [(qm, .inr (6, f_Model qp qk ((k_Model_interrupt sm sk).2.1))), (qk, .inl (cD, 512, .inl ((k_Model_interrupt sm sk).2.2)))]) ([.ref qm] : List Value).toArray s 0 0 A) (F0 m 0 ls []) by rw [eH, eL] at hW; exact hW
  refine lv_aload_n hx hb d_Model_interrupt_0 rfl (lv_at hl 0 rfl) ?_
  refine va_get (D := G.1) (ci := 6) (v := .int (bI (sm.2.2 10))) (C := R_Model) (T := T_Model) (N := 23) hx hb hts (fun w h => gd_sub _ (iw_Model w h)) hown hK hP 0 rfl rfl 10 (by decide) (hts _ (gd_sub _ q_617)) (fun _ h9 => h9) rfl d_Model_interrupt_1 ?_
  refine lv_if_eq (tgt := 10) hx hb d_Model_interrupt_4 (by decide) (fun c_1009 => ?_) (fun c_1009 => ?_)
  · refine lv_aload_n hx hb d_Model_interrupt_10 rfl (lv_at hl 0 rfl) ?_
    refine ct_cVi (wr := []) (w1 := [(qm, .inr (6, f_Model qp qk sm)), (qk, .inl (cD, 512, .inl sk))]) (w2 := [(qm, .inr (6, f_Model qp qk sm)), (qk, .inl (cD, 512, .inl sk))]) (r := (k_Model_sip sm sk)) (As := []) (rest := []) (ci := 6) (q0 := 0) ⟨hx, hb, hml, hown, hts⟩ (c_Model_sip l G tys ht2 qm qk qp sm sk) (cwV 0 hts (gdV gd_gd q_715 q_717 q_23 q_47 q_718) rfl rfl rfl (by decide +kernel) ⟨Nat.le_of_ble_eq_true rfl, Nat.le_of_ble_eq_true rfl⟩) hE hK hP hD hS hA [0, 1] [] [0, 1] rfl (by decide) rfl (by decide) (by decide) rfl (by decide) rfl rfl rfl hl.1 rfl (Nat.le_of_ble_eq_true rfl) d_Model_interrupt_11 ⟨Nat.zero_le _, Nat.zero_le _⟩ (fun H locs hP hD hS => ?_)
    refine lv_aload_n hx hb d_Model_interrupt_14 rfl (lv_at hl 0 rfl) ?_
    refine va_get (D := G.1) (ci := 6) (v := .ref qk) (C := R_Model) (T := T_Model) (N := 23) hx hb hts (fun w h => gd_sub _ (iw_Model w h)) hown hK hP 0 rfl rfl 14 (by decide) (hts _ (gd_sub _ q_621)) (fun _ h9 => h9) rfl d_Model_interrupt_15 ?_
    refine lv_iconst (v := 4) hx hb d_Model_interrupt_18 (by decide) ?_
    refine va_iald hx hb hK hP 1 2 rfl ht2 (by unfold vp_in; decide) d_Model_interrupt_19 ?_
    refine lv_topi (fun z9 e9 => ?_)
    obtain rfl : z9 = (sk 4) := e9
    refine lv_iand hx hb d_Model_interrupt_20 ?_
    refine lv_bipush (v := 9) hx hb d_Model_interrupt_21 (by decide) ?_
    refine lv_iconst (v := 1) hx hb d_Model_interrupt_23 (by decide) ?_
    refine lv_iconst (v := 5) hx hb d_Model_interrupt_24 (by decide) ?_
    refine ct_cSi (wr := [(qm, .inr (6, f_Model qp qk sm)), (qk, .inl (cD, 512, .inl sk))]) (w1 := []) (w2 := [(qm, .inr (6, f_Model qp qk sm)), (qk, .inl (cD, 512, .inl sk))]) (r := (k_Model_first ((k_Model_sip sm sk) &&& (sk 4)) 9 1 5)) (As := [.int ((k_Model_sip sm sk) &&& (sk 4)), .int 9, .int 1, .int 5]) (rest := []) ⟨hx, hb, hml, hown, hts⟩ (c_Model_first l G tys ((k_Model_sip sm sk) &&& (sk 4)) 9 1 5) (va_cwS 4 hts (gdS gd_gd q_752 q_753 q_47 q_754) rfl rfl rfl (by decide +kernel) ⟨Nat.le_of_ble_eq_true rfl, Nat.le_of_ble_eq_true rfl⟩) hE hK hP hD hS hA [] [0, 1] [0, 1] rfl (by decide) rfl (by decide) (by decide) rfl (by decide) rfl hl.1 rfl (Nat.le_of_ble_eq_true rfl) d_Model_interrupt_25 ⟨Nat.zero_le _, Nat.zero_le _⟩ (fun H locs hP hD hS => ?_)
    refine lv_istore_n (lv' := [(1, .int (k_Model_first ((k_Model_sip sm sk) &&& (sk 4)) 9 1 5)), (0, .ref qm)]) hx hb d_Model_interrupt_28 rfl hl (by decide) rfl (fun ls hl => ?_)
    refine lv_aload_n hx hb d_Model_interrupt_29 rfl (lv_at hl 1 rfl) ?_
    refine va_get (D := G.1) (ci := 6) (v := .int (sm.1 20)) (C := R_Model) (T := T_Model) (N := 23) hx hb hts (fun w h => gd_sub _ (iw_Model w h)) hown hK hP 0 rfl rfl 20 (by decide) (hts _ (gd_sub _ q_627)) (fun _ h9 => h9) rfl d_Model_interrupt_30 ?_
    refine lv_aload_n hx hb d_Model_interrupt_33 rfl (lv_at hl 1 rfl) ?_
    refine va_get (D := G.1) (ci := 6) (v := .int (sm.1 18)) (C := R_Model) (T := T_Model) (N := 23) hx hb hts (fun w h => gd_sub _ (iw_Model w h)) hown hK hP 0 rfl rfl 18 (by decide) (hts _ (gd_sub _ q_625)) (fun _ h9 => h9) rfl d_Model_interrupt_34 ?_
    refine lv_iand hx hb d_Model_interrupt_37 ?_
    refine lv_aload_n hx hb d_Model_interrupt_38 rfl (lv_at hl 1 rfl) ?_
    refine va_get (D := G.1) (ci := 6) (v := .int (sm.1 17)) (C := R_Model) (T := T_Model) (N := 23) hx hb hts (fun w h => gd_sub _ (iw_Model w h)) hown hK hP 0 rfl rfl 17 (by decide) (hts _ (gd_sub _ q_624)) (fun _ h9 => h9) rfl d_Model_interrupt_39 ?_
    refine lv_iconst (v := (-1)) hx hb d_Model_interrupt_42 (by decide) ?_
    refine lv_ixor hx hb d_Model_interrupt_43 ?_
    refine lv_iand hx hb d_Model_interrupt_44 ?_
    refine lv_bipush (v := 10) hx hb d_Model_interrupt_45 (by decide) ?_
    refine lv_iconst (v := 2) hx hb d_Model_interrupt_47 (by decide) ?_
    refine lv_bipush (v := 6) hx hb d_Model_interrupt_48 (by decide) ?_
    refine ct_cSi (wr := [(qm, .inr (6, f_Model qp qk sm)), (qk, .inl (cD, 512, .inl sk))]) (w1 := []) (w2 := [(qm, .inr (6, f_Model qp qk sm)), (qk, .inl (cD, 512, .inl sk))]) (r := (k_Model_first (((sm.1 20) &&& (sm.1 18)) &&& ((sm.1 17) ^^^ (-1))) 10 2 6)) (As := [.int (((sm.1 20) &&& (sm.1 18)) &&& ((sm.1 17) ^^^ (-1))), .int 10, .int 2, .int 6]) (rest := []) ⟨hx, hb, hml, hown, hts⟩ (c_Model_first l G tys (((sm.1 20) &&& (sm.1 18)) &&& ((sm.1 17) ^^^ (-1))) 10 2 6) (va_cwS 4 hts (gdS gd_gd q_752 q_753 q_47 q_754) rfl rfl rfl (by decide +kernel) ⟨Nat.le_of_ble_eq_true rfl, Nat.le_of_ble_eq_true rfl⟩) hE hK hP hD hS hA [] [0, 1] [0, 1] rfl (by decide) rfl (by decide) (by decide) rfl (by decide) rfl hl.1 rfl (Nat.le_of_ble_eq_true rfl) d_Model_interrupt_50 ⟨Nat.zero_le _, Nat.zero_le _⟩ (fun H locs hP hD hS => ?_)
    refine lv_istore_n (lv' := [(2, .int (k_Model_first (((sm.1 20) &&& (sm.1 18)) &&& ((sm.1 17) ^^^ (-1))) 10 2 6)), (1, .int (k_Model_first ((k_Model_sip sm sk) &&& (sk 4)) 9 1 5)), (0, .ref qm)]) hx hb d_Model_interrupt_53 rfl hl (by decide) rfl (fun ls hl => ?_)
    refine lv_iload_n hx hb d_Model_interrupt_54 rfl (lv_at hl 1 rfl) ?_
    refine lv_if_lt (tgt := 62) hx hb d_Model_interrupt_55 (by decide) (fun c_1010 => ?_) (fun c_1010 => ?_)
    · refine lv_iload_n hx hb d_Model_interrupt_62 rfl (lv_at hl 0 rfl) ?_
      exact J63 (k_Model_first ((k_Model_sip sm sk) &&& (sk 4)) 9 1 5) (k_Model_first (((sm.1 20) &&& (sm.1 18)) &&& ((sm.1 17) ^^^ (-1))) 10 2 6) (k_Model_first (((sm.1 20) &&& (sm.1 18)) &&& ((sm.1 17) ^^^ (-1))) 10 2 6) H locs ls (by rw [k_Model_interrupt]; rw [if_pos c_1009]; rw [if_pos c_1010]; try rfl) hP hD hS (lv_sub hl [2, 1, 0] rfl)
    · refine lv_iload_n hx hb d_Model_interrupt_58 rfl (lv_at hl 1 rfl) ?_
      refine lv_goto (tgt := 63) hx hb d_Model_interrupt_59 (by decide) ?_
      exact J63 (k_Model_first ((k_Model_sip sm sk) &&& (sk 4)) 9 1 5) (k_Model_first (((sm.1 20) &&& (sm.1 18)) &&& ((sm.1 17) ^^^ (-1))) 10 2 6) (k_Model_first ((k_Model_sip sm sk) &&& (sk 4)) 9 1 5) H locs ls (by rw [k_Model_interrupt]; rw [if_pos c_1009]; rw [if_neg c_1010]; try rfl) hP hD hS (lv_sub hl [2, 1, 0] rfl)
  · refine lv_bipush (v := (-3)) hx hb d_Model_interrupt_7 (by decide) ?_
    have hk : k_Model_interrupt sm sk = ((-3), sm, sk) := (by rw [k_Model_interrupt]; rw [if_neg c_1009]; try rfl)
    exact ct_ri hx hb hr hlocks hP hD hK hS d_Model_interrupt_9 (by rw [hk]; first | done | rfl) (by rw [hk]; first | done | rfl)
def k_Model_x (sm : ob) (p1 : Int32) : Int32 :=
  if p1 = 10 then (sm.1 5) else (if p1 = 11 then (sm.1 6) else (if p1 = 17 then (sm.1 7) else 0))
set_option maxHeartbeats 4000000 in
set_option maxRecDepth 100000 in
theorem c_Model_x (l : Launch) (G : gx) (tys : List (ClassId × FieldType)) (qm qp qk : Nat) (sm : ob) (p1 : Int32) : ct_I l y_Model_x ws_Model_x ({ frames := 0, cells := 0, slots := 0, locals := 0 }) G tys [.ref qm, .int p1] [(qm, .inr (6, f_Model qp qk sm))] (k_Model_x sm p1) [(qm, .inr (6, f_Model qp qk sm))] := by
  refine ct_hI (cc := cc_Model_x) (maxL := 2) (ret := (some .int)) (by decide) rfl (Nat.le_of_ble_eq_true rfl) ?_
  intro p e s m below meth c A ls hx hb hr hml hts hown hlocks hP hK hD hA hE hS hl
  have hl : lv_has ls 2 [(0, .ref qm), (1, .int p1)] := hl
  have hown : s.vm.findClass R_Model = some m.cls := hown
  refine lv_iload_n hx hb d_Model_x_0 rfl (lv_at hl 1 rfl) ?_
  refine lv_bipush (v := 10) hx hb d_Model_x_1 (by decide) ?_
  refine lv_icmp_ne (tgt := 13) hx hb d_Model_x_3 (by decide) (fun c_1014 => ?_) (fun c_1014 => ?_)
  · refine lv_iload_n hx hb d_Model_x_13 rfl (lv_at hl 1 rfl) ?_
    refine lv_bipush (v := 11) hx hb d_Model_x_14 (by decide) ?_
    refine lv_icmp_ne (tgt := 26) hx hb d_Model_x_16 (by decide) (fun c_1015 => ?_) (fun c_1015 => ?_)
    · refine lv_iload_n hx hb d_Model_x_26 rfl (lv_at hl 1 rfl) ?_
      refine lv_bipush (v := 17) hx hb d_Model_x_27 (by decide) ?_
      refine lv_icmp_ne (tgt := 39) hx hb d_Model_x_29 (by decide) (fun c_1016 => ?_) (fun c_1016 => ?_)
      · refine lv_iconst (v := 0) hx hb d_Model_x_39 (by decide) ?_
        have hk : k_Model_x sm p1 = 0 := (by rw [k_Model_x]; rw [if_neg c_1014]; rw [if_neg c_1015]; rw [if_neg c_1016]; try rfl)
        exact ct_ri hx hb hr hlocks hP hD hK hS d_Model_x_40 (by rw [hk]; first | done | rfl) rfl
      · refine lv_aload_n hx hb d_Model_x_32 rfl (lv_at hl 0 rfl) ?_
        refine va_get (D := G.1) (ci := 6) (v := .int (sm.1 7)) (C := R_Model) (T := T_Model) (N := 23) hx hb hts (fun w h => gd_sub _ (iw_Model w h)) hown hK hP 0 rfl rfl 7 (by decide) (hts _ (gd_sub _ q_614)) (fun _ h9 => h9) rfl d_Model_x_33 ?_
        refine lv_goto (tgt := 40) hx hb d_Model_x_36 (by decide) ?_
        have hk : k_Model_x sm p1 = (sm.1 7) := (by rw [k_Model_x]; rw [if_neg c_1014]; rw [if_neg c_1015]; rw [if_pos c_1016]; try rfl)
        exact ct_ri hx hb hr hlocks hP hD hK hS d_Model_x_40 (by rw [hk]; first | done | rfl) rfl
    · refine lv_aload_n hx hb d_Model_x_19 rfl (lv_at hl 0 rfl) ?_
      refine va_get (D := G.1) (ci := 6) (v := .int (sm.1 6)) (C := R_Model) (T := T_Model) (N := 23) hx hb hts (fun w h => gd_sub _ (iw_Model w h)) hown hK hP 0 rfl rfl 6 (by decide) (hts _ (gd_sub _ q_613)) (fun _ h9 => h9) rfl d_Model_x_20 ?_
      refine lv_goto (tgt := 40) hx hb d_Model_x_23 (by decide) ?_
      have hk : k_Model_x sm p1 = (sm.1 6) := (by rw [k_Model_x]; rw [if_neg c_1014]; rw [if_pos c_1015]; try rfl)
      exact ct_ri hx hb hr hlocks hP hD hK hS d_Model_x_40 (by rw [hk]; first | done | rfl) rfl
  · refine lv_aload_n hx hb d_Model_x_6 rfl (lv_at hl 0 rfl) ?_
    refine va_get (D := G.1) (ci := 6) (v := .int (sm.1 5)) (C := R_Model) (T := T_Model) (N := 23) hx hb hts (fun w h => gd_sub _ (iw_Model w h)) hown hK hP 0 rfl rfl 5 (by decide) (hts _ (gd_sub _ q_612)) (fun _ h9 => h9) rfl d_Model_x_7 ?_
    refine lv_goto (tgt := 40) hx hb d_Model_x_10 (by decide) ?_
    have hk : k_Model_x sm p1 = (sm.1 5) := (by rw [k_Model_x]; rw [if_pos c_1014]; try rfl)
    exact ct_ri hx hb hr hlocks hP hD hK hS d_Model_x_40 (by rw [hk]; first | done | rfl) rfl
def k_Model_setX_j33 (sm : ob) (p1 : Int32) (p2 : Int32) (t0 : Int32) (um : ob) : ob :=
  if p1 = 17 then (oi (oi um 6 t0) 7 p2) else (oi (oi um 6 t0) 7 (um.1 7))
def k_Model_setX_j15 (sm : ob) (p1 : Int32) (p2 : Int32) (t0 : Int32) : ob :=
  if p1 = 11 then (k_Model_setX_j33 sm p1 p2 p2 (oi sm 5 t0)) else (k_Model_setX_j33 sm p1 p2 (sm.1 6) (oi sm 5 t0))
def k_Model_setX (sm : ob) (p1 : Int32) (p2 : Int32) : ob :=
  if p1 = 10 then (k_Model_setX_j15 sm p1 p2 p2) else (k_Model_setX_j15 sm p1 p2 (sm.1 5))
set_option maxHeartbeats 4000000 in
set_option maxRecDepth 100000 in
theorem c_Model_setX (l : Launch) (G : gx) (tys : List (ClassId × FieldType)) (qm qp qk : Nat) (sm : ob) (p1 : Int32) (p2 : Int32) : ct_V l y_Model_setX ws_Model_setX ({ frames := 0, cells := 0, slots := 0, locals := 0 }) G tys [.ref qm, .int p1, .int p2] [(qm, .inr (6, f_Model qp qk sm))] [(qm, .inr (6, f_Model qp qk (k_Model_setX sm p1 p2)))] := by
  refine ct_hV (cc := cc_Model_setX) (maxL := 3) (ret := none) (by decide) rfl (Nat.le_of_ble_eq_true rfl) ?_
  intro p e s m below meth c A ls hx hb hr hml hts hown hlocks hP hK hD hA hE hS hl
  have hl : lv_has ls 3 [(0, .ref qm), (1, .int p1), (2, .int p2)] := hl
  have hown : s.vm.findClass R_Model = some m.cls := hown
  have J33 : ∀ (t0 : Int32) (um : ob) (H : Heap) (locs : List Loc) (ls : Array Slot), k_Model_setX sm p1 p2 = k_Model_setX_j33 sm p1 p2 t0 um → va_P G.1 vwCl [(qm, .inr (6, f_Model qp qk um))] H → va_D A [(qm, .inr (6, f_Model qp qk um))] → va_S A s.heap H locs → lv_has ls 3 [(0, .ref qm), (1, .int p1), (2, .int p2)] → W p l e ({ frames := 0, cells := 0, slots := 0, locals := 0 }) s m ([.ref qm, .int p1, .int p2] : List Value).toArray below meth c H locs 0 0 (MQ below (ct_qv G tys A [(qm, .inr (6, f_Model qp qk (k_Model_setX sm p1 p2)))]) ([.ref qm, .int p1, .int p2] : List Value).toArray s 0 0 A) (F0 m 33 ls [.int t0, .ref qm]) := by
    intro t0 um H locs ls hj hP hD hS hl
    refine va_put (D := G.1) (ci := 6) (v := .int t0) (ty := .int) (C := R_Model) (T := T_Model) (N := 23) hx hb hts (fun w h => gd_sub _ (iw_Model w h)) ty_Model tyok_Model nm_Model hown hK hP hD hS 0 rfl rfl 6 (by decide) (hts _ (gd_sub _ q_613)) (fun _ h9 => h9) rfl (by decide +kernel) rfl rfl (Nat.le_of_ble_eq_true rfl) d_Model_setX_33 (fun H locs hP hD hS => ?_)
    have hP : va_P G.1 vwCl [(qm, .inr (6, f_Model qp qk (oi um 6 t0)))] H := hP
    have hD : va_D A [(qm, .inr (6, f_Model qp qk (oi um 6 t0)))] := hD
    refine lv_aload_n hx hb d_Model_setX_36 rfl (lv_at hl 0 rfl) ?_
    refine lv_iload_n hx hb d_Model_setX_37 rfl (lv_at hl 1 rfl) ?_
    refine lv_bipush (v := 17) hx hb d_Model_setX_38 (by decide) ?_
    refine lv_icmp_ne (tgt := 47) hx hb d_Model_setX_40 (by decide) (fun c_1020 => ?_) (fun c_1020 => ?_)
    · refine lv_aload_n hx hb d_Model_setX_47 rfl (lv_at hl 0 rfl) ?_
      refine va_get (D := G.1) (ci := 6) (v := .int (um.1 7)) (C := R_Model) (T := T_Model) (N := 23) hx hb hts (fun w h => gd_sub _ (iw_Model w h)) hown hK hP 0 rfl rfl 7 (by decide) (hts _ (gd_sub _ q_614)) (fun _ h9 => h9) rfl d_Model_setX_48 ?_
      refine va_put (D := G.1) (ci := 6) (v := .int (um.1 7)) (ty := .int) (C := R_Model) (T := T_Model) (N := 23) hx hb hts (fun w h => gd_sub _ (iw_Model w h)) ty_Model tyok_Model nm_Model hown hK hP hD hS 0 rfl rfl 7 (by decide) (hts _ (gd_sub _ q_614)) (fun _ h9 => h9) rfl (by decide +kernel) rfl rfl (Nat.le_of_ble_eq_true rfl) d_Model_setX_51 (fun H locs hP hD hS => ?_)
      have hP : va_P G.1 vwCl [(qm, .inr (6, f_Model qp qk (oi (oi um 6 t0) 7 (um.1 7))))] H := hP
      have hD : va_D A [(qm, .inr (6, f_Model qp qk (oi (oi um 6 t0) 7 (um.1 7))))] := hD
      have hk : k_Model_setX sm p1 p2 = (oi (oi um 6 t0) 7 (um.1 7)) := (hj.trans (by rw [k_Model_setX_j33]; rw [if_neg c_1020]; try rfl))
      exact ct_rv hx hb hr hlocks hP hD hK hS d_Model_setX_54 (by rw [hk]; first | done | rfl)
    · refine lv_iload_n hx hb d_Model_setX_43 rfl (lv_at hl 2 rfl) ?_
      refine lv_goto (tgt := 51) hx hb d_Model_setX_44 (by decide) ?_
      refine va_put (D := G.1) (ci := 6) (v := .int p2) (ty := .int) (C := R_Model) (T := T_Model) (N := 23) hx hb hts (fun w h => gd_sub _ (iw_Model w h)) ty_Model tyok_Model nm_Model hown hK hP hD hS 0 rfl rfl 7 (by decide) (hts _ (gd_sub _ q_614)) (fun _ h9 => h9) rfl (by decide +kernel) rfl rfl (Nat.le_of_ble_eq_true rfl) d_Model_setX_51 (fun H locs hP hD hS => ?_)
      have hP : va_P G.1 vwCl [(qm, .inr (6, f_Model qp qk (oi (oi um 6 t0) 7 p2)))] H := hP
      have hD : va_D A [(qm, .inr (6, f_Model qp qk (oi (oi um 6 t0) 7 p2)))] := hD
      have hk : k_Model_setX sm p1 p2 = (oi (oi um 6 t0) 7 p2) := (hj.trans (by rw [k_Model_setX_j33]; rw [if_pos c_1020]; try rfl))
      exact ct_rv hx hb hr hlocks hP hD hK hS d_Model_setX_54 (by rw [hk]; first | done | rfl)
  have J15 : ∀ (t0 : Int32) (H : Heap) (locs : List Loc) (ls : Array Slot), k_Model_setX sm p1 p2 = k_Model_setX_j15 sm p1 p2 t0 → va_P G.1 vwCl [(qm, .inr (6, f_Model qp qk sm))] H → va_D A [(qm, .inr (6, f_Model qp qk sm))] → va_S A s.heap H locs → lv_has ls 3 [(0, .ref qm), (1, .int p1), (2, .int p2)] → W p l e ({ frames := 0, cells := 0, slots := 0, locals := 0 }) s m ([.ref qm, .int p1, .int p2] : List Value).toArray below meth c H locs 0 0 (MQ below (ct_qv G tys A [(qm, .inr (6, f_Model qp qk (k_Model_setX sm p1 p2)))]) ([.ref qm, .int p1, .int p2] : List Value).toArray s 0 0 A) (F0 m 15 ls [.int t0, .ref qm]) := by
    intro t0 H locs ls hj hP hD hS hl
    refine va_put (D := G.1) (ci := 6) (v := .int t0) (ty := .int) (C := R_Model) (T := T_Model) (N := 23) hx hb hts (fun w h => gd_sub _ (iw_Model w h)) ty_Model tyok_Model nm_Model hown hK hP hD hS 0 rfl rfl 5 (by decide) (hts _ (gd_sub _ q_612)) (fun _ h9 => h9) rfl (by decide +kernel) rfl rfl (Nat.le_of_ble_eq_true rfl) d_Model_setX_15 (fun H locs hP hD hS => ?_)
    have hP : va_P G.1 vwCl [(qm, .inr (6, f_Model qp qk (oi sm 5 t0)))] H := hP
    have hD : va_D A [(qm, .inr (6, f_Model qp qk (oi sm 5 t0)))] := hD
    refine lv_aload_n hx hb d_Model_setX_18 rfl (lv_at hl 0 rfl) ?_
    refine lv_iload_n hx hb d_Model_setX_19 rfl (lv_at hl 1 rfl) ?_
    refine lv_bipush (v := 11) hx hb d_Model_setX_20 (by decide) ?_
    refine lv_icmp_ne (tgt := 29) hx hb d_Model_setX_22 (by decide) (fun c_1021 => ?_) (fun c_1021 => ?_)
    · refine lv_aload_n hx hb d_Model_setX_29 rfl (lv_at hl 0 rfl) ?_
      refine va_get (D := G.1) (ci := 6) (v := .int (sm.1 6)) (C := R_Model) (T := T_Model) (N := 23) hx hb hts (fun w h => gd_sub _ (iw_Model w h)) hown hK hP 0 rfl rfl 6 (by decide) (hts _ (gd_sub _ q_613)) (fun _ h9 => h9) rfl d_Model_setX_30 ?_
      exact J33 (sm.1 6) (oi sm 5 t0) H locs ls (hj.trans (by rw [k_Model_setX_j15]; rw [if_neg c_1021]; try rfl)) hP hD hS (lv_sub hl [0, 1, 2] rfl)
    · refine lv_iload_n hx hb d_Model_setX_25 rfl (lv_at hl 2 rfl) ?_
      refine lv_goto (tgt := 33) hx hb d_Model_setX_26 (by decide) ?_
      exact J33 p2 (oi sm 5 t0) H locs ls (hj.trans (by rw [k_Model_setX_j15]; rw [if_pos c_1021]; try rfl)) hP hD hS (lv_sub hl [0, 1, 2] rfl)
  obtain ⟨H, eH⟩ : ∃ z, z = s.heap := ⟨_, rfl⟩
  obtain ⟨locs, eL⟩ : ∃ z, z = ([] : List Loc) := ⟨_, rfl⟩
  have hP : va_P G.1 vwCl [(qm, .inr (6, f_Model qp qk sm))] H := by rw [eH]; exact hP
  have hS : va_S A s.heap H locs := by rw [eH, eL]; exact hS
  suffices hW : W p l e ({ frames := 0, cells := 0, slots := 0, locals := 0 }) s m ([.ref qm, .int p1, .int p2] : List Value).toArray below meth c H locs 0 0 (MQ below (ct_qv G tys A [(qm, .inr (6, f_Model qp qk (k_Model_setX sm p1 p2)))]) ([.ref qm, .int p1, .int p2] : List Value).toArray s 0 0 A) (F0 m 0 ls []) by rw [eH, eL] at hW; exact hW
  refine lv_aload_n hx hb d_Model_setX_0 rfl (lv_at hl 0 rfl) ?_
  refine lv_iload_n hx hb d_Model_setX_1 rfl (lv_at hl 1 rfl) ?_
  refine lv_bipush (v := 10) hx hb d_Model_setX_2 (by decide) ?_
  refine lv_icmp_ne (tgt := 11) hx hb d_Model_setX_4 (by decide) (fun c_1022 => ?_) (fun c_1022 => ?_)
  · refine lv_aload_n hx hb d_Model_setX_11 rfl (lv_at hl 0 rfl) ?_
    refine va_get (D := G.1) (ci := 6) (v := .int (sm.1 5)) (C := R_Model) (T := T_Model) (N := 23) hx hb hts (fun w h => gd_sub _ (iw_Model w h)) hown hK hP 0 rfl rfl 5 (by decide) (hts _ (gd_sub _ q_612)) (fun _ h9 => h9) rfl d_Model_setX_12 ?_
    exact J15 (sm.1 5) H locs ls (by rw [k_Model_setX]; rw [if_neg c_1022]; try rfl) hP hD hS (lv_sub hl [0, 1, 2] rfl)
  · refine lv_iload_n hx hb d_Model_setX_7 rfl (lv_at hl 2 rfl) ?_
    refine lv_goto (tgt := 15) hx hb d_Model_setX_8 (by decide) ?_
    exact J15 p2 H locs ls (by rw [k_Model_setX]; rw [if_pos c_1022]; try rfl) hP hD hS (lv_sub hl [0, 1, 2] rfl)
