def k_Model_control_j141 (sm : ob) (sk : Nat → Int32) (p1 : Int32) (p2 : Int32) (p3 : Int32) (p4 : Int32) (v5 : Bool) (v6 : Int32) (v7 : Int32) (v8 : Int32) (v9 : Int32) (um : ob) (uk : Nat → Int32) : Int32 × ob × (Nat → Int32) :=
  (0, ((k_Model_setX um p2 v9)), uk)
def k_Model_control_j138 (sm : ob) (sk : Nat → Int32) (p1 : Int32) (p2 : Int32) (p3 : Int32) (p4 : Int32) (v5 : Bool) (v6 : Int32) (v7 : Int32) (v8 : Int32) (v9 : Int32) (v10 : Int32) (t0 : Int32) (t1 : Int32) : Int32 × ob × (Nat → Int32) :=
  k_Model_control_j141 sm sk p1 p2 p3 p4 v5 v6 v7 v8 v9 ((k_Model_write sm sk t1 t0).1) ((k_Model_write sm sk t1 t0).2)
def k_Model_control_j83 (sm : ob) (sk : Nat → Int32) (p1 : Int32) (p2 : Int32) (p3 : Int32) (p4 : Int32) (v5 : Bool) (v6 : Int32) (v7 : Int32) (t0 : Int32) : Int32 × ob × (Nat → Int32) :=
  if (bI v5) = 0 then (k_Model_control_j141 sm sk p1 p2 p3 p4 v5 v6 v7 t0 (k_Model_tells sm sk v7) sm sk) else (if (p1 - p1 / 4 * 4) = 1 then (k_Model_control_j138 sm sk p1 p2 p3 p4 v5 v6 v7 t0 (k_Model_tells sm sk v7) (p1 - p1 / 4 * 4) t0 v7) else (if (p1 - p1 / 4 * 4) = 2 then (k_Model_control_j138 sm sk p1 p2 p3 p4 v5 v6 v7 t0 (k_Model_tells sm sk v7) (p1 - p1 / 4 * 4) ((k_Model_tells sm sk v7) ||| t0) v7) else (k_Model_control_j138 sm sk p1 p2 p3 p4 v5 v6 v7 t0 (k_Model_tells sm sk v7) (p1 - p1 / 4 * 4) ((k_Model_tells sm sk v7) &&& (t0 ^^^ (-1))) v7)))
def k_Model_control_j67 (sm : ob) (sk : Nat → Int32) (p1 : Int32) (p2 : Int32) (p3 : Int32) (p4 : Int32) (v5 : Bool) (v6 : Int32) (t0 : Int32) : Int32 × ob × (Nat → Int32) :=
  if p1 ≤ 4 then (k_Model_control_j83 sm sk p1 p2 p3 p4 v5 v6 t0 (k_Model_x sm p3)) else (k_Model_control_j83 sm sk p1 p2 p3 p4 v5 v6 t0 p3)
def k_Model_control_j65 (sm : ob) (sk : Nat → Int32) (p1 : Int32) (p2 : Int32) (p3 : Int32) (p4 : Int32) (v5 : Bool) (v6 : Int32) : Int32 × ob × (Nat → Int32) :=
  k_Model_control_j67 sm sk p1 p2 p3 p4 v5 v6 p4
def k_Model_control_j19 (sm : ob) (sk : Nat → Int32) (p1 : Int32) (p2 : Int32) (p3 : Int32) (p4 : Int32) (t0 : Bool) : Int32 × ob × (Nat → Int32) :=
  if (k_Model_access sm p4 t0) ≤ 0 then (if (sm.1 0) = 3 then (if (p4 >>> (8 &&& 31)) = 1 then (k_Model_control_j67 sm sk p1 p2 p3 p4 t0 (k_Model_access sm p4 t0) (p4 + 256)) else (k_Model_control_j65 sm sk p1 p2 p3 p4 t0 (k_Model_access sm p4 t0))) else (k_Model_control_j65 sm sk p1 p2 p3 p4 t0 (k_Model_access sm p4 t0))) else ((k_Model_access sm p4 t0), sm, sk)
def k_Model_control_j14 (sm : ob) (sk : Nat → Int32) (p1 : Int32) (p2 : Int32) (p3 : Int32) (p4 : Int32) : Int32 × ob × (Nat → Int32) :=
  k_Model_control_j19 sm sk p1 p2 p3 p4 true
def k_Model_control (sm : ob) (sk : Nat → Int32) (p1 : Int32) (p2 : Int32) (p3 : Int32) (p4 : Int32) : Int32 × ob × (Nat → Int32) :=
  if p1 = 1 then (k_Model_control_j14 sm sk p1 p2 p3 p4) else (if p1 = 5 then (k_Model_control_j14 sm sk p1 p2 p3 p4) else (if p3 = 0 then (k_Model_control_j19 sm sk p1 p2 p3 p4 false) else (k_Model_control_j14 sm sk p1 p2 p3 p4)))
set_option maxHeartbeats 4000000 in
set_option maxRecDepth 100000 in
theorem c_Model_control (l : Launch) (G : gx) (tys : List (ClassId × FieldType)) {cD : ClassId} (ht2 : tys[2]? = some (cD, .int)) (qm qk qp : Nat) (sm : ob) (sk : Nat → Int32) (p1 : Int32) (p2 : Int32) (p3 : Int32) (p4 : Int32) : ct_I l y_Model_control ws_Model_control ({ frames := 3, cells := 0, slots := 0, locals := 64 }) G tys [.ref qm, .int p1, .int p2, .int p3, .int p4] [(qm, .inr (6, f_Model qp qk sm)), (qk, .inl (cD, 512, .inl sk))] ((k_Model_control sm sk p1 p2 p3 p4).1) [(qm, .inr (6, f_Model qp qk ((k_Model_control sm sk p1 p2 p3 p4).2.1))), (qk, .inl (cD, 512, .inl ((k_Model_control sm sk p1 p2 p3 p4).2.2)))] := by
  refine ct_hI (cc := cc_Model_control) (maxL := 11) (ret := (some .int)) (by decide) rfl (Nat.le_of_ble_eq_true rfl) ?_
  intro p e s m below meth c A ls hx hb hr hml hts hown hlocks hP hK hD hA hE hS hl
  have hl : lv_has ls 11 [(0, .ref qm), (1, .int p1), (2, .int p2), (3, .int p3), (4, .int p4)] := hl
  have hown : s.vm.findClass R_Model = some m.cls := hown
  have J141 : ∀ (v5 : Bool) (v6 : Int32) (v7 : Int32) (v8 : Int32) (v9 : Int32) (um : ob) (uk : Nat → Int32) (H : Heap) (locs : List Loc) (ls : Array Slot), k_Model_control sm sk p1 p2 p3 p4 = k_Model_control_j141 sm sk p1 p2 p3 p4 v5 v6 v7 v8 v9 um uk → va_P G.1 vwCl [(qm, .inr (6, f_Model qp qk um)), (qk, .inl (cD, 512, .inl uk))] H → va_D A [(qm, .inr (6, f_Model qp qk um)), (qk, .inl (cD, 512, .inl uk))] → va_S A s.heap H locs → lv_has ls 11 [(0, .ref qm), (1, .int p1), (2, .int p2), (3, .int p3), (4, .int p4), (5, .int (bI v5)), (6, .int v6), (7, .int v7), (8, .int v8), (9, .int v9)] → W p l e ({ frames := 3, cells := 0, slots := 0, locals := 64 }) s m ([.ref qm, .int p1, .int p2, .int p3, .int p4] : List Value).toArray below meth c H locs 0 0 (MQ below (ct_qi G tys A ((k_Model_control sm sk p1 p2 p3 p4).1) [(qm, .inr (6, f_Model qp qk ((k_Model_control sm sk p1 p2 p3 p4).2.1))), (qk, .inl (cD, 512, .inl ((k_Model_control sm sk p1 p2 p3 p4).2.2)))]) ([.ref qm, .int p1, .int p2, .int p3, .int p4] : List Value).toArray s 0 0 A) (F0 m 141 ls []) := by
    intro v5 v6 v7 v8 v9 um uk H locs ls hj hP hD hS hl
    refine lv_aload_n hx hb d_Model_control_141 rfl (lv_at hl 0 rfl) ?_
    refine lv_iload_n hx hb d_Model_control_142 rfl (lv_at hl 2 rfl) ?_
    refine lv_iload hx hb d_Model_control_143 (lv_at hl 9 rfl) ?_
    obtain ⟨sm_1036, esm_1036⟩ : ∃ z, z = (k_Model_setX um p2 v9) := ⟨_, rfl⟩
    have hM := c_Model_setX l G tys qm qp qk um p2 v9
    rw [← esm_1036] at hM
    refine ct_cVv (wr := [(qk, .inl (cD, 512, .inl uk))]) (w1 := [(qm, .inr (6, f_Model qp qk sm_1036))]) (w2 := [(qm, .inr (6, f_Model qp qk sm_1036)), (qk, .inl (cD, 512, .inl uk))]) (As := [.int p2, .int v9]) (rest := []) (ci := 6) (q0 := 0) ⟨hx, hb, hml, hown, hts⟩ hM (cwV 2 hts (gdV gd_gd q_807 q_809 q_39 q_47 q_810) rfl rfl rfl (by decide +kernel) ⟨Nat.le_of_ble_eq_true rfl, Nat.le_of_ble_eq_true rfl⟩) hE hK hP hD hS hA [0] [1] [1, 0] rfl (by decide) rfl (by decide) (by decide) rfl (by decide) rfl rfl rfl hl.1 rfl (Nat.le_of_ble_eq_true rfl) d_Model_control_145 ⟨Nat.zero_le _, Nat.zero_le _⟩ (fun H locs hP hD hS => ?_)
    refine lv_iconst (v := 0) hx hb d_Model_control_148 (by decide) ?_
    have hk : k_Model_control sm sk p1 p2 p3 p4 = (0, sm_1036, uk) := (hj.trans (by rw [k_Model_control_j141]; try rw [← esm_1036]; try rfl))
    exact ct_ri hx hb hr hlocks hP hD hK hS d_Model_control_149 (by rw [hk]; first | done | rfl) (by rw [hk]; first | done | rfl)
  have J138 : ∀ (v5 : Bool) (v6 : Int32) (v7 : Int32) (v8 : Int32) (v9 : Int32) (v10 : Int32) (t0 : Int32) (t1 : Int32) (h8 : okW t1) (H : Heap) (locs : List Loc) (ls : Array Slot), k_Model_control sm sk p1 p2 p3 p4 = k_Model_control_j138 sm sk p1 p2 p3 p4 v5 v6 v7 v8 v9 v10 t0 t1 → va_P G.1 vwCl [(qm, .inr (6, f_Model qp qk sm)), (qk, .inl (cD, 512, .inl sk))] H → va_D A [(qm, .inr (6, f_Model qp qk sm)), (qk, .inl (cD, 512, .inl sk))] → va_S A s.heap H locs → lv_has ls 11 [(0, .ref qm), (1, .int p1), (2, .int p2), (3, .int p3), (4, .int p4), (5, .int (bI v5)), (6, .int v6), (7, .int v7), (8, .int v8), (9, .int v9), (10, .int v10)] → W p l e ({ frames := 3, cells := 0, slots := 0, locals := 64 }) s m ([.ref qm, .int p1, .int p2, .int p3, .int p4] : List Value).toArray below meth c H locs 0 0 (MQ below (ct_qi G tys A ((k_Model_control sm sk p1 p2 p3 p4).1) [(qm, .inr (6, f_Model qp qk ((k_Model_control sm sk p1 p2 p3 p4).2.1))), (qk, .inl (cD, 512, .inl ((k_Model_control sm sk p1 p2 p3 p4).2.2)))]) ([.ref qm, .int p1, .int p2, .int p3, .int p4] : List Value).toArray s 0 0 A) (F0 m 138 ls [.int t0, .int t1, .ref qm]) := by
    intro v5 v6 v7 v8 v9 v10 t0 t1 h8 H locs ls hj hP hD hS hl
    obtain ⟨sm_1037, esm_1037⟩ : ∃ z, z = (k_Model_write sm sk t1 t0).1 := ⟨_, rfl⟩
    obtain ⟨sk_1038, esk_1038⟩ : ∃ z, z = (k_Model_write sm sk t1 t0).2 := ⟨_, rfl⟩
    have hM := c_Model_write l G tys ht2 qm qk qp sm sk t1 t0 h8
    rw [← esm_1037, ← esk_1038] at hM
    refine ct_cVv (wr := []) (w1 := [(qm, .inr (6, f_Model qp qk sm_1037)), (qk, .inl (cD, 512, .inl sk_1038))]) (w2 := [(qm, .inr (6, f_Model qp qk sm_1037)), (qk, .inl (cD, 512, .inl sk_1038))]) (As := [.int t1, .int t0]) (rest := []) (ci := 6) (q0 := 0) ⟨hx, hb, hml, hown, hts⟩ hM (cwV 2 hts (gdV gd_gd q_695 q_697 q_21 q_47 q_698) rfl rfl rfl (by decide +kernel) ⟨Nat.le_of_ble_eq_true rfl, Nat.le_of_ble_eq_true rfl⟩) hE hK hP hD hS hA [0, 1] [] [0, 1] rfl (by decide) rfl (by decide) (by decide) rfl (by decide) rfl rfl rfl hl.1 rfl (Nat.le_of_ble_eq_true rfl) d_Model_control_138 ⟨Nat.zero_le _, Nat.zero_le _⟩ (fun H locs hP hD hS => ?_)
    exact J141 v5 v6 v7 v8 v9 sm_1037 sk_1038 H locs ls (hj.trans (by rw [k_Model_control_j138]; try rw [← esm_1037]; try rw [← esk_1038]; try rfl)) hP hD hS (lv_sub hl [0, 1, 2, 3, 4, 5, 6, 7, 8, 9] rfl)
  have J83 : ∀ (v5 : Bool) (v6 : Int32) (v7 : Int32) (t0 : Int32) (h9 : okT v7) (h8 : v5 = true → okW v7) (H : Heap) (locs : List Loc) (ls : Array Slot), k_Model_control sm sk p1 p2 p3 p4 = k_Model_control_j83 sm sk p1 p2 p3 p4 v5 v6 v7 t0 → va_P G.1 vwCl [(qm, .inr (6, f_Model qp qk sm)), (qk, .inl (cD, 512, .inl sk))] H → va_D A [(qm, .inr (6, f_Model qp qk sm)), (qk, .inl (cD, 512, .inl sk))] → va_S A s.heap H locs → lv_has ls 11 [(0, .ref qm), (1, .int p1), (2, .int p2), (3, .int p3), (4, .int p4), (5, .int (bI v5)), (6, .int v6), (7, .int v7)] → W p l e ({ frames := 3, cells := 0, slots := 0, locals := 64 }) s m ([.ref qm, .int p1, .int p2, .int p3, .int p4] : List Value).toArray below meth c H locs 0 0 (MQ below (ct_qi G tys A ((k_Model_control sm sk p1 p2 p3 p4).1) [(qm, .inr (6, f_Model qp qk ((k_Model_control sm sk p1 p2 p3 p4).2.1))), (qk, .inl (cD, 512, .inl ((k_Model_control sm sk p1 p2 p3 p4).2.2)))]) ([.ref qm, .int p1, .int p2, .int p3, .int p4] : List Value).toArray s 0 0 A) (F0 m 83 ls [.int t0]) := by
    intro v5 v6 v7 t0 h9 h8 H locs ls hj hP hD hS hl
    refine lv_istore (lv' := [(8, .int t0), (0, .ref qm), (1, .int p1), (2, .int p2), (3, .int p3), (4, .int p4), (5, .int (bI v5)), (6, .int v6), (7, .int v7)]) hx hb d_Model_control_83 hl (by decide) rfl (fun ls hl => ?_)
    refine lv_aload_n hx hb d_Model_control_85 rfl (lv_at hl 1 rfl) ?_
    refine lv_iload hx hb d_Model_control_86 (lv_at hl 8 rfl) ?_
    refine ct_cVi (wr := []) (w1 := [(qm, .inr (6, f_Model qp qk sm)), (qk, .inl (cD, 512, .inl sk))]) (w2 := [(qm, .inr (6, f_Model qp qk sm)), (qk, .inl (cD, 512, .inl sk))]) (r := (k_Model_tells sm sk v7)) (As := [.int v7]) (rest := []) (ci := 6) (q0 := 0) ⟨hx, hb, hml, hown, hts⟩ (c_Model_tells l G tys ht2 qm qk qp sm sk v7 h9) (cwV 1 hts (gdV gd_gd q_711 q_713 q_22 q_47 q_714) rfl rfl rfl (by decide +kernel) ⟨Nat.le_of_ble_eq_true rfl, Nat.le_of_ble_eq_true rfl⟩) hE hK hP hD hS hA [0, 1] [] [0, 1] rfl (by decide) rfl (by decide) (by decide) rfl (by decide) rfl rfl rfl hl.1 rfl (Nat.le_of_ble_eq_true rfl) d_Model_control_88 ⟨Nat.zero_le _, Nat.zero_le _⟩ (fun H locs hP hD hS => ?_)
    refine lv_istore (lv' := [(9, .int (k_Model_tells sm sk v7)), (8, .int t0), (0, .ref qm), (1, .int p1), (2, .int p2), (3, .int p3), (4, .int p4), (5, .int (bI v5)), (6, .int v6), (7, .int v7)]) hx hb d_Model_control_91 hl (by decide) rfl (fun ls hl => ?_)
    refine lv_iload hx hb d_Model_control_93 (lv_at hl 7 rfl) ?_
    refine lv_if_eq (tgt := 141) hx hb d_Model_control_95 (by decide) (fun c_1039 => ?_) (fun c_1039 => ?_)
    · exact J141 v5 v6 v7 t0 (k_Model_tells sm sk v7) sm sk H locs ls (hj.trans (by rw [k_Model_control_j83]; rw [if_pos c_1039]; try rfl)) hP hD hS (lv_sub hl [2, 3, 4, 5, 6, 7, 8, 9, 1, 0] rfl)
    · refine lv_iload_n hx hb d_Model_control_98 rfl (lv_at hl 3 rfl) ?_
      refine lv_iconst (v := 4) hx hb d_Model_control_99 (by decide) ?_
      refine lv_irem hx hb d_Model_control_100 (by decide) ?_
      refine lv_istore (lv' := [(10, .int (p1 - p1 / 4 * 4)), (9, .int (k_Model_tells sm sk v7)), (8, .int t0), (0, .ref qm), (1, .int p1), (2, .int p2), (3, .int p3), (4, .int p4), (5, .int (bI v5)), (6, .int v6), (7, .int v7)]) hx hb d_Model_control_101 hl (by decide) rfl (fun ls hl => ?_)
      refine lv_aload_n hx hb d_Model_control_103 rfl (lv_at hl 3 rfl) ?_
      refine lv_iload hx hb d_Model_control_104 (lv_at hl 10 rfl) ?_
      refine lv_iload hx hb d_Model_control_106 (lv_at hl 0 rfl) ?_
      refine lv_iconst (v := 1) hx hb d_Model_control_108 (by decide) ?_
      refine lv_icmp_ne (tgt := 117) hx hb d_Model_control_109 (by decide) (fun c_1040 => ?_) (fun c_1040 => ?_)
      · refine lv_iload hx hb d_Model_control_117 (lv_at hl 0 rfl) ?_
        refine lv_iconst (v := 2) hx hb d_Model_control_119 (by decide) ?_
        refine lv_icmp_ne (tgt := 131) hx hb d_Model_control_120 (by decide) (fun c_1041 => ?_) (fun c_1041 => ?_)
        · refine lv_iload hx hb d_Model_control_131 (lv_at hl 1 rfl) ?_
          refine lv_iload hx hb d_Model_control_133 (lv_at hl 2 rfl) ?_
          refine lv_iconst (v := (-1)) hx hb d_Model_control_135 (by decide) ?_
          refine lv_ixor hx hb d_Model_control_136 ?_
          refine lv_iand hx hb d_Model_control_137 ?_
          exact J138 v5 v6 v7 t0 (k_Model_tells sm sk v7) (p1 - p1 / 4 * 4) ((k_Model_tells sm sk v7) &&& (t0 ^^^ (-1))) v7 (h8 (bI_t c_1039)) H locs ls (hj.trans (by rw [k_Model_control_j83]; rw [if_neg c_1039]; rw [if_neg c_1040]; rw [if_neg c_1041]; try rfl)) hP hD hS (lv_sub hl [3, 4, 5, 6, 7, 8, 9, 10, 2, 1, 0] rfl)
        · refine lv_iload hx hb d_Model_control_123 (lv_at hl 1 rfl) ?_
          refine lv_iload hx hb d_Model_control_125 (lv_at hl 2 rfl) ?_
          refine lv_ior hx hb d_Model_control_127 ?_
          refine lv_goto (tgt := 138) hx hb d_Model_control_128 (by decide) ?_
          exact J138 v5 v6 v7 t0 (k_Model_tells sm sk v7) (p1 - p1 / 4 * 4) ((k_Model_tells sm sk v7) ||| t0) v7 (h8 (bI_t c_1039)) H locs ls (hj.trans (by rw [k_Model_control_j83]; rw [if_neg c_1039]; rw [if_neg c_1040]; rw [if_pos c_1041]; try rfl)) hP hD hS (lv_sub hl [3, 4, 5, 6, 7, 8, 9, 10, 2, 1, 0] rfl)
      · refine lv_iload hx hb d_Model_control_112 (lv_at hl 2 rfl) ?_
        refine lv_goto (tgt := 138) hx hb d_Model_control_114 (by decide) ?_
        exact J138 v5 v6 v7 t0 (k_Model_tells sm sk v7) (p1 - p1 / 4 * 4) t0 v7 (h8 (bI_t c_1039)) H locs ls (hj.trans (by rw [k_Model_control_j83]; rw [if_neg c_1039]; rw [if_pos c_1040]; try rfl)) hP hD hS (lv_sub hl [3, 4, 5, 6, 7, 8, 9, 10, 2, 1, 0] rfl)
  have J67 : ∀ (v5 : Bool) (v6 : Int32) (t0 : Int32) (h9 : okT t0) (h8 : v5 = true → okW t0) (H : Heap) (locs : List Loc) (ls : Array Slot), k_Model_control sm sk p1 p2 p3 p4 = k_Model_control_j67 sm sk p1 p2 p3 p4 v5 v6 t0 → va_P G.1 vwCl [(qm, .inr (6, f_Model qp qk sm)), (qk, .inl (cD, 512, .inl sk))] H → va_D A [(qm, .inr (6, f_Model qp qk sm)), (qk, .inl (cD, 512, .inl sk))] → va_S A s.heap H locs → lv_has ls 11 [(0, .ref qm), (1, .int p1), (2, .int p2), (3, .int p3), (4, .int p4), (5, .int (bI v5)), (6, .int v6)] → W p l e ({ frames := 3, cells := 0, slots := 0, locals := 64 }) s m ([.ref qm, .int p1, .int p2, .int p3, .int p4] : List Value).toArray below meth c H locs 0 0 (MQ below (ct_qi G tys A ((k_Model_control sm sk p1 p2 p3 p4).1) [(qm, .inr (6, f_Model qp qk ((k_Model_control sm sk p1 p2 p3 p4).2.1))), (qk, .inl (cD, 512, .inl ((k_Model_control sm sk p1 p2 p3 p4).2.2)))]) ([.ref qm, .int p1, .int p2, .int p3, .int p4] : List Value).toArray s 0 0 A) (F0 m 67 ls [.int t0]) := by
    intro v5 v6 t0 h9 h8 H locs ls hj hP hD hS hl
    refine lv_istore (lv' := [(7, .int t0), (0, .ref qm), (1, .int p1), (2, .int p2), (3, .int p3), (4, .int p4), (5, .int (bI v5)), (6, .int v6)]) hx hb d_Model_control_67 hl (by decide) rfl (fun ls hl => ?_)
    refine lv_iload_n hx hb d_Model_control_69 rfl (lv_at hl 2 rfl) ?_
    refine lv_iconst (v := 4) hx hb d_Model_control_70 (by decide) ?_
    refine lv_icmp_le (tgt := 78) hx hb d_Model_control_71 (by decide) (fun c_1042 => ?_) (fun c_1042 => ?_)
    · refine lv_aload_n hx hb d_Model_control_78 rfl (lv_at hl 1 rfl) ?_
      refine lv_iload_n hx hb d_Model_control_79 rfl (lv_at hl 4 rfl) ?_
      refine ct_cVi (wr := [(qk, .inl (cD, 512, .inl sk))]) (w1 := [(qm, .inr (6, f_Model qp qk sm))]) (w2 := [(qm, .inr (6, f_Model qp qk sm)), (qk, .inl (cD, 512, .inl sk))]) (r := (k_Model_x sm p3)) (As := [.int p3]) (rest := []) (ci := 6) (q0 := 0) ⟨hx, hb, hml, hown, hts⟩ (c_Model_x l G tys qm qp qk sm p3) (cwV 1 hts (gdV gd_gd q_803 q_805 q_38 q_47 q_806) rfl rfl rfl (by decide +kernel) ⟨Nat.le_of_ble_eq_true rfl, Nat.le_of_ble_eq_true rfl⟩) hE hK hP hD hS hA [0] [1] [1, 0] rfl (by decide) rfl (by decide) (by decide) rfl (by decide) rfl rfl rfl hl.1 rfl (Nat.le_of_ble_eq_true rfl) d_Model_control_80 ⟨Nat.zero_le _, Nat.zero_le _⟩ (fun H locs hP hD hS => ?_)
      exact J83 v5 v6 t0 (k_Model_x sm p3) h9 h8 H locs ls (hj.trans (by rw [k_Model_control_j67]; rw [if_pos c_1042]; try rfl)) hP hD hS (lv_sub hl [1, 2, 3, 4, 5, 6, 7, 0] rfl)
    · refine lv_iload_n hx hb d_Model_control_74 rfl (lv_at hl 4 rfl) ?_
      refine lv_goto (tgt := 83) hx hb d_Model_control_75 (by decide) ?_
      exact J83 v5 v6 t0 p3 h9 h8 H locs ls (hj.trans (by rw [k_Model_control_j67]; rw [if_neg c_1042]; try rfl)) hP hD hS (lv_sub hl [1, 2, 3, 4, 5, 6, 7, 0] rfl)
  have J65 : ∀ (v5 : Bool) (v6 : Int32) (h9 : okT p4) (h8 : v5 = true → okW p4) (H : Heap) (locs : List Loc) (ls : Array Slot), k_Model_control sm sk p1 p2 p3 p4 = k_Model_control_j65 sm sk p1 p2 p3 p4 v5 v6 → va_P G.1 vwCl [(qm, .inr (6, f_Model qp qk sm)), (qk, .inl (cD, 512, .inl sk))] H → va_D A [(qm, .inr (6, f_Model qp qk sm)), (qk, .inl (cD, 512, .inl sk))] → va_S A s.heap H locs → lv_has ls 11 [(0, .ref qm), (1, .int p1), (2, .int p2), (3, .int p3), (4, .int p4), (5, .int (bI v5)), (6, .int v6)] → W p l e ({ frames := 3, cells := 0, slots := 0, locals := 64 }) s m ([.ref qm, .int p1, .int p2, .int p3, .int p4] : List Value).toArray below meth c H locs 0 0 (MQ below (ct_qi G tys A ((k_Model_control sm sk p1 p2 p3 p4).1) [(qm, .inr (6, f_Model qp qk ((k_Model_control sm sk p1 p2 p3 p4).2.1))), (qk, .inl (cD, 512, .inl ((k_Model_control sm sk p1 p2 p3 p4).2.2)))]) ([.ref qm, .int p1, .int p2, .int p3, .int p4] : List Value).toArray s 0 0 A) (F0 m 65 ls []) := by
    intro v5 v6 h9 h8 H locs ls hj hP hD hS hl
    refine lv_iload hx hb d_Model_control_65 (lv_at hl 4 rfl) ?_
    exact J67 v5 v6 p4 h9 h8 H locs ls (hj.trans (by rw [k_Model_control_j65]; try rfl)) hP hD hS (lv_sub hl [0, 1, 2, 3, 4, 5, 6] rfl)
  have J19 : ∀ (t0 : Bool) (H : Heap) (locs : List Loc) (ls : Array Slot), k_Model_control sm sk p1 p2 p3 p4 = k_Model_control_j19 sm sk p1 p2 p3 p4 t0 → va_P G.1 vwCl [(qm, .inr (6, f_Model qp qk sm)), (qk, .inl (cD, 512, .inl sk))] H → va_D A [(qm, .inr (6, f_Model qp qk sm)), (qk, .inl (cD, 512, .inl sk))] → va_S A s.heap H locs → lv_has ls 11 [(0, .ref qm), (1, .int p1), (2, .int p2), (3, .int p3), (4, .int p4)] → W p l e ({ frames := 3, cells := 0, slots := 0, locals := 64 }) s m ([.ref qm, .int p1, .int p2, .int p3, .int p4] : List Value).toArray below meth c H locs 0 0 (MQ below (ct_qi G tys A ((k_Model_control sm sk p1 p2 p3 p4).1) [(qm, .inr (6, f_Model qp qk ((k_Model_control sm sk p1 p2 p3 p4).2.1))), (qk, .inl (cD, 512, .inl ((k_Model_control sm sk p1 p2 p3 p4).2.2)))]) ([.ref qm, .int p1, .int p2, .int p3, .int p4] : List Value).toArray s 0 0 A) (F0 m 19 ls [.int (bI t0)]) := by
    intro t0 H locs ls hj hP hD hS hl
    refine lv_istore (lv' := [(5, .int (bI t0)), (0, .ref qm), (1, .int p1), (2, .int p2), (3, .int p3), (4, .int p4)]) hx hb d_Model_control_19 hl (by decide) rfl (fun ls hl => ?_)
    refine lv_aload_n hx hb d_Model_control_21 rfl (lv_at hl 1 rfl) ?_
    refine lv_iload hx hb d_Model_control_22 (lv_at hl 5 rfl) ?_
    refine lv_iload hx hb d_Model_control_24 (lv_at hl 0 rfl) ?_
    refine ct_cVi (wr := [(qk, .inl (cD, 512, .inl sk))]) (w1 := [(qm, .inr (6, f_Model qp qk sm))]) (w2 := [(qm, .inr (6, f_Model qp qk sm)), (qk, .inl (cD, 512, .inl sk))]) (r := (k_Model_access sm p4 t0)) (As := [.int p4, .int (bI t0)]) (rest := []) (ci := 6) (q0 := 0) ⟨hx, hb, hml, hown, hts⟩ (c_Model_access l G tys qm qp qk sm p4 t0) (cwV 2 hts (gdV gd_gd q_799 q_801 q_37 q_47 q_802) rfl rfl rfl (by decide +kernel) ⟨Nat.le_of_ble_eq_true rfl, Nat.le_of_ble_eq_true rfl⟩) hE hK hP hD hS hA [0] [1] [1, 0] rfl (by decide) rfl (by decide) (by decide) rfl (by decide) rfl rfl rfl hl.1 rfl (Nat.le_of_ble_eq_true rfl) d_Model_control_26 ⟨Nat.zero_le _, Nat.zero_le _⟩ (fun H locs hP hD hS => ?_)
    refine lv_istore (lv' := [(6, .int (k_Model_access sm p4 t0)), (5, .int (bI t0)), (0, .ref qm), (1, .int p1), (2, .int p2), (3, .int p3), (4, .int p4)]) hx hb d_Model_control_29 hl (by decide) rfl (fun ls hl => ?_)
    refine lv_iload hx hb d_Model_control_31 (lv_at hl 0 rfl) ?_
    refine lv_if_le (tgt := 39) hx hb d_Model_control_33 (by decide) (fun c_1043 => ?_) (fun c_1043 => ?_)
    · refine lv_aload_n hx hb d_Model_control_39 rfl (lv_at hl 2 rfl) ?_
      refine va_get (D := G.1) (ci := 6) (v := .int (sm.1 0)) (C := R_Model) (T := T_Model) (N := 23) hx hb hts (fun w h => gd_sub _ (iw_Model w h)) hown hK hP 0 rfl rfl 0 (by decide) (hts _ (gd_sub _ q_607)) (fun _ h9 => h9) rfl d_Model_control_40 ?_
      refine lv_iconst (v := 3) hx hb d_Model_control_43 (by decide) ?_
      refine lv_icmp_ne (tgt := 65) hx hb d_Model_control_44 (by decide) (fun c_1044 => ?_) (fun c_1044 => ?_)
      · exact J65 t0 (k_Model_access sm p4 t0) (okT_acc c_1043) (okW_acc c_1043) H locs ls (hj.trans (by rw [k_Model_control_j19]; rw [if_pos c_1043]; rw [if_neg c_1044]; try rfl)) hP hD hS (lv_sub hl [2, 3, 4, 5, 6, 1, 0] rfl)
      · refine lv_iload hx hb d_Model_control_47 (lv_at hl 6 rfl) ?_
        refine lv_bipush (v := 8) hx hb d_Model_control_49 (by decide) ?_
        refine lv_ishr hx hb d_Model_control_51 ?_
        refine lv_iconst (v := 1) hx hb d_Model_control_52 (by decide) ?_
        refine lv_icmp_ne (tgt := 65) hx hb d_Model_control_53 (by decide) (fun c_1045 => ?_) (fun c_1045 => ?_)
        · exact J65 t0 (k_Model_access sm p4 t0) (okT_acc c_1043) (okW_acc c_1043) H locs ls (hj.trans (by rw [k_Model_control_j19]; rw [if_pos c_1043]; rw [if_pos c_1044]; rw [if_neg c_1045]; try rfl)) hP hD hS (lv_sub hl [2, 3, 4, 5, 6, 1, 0] rfl)
        · refine lv_iload hx hb d_Model_control_56 (lv_at hl 6 rfl) ?_
          refine lv_sipush (v := 256) hx hb d_Model_control_58 (by decide) ?_
          refine lv_iadd hx hb d_Model_control_61 ?_
          refine lv_goto (tgt := 67) hx hb d_Model_control_62 (by decide) ?_
          exact J67 t0 (k_Model_access sm p4 t0) (p4 + 256) (okT_sh c_1045) (fun _ => okW_sh c_1045) H locs ls (hj.trans (by rw [k_Model_control_j19]; rw [if_pos c_1043]; rw [if_pos c_1044]; rw [if_pos c_1045]; try rfl)) hP hD hS (lv_sub hl [2, 3, 4, 5, 6, 1, 0] rfl)
    · refine lv_iload hx hb d_Model_control_36 (lv_at hl 0 rfl) ?_
      have hk : k_Model_control sm sk p1 p2 p3 p4 = ((k_Model_access sm p4 t0), sm, sk) := (hj.trans (by rw [k_Model_control_j19]; rw [if_neg c_1043]; try rfl))
      exact ct_ri hx hb hr hlocks hP hD hK hS d_Model_control_38 (by rw [hk]; first | done | rfl) (by rw [hk]; first | done | rfl)
  have J14 : ∀ (H : Heap) (locs : List Loc) (ls : Array Slot), k_Model_control sm sk p1 p2 p3 p4 = k_Model_control_j14 sm sk p1 p2 p3 p4 → va_P G.1 vwCl [(qm, .inr (6, f_Model qp qk sm)), (qk, .inl (cD, 512, .inl sk))] H → va_D A [(qm, .inr (6, f_Model qp qk sm)), (qk, .inl (cD, 512, .inl sk))] → va_S A s.heap H locs → lv_has ls 11 [(0, .ref qm), (1, .int p1), (2, .int p2), (3, .int p3), (4, .int p4)] → W p l e ({ frames := 3, cells := 0, slots := 0, locals := 64 }) s m ([.ref qm, .int p1, .int p2, .int p3, .int p4] : List Value).toArray below meth c H locs 0 0 (MQ below (ct_qi G tys A ((k_Model_control sm sk p1 p2 p3 p4).1) [(qm, .inr (6, f_Model qp qk ((k_Model_control sm sk p1 p2 p3 p4).2.1))), (qk, .inl (cD, 512, .inl ((k_Model_control sm sk p1 p2 p3 p4).2.2)))]) ([.ref qm, .int p1, .int p2, .int p3, .int p4] : List Value).toArray s 0 0 A) (F0 m 14 ls []) := by
    intro H locs ls hj hP hD hS hl
    refine lv_iconst (v := 1) hx hb d_Model_control_14 (by decide) ?_
    refine lv_goto (tgt := 19) hx hb d_Model_control_15 (by decide) ?_
    exact J19 true H locs ls (hj.trans (by rw [k_Model_control_j14]; try rfl)) hP hD hS (lv_sub hl [0, 1, 2, 3, 4] rfl)
  obtain ⟨H, eH⟩ : ∃ z, z = s.heap := ⟨_, rfl⟩
  obtain ⟨locs, eL⟩ : ∃ z, z = ([] : List Loc) := ⟨_, rfl⟩
  have hP : va_P G.1 vwCl [(qm, .inr (6, f_Model qp qk sm)), (qk, .inl (cD, 512, .inl sk))] H := by rw [eH]; exact hP
  have hS : va_S A s.heap H locs := by rw [eH, eL]; exact hS
  suffices hW : W p l e ({ frames := 3, cells := 0, slots := 0, locals := 64 }) s m ([.ref qm, .int p1, .int p2, .int p3, .int p4] : List Value).toArray below meth c H locs 0 0 (MQ below (ct_qi G tys A ((k_Model_control sm sk p1 p2 p3 p4).1) [(qm, .inr (6, f_Model qp qk ((k_Model_control sm sk p1 p2 p3 p4).2.1))), (qk, .inl (cD, 512, .inl ((k_Model_control sm sk p1 p2 p3 p4).2.2)))]) ([.ref qm, .int p1, .int p2, .int p3, .int p4] : List Value).toArray s 0 0 A) (F0 m 0 ls []) by rw [eH, eL] at hW; exact hW
  refine lv_iload_n hx hb d_Model_control_0 rfl (lv_at hl 1 rfl) ?_
  refine lv_iconst (v := 1) hx hb d_Model_control_1 (by decide) ?_
  refine lv_icmp_eq (tgt := 14) hx hb d_Model_control_2 (by decide) (fun c_1046 => ?_) (fun c_1046 => ?_)
  · exact J14 H locs ls (by rw [k_Model_control]; rw [if_pos c_1046]; try rfl) hP hD hS (lv_sub hl [0, 1, 2, 3, 4] rfl)
  · refine lv_iload_n hx hb d_Model_control_5 rfl (lv_at hl 1 rfl) ?_
    refine lv_iconst (v := 5) hx hb d_Model_control_6 (by decide) ?_
    refine lv_icmp_eq (tgt := 14) hx hb d_Model_control_7 (by decide) (fun c_1047 => ?_) (fun c_1047 => ?_)
    · exact J14 H locs ls (by rw [k_Model_control]; rw [if_neg c_1046]; rw [if_pos c_1047]; try rfl) hP hD hS (lv_sub hl [0, 1, 2, 3, 4] rfl)
    · refine lv_iload_n hx hb d_Model_control_10 rfl (lv_at hl 3 rfl) ?_
      refine lv_if_eq (tgt := 18) hx hb d_Model_control_11 (by decide) (fun c_1048 => ?_) (fun c_1048 => ?_)
      · refine lv_iconst (v := 0) hx hb d_Model_control_18 (by decide) ?_
        exact J19 false H locs ls (by rw [k_Model_control]; rw [if_neg c_1046]; rw [if_neg c_1047]; rw [if_pos c_1048]; try rfl) hP hD hS (lv_sub hl [0, 1, 2, 3, 4] rfl)
      · exact J14 H locs ls (by rw [k_Model_control]; rw [if_neg c_1046]; rw [if_neg c_1047]; rw [if_neg c_1048]; try rfl) hP hD hS (lv_sub hl [0, 1, 2, 3, 4] rfl)
def k_Model_firmware_j121 (sm : ob) (sp : Nat → Int32) (um : ob) (up : Nat → Int32) : ob × (Nat → Int32) :=
  ((oi um 5 0), up)
def k_Model_firmware_j73 (sm : ob) (sp : Nat → Int32) (v1 : Int64) (t0 : Int64) : ob × (Nat → Int32) :=
  ((oi (ol sm 3 t0) 5 0), sp)
def k_Model_firmware (sm : ob) (sp : Nat → Int32) : ob × (Nat → Int32) :=
  if (sm.1 7) = 0 then (if 0 ≤ (lg_cmp (((sm.1 5).toInt64 &&& 4294967295) ||| (lsh ((sm.1 6).toInt64) 32)) 0) then (k_Model_firmware_j73 sm sp (((sm.1 5).toInt64 &&& 4294967295) ||| (lsh ((sm.1 6).toInt64) 32)) (((sm.1 5).toInt64 &&& 4294967295) ||| (lsh ((sm.1 6).toInt64) 32))) else (k_Model_firmware_j73 sm sp (((sm.1 5).toInt64 &&& 4294967295) ||| (lsh ((sm.1 6).toInt64) 32)) 9223372036854775807)) else if (sm.1 7) = 1 then (if 256 ≤ (sm.1 9) then (k_Model_firmware_j121 sm sp sm sp) else (k_Model_firmware_j121 sm sp (oi sm 9 ((sm.1 9) + 1)) (upd sp (sm.1 9).toNatClampNeg ((sm.1 5) &&& 255)))) else if (sm.1 7) = 8 then ((oi (oz sm 10 true) 5 0), sp) else ((oi sm 5 (-2)), sp)
set_option maxHeartbeats 4000000 in
set_option maxRecDepth 100000 in
theorem c_Model_firmware (l : Launch) (G : gx) (tys : List (ClassId × FieldType)) {cB : ClassId} (ht1 : tys[1]? = some (cB, .int)) (qm qp qk : Nat) (sm : ob) (sp : Nat → Int32) (hq9 : ¬ sm.1 9 < 0) : ct_V l y_Model_firmware ws_Model_firmware ({ frames := 0, cells := 0, slots := 0, locals := 0 }) G tys [.ref qm] [(qm, .inr (6, f_Model qp qk sm)), (qp, .inl (cB, 256, .inl sp))] [(qm, .inr (6, f_Model qp qk ((k_Model_firmware sm sp).1))), (qp, .inl (cB, 256, .inl ((k_Model_firmware sm sp).2)))] := by
  refine ct_hV (cc := cc_Model_firmware) (maxL := 3) (ret := none) (by decide) rfl (Nat.le_of_ble_eq_true rfl) ?_
  intro p e s m below meth c A ls hx hb hr hml hts hown hlocks hP hK hD hA hE hS hl
  have hl : lv_has ls 3 [(0, .ref qm)] := hl
  have hown : s.vm.findClass R_Model = some m.cls := hown
  have J121 : ∀ (um : ob) (up : Nat → Int32) (H : Heap) (locs : List Loc) (ls : Array Slot), k_Model_firmware sm sp = k_Model_firmware_j121 sm sp um up → va_P G.1 vwCl [(qm, .inr (6, f_Model qp qk um)), (qp, .inl (cB, 256, .inl up))] H → va_D A [(qm, .inr (6, f_Model qp qk um)), (qp, .inl (cB, 256, .inl up))] → va_S A s.heap H locs → lv_has ls 3 [(0, .ref qm)] → W p l e ({ frames := 0, cells := 0, slots := 0, locals := 0 }) s m ([.ref qm] : List Value).toArray below meth c H locs 0 0 (MQ below (ct_qv G tys A [(qm, .inr (6, f_Model qp qk ((k_Model_firmware sm sp).1))), (qp, .inl (cB, 256, .inl ((k_Model_firmware sm sp).2)))]) ([.ref qm] : List Value).toArray s 0 0 A) (F0 m 121 ls []) := by
    intro um up H locs ls hj hP hD hS hl
    refine lv_aload_n hx hb d_Model_firmware_121 rfl (lv_at hl 0 rfl) ?_
    refine lv_iconst (v := 0) hx hb d_Model_firmware_122 (by decide) ?_
    refine va_put (D := G.1) (ci := 6) (v := .int 0) (ty := .int) (C := R_Model) (T := T_Model) (N := 23) hx hb hts (fun w h => gd_sub _ (iw_Model w h)) ty_Model tyok_Model nm_Model hown hK hP hD hS 0 rfl rfl 5 (by decide) (hts _ (gd_sub _ q_612)) (fun _ h9 => h9) rfl (by decide +kernel) rfl rfl (Nat.le_of_ble_eq_true rfl) d_Model_firmware_123 (fun H locs hP hD hS => ?_)
    have hP : va_P G.1 vwCl [(qm, .inr (6, f_Model qp qk (oi um 5 0))), (qp, .inl (cB, 256, .inl up))] H := hP
    have hD : va_D A [(qm, .inr (6, f_Model qp qk (oi um 5 0))), (qp, .inl (cB, 256, .inl up))] := hD
    refine lv_goto (tgt := 148) hx hb d_Model_firmware_126 (by decide) ?_
    have hk : k_Model_firmware sm sp = ((oi um 5 0), up) := (hj.trans (by rw [k_Model_firmware_j121]; try rfl))
    exact ct_rv hx hb hr hlocks hP hD hK hS d_Model_firmware_148 (by rw [hk]; first | done | rfl)
  have J73 : ∀ (v1 : Int64) (t0 : Int64) (H : Heap) (locs : List Loc) (ls : Array Slot), k_Model_firmware sm sp = k_Model_firmware_j73 sm sp v1 t0 → va_P G.1 vwCl [(qm, .inr (6, f_Model qp qk sm)), (qp, .inl (cB, 256, .inl sp))] H → va_D A [(qm, .inr (6, f_Model qp qk sm)), (qp, .inl (cB, 256, .inl sp))] → va_S A s.heap H locs → lv_has ls 3 [(0, .ref qm), (1, .long v1)] → W p l e ({ frames := 0, cells := 0, slots := 0, locals := 0 }) s m ([.ref qm] : List Value).toArray below meth c H locs 0 0 (MQ below (ct_qv G tys A [(qm, .inr (6, f_Model qp qk ((k_Model_firmware sm sp).1))), (qp, .inl (cB, 256, .inl ((k_Model_firmware sm sp).2)))]) ([.ref qm] : List Value).toArray s 0 0 A) (F0 m 73 ls [.long t0, .ref qm]) := by
    intro v1 t0 H locs ls hj hP hD hS hl
    refine va_put (D := G.1) (ci := 6) (v := .long t0) (ty := .long) (C := R_Model) (T := T_Model) (N := 23) hx hb hts (fun w h => gd_sub _ (iw_Model w h)) ty_Model tyok_Model nm_Model hown hK hP hD hS 0 rfl rfl 3 (by decide) (hts _ (gd_sub _ q_610)) (fun _ h9 => h9) rfl (by decide +kernel) rfl rfl (Nat.le_of_ble_eq_true rfl) d_Model_firmware_73 (fun H locs hP hD hS => ?_)
    have hP : va_P G.1 vwCl [(qm, .inr (6, f_Model qp qk (ol sm 3 t0))), (qp, .inl (cB, 256, .inl sp))] H := hP
    have hD : va_D A [(qm, .inr (6, f_Model qp qk (ol sm 3 t0))), (qp, .inl (cB, 256, .inl sp))] := hD
    refine lv_aload_n hx hb d_Model_firmware_76 rfl (lv_at hl 0 rfl) ?_
    refine lv_iconst (v := 0) hx hb d_Model_firmware_77 (by decide) ?_
    refine va_put (D := G.1) (ci := 6) (v := .int 0) (ty := .int) (C := R_Model) (T := T_Model) (N := 23) hx hb hts (fun w h => gd_sub _ (iw_Model w h)) ty_Model tyok_Model nm_Model hown hK hP hD hS 0 rfl rfl 5 (by decide) (hts _ (gd_sub _ q_612)) (fun _ h9 => h9) rfl (by decide +kernel) rfl rfl (Nat.le_of_ble_eq_true rfl) d_Model_firmware_78 (fun H locs hP hD hS => ?_)
    have hP : va_P G.1 vwCl [(qm, .inr (6, f_Model qp qk (oi (ol sm 3 t0) 5 0))), (qp, .inl (cB, 256, .inl sp))] H := hP
    have hD : va_D A [(qm, .inr (6, f_Model qp qk (oi (ol sm 3 t0) 5 0))), (qp, .inl (cB, 256, .inl sp))] := hD
    refine lv_goto (tgt := 148) hx hb d_Model_firmware_81 (by decide) ?_
    have hk : k_Model_firmware sm sp = ((oi (ol sm 3 t0) 5 0), sp) := (hj.trans (by rw [k_Model_firmware_j73]; try rfl))
    exact ct_rv hx hb hr hlocks hP hD hK hS d_Model_firmware_148 (by rw [hk]; first | done | rfl)
  obtain ⟨H, eH⟩ : ∃ z, z = s.heap := ⟨_, rfl⟩
  obtain ⟨locs, eL⟩ : ∃ z, z = ([] : List Loc) := ⟨_, rfl⟩
  have hP : va_P G.1 vwCl [(qm, .inr (6, f_Model qp qk sm)), (qp, .inl (cB, 256, .inl sp))] H := by rw [eH]; exact hP
  have hS : va_S A s.heap H locs := by rw [eH, eL]; exact hS
  suffices hW : W p l e ({ frames := 0, cells := 0, slots := 0, locals := 0 }) s m ([.ref qm] : List Value).toArray below meth c H locs 0 0 (MQ below (ct_qv G tys A [(qm, .inr (6, f_Model qp qk ((k_Model_firmware sm sp).1))), (qp, .inl (cB, 256, .inl ((k_Model_firmware sm sp).2)))]) ([.ref qm] : List Value).toArray s 0 0 A) (F0 m 0 ls []) by rw [eH, eL] at hW; exact hW
  refine lv_aload_n hx hb d_Model_firmware_0 rfl (lv_at hl 0 rfl) ?_
  refine va_get (D := G.1) (ci := 6) (v := .int (sm.1 7)) (C := R_Model) (T := T_Model) (N := 23) hx hb hts (fun w h => gd_sub _ (iw_Model w h)) hown hK hP 0 rfl rfl 7 (by decide) (hts _ (gd_sub _ q_614)) (fun _ h9 => h9) rfl d_Model_firmware_1 ?_
  by_cases c_1054 : (sm.1 7) = 0
  · refine lv_lookup (off := 36) (tgt := 40) hx hb d_Model_firmware_4 (by decide) (by rw [c_1054]; decide) (by decide) ?_
    refine lv_aload_n hx hb d_Model_firmware_40 rfl (lv_at hl 0 rfl) ?_
    refine va_get (D := G.1) (ci := 6) (v := .int (sm.1 5)) (C := R_Model) (T := T_Model) (N := 23) hx hb hts (fun w h => gd_sub _ (iw_Model w h)) hown hK hP 0 rfl rfl 5 (by decide) (hts _ (gd_sub _ q_612)) (fun _ h9 => h9) rfl d_Model_firmware_41 ?_
    refine lv_i2l (v := (sm.1 5).toInt64) hx hb d_Model_firmware_44 rfl ?_
    refine lv_ldc2 (v := 4294967295) hx hb hown (hts _ (gd_sub _ q_784)) d_Model_firmware_45 ?_
    refine lv_land hx hb d_Model_firmware_48 ?_
    refine lv_aload_n hx hb d_Model_firmware_49 rfl (lv_at hl 0 rfl) ?_
    refine va_get (D := G.1) (ci := 6) (v := .int (sm.1 6)) (C := R_Model) (T := T_Model) (N := 23) hx hb hts (fun w h => gd_sub _ (iw_Model w h)) hown hK hP 0 rfl rfl 6 (by decide) (hts _ (gd_sub _ q_613)) (fun _ h9 => h9) rfl d_Model_firmware_50 ?_
    refine lv_i2l (v := (sm.1 6).toInt64) hx hb d_Model_firmware_53 rfl ?_
    refine lv_bipush (v := 32) hx hb d_Model_firmware_54 (by decide) ?_
    refine lv_lshl (v := (lsh ((sm.1 6).toInt64) 32)) hx hb d_Model_firmware_56 rfl ?_
    refine lv_lor hx hb d_Model_firmware_57 ?_
    refine lv_lstore_n (lv' := [(1, .long (((sm.1 5).toInt64 &&& 4294967295) ||| (lsh ((sm.1 6).toInt64) 32))), (0, .ref qm)]) hx hb d_Model_firmware_58 rfl hl (by decide) rfl (fun ls hl => ?_)
    refine lv_aload_n hx hb d_Model_firmware_59 rfl (lv_at hl 1 rfl) ?_
    refine lv_lload_n hx hb d_Model_firmware_60 rfl (lv_at hl 0 rfl) ?_
    refine lv_lconst (v := 0) hx hb d_Model_firmware_61 (by decide) ?_
    refine W.lcmp hx hb d_Model_firmware_62 ?_
    refine lv_if_ge (tgt := 72) hx hb d_Model_firmware_63 (by decide) (fun c_1055 => ?_) (fun c_1055 => ?_)
    · refine lv_lload_n hx hb d_Model_firmware_72 rfl (lv_at hl 0 rfl) ?_
      exact J73 (((sm.1 5).toInt64 &&& 4294967295) ||| (lsh ((sm.1 6).toInt64) 32)) (((sm.1 5).toInt64 &&& 4294967295) ||| (lsh ((sm.1 6).toInt64) 32)) H locs ls (by rw [k_Model_firmware]; rw [if_pos c_1054]; rw [if_pos c_1055]; try rfl) hP hD hS (lv_sub hl [1, 0] rfl)
    · refine lv_ldc2 (v := 9223372036854775807) hx hb hown (hts _ (gd_sub _ q_606)) d_Model_firmware_66 ?_
      refine lv_goto (tgt := 73) hx hb d_Model_firmware_69 (by decide) ?_
      exact J73 (((sm.1 5).toInt64 &&& 4294967295) ||| (lsh ((sm.1 6).toInt64) 32)) 9223372036854775807 H locs ls (by rw [k_Model_firmware]; rw [if_pos c_1054]; rw [if_neg c_1055]; try rfl) hP hD hS (lv_sub hl [1, 0] rfl)
  · by_cases c_1056 : (sm.1 7) = 1
    · refine lv_lookup (off := 80) (tgt := 84) hx hb d_Model_firmware_4 (by decide) (by rw [c_1056]; decide) (by decide) ?_
      refine lv_aload_n hx hb d_Model_firmware_84 rfl (lv_at hl 0 rfl) ?_
      refine va_get (D := G.1) (ci := 6) (v := .int (sm.1 9)) (C := R_Model) (T := T_Model) (N := 23) hx hb hts (fun w h => gd_sub _ (iw_Model w h)) hown hK hP 0 rfl rfl 9 (by decide) (hts _ (gd_sub _ q_616)) (fun _ h9 => h9) rfl d_Model_firmware_85 ?_
      refine lv_sipush (v := 256) hx hb d_Model_firmware_88 (by decide) ?_
      refine lv_icmp_ge (tgt := 121) hx hb d_Model_firmware_91 (by decide) (fun c_1057 => ?_) (fun c_1057 => ?_)
      · exact J121 sm sp H locs ls (by rw [k_Model_firmware]; rw [if_neg c_1054]; rw [if_pos c_1056]; rw [if_pos c_1057]; try rfl) hP hD hS (lv_sub hl [0] rfl)
      · refine lv_aload_n hx hb d_Model_firmware_94 rfl (lv_at hl 0 rfl) ?_
        refine va_get (D := G.1) (ci := 6) (v := .ref qp) (C := R_Model) (T := T_Model) (N := 23) hx hb hts (fun w h => gd_sub _ (iw_Model w h)) hown hK hP 0 rfl rfl 8 (by decide) (hts _ (gd_sub _ q_615)) (fun _ h9 => h9) rfl d_Model_firmware_95 ?_
        refine lv_aload_n hx hb d_Model_firmware_98 rfl (lv_at hl 0 rfl) ?_
        refine va_get (D := G.1) (ci := 6) (v := .int (sm.1 9)) (C := R_Model) (T := T_Model) (N := 23) hx hb hts (fun w h => gd_sub _ (iw_Model w h)) hown hK hP 0 rfl rfl 9 (by decide) (hts _ (gd_sub _ q_616)) (fun _ h9 => h9) rfl d_Model_firmware_99 ?_
        refine lv_aload_n hx hb d_Model_firmware_102 rfl (lv_at hl 0 rfl) ?_
        refine va_get (D := G.1) (ci := 6) (v := .int (sm.1 5)) (C := R_Model) (T := T_Model) (N := 23) hx hb hts (fun w h => gd_sub _ (iw_Model w h)) hown hK hP 0 rfl rfl 5 (by decide) (hts _ (gd_sub _ q_612)) (fun _ h9 => h9) rfl d_Model_firmware_103 ?_
        refine lv_sipush (v := 255) hx hb d_Model_firmware_106 (by decide) ?_
        refine lv_iand hx hb d_Model_firmware_109 ?_
        refine va_iast hx hb hK hP hD hS 1 1 rfl ht1 (in256 hq9 c_1057) d_Model_firmware_110 (fun H locs hP hD hS => ?_)
        have hP : va_P G.1 vwCl [(qm, .inr (6, f_Model qp qk sm)), (qp, .inl (cB, 256, .inl (upd sp (sm.1 9).toNatClampNeg ((sm.1 5) &&& 255))))] H := hP
        have hD : va_D A [(qm, .inr (6, f_Model qp qk sm)), (qp, .inl (cB, 256, .inl (upd sp (sm.1 9).toNatClampNeg ((sm.1 5) &&& 255))))] := hD
        refine lv_aload_n hx hb d_Model_firmware_111 rfl (lv_at hl 0 rfl) ?_
        refine lv_dup hx hb d_Model_firmware_112 rfl ?_
        refine va_get (D := G.1) (ci := 6) (v := .int (sm.1 9)) (C := R_Model) (T := T_Model) (N := 23) hx hb hts (fun w h => gd_sub _ (iw_Model w h)) hown hK hP 0 rfl rfl 9 (by decide) (hts _ (gd_sub _ q_616)) (fun _ h9 => h9) rfl d_Model_firmware_113 ?_
        refine lv_iconst (v := 1) hx hb d_Model_firmware_116 (by decide) ?_
        refine lv_iadd hx hb d_Model_firmware_117 ?_
        refine va_put (D := G.1) (ci := 6) (v := .int ((sm.1 9) + 1)) (ty := .int) (C := R_Model) (T := T_Model) (N := 23) hx hb hts (fun w h => gd_sub _ (iw_Model w h)) ty_Model tyok_Model nm_Model hown hK hP hD hS 0 rfl rfl 9 (by decide) (hts _ (gd_sub _ q_616)) (fun _ h9 => h9) rfl (by decide +kernel) rfl rfl (Nat.le_of_ble_eq_true rfl) d_Model_firmware_118 (fun H locs hP hD hS => ?_)
        have hP : va_P G.1 vwCl [(qm, .inr (6, f_Model qp qk (oi sm 9 ((sm.1 9) + 1)))), (qp, .inl (cB, 256, .inl (upd sp (sm.1 9).toNatClampNeg ((sm.1 5) &&& 255))))] H := hP
        have hD : va_D A [(qm, .inr (6, f_Model qp qk (oi sm 9 ((sm.1 9) + 1)))), (qp, .inl (cB, 256, .inl (upd sp (sm.1 9).toNatClampNeg ((sm.1 5) &&& 255))))] := hD
        exact J121 (oi sm 9 ((sm.1 9) + 1)) (upd sp (sm.1 9).toNatClampNeg ((sm.1 5) &&& 255)) H locs ls (by rw [k_Model_firmware]; rw [if_neg c_1054]; rw [if_pos c_1056]; rw [if_neg c_1057]; try rfl) hP hD hS (lv_sub hl [0] rfl)
    · by_cases c_1058 : (sm.1 7) = 8
      · refine lv_lookup (off := 125) (tgt := 129) hx hb d_Model_firmware_4 (by decide) (by rw [c_1058]; decide) (by decide) ?_
        refine lv_aload_n hx hb d_Model_firmware_129 rfl (lv_at hl 0 rfl) ?_
        refine lv_iconst (v := 1) hx hb d_Model_firmware_130 (by decide) ?_
        refine va_put (D := G.1) (ci := 6) (v := .int 1) (ty := .boolean) (C := R_Model) (T := T_Model) (N := 23) hx hb hts (fun w h => gd_sub _ (iw_Model w h)) ty_Model tyok_Model nm_Model hown hK hP hD hS 0 rfl rfl 10 (by decide) (hts _ (gd_sub _ q_617)) (fun _ h9 => h9) rfl (by decide +kernel) rfl rfl (Nat.le_of_ble_eq_true rfl) d_Model_firmware_131 (fun H locs hP hD hS => ?_)
        have hP : va_P G.1 vwCl [(qm, .inr (6, f_Model qp qk (oz sm 10 true))), (qp, .inl (cB, 256, .inl sp))] H := hP
        have hD : va_D A [(qm, .inr (6, f_Model qp qk (oz sm 10 true))), (qp, .inl (cB, 256, .inl sp))] := hD
        refine lv_aload_n hx hb d_Model_firmware_134 rfl (lv_at hl 0 rfl) ?_
        refine lv_iconst (v := 0) hx hb d_Model_firmware_135 (by decide) ?_
        refine va_put (D := G.1) (ci := 6) (v := .int 0) (ty := .int) (C := R_Model) (T := T_Model) (N := 23) hx hb hts (fun w h => gd_sub _ (iw_Model w h)) ty_Model tyok_Model nm_Model hown hK hP hD hS 0 rfl rfl 5 (by decide) (hts _ (gd_sub _ q_612)) (fun _ h9 => h9) rfl (by decide +kernel) rfl rfl (Nat.le_of_ble_eq_true rfl) d_Model_firmware_136 (fun H locs hP hD hS => ?_)
        have hP : va_P G.1 vwCl [(qm, .inr (6, f_Model qp qk (oi (oz sm 10 true) 5 0))), (qp, .inl (cB, 256, .inl sp))] H := hP
        have hD : va_D A [(qm, .inr (6, f_Model qp qk (oi (oz sm 10 true) 5 0))), (qp, .inl (cB, 256, .inl sp))] := hD
        refine lv_goto (tgt := 148) hx hb d_Model_firmware_139 (by decide) ?_
        have hk : k_Model_firmware sm sp = ((oi (oz sm 10 true) 5 0), sp) := (by rw [k_Model_firmware]; rw [if_neg c_1054]; rw [if_neg c_1056]; rw [if_pos c_1058]; try rfl)
        exact ct_rv hx hb hr hlocks hP hD hK hS d_Model_firmware_148 (by rw [hk]; first | done | rfl)
      · refine lv_lookup (off := 138) (tgt := 142) hx hb d_Model_firmware_4 (by decide) ((lv_osw c_1054 (by decide)).trans ((lv_osw c_1056 (by decide)).trans ((lv_osw c_1058 (by decide)).trans rfl))) (by decide) ?_
        refine lv_aload_n hx hb d_Model_firmware_142 rfl (lv_at hl 0 rfl) ?_
        refine lv_bipush (v := (-2)) hx hb d_Model_firmware_143 (by decide) ?_
        refine va_put (D := G.1) (ci := 6) (v := .int (-2)) (ty := .int) (C := R_Model) (T := T_Model) (N := 23) hx hb hts (fun w h => gd_sub _ (iw_Model w h)) ty_Model tyok_Model nm_Model hown hK hP hD hS 0 rfl rfl 5 (by decide) (hts _ (gd_sub _ q_612)) (fun _ h9 => h9) rfl (by decide +kernel) rfl rfl (Nat.le_of_ble_eq_true rfl) d_Model_firmware_145 (fun H locs hP hD hS => ?_)
        have hP : va_P G.1 vwCl [(qm, .inr (6, f_Model qp qk (oi sm 5 (-2)))), (qp, .inl (cB, 256, .inl sp))] H := hP
        have hD : va_D A [(qm, .inr (6, f_Model qp qk (oi sm 5 (-2)))), (qp, .inl (cB, 256, .inl sp))] := hD
        have hk : k_Model_firmware sm sp = ((oi sm 5 (-2)), sp) := (by rw [k_Model_firmware]; rw [if_neg c_1054]; rw [if_neg c_1056]; rw [if_neg c_1058]; try rfl)
        exact ct_rv hx hb hr hlocks hP hD hK hS d_Model_firmware_148 (by rw [hk]; first | done | rfl)
def k_Model_call (sm : ob) (sp : Nat → Int32) : Int32 × ob × (Nat → Int32) :=
  if (sm.1 0) = 1 then (0, ((k_Model_firmware sm sp).1), ((k_Model_firmware sm sp).2)) else (if (sm.1 0) = 3 then (10, sm, sp) else (8, sm, sp))
set_option maxHeartbeats 4000000 in
set_option maxRecDepth 100000 in
theorem c_Model_call (l : Launch) (G : gx) (tys : List (ClassId × FieldType)) {cB : ClassId} (ht1 : tys[1]? = some (cB, .int)) (qm qp qk : Nat) (sm : ob) (sp : Nat → Int32) (hq9 : ¬ sm.1 9 < 0) : ct_I l y_Model_call ws_Model_call ({ frames := 1, cells := 0, slots := 0, locals := 22 }) G tys [.ref qm] [(qm, .inr (6, f_Model qp qk sm)), (qp, .inl (cB, 256, .inl sp))] ((k_Model_call sm sp).1) [(qm, .inr (6, f_Model qp qk ((k_Model_call sm sp).2.1))), (qp, .inl (cB, 256, .inl ((k_Model_call sm sp).2.2)))] := by
  refine ct_hI (cc := cc_Model_call) (maxL := 1) (ret := (some .int)) (by decide) rfl (Nat.le_of_ble_eq_true rfl) ?_
  intro p e s m below meth c A ls hx hb hr hml hts hown hlocks hP hK hD hA hE hS hl
  have hl : lv_has ls 1 [(0, .ref qm)] := hl
  have hown : s.vm.findClass R_Model = some m.cls := hown
  refine lv_aload_n hx hb d_Model_call_0 rfl (lv_at hl 0 rfl) ?_
  refine va_get (D := G.1) (ci := 6) (v := .int (sm.1 0)) (C := R_Model) (T := T_Model) (N := 23) hx hb hts (fun w h => gd_sub _ (iw_Model w h)) hown hK hP 0 rfl rfl 0 (by decide) (hts _ (gd_sub _ q_607)) (fun _ h9 => h9) rfl d_Model_call_1 ?_
  refine lv_iconst (v := 1) hx hb d_Model_call_4 (by decide) ?_
  refine lv_icmp_ne (tgt := 14) hx hb d_Model_call_5 (by decide) (fun c_1063 => ?_) (fun c_1063 => ?_)
  · refine lv_aload_n hx hb d_Model_call_14 rfl (lv_at hl 0 rfl) ?_
    refine va_get (D := G.1) (ci := 6) (v := .int (sm.1 0)) (C := R_Model) (T := T_Model) (N := 23) hx hb hts (fun w h => gd_sub _ (iw_Model w h)) hown hK hP 0 rfl rfl 0 (by decide) (hts _ (gd_sub _ q_607)) (fun _ h9 => h9) rfl d_Model_call_15 ?_
    refine lv_iconst (v := 3) hx hb d_Model_call_18 (by decide) ?_
    refine lv_icmp_ne (tgt := 27) hx hb d_Model_call_19 (by decide) (fun c_1064 => ?_) (fun c_1064 => ?_)
    · refine lv_bipush (v := 8) hx hb d_Model_call_27 (by decide) ?_
      have hk : k_Model_call sm sp = (8, sm, sp) := (by rw [k_Model_call]; rw [if_neg c_1063]; rw [if_neg c_1064]; try rfl)
      exact ct_ri hx hb hr hlocks hP hD hK hS d_Model_call_29 (by rw [hk]; first | done | rfl) (by rw [hk]; first | done | rfl)
    · refine lv_bipush (v := 10) hx hb d_Model_call_22 (by decide) ?_
      refine lv_goto (tgt := 29) hx hb d_Model_call_24 (by decide) ?_
      have hk : k_Model_call sm sp = (10, sm, sp) := (by rw [k_Model_call]; rw [if_neg c_1063]; rw [if_pos c_1064]; try rfl)
      exact ct_ri hx hb hr hlocks hP hD hK hS d_Model_call_29 (by rw [hk]; first | done | rfl) (by rw [hk]; first | done | rfl)
  · refine lv_aload_n hx hb d_Model_call_8 rfl (lv_at hl 0 rfl) ?_
    obtain ⟨sm_1065, esm_1065⟩ : ∃ z, z = (k_Model_firmware sm sp).1 := ⟨_, rfl⟩
    obtain ⟨sp_1066, esp_1066⟩ : ∃ z, z = (k_Model_firmware sm sp).2 := ⟨_, rfl⟩
    have hM := c_Model_firmware l G tys ht1 qm qp qk sm sp hq9
    rw [← esm_1065, ← esp_1066] at hM
    refine ct_cVv (wr := []) (w1 := [(qm, .inr (6, f_Model qp qk sm_1065)), (qp, .inl (cB, 256, .inl sp_1066))]) (w2 := [(qm, .inr (6, f_Model qp qk sm_1065)), (qp, .inl (cB, 256, .inl sp_1066))]) (As := []) (rest := []) (ci := 6) (q0 := 0) ⟨hx, hb, hml, hown, hts⟩ hM (cwV 0 hts (gdV gd_gd q_780 q_782 q_33 q_47 q_783) rfl rfl rfl (by decide +kernel) ⟨Nat.le_of_ble_eq_true rfl, Nat.le_of_ble_eq_true rfl⟩) hE hK hP hD hS hA [0, 1] [] [0, 1] rfl (by decide) rfl (by decide) (by decide) rfl (by decide) rfl rfl rfl hl.1 rfl (Nat.le_of_ble_eq_true rfl) d_Model_call_9 ⟨Nat.zero_le _, Nat.zero_le _⟩ (fun H locs hP hD hS => ?_)
    refine lv_iconst (v := 0) hx hb d_Model_call_12 (by decide) ?_
    have hk : k_Model_call sm sp = (0, sm_1065, sp_1066) := (by rw [k_Model_call]; rw [if_pos c_1063]; try rw [← esm_1065]; try rw [← esp_1066]; try rfl)
    exact ct_ri hx hb hr hlocks hP hD hK hS d_Model_call_13 (by rw [hk]; first | done | rfl) (by rw [hk]; first | done | rfl)
def k_Model_back_256_j40 (sm : ob) (sk : Nat → Int32) (p2 : Bool) (v1 : Int32) (v3 : Int32) (t0 : Int32) (t1 : Int32) (um : ob) : ob × (Nat → Int32) :=
  ((oi um 0 (t1 + t0)), (upd sk (v1 + 0).toNatClampNeg (((v3 &&& (-259)) ||| ((v3 >>> (4 &&& 31)) &&& 2)) ||| 32)))
def k_Model_back_256 (sm : ob) (sk : Nat → Int32) (p2 : Bool) : ob × (Nat → Int32) :=
  if (bI p2) = 0 then (k_Model_back_256_j40 sm sk p2 256 (sk 256) 0 (((sk 256) >>> (8 &&& 31)) &&& 1) (oi sm 1 ((sk 321) - 4))) else (k_Model_back_256_j40 sm sk p2 256 (sk 256) 2 (((sk 256) >>> (8 &&& 31)) &&& 1) (oi sm 1 ((sk 321) - 4)))
set_option maxHeartbeats 4000000 in
set_option maxRecDepth 100000 in
theorem c_Model_back_256 (l : Launch) (G : gx) (tys : List (ClassId × FieldType)) {cD : ClassId} (ht2 : tys[2]? = some (cD, .int)) (qm qk qp : Nat) (sm : ob) (sk : Nat → Int32) (p2 : Bool) : ct_V l y_Model_back ws_Model_back ({ frames := 0, cells := 0, slots := 0, locals := 0 }) G tys [.ref qm, .int 256, .int (bI p2)] [(qm, .inr (6, f_Model qp qk sm)), (qk, .inl (cD, 512, .inl sk))] [(qm, .inr (6, f_Model qp qk ((k_Model_back_256 sm sk p2).1))), (qk, .inl (cD, 512, .inl ((k_Model_back_256 sm sk p2).2)))] := by
  refine ct_hV (cc := cc_Model_back) (maxL := 4) (ret := none) (by decide) rfl (Nat.le_of_ble_eq_true rfl) ?_
  intro p e s m below meth c A ls hx hb hr hml hts hown hlocks hP hK hD hA hE hS hl
  have hl : lv_has ls 4 [(0, .ref qm), (1, .int 256), (2, .int (bI p2))] := hl
  have hown : s.vm.findClass R_Model = some m.cls := hown
  have J40 : ∀ (v1 : Int32) (v3 : Int32) (t0 : Int32) (t1 : Int32) (um : ob) (H : Heap) (locs : List Loc) (ls : Array Slot), k_Model_back_256 sm sk p2 = k_Model_back_256_j40 sm sk p2 v1 v3 t0 t1 um → va_P G.1 vwCl [(qm, .inr (6, f_Model qp qk um)), (qk, .inl (cD, 512, .inl sk))] H → va_D A [(qm, .inr (6, f_Model qp qk um)), (qk, .inl (cD, 512, .inl sk))] → va_S A s.heap H locs → lv_has ls 4 [(0, .ref qm), (1, .int v1), (2, .int (bI p2)), (3, .int v3)] → W p l e ({ frames := 0, cells := 0, slots := 0, locals := 0 }) s m ([.ref qm, .int 256, .int (bI p2)] : List Value).toArray below meth c H locs 0 0 (MQ below (ct_qv G tys A [(qm, .inr (6, f_Model qp qk ((k_Model_back_256 sm sk p2).1))), (qk, .inl (cD, 512, .inl ((k_Model_back_256 sm sk p2).2)))]) ([.ref qm, .int 256, .int (bI p2)] : List Value).toArray s 0 0 A) (F0 m 40 ls [.int t0, .int t1, .ref qm]) := by
    intro v1 v3 t0 t1 um H locs ls hj hP hD hS hl
    refine lv_iadd hx hb d_Model_back_40 ?_
    refine va_put (D := G.1) (ci := 6) (v := .int (t1 + t0)) (ty := .int) (C := R_Model) (T := T_Model) (N := 23) hx hb hts (fun w h => gd_sub _ (iw_Model w h)) ty_Model tyok_Model nm_Model hown hK hP hD hS 0 rfl rfl 0 (by decide) (hts _ (gd_sub _ q_607)) (fun _ h9 => h9) rfl (by decide +kernel) rfl rfl (Nat.le_of_ble_eq_true rfl) d_Model_back_41 (fun H locs hP hD hS => ?_)
    have hP : va_P G.1 vwCl [(qm, .inr (6, f_Model qp qk (oi um 0 (t1 + t0)))), (qk, .inl (cD, 512, .inl sk))] H := hP
    have hD : va_D A [(qm, .inr (6, f_Model qp qk (oi um 0 (t1 + t0)))), (qk, .inl (cD, 512, .inl sk))] := hD
    refine lv_aload_n hx hb d_Model_back_44 rfl (lv_at hl 0 rfl) ?_
    refine va_get (D := G.1) (ci := 6) (v := .ref qk) (C := R_Model) (T := T_Model) (N := 23) hx hb hts (fun w h => gd_sub _ (iw_Model w h)) hown hK hP 0 rfl rfl 14 (by decide) (hts _ (gd_sub _ q_621)) (fun _ h9 => h9) rfl d_Model_back_45 ?_
    refine lv_iload_n hx hb d_Model_back_48 rfl (lv_at hl 1 rfl) ?_
    refine lv_iconst (v := 0) hx hb d_Model_back_49 (by decide) ?_
    refine lv_iadd hx hb d_Model_back_50 ?_
    refine lv_iload_n hx hb d_Model_back_51 rfl (lv_at hl 3 rfl) ?_
    refine lv_sipush (v := (-259)) hx hb d_Model_back_52 (by decide) ?_
    refine lv_iand hx hb d_Model_back_55 ?_
    refine lv_iload_n hx hb d_Model_back_56 rfl (lv_at hl 3 rfl) ?_
    refine lv_iconst (v := 4) hx hb d_Model_back_57 (by decide) ?_
    refine lv_ishr hx hb d_Model_back_58 ?_
    refine lv_iconst (v := 2) hx hb d_Model_back_59 (by decide) ?_
    refine lv_iand hx hb d_Model_back_60 ?_
    refine lv_ior hx hb d_Model_back_61 ?_
    refine lv_bipush (v := 32) hx hb d_Model_back_62 (by decide) ?_
    refine lv_ior hx hb d_Model_back_64 ?_
    refine va_iast hx hb hK hP hD hS 1 2 rfl ht2 sorry d_Model_back_65 (fun H locs hP hD hS => ?_)
    have hP : va_P G.1 vwCl [(qm, .inr (6, f_Model qp qk (oi um 0 (t1 + t0)))), (qk, .inl (cD, 512, .inl (upd sk (v1 + 0).toNatClampNeg (((v3 &&& (-259)) ||| ((v3 >>> (4 &&& 31)) &&& 2)) ||| 32))))] H := hP
    have hD : va_D A [(qm, .inr (6, f_Model qp qk (oi um 0 (t1 + t0)))), (qk, .inl (cD, 512, .inl (upd sk (v1 + 0).toNatClampNeg (((v3 &&& (-259)) ||| ((v3 >>> (4 &&& 31)) &&& 2)) ||| 32))))] := hD
    have hk : k_Model_back_256 sm sk p2 = ((oi um 0 (t1 + t0)), (upd sk (v1 + 0).toNatClampNeg (((v3 &&& (-259)) ||| ((v3 >>> (4 &&& 31)) &&& 2)) ||| 32))) := (hj.trans (by rw [k_Model_back_256_j40]; try rfl))
    exact ct_rv hx hb hr hlocks hP hD hK hS d_Model_back_66 (by rw [hk]; first | done | rfl)
  obtain ⟨H, eH⟩ : ∃ z, z = s.heap := ⟨_, rfl⟩
  obtain ⟨locs, eL⟩ : ∃ z, z = ([] : List Loc) := ⟨_, rfl⟩
  have hP : va_P G.1 vwCl [(qm, .inr (6, f_Model qp qk sm)), (qk, .inl (cD, 512, .inl sk))] H := by rw [eH]; exact hP
  have hS : va_S A s.heap H locs := by rw [eH, eL]; exact hS
  suffices hW : W p l e ({ frames := 0, cells := 0, slots := 0, locals := 0 }) s m ([.ref qm, .int 256, .int (bI p2)] : List Value).toArray below meth c H locs 0 0 (MQ below (ct_qv G tys A [(qm, .inr (6, f_Model qp qk ((k_Model_back_256 sm sk p2).1))), (qk, .inl (cD, 512, .inl ((k_Model_back_256 sm sk p2).2)))]) ([.ref qm, .int 256, .int (bI p2)] : List Value).toArray s 0 0 A) (F0 m 0 ls []) by rw [eH, eL] at hW; exact hW
  refine lv_aload_n hx hb d_Model_back_0 rfl (lv_at hl 0 rfl) ?_
  refine va_get (D := G.1) (ci := 6) (v := .ref qk) (C := R_Model) (T := T_Model) (N := 23) hx hb hts (fun w h => gd_sub _ (iw_Model w h)) hown hK hP 0 rfl rfl 14 (by decide) (hts _ (gd_sub _ q_621)) (fun _ h9 => h9) rfl d_Model_back_1 ?_
  refine lv_iload_n hx hb d_Model_back_4 rfl (lv_at hl 1 rfl) ?_
  refine lv_iconst (v := 0) hx hb d_Model_back_5 (by decide) ?_
  refine lv_iadd hx hb d_Model_back_6 ?_
  refine lv_topi (fun z9 e9 => ?_)
  obtain rfl : z9 = 256 := e9.trans (by decide)
  refine va_iald hx hb hK hP 1 2 rfl ht2 (by unfold vp_in; decide) d_Model_back_7 ?_
  refine lv_topi (fun z9 e9 => ?_)
  obtain rfl : z9 = (sk 256) := e9
  refine lv_istore_n (lv' := [(3, .int (sk 256)), (0, .ref qm), (1, .int 256), (2, .int (bI p2))]) hx hb d_Model_back_8 rfl hl (by decide) rfl (fun ls hl => ?_)
  refine lv_aload_n hx hb d_Model_back_9 rfl (lv_at hl 1 rfl) ?_
  refine lv_aload_n hx hb d_Model_back_10 rfl (lv_at hl 1 rfl) ?_
  refine va_get (D := G.1) (ci := 6) (v := .ref qk) (C := R_Model) (T := T_Model) (N := 23) hx hb hts (fun w h => gd_sub _ (iw_Model w h)) hown hK hP 0 rfl rfl 14 (by decide) (hts _ (gd_sub _ q_621)) (fun _ h9 => h9) rfl d_Model_back_11 ?_
  refine lv_iload_n hx hb d_Model_back_14 rfl (lv_at hl 2 rfl) ?_
  refine lv_bipush (v := 65) hx hb d_Model_back_15 (by decide) ?_
  refine lv_iadd hx hb d_Model_back_17 ?_
  refine lv_topi (fun z9 e9 => ?_)
  obtain rfl : z9 = 321 := e9.trans (by decide)
  refine va_iald hx hb hK hP 1 2 rfl ht2 (by unfold vp_in; decide) d_Model_back_18 ?_
  refine lv_topi (fun z9 e9 => ?_)
  obtain rfl : z9 = (sk 321) := e9
  refine lv_iconst (v := 4) hx hb d_Model_back_19 (by decide) ?_
  refine lv_isub hx hb d_Model_back_20 ?_
  refine va_put (D := G.1) (ci := 6) (v := .int ((sk 321) - 4)) (ty := .int) (C := R_Model) (T := T_Model) (N := 23) hx hb hts (fun w h => gd_sub _ (iw_Model w h)) ty_Model tyok_Model nm_Model hown hK hP hD hS 0 rfl rfl 1 (by decide) (hts _ (gd_sub _ q_608)) (fun _ h9 => h9) rfl (by decide +kernel) rfl rfl (Nat.le_of_ble_eq_true rfl) d_Model_back_21 (fun H locs hP hD hS => ?_)
  have hP : va_P G.1 vwCl [(qm, .inr (6, f_Model qp qk (oi sm 1 ((sk 321) - 4)))), (qk, .inl (cD, 512, .inl sk))] H := hP
  have hD : va_D A [(qm, .inr (6, f_Model qp qk (oi sm 1 ((sk 321) - 4)))), (qk, .inl (cD, 512, .inl sk))] := hD
  refine lv_aload_n hx hb d_Model_back_24 rfl (lv_at hl 1 rfl) ?_
  refine lv_iload_n hx hb d_Model_back_25 rfl (lv_at hl 0 rfl) ?_
  refine lv_bipush (v := 8) hx hb d_Model_back_26 (by decide) ?_
  refine lv_ishr hx hb d_Model_back_28 ?_
  refine lv_iconst (v := 1) hx hb d_Model_back_29 (by decide) ?_
  refine lv_iand hx hb d_Model_back_30 ?_
  refine lv_iload_n hx hb d_Model_back_31 rfl (lv_at hl 3 rfl) ?_
  refine lv_if_eq (tgt := 39) hx hb d_Model_back_32 (by decide) (fun c_1073 => ?_) (fun c_1073 => ?_)
  · refine lv_iconst (v := 0) hx hb d_Model_back_39 (by decide) ?_
    exact J40 256 (sk 256) 0 (((sk 256) >>> (8 &&& 31)) &&& 1) (oi sm 1 ((sk 321) - 4)) H locs ls (by rw [k_Model_back_256]; rw [if_pos c_1073]; try rfl) hP hD hS (lv_sub hl [1, 2, 3, 0] rfl)
  · refine lv_iconst (v := 2) hx hb d_Model_back_35 (by decide) ?_
    refine lv_goto (tgt := 40) hx hb d_Model_back_36 (by decide) ?_
    exact J40 256 (sk 256) 2 (((sk 256) >>> (8 &&& 31)) &&& 1) (oi sm 1 ((sk 321) - 4)) H locs ls (by rw [k_Model_back_256]; rw [if_neg c_1073]; try rfl) hP hD hS (lv_sub hl [1, 2, 3, 0] rfl)
def k_Model_back_0_j40 (sm : ob) (sk : Nat → Int32) (p2 : Bool) (v1 : Bool) (v3 : Int32) (t0 : Int32) (t1 : Int32) (um : ob) : ob × (Nat → Int32) :=
  ((oi um 0 (t1 + t0)), (upd sk ((bI v1) + 0).toNatClampNeg (((v3 &&& (-259)) ||| ((v3 >>> (4 &&& 31)) &&& 2)) ||| 32)))
def k_Model_back_0 (sm : ob) (sk : Nat → Int32) (p2 : Bool) : ob × (Nat → Int32) :=
  if (bI p2) = 0 then (k_Model_back_0_j40 sm sk p2 false (sk 0) 0 (((sk 0) >>> (8 &&& 31)) &&& 1) (oi sm 1 ((sk 65) - 4))) else (k_Model_back_0_j40 sm sk p2 false (sk 0) 2 (((sk 0) >>> (8 &&& 31)) &&& 1) (oi sm 1 ((sk 65) - 4)))
set_option maxHeartbeats 4000000 in
set_option maxRecDepth 100000 in
theorem c_Model_back_0 (l : Launch) (G : gx) (tys : List (ClassId × FieldType)) {cD : ClassId} (ht2 : tys[2]? = some (cD, .int)) (qm qk qp : Nat) (sm : ob) (sk : Nat → Int32) (p2 : Bool) : ct_V l y_Model_back ws_Model_back ({ frames := 0, cells := 0, slots := 0, locals := 0 }) G tys [.ref qm, .int 0, .int (bI p2)] [(qm, .inr (6, f_Model qp qk sm)), (qk, .inl (cD, 512, .inl sk))] [(qm, .inr (6, f_Model qp qk ((k_Model_back_0 sm sk p2).1))), (qk, .inl (cD, 512, .inl ((k_Model_back_0 sm sk p2).2)))] := by
  refine ct_hV (cc := cc_Model_back) (maxL := 4) (ret := none) (by decide) rfl (Nat.le_of_ble_eq_true rfl) ?_
  intro p e s m below meth c A ls hx hb hr hml hts hown hlocks hP hK hD hA hE hS hl
  have hl : lv_has ls 4 [(0, .ref qm), (1, .int 0), (2, .int (bI p2))] := hl
  have hown : s.vm.findClass R_Model = some m.cls := hown
  have J40 : ∀ (v1 : Bool) (v3 : Int32) (t0 : Int32) (t1 : Int32) (um : ob) (H : Heap) (locs : List Loc) (ls : Array Slot), k_Model_back_0 sm sk p2 = k_Model_back_0_j40 sm sk p2 v1 v3 t0 t1 um → va_P G.1 vwCl [(qm, .inr (6, f_Model qp qk um)), (qk, .inl (cD, 512, .inl sk))] H → va_D A [(qm, .inr (6, f_Model qp qk um)), (qk, .inl (cD, 512, .inl sk))] → va_S A s.heap H locs → lv_has ls 4 [(0, .ref qm), (1, .int (bI v1)), (2, .int (bI p2)), (3, .int v3)] → W p l e ({ frames := 0, cells := 0, slots := 0, locals := 0 }) s m ([.ref qm, .int 0, .int (bI p2)] : List Value).toArray below meth c H locs 0 0 (MQ below (ct_qv G tys A [(qm, .inr (6, f_Model qp qk ((k_Model_back_0 sm sk p2).1))), (qk, .inl (cD, 512, .inl ((k_Model_back_0 sm sk p2).2)))]) ([.ref qm, .int 0, .int (bI p2)] : List Value).toArray s 0 0 A) (F0 m 40 ls [.int t0, .int t1, .ref qm]) := by
    intro v1 v3 t0 t1 um H locs ls hj hP hD hS hl
    refine lv_iadd hx hb d_Model_back_40 ?_
    refine va_put (D := G.1) (ci := 6) (v := .int (t1 + t0)) (ty := .int) (C := R_Model) (T := T_Model) (N := 23) hx hb hts (fun w h => gd_sub _ (iw_Model w h)) ty_Model tyok_Model nm_Model hown hK hP hD hS 0 rfl rfl 0 (by decide) (hts _ (gd_sub _ q_607)) (fun _ h9 => h9) rfl (by decide +kernel) rfl rfl (Nat.le_of_ble_eq_true rfl) d_Model_back_41 (fun H locs hP hD hS => ?_)
    have hP : va_P G.1 vwCl [(qm, .inr (6, f_Model qp qk (oi um 0 (t1 + t0)))), (qk, .inl (cD, 512, .inl sk))] H := hP
    have hD : va_D A [(qm, .inr (6, f_Model qp qk (oi um 0 (t1 + t0)))), (qk, .inl (cD, 512, .inl sk))] := hD
    refine lv_aload_n hx hb d_Model_back_44 rfl (lv_at hl 0 rfl) ?_
    refine va_get (D := G.1) (ci := 6) (v := .ref qk) (C := R_Model) (T := T_Model) (N := 23) hx hb hts (fun w h => gd_sub _ (iw_Model w h)) hown hK hP 0 rfl rfl 14 (by decide) (hts _ (gd_sub _ q_621)) (fun _ h9 => h9) rfl d_Model_back_45 ?_
    refine lv_iload_n hx hb d_Model_back_48 rfl (lv_at hl 1 rfl) ?_
    refine lv_iconst (v := 0) hx hb d_Model_back_49 (by decide) ?_
    refine lv_iadd hx hb d_Model_back_50 ?_
    refine lv_iload_n hx hb d_Model_back_51 rfl (lv_at hl 3 rfl) ?_
    refine lv_sipush (v := (-259)) hx hb d_Model_back_52 (by decide) ?_
    refine lv_iand hx hb d_Model_back_55 ?_
    refine lv_iload_n hx hb d_Model_back_56 rfl (lv_at hl 3 rfl) ?_
    refine lv_iconst (v := 4) hx hb d_Model_back_57 (by decide) ?_
    refine lv_ishr hx hb d_Model_back_58 ?_
    refine lv_iconst (v := 2) hx hb d_Model_back_59 (by decide) ?_
    refine lv_iand hx hb d_Model_back_60 ?_
    refine lv_ior hx hb d_Model_back_61 ?_
    refine lv_bipush (v := 32) hx hb d_Model_back_62 (by decide) ?_
    refine lv_ior hx hb d_Model_back_64 ?_
    refine va_iast hx hb hK hP hD hS 1 2 rfl ht2 sorry d_Model_back_65 (fun H locs hP hD hS => ?_)
    have hP : va_P G.1 vwCl [(qm, .inr (6, f_Model qp qk (oi um 0 (t1 + t0)))), (qk, .inl (cD, 512, .inl (upd sk ((bI v1) + 0).toNatClampNeg (((v3 &&& (-259)) ||| ((v3 >>> (4 &&& 31)) &&& 2)) ||| 32))))] H := hP
    have hD : va_D A [(qm, .inr (6, f_Model qp qk (oi um 0 (t1 + t0)))), (qk, .inl (cD, 512, .inl (upd sk ((bI v1) + 0).toNatClampNeg (((v3 &&& (-259)) ||| ((v3 >>> (4 &&& 31)) &&& 2)) ||| 32))))] := hD
    have hk : k_Model_back_0 sm sk p2 = ((oi um 0 (t1 + t0)), (upd sk ((bI v1) + 0).toNatClampNeg (((v3 &&& (-259)) ||| ((v3 >>> (4 &&& 31)) &&& 2)) ||| 32))) := (hj.trans (by rw [k_Model_back_0_j40]; try rfl))
    exact ct_rv hx hb hr hlocks hP hD hK hS d_Model_back_66 (by rw [hk]; first | done | rfl)
  obtain ⟨H, eH⟩ : ∃ z, z = s.heap := ⟨_, rfl⟩
  obtain ⟨locs, eL⟩ : ∃ z, z = ([] : List Loc) := ⟨_, rfl⟩
  have hP : va_P G.1 vwCl [(qm, .inr (6, f_Model qp qk sm)), (qk, .inl (cD, 512, .inl sk))] H := by rw [eH]; exact hP
  have hS : va_S A s.heap H locs := by rw [eH, eL]; exact hS
  suffices hW : W p l e ({ frames := 0, cells := 0, slots := 0, locals := 0 }) s m ([.ref qm, .int 0, .int (bI p2)] : List Value).toArray below meth c H locs 0 0 (MQ below (ct_qv G tys A [(qm, .inr (6, f_Model qp qk ((k_Model_back_0 sm sk p2).1))), (qk, .inl (cD, 512, .inl ((k_Model_back_0 sm sk p2).2)))]) ([.ref qm, .int 0, .int (bI p2)] : List Value).toArray s 0 0 A) (F0 m 0 ls []) by rw [eH, eL] at hW; exact hW
  refine lv_aload_n hx hb d_Model_back_0 rfl (lv_at hl 0 rfl) ?_
  refine va_get (D := G.1) (ci := 6) (v := .ref qk) (C := R_Model) (T := T_Model) (N := 23) hx hb hts (fun w h => gd_sub _ (iw_Model w h)) hown hK hP 0 rfl rfl 14 (by decide) (hts _ (gd_sub _ q_621)) (fun _ h9 => h9) rfl d_Model_back_1 ?_
  refine lv_iload_n hx hb d_Model_back_4 rfl (lv_at hl 1 rfl) ?_
  refine lv_iconst (v := 0) hx hb d_Model_back_5 (by decide) ?_
  refine lv_iadd hx hb d_Model_back_6 ?_
  refine lv_topi (fun z9 e9 => ?_)
  obtain rfl : z9 = 0 := e9.trans (by decide)
  refine va_iald hx hb hK hP 1 2 rfl ht2 (by unfold vp_in; decide) d_Model_back_7 ?_
  refine lv_topi (fun z9 e9 => ?_)
  obtain rfl : z9 = (sk 0) := e9
  refine lv_istore_n (lv' := [(3, .int (sk 0)), (0, .ref qm), (1, .int 0), (2, .int (bI p2))]) hx hb d_Model_back_8 rfl hl (by decide) rfl (fun ls hl => ?_)
  refine lv_aload_n hx hb d_Model_back_9 rfl (lv_at hl 1 rfl) ?_
  refine lv_aload_n hx hb d_Model_back_10 rfl (lv_at hl 1 rfl) ?_
  refine va_get (D := G.1) (ci := 6) (v := .ref qk) (C := R_Model) (T := T_Model) (N := 23) hx hb hts (fun w h => gd_sub _ (iw_Model w h)) hown hK hP 0 rfl rfl 14 (by decide) (hts _ (gd_sub _ q_621)) (fun _ h9 => h9) rfl d_Model_back_11 ?_
  refine lv_iload_n hx hb d_Model_back_14 rfl (lv_at hl 2 rfl) ?_
  refine lv_bipush (v := 65) hx hb d_Model_back_15 (by decide) ?_
  refine lv_iadd hx hb d_Model_back_17 ?_
  refine lv_topi (fun z9 e9 => ?_)
  obtain rfl : z9 = 65 := e9.trans (by decide)
  refine va_iald hx hb hK hP 1 2 rfl ht2 (by unfold vp_in; decide) d_Model_back_18 ?_
  refine lv_topi (fun z9 e9 => ?_)
  obtain rfl : z9 = (sk 65) := e9
  refine lv_iconst (v := 4) hx hb d_Model_back_19 (by decide) ?_
  refine lv_isub hx hb d_Model_back_20 ?_
  refine va_put (D := G.1) (ci := 6) (v := .int ((sk 65) - 4)) (ty := .int) (C := R_Model) (T := T_Model) (N := 23) hx hb hts (fun w h => gd_sub _ (iw_Model w h)) ty_Model tyok_Model nm_Model hown hK hP hD hS 0 rfl rfl 1 (by decide) (hts _ (gd_sub _ q_608)) (fun _ h9 => h9) rfl (by decide +kernel) rfl rfl (Nat.le_of_ble_eq_true rfl) d_Model_back_21 (fun H locs hP hD hS => ?_)
  have hP : va_P G.1 vwCl [(qm, .inr (6, f_Model qp qk (oi sm 1 ((sk 65) - 4)))), (qk, .inl (cD, 512, .inl sk))] H := hP
  have hD : va_D A [(qm, .inr (6, f_Model qp qk (oi sm 1 ((sk 65) - 4)))), (qk, .inl (cD, 512, .inl sk))] := hD
  refine lv_aload_n hx hb d_Model_back_24 rfl (lv_at hl 1 rfl) ?_
  refine lv_iload_n hx hb d_Model_back_25 rfl (lv_at hl 0 rfl) ?_
  refine lv_bipush (v := 8) hx hb d_Model_back_26 (by decide) ?_
  refine lv_ishr hx hb d_Model_back_28 ?_
  refine lv_iconst (v := 1) hx hb d_Model_back_29 (by decide) ?_
  refine lv_iand hx hb d_Model_back_30 ?_
  refine lv_iload_n hx hb d_Model_back_31 rfl (lv_at hl 3 rfl) ?_
  refine lv_if_eq (tgt := 39) hx hb d_Model_back_32 (by decide) (fun c_1077 => ?_) (fun c_1077 => ?_)
  · refine lv_iconst (v := 0) hx hb d_Model_back_39 (by decide) ?_
    exact J40 false (sk 0) 0 (((sk 0) >>> (8 &&& 31)) &&& 1) (oi sm 1 ((sk 65) - 4)) H locs ls (by rw [k_Model_back_0]; rw [if_pos c_1077]; try rfl) hP hD hS (lv_sub hl [1, 2, 3, 0] rfl)
  · refine lv_iconst (v := 2) hx hb d_Model_back_35 (by decide) ?_
    refine lv_goto (tgt := 40) hx hb d_Model_back_36 (by decide) ?_
    exact J40 false (sk 0) 2 (((sk 0) >>> (8 &&& 31)) &&& 1) (oi sm 1 ((sk 65) - 4)) H locs ls (by rw [k_Model_back_0]; rw [if_neg c_1077]; try rfl) hP hD hS (lv_sub hl [1, 2, 3, 0] rfl)
