def k_Model_interrupt_j169 (sm : ob) (sk : Nat → Int32) (v1 : Int32) (v2 : Int32) (v3 : Int32) (v4 : Int32) : Int32 × ob × (Nat → Int32) :=
  (((100 + v4) - 1), (oi ((k_Model_toVs sm sk ((-2147483648) ||| (v4 - 1)) 0).1) 13 ((((k_Model_toVs sm sk ((-2147483648) ||| (v4 - 1)) 0).1).1 13) + 1)), ((k_Model_toVs sm sk ((-2147483648) ||| (v4 - 1)) 0).2))
def k_Model_interrupt_j111 (sm : ob) (sk : Nat → Int32) (v1 : Int32) (v2 : Int32) (v3 : Int32) : Int32 × ob × (Nat → Int32) :=
  if (k_Model_first (((sm.1 20) &&& (sm.1 18)) &&& (sm.1 17)) 10 2 6) < 0 then ((-1), sm, sk) else (if (sm.1 0) = 2 then (k_Model_interrupt_j169 sm sk v1 v2 v3 (k_Model_first (((sm.1 20) &&& (sm.1 18)) &&& (sm.1 17)) 10 2 6)) else (if (sm.1 0) = 3 then (if ((sk 256) &&& 2) = 0 then ((-1), sm, sk) else (k_Model_interrupt_j169 sm sk v1 v2 v3 (k_Model_first (((sm.1 20) &&& (sm.1 18)) &&& (sm.1 17)) 10 2 6))) else ((-1), sm, sk)))
def k_Model_interrupt_j87 (sm : ob) (sk : Nat → Int32) (v1 : Int32) (v2 : Int32) (v3 : Int32) : Int32 × ob × (Nat → Int32) :=
  (v3, (oi ((k_Model_toS sm sk ((-2147483648) ||| v3) 0 false 0 false).1) 13 ((((k_Model_toS sm sk ((-2147483648) ||| v3) 0 false 0 false).1).1 13) + 1)), ((k_Model_toS sm sk ((-2147483648) ||| v3) 0 false 0 false).2))
def k_Model_interrupt_j63 (sm : ob) (sk : Nat → Int32) (v1 : Int32) (v2 : Int32) (t0 : Int32) : Int32 × ob × (Nat → Int32) :=
  if t0 < 0 then (k_Model_interrupt_j111 sm sk v1 v2 t0) else (if (sm.1 0) = 1 then (if ((sk 0) &&& 2) = 0 then (k_Model_interrupt_j111 sm sk v1 v2 t0) else (k_Model_interrupt_j87 sm sk v1 v2 t0)) else (k_Model_interrupt_j87 sm sk v1 v2 t0))
def k_Model_interrupt (sm : ob) (sk : Nat → Int32) : Int32 × ob × (Nat → Int32) :=
  if (bI (sm.2.2 10)) = 0 then (if (k_Model_first ((k_Model_sip sm sk) &&& (sk 4)) 9 1 5) < 0 then (k_Model_interrupt_j63 sm sk (k_Model_first ((k_Model_sip sm sk) &&& (sk 4)) 9 1 5) (k_Model_first (((sm.1 20) &&& (sm.1 18)) &&& ((sm.1 17) ^^^ (-1))) 10 2 6) (k_Model_first (((sm.1 20) &&& (sm.1 18)) &&& ((sm.1 17) ^^^ (-1))) 10 2 6)) else (k_Model_interrupt_j63 sm sk (k_Model_first ((k_Model_sip sm sk) &&& (sk 4)) 9 1 5) (k_Model_first (((sm.1 20) &&& (sm.1 18)) &&& ((sm.1 17) ^^^ (-1))) 10 2 6) (k_Model_first ((k_Model_sip sm sk) &&& (sk 4)) 9 1 5))) else ((-3), sm, sk)
set_option maxHeartbeats 4000000 in
set_option maxRecDepth 100000 in
theorem c_Model_interrupt (l : Launch) (G : gx) (tys : List (ClassId × FieldType)) {cD : ClassId} (ht2 : tys[2]? = some (cD, .int)) (qm qk qp : Nat) (sm : ob) (sk : Nat → Int32) : ct_I l y_Model_interrupt ws_Model_interrupt ({ frames := 2, cells := 0, slots := 0, locals := 54 }) G tys [.ref qm] [(qm, .inr (6, f_Model qp qk sm)), (qk, .inl (cD, 512, .inl sk))] ((k_Model_interrupt sm sk).1) [(qm, .inr (6, f_Model qp qk ((k_Model_interrupt sm sk).2.1))), (qk, .inl (cD, 512, .inl ((k_Model_interrupt sm sk).2.2)))] := by
  refine ct_hI (cc := cc_Model_interrupt) (maxL := 5) (ret := (some .int)) (by decide) rfl (Nat.le_of_ble_eq_true rfl) ?_
  intro p e s m below meth c A ls hx hb hr hml hts hown hlocks hP hK hD hA hE hS hl
  have hl : lv_has ls 5 [(0, .ref qm)] := hl
  have hown : s.vm.findClass R_Model = some m.cls := hown
  have J169 : ∀ (v1 : Int32) (v2 : Int32) (v3 : Int32) (v4 : Int32) (H : Heap) (locs : List Loc) (ls : Array Slot), k_Model_interrupt sm sk = k_Model_interrupt_j169 sm sk v1 v2 v3 v4 → va_P G.1 vwCl [(qm, .inr (6, f_Model qp qk sm)), (qk, .inl (cD, 512, .inl sk))] H → va_D A [(qm, .inr (6, f_Model qp qk sm)), (qk, .inl (cD, 512, .inl sk))] → va_S A s.heap H locs → lv_has ls 5 [(0, .ref qm), (1, .int v1), (2, .int v2), (3, .int v3), (4, .int v4)] → W p l e ({ frames := 2, cells := 0, slots := 0, locals := 54 }) s m ([.ref qm] : List Value).toArray below meth c H locs 0 0 (MQ below (ct_qi G tys A ((k_Model_interrupt sm sk).1) [(qm, .inr (6, f_Model qp qk ((k_Model_interrupt sm sk).2.1))), (qk, .inl (cD, 512, .inl ((k_Model_interrupt sm sk).2.2)))]) ([.ref qm] : List Value).toArray s 0 0 A) (F0 m 169 ls []) := by
    intro v1 v2 v3 v4 H locs ls hj hP hD hS hl
    refine lv_aload_n hx hb d_Model_interrupt_169 rfl (lv_at hl 0 rfl) ?_
    refine lv_ldc (v := (-2147483648)) hx hb hown (hts _ (gd_sub _ q_755)) d_Model_interrupt_170 ?_
    refine lv_iload hx hb d_Model_interrupt_172 (lv_at hl 4 rfl) ?_
    refine lv_iconst (v := 1) hx hb d_Model_interrupt_174 (by decide) ?_
    refine lv_isub hx hb d_Model_interrupt_175 ?_
    refine lv_ior hx hb d_Model_interrupt_176 ?_
    refine lv_iconst (v := 0) hx hb d_Model_interrupt_177 (by decide) ?_
    obtain ⟨sm_998, esm_998⟩ : ∃ z, z = (k_Model_toVs sm sk ((-2147483648) ||| (v4 - 1)) 0).1 := ⟨_, rfl⟩
    obtain ⟨sk_999, esk_999⟩ : ∃ z, z = (k_Model_toVs sm sk ((-2147483648) ||| (v4 - 1)) 0).2 := ⟨_, rfl⟩
    have hM := c_Model_toVs l G tys ht2 qm qk qp sm sk ((-2147483648) ||| (v4 - 1)) 0
    rw [← esm_998, ← esk_999] at hM
    refine ct_cVv (wr := []) (w1 := [(qm, .inr (6, f_Model qp qk sm_998)), (qk, .inl (cD, 512, .inl sk_999))]) (w2 := [(qm, .inr (6, f_Model qp qk sm_998)), (qk, .inl (cD, 512, .inl sk_999))]) (As := [.int ((-2147483648) ||| (v4 - 1)), .int 0]) (rest := []) (ci := 6) (q0 := 0) ⟨hx, hb, hml, hown, hts⟩ hM (cwV 2 hts (gdV gd_gd q_735 q_737 q_26 q_47 q_738) rfl rfl rfl (by decide +kernel) ⟨Nat.le_of_ble_eq_true rfl, Nat.le_of_ble_eq_true rfl⟩) hE hK hP hD hS hA [0, 1] [] [0, 1] rfl (by decide) rfl (by decide) (by decide) rfl (by decide) rfl rfl rfl hl.1 rfl (Nat.le_of_ble_eq_true rfl) d_Model_interrupt_178 ⟨Nat.zero_le _, Nat.zero_le _⟩ (fun H locs hP hD hS => ?_)
    refine lv_aload_n hx hb d_Model_interrupt_181 rfl (lv_at hl 0 rfl) ?_
    refine lv_dup hx hb d_Model_interrupt_182 rfl ?_
    refine va_get (D := G.1) (ci := 6) (v := .int (sm_998.1 13)) (C := R_Model) (T := T_Model) (N := 23) hx hb hts (fun w h => gd_sub _ (iw_Model w h)) hown hK hP 0 rfl rfl 13 (by decide) (hts _ (gd_sub _ q_620)) (fun _ h9 => h9) rfl d_Model_interrupt_183 ?_
    refine lv_iconst (v := 1) hx hb d_Model_interrupt_186 (by decide) ?_
    refine lv_iadd hx hb d_Model_interrupt_187 ?_
    refine va_put (D := G.1) (ci := 6) (v := .int ((sm_998.1 13) + 1)) (ty := .int) (C := R_Model) (T := T_Model) (N := 23) hx hb hts (fun w h => gd_sub _ (iw_Model w h)) ty_Model tyok_Model nm_Model hown hK hP hD hS 0 rfl rfl 13 (by decide) (hts _ (gd_sub _ q_620)) (fun _ h9 => h9) rfl (by decide +kernel) rfl rfl (Nat.le_of_ble_eq_true rfl) d_Model_interrupt_188 (fun H locs hP hD hS => ?_)
    have hP : va_P G.1 vwCl [(qm, .inr (6, f_Model qp qk (oi sm_998 13 ((sm_998.1 13) + 1)))), (qk, .inl (cD, 512, .inl sk_999))] H := hP
    have hD : va_D A [(qm, .inr (6, f_Model qp qk (oi sm_998 13 ((sm_998.1 13) + 1)))), (qk, .inl (cD, 512, .inl sk_999))] := hD
    refine lv_bipush (v := 100) hx hb d_Model_interrupt_191 (by decide) ?_
    refine lv_iload hx hb d_Model_interrupt_193 (lv_at hl 4 rfl) ?_
    refine lv_iadd hx hb d_Model_interrupt_195 ?_
    refine lv_iconst (v := 1) hx hb d_Model_interrupt_196 (by decide) ?_
    refine lv_isub hx hb d_Model_interrupt_197 ?_
    have hk : k_Model_interrupt sm sk = (((100 + v4) - 1), (oi sm_998 13 ((sm_998.1 13) + 1)), sk_999) := (hj.trans (by rw [k_Model_interrupt_j169]; try rw [← esm_998]; try rw [← esk_999]; try rfl))
    exact ct_ri hx hb hr hlocks hP hD hK hS d_Model_interrupt_198 (by rw [hk]; first | done | rfl) (by rw [hk]; first | done | rfl)
  have J111 : ∀ (v1 : Int32) (v2 : Int32) (v3 : Int32) (H : Heap) (locs : List Loc) (ls : Array Slot), k_Model_interrupt sm sk = k_Model_interrupt_j111 sm sk v1 v2 v3 → va_P G.1 vwCl [(qm, .inr (6, f_Model qp qk sm)), (qk, .inl (cD, 512, .inl sk))] H → va_D A [(qm, .inr (6, f_Model qp qk sm)), (qk, .inl (cD, 512, .inl sk))] → va_S A s.heap H locs → lv_has ls 5 [(0, .ref qm), (1, .int v1), (2, .int v2), (3, .int v3)] → W p l e ({ frames := 2, cells := 0, slots := 0, locals := 54 }) s m ([.ref qm] : List Value).toArray below meth c H locs 0 0 (MQ below (ct_qi G tys A ((k_Model_interrupt sm sk).1) [(qm, .inr (6, f_Model qp qk ((k_Model_interrupt sm sk).2.1))), (qk, .inl (cD, 512, .inl ((k_Model_interrupt sm sk).2.2)))]) ([.ref qm] : List Value).toArray s 0 0 A) (F0 m 111 ls []) := by
    intro v1 v2 v3 H locs ls hj hP hD hS hl
    refine lv_aload_n hx hb d_Model_interrupt_111 rfl (lv_at hl 0 rfl) ?_
    refine va_get (D := G.1) (ci := 6) (v := .int (sm.1 20)) (C := R_Model) (T := T_Model) (N := 23) hx hb hts (fun w h => gd_sub _ (iw_Model w h)) hown hK hP 0 rfl rfl 20 (by decide) (hts _ (gd_sub _ q_627)) (fun _ h9 => h9) rfl d_Model_interrupt_112 ?_
    refine lv_aload_n hx hb d_Model_interrupt_115 rfl (lv_at hl 0 rfl) ?_
    refine va_get (D := G.1) (ci := 6) (v := .int (sm.1 18)) (C := R_Model) (T := T_Model) (N := 23) hx hb hts (fun w h => gd_sub _ (iw_Model w h)) hown hK hP 0 rfl rfl 18 (by decide) (hts _ (gd_sub _ q_625)) (fun _ h9 => h9) rfl d_Model_interrupt_116 ?_
    refine lv_iand hx hb d_Model_interrupt_119 ?_
    refine lv_aload_n hx hb d_Model_interrupt_120 rfl (lv_at hl 0 rfl) ?_
    refine va_get (D := G.1) (ci := 6) (v := .int (sm.1 17)) (C := R_Model) (T := T_Model) (N := 23) hx hb hts (fun w h => gd_sub _ (iw_Model w h)) hown hK hP 0 rfl rfl 17 (by decide) (hts _ (gd_sub _ q_624)) (fun _ h9 => h9) rfl d_Model_interrupt_121 ?_
    refine lv_iand hx hb d_Model_interrupt_124 ?_
    refine lv_bipush (v := 10) hx hb d_Model_interrupt_125 (by decide) ?_
    refine lv_iconst (v := 2) hx hb d_Model_interrupt_127 (by decide) ?_
    refine lv_bipush (v := 6) hx hb d_Model_interrupt_128 (by decide) ?_
    refine ct_cSi (wr := [(qm, .inr (6, f_Model qp qk sm)), (qk, .inl (cD, 512, .inl sk))]) (w1 := []) (w2 := [(qm, .inr (6, f_Model qp qk sm)), (qk, .inl (cD, 512, .inl sk))]) (r := (k_Model_first (((sm.1 20) &&& (sm.1 18)) &&& (sm.1 17)) 10 2 6)) (As := [.int (((sm.1 20) &&& (sm.1 18)) &&& (sm.1 17)), .int 10, .int 2, .int 6]) (rest := []) ⟨hx, hb, hml, hown, hts⟩ (c_Model_first l G tys (((sm.1 20) &&& (sm.1 18)) &&& (sm.1 17)) 10 2 6) (va_cwS 4 hts (gdS gd_gd q_752 q_753 q_47 q_754) rfl rfl rfl (by decide +kernel) ⟨Nat.le_of_ble_eq_true rfl, Nat.le_of_ble_eq_true rfl⟩) hE hK hP hD hS hA [] [0, 1] [0, 1] rfl (by decide) rfl (by decide) (by decide) rfl (by decide) rfl hl.1 rfl (Nat.le_of_ble_eq_true rfl) d_Model_interrupt_130 ⟨Nat.zero_le _, Nat.zero_le _⟩ (fun H locs hP hD hS => ?_)
    refine lv_istore (lv' := [(4, .int (k_Model_first (((sm.1 20) &&& (sm.1 18)) &&& (sm.1 17)) 10 2 6)), (0, .ref qm), (1, .int v1), (2, .int v2), (3, .int v3)]) hx hb d_Model_interrupt_133 hl (by decide) rfl (fun ls hl => ?_)
    refine lv_iload hx hb d_Model_interrupt_135 (lv_at hl 0 rfl) ?_
    refine lv_if_lt (tgt := 199) hx hb d_Model_interrupt_137 (by decide) (fun c_1000 => ?_) (fun c_1000 => ?_)
    · refine lv_iconst (v := (-1)) hx hb d_Model_interrupt_199 (by decide) ?_
      have hk : k_Model_interrupt sm sk = ((-1), sm, sk) := (hj.trans (by rw [k_Model_interrupt_j111]; rw [if_pos c_1000]; try rfl))
      exact ct_ri hx hb hr hlocks hP hD hK hS d_Model_interrupt_200 (by rw [hk]; first | done | rfl) (by rw [hk]; first | done | rfl)
    · refine lv_aload_n hx hb d_Model_interrupt_140 rfl (lv_at hl 1 rfl) ?_
      refine va_get (D := G.1) (ci := 6) (v := .int (sm.1 0)) (C := R_Model) (T := T_Model) (N := 23) hx hb hts (fun w h => gd_sub _ (iw_Model w h)) hown hK hP 0 rfl rfl 0 (by decide) (hts _ (gd_sub _ q_607)) (fun _ h9 => h9) rfl d_Model_interrupt_141 ?_
      refine lv_iconst (v := 2) hx hb d_Model_interrupt_144 (by decide) ?_
      refine lv_icmp_eq (tgt := 169) hx hb d_Model_interrupt_145 (by decide) (fun c_1001 => ?_) (fun c_1001 => ?_)
      · exact J169 v1 v2 v3 (k_Model_first (((sm.1 20) &&& (sm.1 18)) &&& (sm.1 17)) 10 2 6) H locs ls (hj.trans (by rw [k_Model_interrupt_j111]; rw [if_neg c_1000]; rw [if_pos c_1001]; try rfl)) hP hD hS (lv_sub hl [1, 2, 3, 4, 0] rfl)
      · refine lv_aload_n hx hb d_Model_interrupt_148 rfl (lv_at hl 1 rfl) ?_
        refine va_get (D := G.1) (ci := 6) (v := .int (sm.1 0)) (C := R_Model) (T := T_Model) (N := 23) hx hb hts (fun w h => gd_sub _ (iw_Model w h)) hown hK hP 0 rfl rfl 0 (by decide) (hts _ (gd_sub _ q_607)) (fun _ h9 => h9) rfl d_Model_interrupt_149 ?_
        refine lv_iconst (v := 3) hx hb d_Model_interrupt_152 (by decide) ?_
        refine lv_icmp_ne (tgt := 199) hx hb d_Model_interrupt_153 (by decide) (fun c_1002 => ?_) (fun c_1002 => ?_)
        · refine lv_iconst (v := (-1)) hx hb d_Model_interrupt_199 (by decide) ?_
          have hk : k_Model_interrupt sm sk = ((-1), sm, sk) := (hj.trans (by rw [k_Model_interrupt_j111]; rw [if_neg c_1000]; rw [if_neg c_1001]; rw [if_neg c_1002]; try rfl))
          exact ct_ri hx hb hr hlocks hP hD hK hS d_Model_interrupt_200 (by rw [hk]; first | done | rfl) (by rw [hk]; first | done | rfl)
        · refine lv_aload_n hx hb d_Model_interrupt_156 rfl (lv_at hl 1 rfl) ?_
          refine va_get (D := G.1) (ci := 6) (v := .ref qk) (C := R_Model) (T := T_Model) (N := 23) hx hb hts (fun w h => gd_sub _ (iw_Model w h)) hown hK hP 0 rfl rfl 14 (by decide) (hts _ (gd_sub _ q_621)) (fun _ h9 => h9) rfl d_Model_interrupt_157 ?_
          refine lv_sipush (v := 256) hx hb d_Model_interrupt_160 (by decide) ?_
          refine va_iald hx hb hK hP 1 2 rfl ht2 (by unfold vp_in; decide) d_Model_interrupt_163 ?_
          refine lv_topi (fun z9 e9 => ?_)
          obtain rfl : z9 = (sk 256) := e9
          refine lv_iconst (v := 2) hx hb d_Model_interrupt_164 (by decide) ?_
          refine lv_iand hx hb d_Model_interrupt_165 ?_
          refine lv_if_eq (tgt := 199) hx hb d_Model_interrupt_166 (by decide) (fun c_1003 => ?_) (fun c_1003 => ?_)
          · refine lv_iconst (v := (-1)) hx hb d_Model_interrupt_199 (by decide) ?_
            have hk : k_Model_interrupt sm sk = ((-1), sm, sk) := (hj.trans (by rw [k_Model_interrupt_j111]; rw [if_neg c_1000]; rw [if_neg c_1001]; rw [if_pos c_1002]; rw [if_pos c_1003]; try rfl))
            exact ct_ri hx hb hr hlocks hP hD hK hS d_Model_interrupt_200 (by rw [hk]; first | done | rfl) (by rw [hk]; first | done | rfl)
          · exact J169 v1 v2 v3 (k_Model_first (((sm.1 20) &&& (sm.1 18)) &&& (sm.1 17)) 10 2 6) H locs ls (hj.trans (by rw [k_Model_interrupt_j111]; rw [if_neg c_1000]; rw [if_neg c_1001]; rw [if_pos c_1002]; rw [if_neg c_1003]; try rfl)) hP hD hS (lv_sub hl [1, 2, 3, 4, 0] rfl)
  have J87 : ∀ (v1 : Int32) (v2 : Int32) (v3 : Int32) (H : Heap) (locs : List Loc) (ls : Array Slot), k_Model_interrupt sm sk = k_Model_interrupt_j87 sm sk v1 v2 v3 → va_P G.1 vwCl [(qm, .inr (6, f_Model qp qk sm)), (qk, .inl (cD, 512, .inl sk))] H → va_D A [(qm, .inr (6, f_Model qp qk sm)), (qk, .inl (cD, 512, .inl sk))] → va_S A s.heap H locs → lv_has ls 5 [(0, .ref qm), (1, .int v1), (2, .int v2), (3, .int v3)] → W p l e ({ frames := 2, cells := 0, slots := 0, locals := 54 }) s m ([.ref qm] : List Value).toArray below meth c H locs 0 0 (MQ below (ct_qi G tys A ((k_Model_interrupt sm sk).1) [(qm, .inr (6, f_Model qp qk ((k_Model_interrupt sm sk).2.1))), (qk, .inl (cD, 512, .inl ((k_Model_interrupt sm sk).2.2)))]) ([.ref qm] : List Value).toArray s 0 0 A) (F0 m 87 ls []) := by
    intro v1 v2 v3 H locs ls hj hP hD hS hl
    refine lv_aload_n hx hb d_Model_interrupt_87 rfl (lv_at hl 0 rfl) ?_
    refine lv_ldc (v := (-2147483648)) hx hb hown (hts _ (gd_sub _ q_755)) d_Model_interrupt_88 ?_
    refine lv_iload_n hx hb d_Model_interrupt_90 rfl (lv_at hl 3 rfl) ?_
    refine lv_ior hx hb d_Model_interrupt_91 ?_
    refine lv_iconst (v := 0) hx hb d_Model_interrupt_92 (by decide) ?_
    refine lv_iconst (v := 0) hx hb d_Model_interrupt_93 (by decide) ?_
    refine lv_iconst (v := 0) hx hb d_Model_interrupt_94 (by decide) ?_
    refine lv_iconst (v := 0) hx hb d_Model_interrupt_95 (by decide) ?_
    obtain ⟨sm_1004, esm_1004⟩ : ∃ z, z = (k_Model_toS sm sk ((-2147483648) ||| v3) 0 false 0 false).1 := ⟨_, rfl⟩
    obtain ⟨sk_1005, esk_1005⟩ : ∃ z, z = (k_Model_toS sm sk ((-2147483648) ||| v3) 0 false 0 false).2 := ⟨_, rfl⟩
    have hM := c_Model_toS l G tys ht2 qm qk qp sm sk ((-2147483648) ||| v3) 0 false 0 false
    rw [← esm_1004, ← esk_1005] at hM
    refine ct_cVv (wr := []) (w1 := [(qm, .inr (6, f_Model qp qk sm_1004)), (qk, .inl (cD, 512, .inl sk_1005))]) (w2 := [(qm, .inr (6, f_Model qp qk sm_1004)), (qk, .inl (cD, 512, .inl sk_1005))]) (As := [.int ((-2147483648) ||| v3), .int 0, .int (bI false), .int 0, .int (bI false)]) (rest := []) (ci := 6) (q0 := 0) ⟨hx, hb, hml, hown, hts⟩ hM (cwV 5 hts (gdV gd_gd q_744 q_746 q_28 q_47 q_747) rfl rfl rfl (by decide +kernel) ⟨Nat.le_of_ble_eq_true rfl, Nat.le_of_ble_eq_true rfl⟩) hE hK hP hD hS hA [0, 1] [] [0, 1] rfl (by decide) rfl (by decide) (by decide) rfl (by decide) rfl rfl rfl hl.1 rfl (Nat.le_of_ble_eq_true rfl) d_Model_interrupt_96 ⟨Nat.zero_le _, Nat.zero_le _⟩ (fun H locs hP hD hS => ?_)
    refine lv_aload_n hx hb d_Model_interrupt_99 rfl (lv_at hl 0 rfl) ?_
    refine lv_dup hx hb d_Model_interrupt_100 rfl ?_
    refine va_get (D := G.1) (ci := 6) (v := .int (sm_1004.1 13)) (C := R_Model) (T := T_Model) (N := 23) hx hb hts (fun w h => gd_sub _ (iw_Model w h)) hown hK hP 0 rfl rfl 13 (by decide) (hts _ (gd_sub _ q_620)) (fun _ h9 => h9) rfl d_Model_interrupt_101 ?_
    refine lv_iconst (v := 1) hx hb d_Model_interrupt_104 (by decide) ?_
    refine lv_iadd hx hb d_Model_interrupt_105 ?_
    refine va_put (D := G.1) (ci := 6) (v := .int ((sm_1004.1 13) + 1)) (ty := .int) (C := R_Model) (T := T_Model) (N := 23) hx hb hts (fun w h => gd_sub _ (iw_Model w h)) ty_Model tyok_Model nm_Model hown hK hP hD hS 0 rfl rfl 13 (by decide) (hts _ (gd_sub _ q_620)) (fun _ h9 => h9) rfl (by decide +kernel) rfl rfl (Nat.le_of_ble_eq_true rfl) d_Model_interrupt_106 (fun H locs hP hD hS => ?_)
    have hP : va_P G.1 vwCl [(qm, .inr (6, f_Model qp qk (oi sm_1004 13 ((sm_1004.1 13) + 1)))), (qk, .inl (cD, 512, .inl sk_1005))] H := hP
    have hD : va_D A [(qm, .inr (6, f_Model qp qk (oi sm_1004 13 ((sm_1004.1 13) + 1)))), (qk, .inl (cD, 512, .inl sk_1005))] := hD
    refine lv_iload_n hx hb d_Model_interrupt_109 rfl (lv_at hl 3 rfl) ?_
    have hk : k_Model_interrupt sm sk = (v3, (oi sm_1004 13 ((sm_1004.1 13) + 1)), sk_1005) := (hj.trans (by rw [k_Model_interrupt_j87]; try rw [← esm_1004]; try rw [← esk_1005]; try rfl))
    exact ct_ri hx hb hr hlocks hP hD hK hS d_Model_interrupt_110 (by rw [hk]; first | done | rfl) (by rw [hk]; first | done | rfl)
  have J63 : ∀ (v1 : Int32) (v2 : Int32) (t0 : Int32) (H : Heap) (locs : List Loc) (ls : Array Slot), k_Model_interrupt sm sk = k_Model_interrupt_j63 sm sk v1 v2 t0 → va_P G.1 vwCl [(qm, .inr (6, f_Model qp qk sm)), (qk, .inl (cD, 512, .inl sk))] H → va_D A [(qm, .inr (6, f_Model qp qk sm)), (qk, .inl (cD, 512, .inl sk))] → va_S A s.heap H locs → lv_has ls 5 [(0, .ref qm), (1, .int v1), (2, .int v2)] → W p l e ({ frames := 2, cells := 0, slots := 0, locals := 54 }) s m ([.ref qm] : List Value).toArray below meth c H locs 0 0 (MQ below (ct_qi G tys A ((k_Model_interrupt sm sk).1) [(qm, .inr (6, f_Model qp qk ((k_Model_interrupt sm sk).2.1))), (qk, .inl (cD, 512, .inl ((k_Model_interrupt sm sk).2.2)))]) ([.ref qm] : List Value).toArray s 0 0 A) (F0 m 63 ls [.int t0]) := by
    intro v1 v2 t0 H locs ls hj hP hD hS hl
    refine lv_istore_n (lv' := [(3, .int t0), (0, .ref qm), (1, .int v1), (2, .int v2)]) hx hb d_Model_interrupt_63 rfl hl (by decide) rfl (fun ls hl => ?_)
    refine lv_iload_n hx hb d_Model_interrupt_64 rfl (lv_at hl 0 rfl) ?_
    refine lv_if_lt (tgt := 111) hx hb d_Model_interrupt_65 (by decide) (fun c_1006 => ?_) (fun c_1006 => ?_)
    · exact J111 v1 v2 t0 H locs ls (hj.trans (by rw [k_Model_interrupt_j63]; rw [if_pos c_1006]; try rfl)) hP hD hS (lv_sub hl [1, 2, 3, 0] rfl)
    · refine lv_aload_n hx hb d_Model_interrupt_68 rfl (lv_at hl 1 rfl) ?_
      refine va_get (D := G.1) (ci := 6) (v := .int (sm.1 0)) (C := R_Model) (T := T_Model) (N := 23) hx hb hts (fun w h => gd_sub _ (iw_Model w h)) hown hK hP 0 rfl rfl 0 (by decide) (hts _ (gd_sub _ q_607)) (fun _ h9 => h9) rfl d_Model_interrupt_69 ?_
      refine lv_iconst (v := 1) hx hb d_Model_interrupt_72 (by decide) ?_
      refine lv_icmp_ne (tgt := 87) hx hb d_Model_interrupt_73 (by decide) (fun c_1007 => ?_) (fun c_1007 => ?_)
      · exact J87 v1 v2 t0 H locs ls (hj.trans (by rw [k_Model_interrupt_j63]; rw [if_neg c_1006]; rw [if_neg c_1007]; try rfl)) hP hD hS (lv_sub hl [1, 2, 3, 0] rfl)
      · refine lv_aload_n hx hb d_Model_interrupt_76 rfl (lv_at hl 1 rfl) ?_
        refine va_get (D := G.1) (ci := 6) (v := .ref qk) (C := R_Model) (T := T_Model) (N := 23) hx hb hts (fun w h => gd_sub _ (iw_Model w h)) hown hK hP 0 rfl rfl 14 (by decide) (hts _ (gd_sub _ q_621)) (fun _ h9 => h9) rfl d_Model_interrupt_77 ?_
        refine lv_iconst (v := 0) hx hb d_Model_interrupt_80 (by decide) ?_
        refine va_iald hx hb hK hP 1 2 rfl ht2 (by unfold vp_in; decide) d_Model_interrupt_81 ?_
        refine lv_topi (fun z9 e9 => ?_)
        obtain rfl : z9 = (sk 0) := e9
        refine lv_iconst (v := 2) hx hb d_Model_interrupt_82 (by decide) ?_
        refine lv_iand hx hb d_Model_interrupt_83 ?_
        refine lv_if_eq (tgt := 111) hx hb d_Model_interrupt_84 (by decide) (fun c_1008 => ?_) (fun c_1008 => ?_)
        · exact J111 v1 v2 t0 H locs ls (hj.trans (by rw [k_Model_interrupt_j63]; rw [if_neg c_1006]; rw [if_pos c_1007]; rw [if_pos c_1008]; try rfl)) hP hD hS (lv_sub hl [1, 2, 3, 0] rfl)
        · exact J87 v1 v2 t0 H locs ls (hj.trans (by rw [k_Model_interrupt_j63]; rw [if_neg c_1006]; rw [if_pos c_1007]; rw [if_neg c_1008]; try rfl)) hP hD hS (lv_sub hl [1, 2, 3, 0] rfl)
  obtain ⟨H, eH⟩ : ∃ z, z = s.heap := ⟨_, rfl⟩
  obtain ⟨locs, eL⟩ : ∃ z, z = ([] : List Loc) := ⟨_, rfl⟩
  have hP : va_P G.1 vwCl [(qm, .inr (6, f_Model qp qk sm)), (qk, .inl (cD, 512, .inl sk))] H := by rw [eH]; exact hP
  have hS : va_S A s.heap H locs := by rw [eH, eL]; exact hS
  suffices hW : W p l e ({ frames := 2, cells := 0, slots := 0, locals := 54 }) s m ([.ref qm] : List Value).toArray below meth c H locs 0 0 (MQ below (ct_qi G tys A ((k_Model_interrupt sm sk).1) [(qm, .inr (6, f_Model qp qk ((k_Model_interrupt sm sk).2.1))), (qk, .inl (cD, 512, .inl ((k_Model_interrupt sm sk).2.2)))]) ([.ref qm] : List Value).toArray s 0 0 A) (F0 m 0 ls []) by rw [eH, eL] at hW; exact hW
  refine lv_aload_n hx hb d_Model_interrupt_0 rfl (lv_at hl 0 rfl) ?_
  refine va_get (D := G.1) (ci := 6) (v := .int (bI (sm.2.2 10))) (C := R_Model) (T := T_Model) (N := 23) hx hb hts (fun w h => gd_sub _ (iw_Model w h)) hown hK hP 0 rfl rfl 10 (by decide) (hts _ (gd_sub _ q_617)) (fun _ h9 => h9) rfl d_Model_interrupt_1 ?_
  refine lv_if_eq (tgt := 10) hx hb d_Model_interrupt_4 (by decide) (fun c_1009 => ?_) (fun c_1009 => ?_)
  · refine lv_aload_n hx hb d_Model_interrupt_10 rfl (lv_at hl 0 rfl) ?_
    refine ct_cVi (wr := []) (w1 := [(qm, .inr (6, f_Model qp qk sm)), (qk, .inl (cD, 512, .inl sk))]) (w2 := [(qm, .inr (6, f_Model qp qk sm)), (qk, .inl (cD, 512, .inl sk))]) (r := (k_Model_sip sm sk)) (As := []) (rest := []) (ci := 6) (q0 := 0) ⟨hx, hb, hml, hown, hts⟩ (c_Model_sip l G tys ht2 qm qk qp sm sk) (cwV 0 hts (gdV gd_gd q_715 q_717 q_23 q_47 q_718) rfl rfl rfl (by decide +kernel) ⟨Nat.le_of_ble_eq_true rfl, Nat.le_of_ble_eq_true rfl⟩) hE hK hP hD hS hA [0, 1] [] [0, 1] rfl (by decide) rfl (by decide) (by decide) rfl (by decide) rfl rfl rfl hl.1 rfl (Nat.le_of_ble_eq_true rfl) d_Model_interrupt_11 ⟨Nat.zero_le _, Nat.zero_le _⟩ (fun H locs hP hD hS => ?_)
    refine lv_aload_n hx hb d_Model_interrupt_14 rfl (lv_at hl 0 rfl) ?_
    refine va_get (D := G.1) (ci := 6) (v := .ref qk) (C := R_Model) (T := T_Model) (N := 23) hx hb hts (fun w h => gd_sub _ (iw_Model w h)) hown hK hP 0 rfl rfl 14 (by decide) (hts _ (gd_sub _ q_621)) (fun _ h9 => h9) rfl d_Model_interrupt_15 ?_
    refine lv_iconst (v := 4) hx hb d_Model_interrupt_18 (by decide) ?_
    refine va_iald hx hb hK hP 1 2 rfl ht2 (by unfold vp_in; decide) d_Model_interrupt_19 ?_
    refine lv_topi (fun z9 e9 => ?_)
    obtain rfl : z9 = (sk 4) := e9
    refine lv_iand hx hb d_Model_interrupt_20 ?_
    refine lv_bipush (v := 9) hx hb d_Model_interrupt_21 (by decide) ?_
    refine lv_iconst (v := 1) hx hb d_Model_interrupt_23 (by decide) ?_
    refine lv_iconst (v := 5) hx hb d_Model_interrupt_24 (by decide) ?_
    refine ct_cSi (wr := [(qm, .inr (6, f_Model qp qk sm)), (qk, .inl (cD, 512, .inl sk))]) (w1 := []) (w2 := [(qm, .inr (6, f_Model qp qk sm)), (qk, .inl (cD, 512, .inl sk))]) (r := (k_Model_first ((k_Model_sip sm sk) &&& (sk 4)) 9 1 5)) (As := [.int ((k_Model_sip sm sk) &&& (sk 4)), .int 9, .int 1, .int 5]) (rest := []) ⟨hx, hb, hml, hown, hts⟩ (c_Model_first l G tys ((k_Model_sip sm sk) &&& (sk 4)) 9 1 5) (va_cwS 4 hts (gdS gd_gd q_752 q_753 q_47 q_754) rfl rfl rfl (by decide +kernel) ⟨Nat.le_of_ble_eq_true rfl, Nat.le_of_ble_eq_true rfl⟩) hE hK hP hD hS hA [] [0, 1] [0, 1] rfl (by decide) rfl (by decide) (by decide) rfl (by decide) rfl hl.1 rfl (Nat.le_of_ble_eq_true rfl) d_Model_interrupt_25 ⟨Nat.zero_le _, Nat.zero_le _⟩ (fun H locs hP hD hS => ?_)
    refine lv_istore_n (lv' := [(1, .int (k_Model_first ((k_Model_sip sm sk) &&& (sk 4)) 9 1 5)), (0, .ref qm)]) hx hb d_Model_interrupt_28 rfl hl (by decide) rfl (fun ls hl => ?_)
    refine lv_aload_n hx hb d_Model_interrupt_29 rfl (lv_at hl 1 rfl) ?_
    refine va_get (D := G.1) (ci := 6) (v := .int (sm.1 20)) (C := R_Model) (T := T_Model) (N := 23) hx hb hts (fun w h => gd_sub _ (iw_Model w h)) hown hK hP 0 rfl rfl 20 (by decide) (hts _ (gd_sub _ q_627)) (fun _ h9 => h9) rfl d_Model_interrupt_30 ?_
    refine lv_aload_n hx hb d_Model_interrupt_33 rfl (lv_at hl 1 rfl) ?_
    refine va_get (D := G.1) (ci := 6) (v := .int (sm.1 18)) (C := R_Model) (T := T_Model) (N := 23) hx hb hts (fun w h => gd_sub _ (iw_Model w h)) hown hK hP 0 rfl rfl 18 (by decide) (hts _ (gd_sub _ q_625)) (fun _ h9 => h9) rfl d_Model_interrupt_34 ?_
    refine lv_iand hx hb d_Model_interrupt_37 ?_
    refine lv_aload_n hx hb d_Model_interrupt_38 rfl (lv_at hl 1 rfl) ?_
    refine va_get (D := G.1) (ci := 6) (v := .int (sm.1 17)) (C := R_Model) (T := T_Model) (N := 23) hx hb hts (fun w h => gd_sub _ (iw_Model w h)) hown hK hP 0 rfl rfl 17 (by decide) (hts _ (gd_sub _ q_624)) (fun _ h9 => h9) rfl d_Model_interrupt_39 ?_
    refine lv_iconst (v := (-1)) hx hb d_Model_interrupt_42 (by decide) ?_
    refine lv_ixor hx hb d_Model_interrupt_43 ?_
    refine lv_iand hx hb d_Model_interrupt_44 ?_
    refine lv_bipush (v := 10) hx hb d_Model_interrupt_45 (by decide) ?_
    refine lv_iconst (v := 2) hx hb d_Model_interrupt_47 (by decide) ?_
    refine lv_bipush (v := 6) hx hb d_Model_interrupt_48 (by decide) ?_
    refine ct_cSi (wr := [(qm, .inr (6, f_Model qp qk sm)), (qk, .inl (cD, 512, .inl sk))]) (w1 := []) (w2 := [(qm, .inr (6, f_Model qp qk sm)), (qk, .inl (cD, 512, .inl sk))]) (r := (k_Model_first (((sm.1 20) &&& (sm.1 18)) &&& ((sm.1 17) ^^^ (-1))) 10 2 6)) (As := [.int (((sm.1 20) &&& (sm.1 18)) &&& ((sm.1 17) ^^^ (-1))), .int 10, .int 2, .int 6]) (rest := []) ⟨hx, hb, hml, hown, hts⟩ (c_Model_first l G tys (((sm.1 20) &&& (sm.1 18)) &&& ((sm.1 17) ^^^ (-1))) 10 2 6) (va_cwS 4 hts (gdS gd_gd q_752 q_753 q_47 q_754) rfl rfl rfl (by decide +kernel) ⟨Nat.le_of_ble_eq_true rfl, Nat.le_of_ble_eq_true rfl⟩) hE hK hP hD hS hA [] [0, 1] [0, 1] rfl (by decide) rfl (by decide) (by decide) rfl (by decide) rfl hl.1 rfl (Nat.le_of_ble_eq_true rfl) d_Model_interrupt_50 ⟨Nat.zero_le _, Nat.zero_le _⟩ (fun H locs hP hD hS => ?_)
    refine lv_istore_n (lv' := [(2, .int (k_Model_first (((sm.1 20) &&& (sm.1 18)) &&& ((sm.1 17) ^^^ (-1))) 10 2 6)), (1, .int (k_Model_first ((k_Model_sip sm sk) &&& (sk 4)) 9 1 5)), (0, .ref qm)]) hx hb d_Model_interrupt_53 rfl hl (by decide) rfl (fun ls hl => ?_)
    refine lv_iload_n hx hb d_Model_interrupt_54 rfl (lv_at hl 1 rfl) ?_
    refine lv_if_lt (tgt := 62) hx hb d_Model_interrupt_55 (by decide) (fun c_1010 => ?_) (fun c_1010 => ?_)
    · refine lv_iload_n hx hb d_Model_interrupt_62 rfl (lv_at hl 0 rfl) ?_
      exact J63 (k_Model_first ((k_Model_sip sm sk) &&& (sk 4)) 9 1 5) (k_Model_first (((sm.1 20) &&& (sm.1 18)) &&& ((sm.1 17) ^^^ (-1))) 10 2 6) (k_Model_first (((sm.1 20) &&& (sm.1 18)) &&& ((sm.1 17) ^^^ (-1))) 10 2 6) H locs ls (by rw [k_Model_interrupt]; rw [if_pos c_1009]; rw [if_pos c_1010]; try rfl) hP hD hS (lv_sub hl [2, 1, 0] rfl)
    · refine lv_iload_n hx hb d_Model_interrupt_58 rfl (lv_at hl 1 rfl) ?_
      refine lv_goto (tgt := 63) hx hb d_Model_interrupt_59 (by decide) ?_
      exact J63 (k_Model_first ((k_Model_sip sm sk) &&& (sk 4)) 9 1 5) (k_Model_first (((sm.1 20) &&& (sm.1 18)) &&& ((sm.1 17) ^^^ (-1))) 10 2 6) (k_Model_first ((k_Model_sip sm sk) &&& (sk 4)) 9 1 5) H locs ls (by rw [k_Model_interrupt]; rw [if_pos c_1009]; rw [if_neg c_1010]; try rfl) hP hD hS (lv_sub hl [2, 1, 0] rfl)
  · refine lv_bipush (v := (-3)) hx hb d_Model_interrupt_7 (by decide) ?_
    have hk : k_Model_interrupt sm sk = ((-3), sm, sk) := (by rw [k_Model_interrupt]; rw [if_neg c_1009]; try rfl)
    exact ct_ri hx hb hr hlocks hP hD hK hS d_Model_interrupt_9 (by rw [hk]; first | done | rfl) (by rw [hk]; first | done | rfl)
def k_Model_x (sm : ob) (p1 : Int32) : Int32 :=
  if p1 = 10 then (sm.1 5) else (if p1 = 11 then (sm.1 6) else (if p1 = 17 then (sm.1 7) else 0))
set_option maxHeartbeats 4000000 in
set_option maxRecDepth 100000 in
theorem c_Model_x (l : Launch) (G : gx) (tys : List (ClassId × FieldType)) (qm qp qk : Nat) (sm : ob) (p1 : Int32) : ct_I l y_Model_x ws_Model_x ({ frames := 0, cells := 0, slots := 0, locals := 0 }) G tys [.ref qm, .int p1] [(qm, .inr (6, f_Model qp qk sm))] (k_Model_x sm p1) [(qm, .inr (6, f_Model qp qk sm))] := by
  refine ct_hI (cc := cc_Model_x) (maxL := 2) (ret := (some .int)) (by decide) rfl (Nat.le_of_ble_eq_true rfl) ?_
  intro p e s m below meth c A ls hx hb hr hml hts hown hlocks hP hK hD hA hE hS hl
  have hl : lv_has ls 2 [(0, .ref qm), (1, .int p1)] := hl
  have hown : s.vm.findClass R_Model = some m.cls := hown
  refine lv_iload_n hx hb d_Model_x_0 rfl (lv_at hl 1 rfl) ?_
  refine lv_bipush (v := 10) hx hb d_Model_x_1 (by decide) ?_
  refine lv_icmp_ne (tgt := 13) hx hb d_Model_x_3 (by decide) (fun c_1014 => ?_) (fun c_1014 => ?_)
  · refine lv_iload_n hx hb d_Model_x_13 rfl (lv_at hl 1 rfl) ?_
    refine lv_bipush (v := 11) hx hb d_Model_x_14 (by decide) ?_
    refine lv_icmp_ne (tgt := 26) hx hb d_Model_x_16 (by decide) (fun c_1015 => ?_) (fun c_1015 => ?_)
    · refine lv_iload_n hx hb d_Model_x_26 rfl (lv_at hl 1 rfl) ?_
      refine lv_bipush (v := 17) hx hb d_Model_x_27 (by decide) ?_
      refine lv_icmp_ne (tgt := 39) hx hb d_Model_x_29 (by decide) (fun c_1016 => ?_) (fun c_1016 => ?_)
      · refine lv_iconst (v := 0) hx hb d_Model_x_39 (by decide) ?_
        have hk : k_Model_x sm p1 = 0 := (by rw [k_Model_x]; rw [if_neg c_1014]; rw [if_neg c_1015]; rw [if_neg c_1016]; try rfl)
        exact ct_ri hx hb hr hlocks hP hD hK hS d_Model_x_40 (by rw [hk]; first | done | rfl) rfl
      · refine lv_aload_n hx hb d_Model_x_32 rfl (lv_at hl 0 rfl) ?_
        refine va_get (D := G.1) (ci := 6) (v := .int (sm.1 7)) (C := R_Model) (T := T_Model) (N := 23) hx hb hts (fun w h => gd_sub _ (iw_Model w h)) hown hK hP 0 rfl rfl 7 (by decide) (hts _ (gd_sub _ q_614)) (fun _ h9 => h9) rfl d_Model_x_33 ?_
        refine lv_goto (tgt := 40) hx hb d_Model_x_36 (by decide) ?_
        have hk : k_Model_x sm p1 = (sm.1 7) := (by rw [k_Model_x]; rw [if_neg c_1014]; rw [if_neg c_1015]; rw [if_pos c_1016]; try rfl)
        exact ct_ri hx hb hr hlocks hP hD hK hS d_Model_x_40 (by rw [hk]; first | done | rfl) rfl
    · refine lv_aload_n hx hb d_Model_x_19 rfl (lv_at hl 0 rfl) ?_
      refine va_get (D := G.1) (ci := 6) (v := .int (sm.1 6)) (C := R_Model) (T := T_Model) (N := 23) hx hb hts (fun w h => gd_sub _ (iw_Model w h)) hown hK hP 0 rfl rfl 6 (by decide) (hts _ (gd_sub _ q_613)) (fun _ h9 => h9) rfl d_Model_x_20 ?_
      refine lv_goto (tgt := 40) hx hb d_Model_x_23 (by decide) ?_
      have hk : k_Model_x sm p1 = (sm.1 6) := (by rw [k_Model_x]; rw [if_neg c_1014]; rw [if_pos c_1015]; try rfl)
      exact ct_ri hx hb hr hlocks hP hD hK hS d_Model_x_40 (by rw [hk]; first | done | rfl) rfl
  · refine lv_aload_n hx hb d_Model_x_6 rfl (lv_at hl 0 rfl) ?_
    refine va_get (D := G.1) (ci := 6) (v := .int (sm.1 5)) (C := R_Model) (T := T_Model) (N := 23) hx hb hts (fun w h => gd_sub _ (iw_Model w h)) hown hK hP 0 rfl rfl 5 (by decide) (hts _ (gd_sub _ q_612)) (fun _ h9 => h9) rfl d_Model_x_7 ?_
    refine lv_goto (tgt := 40) hx hb d_Model_x_10 (by decide) ?_
    have hk : k_Model_x sm p1 = (sm.1 5) := (by rw [k_Model_x]; rw [if_pos c_1014]; try rfl)
    exact ct_ri hx hb hr hlocks hP hD hK hS d_Model_x_40 (by rw [hk]; first | done | rfl) rfl
def k_Model_setX_j33 (sm : ob) (p1 : Int32) (p2 : Int32) (t0 : Int32) (um : ob) : ob :=
  if p1 = 17 then (oi (oi um 6 t0) 7 p2) else (oi (oi um 6 t0) 7 (um.1 7))
def k_Model_setX_j15 (sm : ob) (p1 : Int32) (p2 : Int32) (t0 : Int32) : ob :=
  if p1 = 11 then (k_Model_setX_j33 sm p1 p2 p2 (oi sm 5 t0)) else (k_Model_setX_j33 sm p1 p2 (sm.1 6) (oi sm 5 t0))
def k_Model_setX (sm : ob) (p1 : Int32) (p2 : Int32) : ob :=
  if p1 = 10 then (k_Model_setX_j15 sm p1 p2 p2) else (k_Model_setX_j15 sm p1 p2 (sm.1 5))
set_option maxHeartbeats 4000000 in
set_option maxRecDepth 100000 in
theorem c_Model_setX (l : Launch) (G : gx) (tys : List (ClassId × FieldType)) (qm qp qk : Nat) (sm : ob) (p1 : Int32) (p2 : Int32) : ct_V l y_Model_setX ws_Model_setX ({ frames := 0, cells := 0, slots := 0, locals := 0 }) G tys [.ref qm, .int p1, .int p2] [(qm, .inr (6, f_Model qp qk sm))] [(qm, .inr (6, f_Model qp qk (k_Model_setX sm p1 p2)))] := by
  refine ct_hV (cc := cc_Model_setX) (maxL := 3) (ret := none) (by decide) rfl (Nat.le_of_ble_eq_true rfl) ?_
  intro p e s m below meth c A ls hx hb hr hml hts hown hlocks hP hK hD hA hE hS hl
  have hl : lv_has ls 3 [(0, .ref qm), (1, .int p1), (2, .int p2)] := hl
  have hown : s.vm.findClass R_Model = some m.cls := hown
  have J33 : ∀ (t0 : Int32) (um : ob) (H : Heap) (locs : List Loc) (ls : Array Slot), k_Model_setX sm p1 p2 = k_Model_setX_j33 sm p1 p2 t0 um → va_P G.1 vwCl [(qm, .inr (6, f_Model qp qk um))] H → va_D A [(qm, .inr (6, f_Model qp qk um))] → va_S A s.heap H locs → lv_has ls 3 [(0, .ref qm), (1, .int p1), (2, .int p2)] → W p l e ({ frames := 0, cells := 0, slots := 0, locals := 0 }) s m ([.ref qm, .int p1, .int p2] : List Value).toArray below meth c H locs 0 0 (MQ below (ct_qv G tys A [(qm, .inr (6, f_Model qp qk (k_Model_setX sm p1 p2)))]) ([.ref qm, .int p1, .int p2] : List Value).toArray s 0 0 A) (F0 m 33 ls [.int t0, .ref qm]) := by
    intro t0 um H locs ls hj hP hD hS hl
    refine va_put (D := G.1) (ci := 6) (v := .int t0) (ty := .int) (C := R_Model) (T := T_Model) (N := 23) hx hb hts (fun w h => gd_sub _ (iw_Model w h)) ty_Model tyok_Model nm_Model hown hK hP hD hS 0 rfl rfl 6 (by decide) (hts _ (gd_sub _ q_613)) (fun _ h9 => h9) rfl (by decide +kernel) rfl rfl (Nat.le_of_ble_eq_true rfl) d_Model_setX_33 (fun H locs hP hD hS => ?_)
    have hP : va_P G.1 vwCl [(qm, .inr (6, f_Model qp qk (oi um 6 t0)))] H := hP
    have hD : va_D A [(qm, .inr (6, f_Model qp qk (oi um 6 t0)))] := hD
    refine lv_aload_n hx hb d_Model_setX_36 rfl (lv_at hl 0 rfl) ?_
    refine lv_iload_n hx hb d_Model_setX_37 rfl (lv_at hl 1 rfl) ?_
    refine lv_bipush (v := 17) hx hb d_Model_setX_38 (by decide) ?_
    refine lv_icmp_ne (tgt := 47) hx hb d_Model_setX_40 (by decide) (fun c_1020 => ?_) (fun c_1020 => ?_)
    · refine lv_aload_n hx hb d_Model_setX_47 rfl (lv_at hl 0 rfl) ?_
      refine va_get (D := G.1) (ci := 6) (v := .int (um.1 7)) (C := R_Model) (T := T_Model) (N := 23) hx hb hts (fun w h => gd_sub _ (iw_Model w h)) hown hK hP 0 rfl rfl 7 (by decide) (hts _ (gd_sub _ q_614)) (fun _ h9 => h9) rfl d_Model_setX_48 ?_
      refine va_put (D := G.1) (ci := 6) (v := .int (um.1 7)) (ty := .int) (C := R_Model) (T := T_Model) (N := 23) hx hb hts (fun w h => gd_sub _ (iw_Model w h)) ty_Model tyok_Model nm_Model hown hK hP hD hS 0 rfl rfl 7 (by decide) (hts _ (gd_sub _ q_614)) (fun _ h9 => h9) rfl (by decide +kernel) rfl rfl (Nat.le_of_ble_eq_true rfl) d_Model_setX_51 (fun H locs hP hD hS => ?_)
      have hP : va_P G.1 vwCl [(qm, .inr (6, f_Model qp qk (oi (oi um 6 t0) 7 (um.1 7))))] H := hP
      have hD : va_D A [(qm, .inr (6, f_Model qp qk (oi (oi um 6 t0) 7 (um.1 7))))] := hD
      have hk : k_Model_setX sm p1 p2 = (oi (oi um 6 t0) 7 (um.1 7)) := (hj.trans (by rw [k_Model_setX_j33]; rw [if_neg c_1020]; try rfl))
      exact ct_rv hx hb hr hlocks hP hD hK hS d_Model_setX_54 (by rw [hk]; first | done | rfl)
    · refine lv_iload_n hx hb d_Model_setX_43 rfl (lv_at hl 2 rfl) ?_
      refine lv_goto (tgt := 51) hx hb d_Model_setX_44 (by decide) ?_
      refine va_put (D := G.1) (ci := 6) (v := .int p2) (ty := .int) (C := R_Model) (T := T_Model) (N := 23) hx hb hts (fun w h => gd_sub _ (iw_Model w h)) ty_Model tyok_Model nm_Model hown hK hP hD hS 0 rfl rfl 7 (by decide) (hts _ (gd_sub _ q_614)) (fun _ h9 => h9) rfl (by decide +kernel) rfl rfl (Nat.le_of_ble_eq_true rfl) d_Model_setX_51 (fun H locs hP hD hS => ?_)
      have hP : va_P G.1 vwCl [(qm, .inr (6, f_Model qp qk (oi (oi um 6 t0) 7 p2)))] H := hP
      have hD : va_D A [(qm, .inr (6, f_Model qp qk (oi (oi um 6 t0) 7 p2)))] := hD
      have hk : k_Model_setX sm p1 p2 = (oi (oi um 6 t0) 7 p2) := (hj.trans (by rw [k_Model_setX_j33]; rw [if_pos c_1020]; try rfl))
      exact ct_rv hx hb hr hlocks hP hD hK hS d_Model_setX_54 (by rw [hk]; first | done | rfl)
  have J15 : ∀ (t0 : Int32) (H : Heap) (locs : List Loc) (ls : Array Slot), k_Model_setX sm p1 p2 = k_Model_setX_j15 sm p1 p2 t0 → va_P G.1 vwCl [(qm, .inr (6, f_Model qp qk sm))] H → va_D A [(qm, .inr (6, f_Model qp qk sm))] → va_S A s.heap H locs → lv_has ls 3 [(0, .ref qm), (1, .int p1), (2, .int p2)] → W p l e ({ frames := 0, cells := 0, slots := 0, locals := 0 }) s m ([.ref qm, .int p1, .int p2] : List Value).toArray below meth c H locs 0 0 (MQ below (ct_qv G tys A [(qm, .inr (6, f_Model qp qk (k_Model_setX sm p1 p2)))]) ([.ref qm, .int p1, .int p2] : List Value).toArray s 0 0 A) (F0 m 15 ls [.int t0, .ref qm]) := by
    intro t0 H locs ls hj hP hD hS hl
    refine va_put (D := G.1) (ci := 6) (v := .int t0) (ty := .int) (C := R_Model) (T := T_Model) (N := 23) hx hb hts (fun w h => gd_sub _ (iw_Model w h)) ty_Model tyok_Model nm_Model hown hK hP hD hS 0 rfl rfl 5 (by decide) (hts _ (gd_sub _ q_612)) (fun _ h9 => h9) rfl (by decide +kernel) rfl rfl (Nat.le_of_ble_eq_true rfl) d_Model_setX_15 (fun H locs hP hD hS => ?_)
    have hP : va_P G.1 vwCl [(qm, .inr (6, f_Model qp qk (oi sm 5 t0)))] H := hP
    have hD : va_D A [(qm, .inr (6, f_Model qp qk (oi sm 5 t0)))] := hD
    refine lv_aload_n hx hb d_Model_setX_18 rfl (lv_at hl 0 rfl) ?_
    refine lv_iload_n hx hb d_Model_setX_19 rfl (lv_at hl 1 rfl) ?_
    refine lv_bipush (v := 11) hx hb d_Model_setX_20 (by decide) ?_
    refine lv_icmp_ne (tgt := 29) hx hb d_Model_setX_22 (by decide) (fun c_1021 => ?_) (fun c_1021 => ?_)
    · refine lv_aload_n hx hb d_Model_setX_29 rfl (lv_at hl 0 rfl) ?_
      refine va_get (D := G.1) (ci := 6) (v := .int (sm.1 6)) (C := R_Model) (T := T_Model) (N := 23) hx hb hts (fun w h => gd_sub _ (iw_Model w h)) hown hK hP 0 rfl rfl 6 (by decide) (hts _ (gd_sub _ q_613)) (fun _ h9 => h9) rfl d_Model_setX_30 ?_
      exact J33 (sm.1 6) (oi sm 5 t0) H locs ls (hj.trans (by rw [k_Model_setX_j15]; rw [if_neg c_1021]; try rfl)) hP hD hS (lv_sub hl [0, 1, 2] rfl)
    · refine lv_iload_n hx hb d_Model_setX_25 rfl (lv_at hl 2 rfl) ?_
      refine lv_goto (tgt := 33) hx hb d_Model_setX_26 (by decide) ?_
      exact J33 p2 (oi sm 5 t0) H locs ls (hj.trans (by rw [k_Model_setX_j15]; rw [if_pos c_1021]; try rfl)) hP hD hS (lv_sub hl [0, 1, 2] rfl)
  obtain ⟨H, eH⟩ : ∃ z, z = s.heap := ⟨_, rfl⟩
  obtain ⟨locs, eL⟩ : ∃ z, z = ([] : List Loc) := ⟨_, rfl⟩
  have hP : va_P G.1 vwCl [(qm, .inr (6, f_Model qp qk sm))] H := by rw [eH]; exact hP
  have hS : va_S A s.heap H locs := by rw [eH, eL]; exact hS
  suffices hW : W p l e ({ frames := 0, cells := 0, slots := 0, locals := 0 }) s m ([.ref qm, .int p1, .int p2] : List Value).toArray below meth c H locs 0 0 (MQ below (ct_qv G tys A [(qm, .inr (6, f_Model qp qk (k_Model_setX sm p1 p2)))]) ([.ref qm, .int p1, .int p2] : List Value).toArray s 0 0 A) (F0 m 0 ls []) by rw [eH, eL] at hW; exact hW
  refine lv_aload_n hx hb d_Model_setX_0 rfl (lv_at hl 0 rfl) ?_
  refine lv_iload_n hx hb d_Model_setX_1 rfl (lv_at hl 1 rfl) ?_
  refine lv_bipush (v := 10) hx hb d_Model_setX_2 (by decide) ?_
  refine lv_icmp_ne (tgt := 11) hx hb d_Model_setX_4 (by decide) (fun c_1022 => ?_) (fun c_1022 => ?_)
  · refine lv_aload_n hx hb d_Model_setX_11 rfl (lv_at hl 0 rfl) ?_
    refine va_get (D := G.1) (ci := 6) (v := .int (sm.1 5)) (C := R_Model) (T := T_Model) (N := 23) hx hb hts (fun w h => gd_sub _ (iw_Model w h)) hown hK hP 0 rfl rfl 5 (by decide) (hts _ (gd_sub _ q_612)) (fun _ h9 => h9) rfl d_Model_setX_12 ?_
    exact J15 (sm.1 5) H locs ls (by rw [k_Model_setX]; rw [if_neg c_1022]; try rfl) hP hD hS (lv_sub hl [0, 1, 2] rfl)
  · refine lv_iload_n hx hb d_Model_setX_7 rfl (lv_at hl 2 rfl) ?_
    refine lv_goto (tgt := 15) hx hb d_Model_setX_8 (by decide) ?_
    exact J15 p2 H locs ls (by rw [k_Model_setX]; rw [if_pos c_1022]; try rfl) hP hD hS (lv_sub hl [0, 1, 2] rfl)
def k_Model_control_j141 (sm : ob) (sk : Nat → Int32) (p1 : Int32) (p2 : Int32) (p3 : Int32) (p4 : Int32) (v5 : Bool) (v6 : Int32) (v7 : Int32) (v8 : Int32) (v9 : Int32) (um : ob) (uk : Nat → Int32) : Int32 × ob × (Nat → Int32) :=
  (0, ((k_Model_setX um p2 v9)), uk)
def k_Model_control_j138 (sm : ob) (sk : Nat → Int32) (p1 : Int32) (p2 : Int32) (p3 : Int32) (p4 : Int32) (v5 : Bool) (v6 : Int32) (v7 : Int32) (v8 : Int32) (v9 : Int32) (v10 : Int32) (t0 : Int32) (t1 : Int32) : Int32 × ob × (Nat → Int32) :=
  k_Model_control_j141 sm sk p1 p2 p3 p4 v5 v6 v7 v8 v9 ((k_Model_write sm sk t1 t0).1) ((k_Model_write sm sk t1 t0).2)
def k_Model_control_j83 (sm : ob) (sk : Nat → Int32) (p1 : Int32) (p2 : Int32) (p3 : Int32) (p4 : Int32) (v5 : Bool) (v6 : Int32) (v7 : Int32) (t0 : Int32) : Int32 × ob × (Nat → Int32) :=
  if (bI v5) = 0 then (k_Model_control_j141 sm sk p1 p2 p3 p4 v5 v6 v7 t0 (k_Model_tells sm sk v7) sm sk) else (if (p1 - p1 / 4 * 4) = 1 then (k_Model_control_j138 sm sk p1 p2 p3 p4 v5 v6 v7 t0 (k_Model_tells sm sk v7) (p1 - p1 / 4 * 4) t0 v7) else (if (p1 - p1 / 4 * 4) = 2 then (k_Model_control_j138 sm sk p1 p2 p3 p4 v5 v6 v7 t0 (k_Model_tells sm sk v7) (p1 - p1 / 4 * 4) ((k_Model_tells sm sk v7) ||| t0) v7) else (k_Model_control_j138 sm sk p1 p2 p3 p4 v5 v6 v7 t0 (k_Model_tells sm sk v7) (p1 - p1 / 4 * 4) ((k_Model_tells sm sk v7) &&& (t0 ^^^ (-1))) v7)))
def k_Model_control_j67 (sm : ob) (sk : Nat → Int32) (p1 : Int32) (p2 : Int32) (p3 : Int32) (p4 : Int32) (v5 : Bool) (v6 : Int32) (t0 : Int32) : Int32 × ob × (Nat → Int32) :=
  if p1 ≤ 4 then (k_Model_control_j83 sm sk p1 p2 p3 p4 v5 v6 t0 (k_Model_x sm p3)) else (k_Model_control_j83 sm sk p1 p2 p3 p4 v5 v6 t0 p3)
def k_Model_control_j65 (sm : ob) (sk : Nat → Int32) (p1 : Int32) (p2 : Int32) (p3 : Int32) (p4 : Int32) (v5 : Bool) (v6 : Int32) : Int32 × ob × (Nat → Int32) :=
  k_Model_control_j67 sm sk p1 p2 p3 p4 v5 v6 p4
def k_Model_control_j19 (sm : ob) (sk : Nat → Int32) (p1 : Int32) (p2 : Int32) (p3 : Int32) (p4 : Int32) (t0 : Bool) : Int32 × ob × (Nat → Int32) :=
  if (k_Model_access sm p4 t0) ≤ 0 then (if (sm.1 0) = 3 then (if (p4 >>> ((8 : Int32) &&& 31)) = 1 then (k_Model_control_j67 sm sk p1 p2 p3 p4 t0 (k_Model_access sm p4 t0) (p4 + 256)) else (k_Model_control_j65 sm sk p1 p2 p3 p4 t0 (k_Model_access sm p4 t0))) else (k_Model_control_j65 sm sk p1 p2 p3 p4 t0 (k_Model_access sm p4 t0))) else ((k_Model_access sm p4 t0), sm, sk)
def k_Model_control_j14 (sm : ob) (sk : Nat → Int32) (p1 : Int32) (p2 : Int32) (p3 : Int32) (p4 : Int32) : Int32 × ob × (Nat → Int32) :=
  k_Model_control_j19 sm sk p1 p2 p3 p4 true
def k_Model_control (sm : ob) (sk : Nat → Int32) (p1 : Int32) (p2 : Int32) (p3 : Int32) (p4 : Int32) : Int32 × ob × (Nat → Int32) :=
  if p1 = 1 then (k_Model_control_j14 sm sk p1 p2 p3 p4) else (if p1 = 5 then (k_Model_control_j14 sm sk p1 p2 p3 p4) else (if p3 = 0 then (k_Model_control_j19 sm sk p1 p2 p3 p4 false) else (k_Model_control_j14 sm sk p1 p2 p3 p4)))
set_option maxHeartbeats 4000000 in
set_option maxRecDepth 100000 in
theorem c_Model_control (l : Launch) (G : gx) (tys : List (ClassId × FieldType)) {cD : ClassId} (ht2 : tys[2]? = some (cD, .int)) (qm qk qp : Nat) (sm : ob) (sk : Nat → Int32) (p1 : Int32) (p2 : Int32) (p3 : Int32) (p4 : Int32) : ct_I l y_Model_control ws_Model_control ({ frames := 3, cells := 0, slots := 0, locals := 64 }) G tys [.ref qm, .int p1, .int p2, .int p3, .int p4] [(qm, .inr (6, f_Model qp qk sm)), (qk, .inl (cD, 512, .inl sk))] ((k_Model_control sm sk p1 p2 p3 p4).1) [(qm, .inr (6, f_Model qp qk ((k_Model_control sm sk p1 p2 p3 p4).2.1))), (qk, .inl (cD, 512, .inl ((k_Model_control sm sk p1 p2 p3 p4).2.2)))] := by
  refine ct_hI (cc := cc_Model_control) (maxL := 11) (ret := (some .int)) (by decide) rfl (Nat.le_of_ble_eq_true rfl) ?_
  intro p e s m below meth c A ls hx hb hr hml hts hown hlocks hP hK hD hA hE hS hl
  have hl : lv_has ls 11 [(0, .ref qm), (1, .int p1), (2, .int p2), (3, .int p3), (4, .int p4)] := hl
  have hown : s.vm.findClass R_Model = some m.cls := hown
  have J141 : ∀ (v5 : Bool) (v6 : Int32) (v7 : Int32) (v8 : Int32) (v9 : Int32) (um : ob) (uk : Nat → Int32) (H : Heap) (locs : List Loc) (ls : Array Slot), k_Model_control sm sk p1 p2 p3 p4 = k_Model_control_j141 sm sk p1 p2 p3 p4 v5 v6 v7 v8 v9 um uk → va_P G.1 vwCl [(qm, .inr (6, f_Model qp qk um)), (qk, .inl (cD, 512, .inl uk))] H → va_D A [(qm, .inr (6, f_Model qp qk um)), (qk, .inl (cD, 512, .inl uk))] → va_S A s.heap H locs → lv_has ls 11 [(0, .ref qm), (1, .int p1), (2, .int p2), (3, .int p3), (4, .int p4), (5, .int (bI v5)), (6, .int v6), (7, .int v7), (8, .int v8), (9, .int v9)] → W p l e ({ frames := 3, cells := 0, slots := 0, locals := 64 }) s m ([.ref qm, .int p1, .int p2, .int p3, .int p4] : List Value).toArray below meth c H locs 0 0 (MQ below (ct_qi G tys A ((k_Model_control sm sk p1 p2 p3 p4).1) [(qm, .inr (6, f_Model qp qk ((k_Model_control sm sk p1 p2 p3 p4).2.1))), (qk, .inl (cD, 512, .inl ((k_Model_control sm sk p1 p2 p3 p4).2.2)))]) ([.ref qm, .int p1, .int p2, .int p3, .int p4] : List Value).toArray s 0 0 A) (F0 m 141 ls []) := by
    intro v5 v6 v7 v8 v9 um uk H locs ls hj hP hD hS hl
    refine lv_aload_n hx hb d_Model_control_141 rfl (lv_at hl 0 rfl) ?_
    refine lv_iload_n hx hb d_Model_control_142 rfl (lv_at hl 2 rfl) ?_
    refine lv_iload hx hb d_Model_control_143 (lv_at hl 9 rfl) ?_
    obtain ⟨sm_1036, esm_1036⟩ : ∃ z, z = (k_Model_setX um p2 v9) := ⟨_, rfl⟩
    have hM := c_Model_setX l G tys qm qp qk um p2 v9
    rw [← esm_1036] at hM
    refine ct_cVv (wr := [(qk, .inl (cD, 512, .inl uk))]) (w1 := [(qm, .inr (6, f_Model qp qk sm_1036))]) (w2 := [(qm, .inr (6, f_Model qp qk sm_1036)), (qk, .inl (cD, 512, .inl uk))]) (As := [.int p2, .int v9]) (rest := []) (ci := 6) (q0 := 0) ⟨hx, hb, hml, hown, hts⟩ hM (cwV 2 hts (gdV gd_gd q_807 q_809 q_39 q_47 q_810) rfl rfl rfl (by decide +kernel) ⟨Nat.le_of_ble_eq_true rfl, Nat.le_of_ble_eq_true rfl⟩) hE hK hP hD hS hA [0] [1] [1, 0] rfl (by decide) rfl (by decide) (by decide) rfl (by decide) rfl rfl rfl hl.1 rfl (Nat.le_of_ble_eq_true rfl) d_Model_control_145 ⟨Nat.zero_le _, Nat.zero_le _⟩ (fun H locs hP hD hS => ?_)
    refine lv_iconst (v := 0) hx hb d_Model_control_148 (by decide) ?_
    have hk : k_Model_control sm sk p1 p2 p3 p4 = (0, sm_1036, uk) := (hj.trans (by rw [k_Model_control_j141]; try rw [← esm_1036]; try rfl))
    exact ct_ri hx hb hr hlocks hP hD hK hS d_Model_control_149 (by rw [hk]; first | done | rfl) (by rw [hk]; first | done | rfl)
  have J138 : ∀ (v5 : Bool) (v6 : Int32) (v7 : Int32) (v8 : Int32) (v9 : Int32) (v10 : Int32) (t0 : Int32) (t1 : Int32) (h8 : okW t1) (H : Heap) (locs : List Loc) (ls : Array Slot), k_Model_control sm sk p1 p2 p3 p4 = k_Model_control_j138 sm sk p1 p2 p3 p4 v5 v6 v7 v8 v9 v10 t0 t1 → va_P G.1 vwCl [(qm, .inr (6, f_Model qp qk sm)), (qk, .inl (cD, 512, .inl sk))] H → va_D A [(qm, .inr (6, f_Model qp qk sm)), (qk, .inl (cD, 512, .inl sk))] → va_S A s.heap H locs → lv_has ls 11 [(0, .ref qm), (1, .int p1), (2, .int p2), (3, .int p3), (4, .int p4), (5, .int (bI v5)), (6, .int v6), (7, .int v7), (8, .int v8), (9, .int v9), (10, .int v10)] → W p l e ({ frames := 3, cells := 0, slots := 0, locals := 64 }) s m ([.ref qm, .int p1, .int p2, .int p3, .int p4] : List Value).toArray below meth c H locs 0 0 (MQ below (ct_qi G tys A ((k_Model_control sm sk p1 p2 p3 p4).1) [(qm, .inr (6, f_Model qp qk ((k_Model_control sm sk p1 p2 p3 p4).2.1))), (qk, .inl (cD, 512, .inl ((k_Model_control sm sk p1 p2 p3 p4).2.2)))]) ([.ref qm, .int p1, .int p2, .int p3, .int p4] : List Value).toArray s 0 0 A) (F0 m 138 ls [.int t0, .int t1, .ref qm]) := by
    intro v5 v6 v7 v8 v9 v10 t0 t1 h8 H locs ls hj hP hD hS hl
    obtain ⟨sm_1037, esm_1037⟩ : ∃ z, z = (k_Model_write sm sk t1 t0).1 := ⟨_, rfl⟩
    obtain ⟨sk_1038, esk_1038⟩ : ∃ z, z = (k_Model_write sm sk t1 t0).2 := ⟨_, rfl⟩
    have hM := c_Model_write l G tys ht2 qm qk qp sm sk t1 t0 h8
    rw [← esm_1037, ← esk_1038] at hM
    refine ct_cVv (wr := []) (w1 := [(qm, .inr (6, f_Model qp qk sm_1037)), (qk, .inl (cD, 512, .inl sk_1038))]) (w2 := [(qm, .inr (6, f_Model qp qk sm_1037)), (qk, .inl (cD, 512, .inl sk_1038))]) (As := [.int t1, .int t0]) (rest := []) (ci := 6) (q0 := 0) ⟨hx, hb, hml, hown, hts⟩ hM (cwV 2 hts (gdV gd_gd q_695 q_697 q_21 q_47 q_698) rfl rfl rfl (by decide +kernel) ⟨Nat.le_of_ble_eq_true rfl, Nat.le_of_ble_eq_true rfl⟩) hE hK hP hD hS hA [0, 1] [] [0, 1] rfl (by decide) rfl (by decide) (by decide) rfl (by decide) rfl rfl rfl hl.1 rfl (Nat.le_of_ble_eq_true rfl) d_Model_control_138 ⟨Nat.zero_le _, Nat.zero_le _⟩ (fun H locs hP hD hS => ?_)
    exact J141 v5 v6 v7 v8 v9 sm_1037 sk_1038 H locs ls (hj.trans (by rw [k_Model_control_j138]; try rw [← esm_1037]; try rw [← esk_1038]; try rfl)) hP hD hS (lv_sub hl [0, 1, 2, 3, 4, 5, 6, 7, 8, 9] rfl)
  have J83 : ∀ (v5 : Bool) (v6 : Int32) (v7 : Int32) (t0 : Int32) (h9 : okT v7) (h8 : v5 = true → okW v7) (H : Heap) (locs : List Loc) (ls : Array Slot), k_Model_control sm sk p1 p2 p3 p4 = k_Model_control_j83 sm sk p1 p2 p3 p4 v5 v6 v7 t0 → va_P G.1 vwCl [(qm, .inr (6, f_Model qp qk sm)), (qk, .inl (cD, 512, .inl sk))] H → va_D A [(qm, .inr (6, f_Model qp qk sm)), (qk, .inl (cD, 512, .inl sk))] → va_S A s.heap H locs → lv_has ls 11 [(0, .ref qm), (1, .int p1), (2, .int p2), (3, .int p3), (4, .int p4), (5, .int (bI v5)), (6, .int v6), (7, .int v7)] → W p l e ({ frames := 3, cells := 0, slots := 0, locals := 64 }) s m ([.ref qm, .int p1, .int p2, .int p3, .int p4] : List Value).toArray below meth c H locs 0 0 (MQ below (ct_qi G tys A ((k_Model_control sm sk p1 p2 p3 p4).1) [(qm, .inr (6, f_Model qp qk ((k_Model_control sm sk p1 p2 p3 p4).2.1))), (qk, .inl (cD, 512, .inl ((k_Model_control sm sk p1 p2 p3 p4).2.2)))]) ([.ref qm, .int p1, .int p2, .int p3, .int p4] : List Value).toArray s 0 0 A) (F0 m 83 ls [.int t0]) := by
    intro v5 v6 v7 t0 h9 h8 H locs ls hj hP hD hS hl
    refine lv_istore (lv' := [(8, .int t0), (0, .ref qm), (1, .int p1), (2, .int p2), (3, .int p3), (4, .int p4), (5, .int (bI v5)), (6, .int v6), (7, .int v7)]) hx hb d_Model_control_83 hl (by decide) rfl (fun ls hl => ?_)
    refine lv_aload_n hx hb d_Model_control_85 rfl (lv_at hl 1 rfl) ?_
    refine lv_iload hx hb d_Model_control_86 (lv_at hl 8 rfl) ?_
    refine ct_cVi (wr := []) (w1 := [(qm, .inr (6, f_Model qp qk sm)), (qk, .inl (cD, 512, .inl sk))]) (w2 := [(qm, .inr (6, f_Model qp qk sm)), (qk, .inl (cD, 512, .inl sk))]) (r := (k_Model_tells sm sk v7)) (As := [.int v7]) (rest := []) (ci := 6) (q0 := 0) ⟨hx, hb, hml, hown, hts⟩ (c_Model_tells l G tys ht2 qm qk qp sm sk v7 h9) (cwV 1 hts (gdV gd_gd q_711 q_713 q_22 q_47 q_714) rfl rfl rfl (by decide +kernel) ⟨Nat.le_of_ble_eq_true rfl, Nat.le_of_ble_eq_true rfl⟩) hE hK hP hD hS hA [0, 1] [] [0, 1] rfl (by decide) rfl (by decide) (by decide) rfl (by decide) rfl rfl rfl hl.1 rfl (Nat.le_of_ble_eq_true rfl) d_Model_control_88 ⟨Nat.zero_le _, Nat.zero_le _⟩ (fun H locs hP hD hS => ?_)
    refine lv_istore (lv' := [(9, .int (k_Model_tells sm sk v7)), (8, .int t0), (0, .ref qm), (1, .int p1), (2, .int p2), (3, .int p3), (4, .int p4), (5, .int (bI v5)), (6, .int v6), (7, .int v7)]) hx hb d_Model_control_91 hl (by decide) rfl (fun ls hl => ?_)
    refine lv_iload hx hb d_Model_control_93 (lv_at hl 7 rfl) ?_
    refine lv_if_eq (tgt := 141) hx hb d_Model_control_95 (by decide) (fun c_1039 => ?_) (fun c_1039 => ?_)
    · exact J141 v5 v6 v7 t0 (k_Model_tells sm sk v7) sm sk H locs ls (hj.trans (by rw [k_Model_control_j83]; rw [if_pos c_1039]; try rfl)) hP hD hS (lv_sub hl [2, 3, 4, 5, 6, 7, 8, 9, 1, 0] rfl)
    · refine lv_iload_n hx hb d_Model_control_98 rfl (lv_at hl 3 rfl) ?_
      refine lv_iconst (v := 4) hx hb d_Model_control_99 (by decide) ?_
      refine lv_irem hx hb d_Model_control_100 (by decide) ?_
      refine lv_istore (lv' := [(10, .int (p1 - p1 / 4 * 4)), (9, .int (k_Model_tells sm sk v7)), (8, .int t0), (0, .ref qm), (1, .int p1), (2, .int p2), (3, .int p3), (4, .int p4), (5, .int (bI v5)), (6, .int v6), (7, .int v7)]) hx hb d_Model_control_101 hl (by decide) rfl (fun ls hl => ?_)
      refine lv_aload_n hx hb d_Model_control_103 rfl (lv_at hl 3 rfl) ?_
      refine lv_iload hx hb d_Model_control_104 (lv_at hl 10 rfl) ?_
      refine lv_iload hx hb d_Model_control_106 (lv_at hl 0 rfl) ?_
      refine lv_iconst (v := 1) hx hb d_Model_control_108 (by decide) ?_
      refine lv_icmp_ne (tgt := 117) hx hb d_Model_control_109 (by decide) (fun c_1040 => ?_) (fun c_1040 => ?_)
      · refine lv_iload hx hb d_Model_control_117 (lv_at hl 0 rfl) ?_
        refine lv_iconst (v := 2) hx hb d_Model_control_119 (by decide) ?_
        refine lv_icmp_ne (tgt := 131) hx hb d_Model_control_120 (by decide) (fun c_1041 => ?_) (fun c_1041 => ?_)
        · refine lv_iload hx hb d_Model_control_131 (lv_at hl 1 rfl) ?_
          refine lv_iload hx hb d_Model_control_133 (lv_at hl 2 rfl) ?_
          refine lv_iconst (v := (-1)) hx hb d_Model_control_135 (by decide) ?_
          refine lv_ixor hx hb d_Model_control_136 ?_
          refine lv_iand hx hb d_Model_control_137 ?_
          exact J138 v5 v6 v7 t0 (k_Model_tells sm sk v7) (p1 - p1 / 4 * 4) ((k_Model_tells sm sk v7) &&& (t0 ^^^ (-1))) v7 (h8 (bI_t c_1039)) H locs ls (hj.trans (by rw [k_Model_control_j83]; rw [if_neg c_1039]; rw [if_neg c_1040]; rw [if_neg c_1041]; try rfl)) hP hD hS (lv_sub hl [3, 4, 5, 6, 7, 8, 9, 10, 2, 1, 0] rfl)
        · refine lv_iload hx hb d_Model_control_123 (lv_at hl 1 rfl) ?_
          refine lv_iload hx hb d_Model_control_125 (lv_at hl 2 rfl) ?_
          refine lv_ior hx hb d_Model_control_127 ?_
          refine lv_goto (tgt := 138) hx hb d_Model_control_128 (by decide) ?_
          exact J138 v5 v6 v7 t0 (k_Model_tells sm sk v7) (p1 - p1 / 4 * 4) ((k_Model_tells sm sk v7) ||| t0) v7 (h8 (bI_t c_1039)) H locs ls (hj.trans (by rw [k_Model_control_j83]; rw [if_neg c_1039]; rw [if_neg c_1040]; rw [if_pos c_1041]; try rfl)) hP hD hS (lv_sub hl [3, 4, 5, 6, 7, 8, 9, 10, 2, 1, 0] rfl)
      · refine lv_iload hx hb d_Model_control_112 (lv_at hl 2 rfl) ?_
        refine lv_goto (tgt := 138) hx hb d_Model_control_114 (by decide) ?_
        exact J138 v5 v6 v7 t0 (k_Model_tells sm sk v7) (p1 - p1 / 4 * 4) t0 v7 (h8 (bI_t c_1039)) H locs ls (hj.trans (by rw [k_Model_control_j83]; rw [if_neg c_1039]; rw [if_pos c_1040]; try rfl)) hP hD hS (lv_sub hl [3, 4, 5, 6, 7, 8, 9, 10, 2, 1, 0] rfl)
  have J67 : ∀ (v5 : Bool) (v6 : Int32) (t0 : Int32) (h9 : okT t0) (h8 : v5 = true → okW t0) (H : Heap) (locs : List Loc) (ls : Array Slot), k_Model_control sm sk p1 p2 p3 p4 = k_Model_control_j67 sm sk p1 p2 p3 p4 v5 v6 t0 → va_P G.1 vwCl [(qm, .inr (6, f_Model qp qk sm)), (qk, .inl (cD, 512, .inl sk))] H → va_D A [(qm, .inr (6, f_Model qp qk sm)), (qk, .inl (cD, 512, .inl sk))] → va_S A s.heap H locs → lv_has ls 11 [(0, .ref qm), (1, .int p1), (2, .int p2), (3, .int p3), (4, .int p4), (5, .int (bI v5)), (6, .int v6)] → W p l e ({ frames := 3, cells := 0, slots := 0, locals := 64 }) s m ([.ref qm, .int p1, .int p2, .int p3, .int p4] : List Value).toArray below meth c H locs 0 0 (MQ below (ct_qi G tys A ((k_Model_control sm sk p1 p2 p3 p4).1) [(qm, .inr (6, f_Model qp qk ((k_Model_control sm sk p1 p2 p3 p4).2.1))), (qk, .inl (cD, 512, .inl ((k_Model_control sm sk p1 p2 p3 p4).2.2)))]) ([.ref qm, .int p1, .int p2, .int p3, .int p4] : List Value).toArray s 0 0 A) (F0 m 67 ls [.int t0]) := by
    intro v5 v6 t0 h9 h8 H locs ls hj hP hD hS hl
    refine lv_istore (lv' := [(7, .int t0), (0, .ref qm), (1, .int p1), (2, .int p2), (3, .int p3), (4, .int p4), (5, .int (bI v5)), (6, .int v6)]) hx hb d_Model_control_67 hl (by decide) rfl (fun ls hl => ?_)
    refine lv_iload_n hx hb d_Model_control_69 rfl (lv_at hl 2 rfl) ?_
    refine lv_iconst (v := 4) hx hb d_Model_control_70 (by decide) ?_
    refine lv_icmp_le (tgt := 78) hx hb d_Model_control_71 (by decide) (fun c_1042 => ?_) (fun c_1042 => ?_)
    · refine lv_aload_n hx hb d_Model_control_78 rfl (lv_at hl 1 rfl) ?_
      refine lv_iload_n hx hb d_Model_control_79 rfl (lv_at hl 4 rfl) ?_
      refine ct_cVi (wr := [(qk, .inl (cD, 512, .inl sk))]) (w1 := [(qm, .inr (6, f_Model qp qk sm))]) (w2 := [(qm, .inr (6, f_Model qp qk sm)), (qk, .inl (cD, 512, .inl sk))]) (r := (k_Model_x sm p3)) (As := [.int p3]) (rest := []) (ci := 6) (q0 := 0) ⟨hx, hb, hml, hown, hts⟩ (c_Model_x l G tys qm qp qk sm p3) (cwV 1 hts (gdV gd_gd q_803 q_805 q_38 q_47 q_806) rfl rfl rfl (by decide +kernel) ⟨Nat.le_of_ble_eq_true rfl, Nat.le_of_ble_eq_true rfl⟩) hE hK hP hD hS hA [0] [1] [1, 0] rfl (by decide) rfl (by decide) (by decide) rfl (by decide) rfl rfl rfl hl.1 rfl (Nat.le_of_ble_eq_true rfl) d_Model_control_80 ⟨Nat.zero_le _, Nat.zero_le _⟩ (fun H locs hP hD hS => ?_)
      exact J83 v5 v6 t0 (k_Model_x sm p3) h9 h8 H locs ls (hj.trans (by rw [k_Model_control_j67]; rw [if_pos c_1042]; try rfl)) hP hD hS (lv_sub hl [1, 2, 3, 4, 5, 6, 7, 0] rfl)
    · refine lv_iload_n hx hb d_Model_control_74 rfl (lv_at hl 4 rfl) ?_
      refine lv_goto (tgt := 83) hx hb d_Model_control_75 (by decide) ?_
      exact J83 v5 v6 t0 p3 h9 h8 H locs ls (hj.trans (by rw [k_Model_control_j67]; rw [if_neg c_1042]; try rfl)) hP hD hS (lv_sub hl [1, 2, 3, 4, 5, 6, 7, 0] rfl)
  have J65 : ∀ (v5 : Bool) (v6 : Int32) (h9 : okT p4) (h8 : v5 = true → okW p4) (H : Heap) (locs : List Loc) (ls : Array Slot), k_Model_control sm sk p1 p2 p3 p4 = k_Model_control_j65 sm sk p1 p2 p3 p4 v5 v6 → va_P G.1 vwCl [(qm, .inr (6, f_Model qp qk sm)), (qk, .inl (cD, 512, .inl sk))] H → va_D A [(qm, .inr (6, f_Model qp qk sm)), (qk, .inl (cD, 512, .inl sk))] → va_S A s.heap H locs → lv_has ls 11 [(0, .ref qm), (1, .int p1), (2, .int p2), (3, .int p3), (4, .int p4), (5, .int (bI v5)), (6, .int v6)] → W p l e ({ frames := 3, cells := 0, slots := 0, locals := 64 }) s m ([.ref qm, .int p1, .int p2, .int p3, .int p4] : List Value).toArray below meth c H locs 0 0 (MQ below (ct_qi G tys A ((k_Model_control sm sk p1 p2 p3 p4).1) [(qm, .inr (6, f_Model qp qk ((k_Model_control sm sk p1 p2 p3 p4).2.1))), (qk, .inl (cD, 512, .inl ((k_Model_control sm sk p1 p2 p3 p4).2.2)))]) ([.ref qm, .int p1, .int p2, .int p3, .int p4] : List Value).toArray s 0 0 A) (F0 m 65 ls []) := by
    intro v5 v6 h9 h8 H locs ls hj hP hD hS hl
    refine lv_iload hx hb d_Model_control_65 (lv_at hl 4 rfl) ?_
    exact J67 v5 v6 p4 h9 h8 H locs ls (hj.trans (by rw [k_Model_control_j65]; try rfl)) hP hD hS (lv_sub hl [0, 1, 2, 3, 4, 5, 6] rfl)
  have J19 : ∀ (t0 : Bool) (H : Heap) (locs : List Loc) (ls : Array Slot), k_Model_control sm sk p1 p2 p3 p4 = k_Model_control_j19 sm sk p1 p2 p3 p4 t0 → va_P G.1 vwCl [(qm, .inr (6, f_Model qp qk sm)), (qk, .inl (cD, 512, .inl sk))] H → va_D A [(qm, .inr (6, f_Model qp qk sm)), (qk, .inl (cD, 512, .inl sk))] → va_S A s.heap H locs → lv_has ls 11 [(0, .ref qm), (1, .int p1), (2, .int p2), (3, .int p3), (4, .int p4)] → W p l e ({ frames := 3, cells := 0, slots := 0, locals := 64 }) s m ([.ref qm, .int p1, .int p2, .int p3, .int p4] : List Value).toArray below meth c H locs 0 0 (MQ below (ct_qi G tys A ((k_Model_control sm sk p1 p2 p3 p4).1) [(qm, .inr (6, f_Model qp qk ((k_Model_control sm sk p1 p2 p3 p4).2.1))), (qk, .inl (cD, 512, .inl ((k_Model_control sm sk p1 p2 p3 p4).2.2)))]) ([.ref qm, .int p1, .int p2, .int p3, .int p4] : List Value).toArray s 0 0 A) (F0 m 19 ls [.int (bI t0)]) := by
    intro t0 H locs ls hj hP hD hS hl
    refine lv_istore (lv' := [(5, .int (bI t0)), (0, .ref qm), (1, .int p1), (2, .int p2), (3, .int p3), (4, .int p4)]) hx hb d_Model_control_19 hl (by decide) rfl (fun ls hl => ?_)
    refine lv_aload_n hx hb d_Model_control_21 rfl (lv_at hl 1 rfl) ?_
    refine lv_iload hx hb d_Model_control_22 (lv_at hl 5 rfl) ?_
    refine lv_iload hx hb d_Model_control_24 (lv_at hl 0 rfl) ?_
    refine ct_cVi (wr := [(qk, .inl (cD, 512, .inl sk))]) (w1 := [(qm, .inr (6, f_Model qp qk sm))]) (w2 := [(qm, .inr (6, f_Model qp qk sm)), (qk, .inl (cD, 512, .inl sk))]) (r := (k_Model_access sm p4 t0)) (As := [.int p4, .int (bI t0)]) (rest := []) (ci := 6) (q0 := 0) ⟨hx, hb, hml, hown, hts⟩ (c_Model_access l G tys qm qp qk sm p4 t0) (cwV 2 hts (gdV gd_gd q_799 q_801 q_37 q_47 q_802) rfl rfl rfl (by decide +kernel) ⟨Nat.le_of_ble_eq_true rfl, Nat.le_of_ble_eq_true rfl⟩) hE hK hP hD hS hA [0] [1] [1, 0] rfl (by decide) rfl (by decide) (by decide) rfl (by decide) rfl rfl rfl hl.1 rfl (Nat.le_of_ble_eq_true rfl) d_Model_control_26 ⟨Nat.zero_le _, Nat.zero_le _⟩ (fun H locs hP hD hS => ?_)
    refine lv_istore (lv' := [(6, .int (k_Model_access sm p4 t0)), (5, .int (bI t0)), (0, .ref qm), (1, .int p1), (2, .int p2), (3, .int p3), (4, .int p4)]) hx hb d_Model_control_29 hl (by decide) rfl (fun ls hl => ?_)
    refine lv_iload hx hb d_Model_control_31 (lv_at hl 0 rfl) ?_
    refine lv_if_le (tgt := 39) hx hb d_Model_control_33 (by decide) (fun c_1043 => ?_) (fun c_1043 => ?_)
    · refine lv_aload_n hx hb d_Model_control_39 rfl (lv_at hl 2 rfl) ?_
      refine va_get (D := G.1) (ci := 6) (v := .int (sm.1 0)) (C := R_Model) (T := T_Model) (N := 23) hx hb hts (fun w h => gd_sub _ (iw_Model w h)) hown hK hP 0 rfl rfl 0 (by decide) (hts _ (gd_sub _ q_607)) (fun _ h9 => h9) rfl d_Model_control_40 ?_
      refine lv_iconst (v := 3) hx hb d_Model_control_43 (by decide) ?_
      refine lv_icmp_ne (tgt := 65) hx hb d_Model_control_44 (by decide) (fun c_1044 => ?_) (fun c_1044 => ?_)
      · exact J65 t0 (k_Model_access sm p4 t0) (okT_acc c_1043) (okW_acc c_1043) H locs ls (hj.trans (by rw [k_Model_control_j19]; rw [if_pos c_1043]; rw [if_neg c_1044]; try rfl)) hP hD hS (lv_sub hl [2, 3, 4, 5, 6, 1, 0] rfl)
      · refine lv_iload hx hb d_Model_control_47 (lv_at hl 6 rfl) ?_
        refine lv_bipush (v := 8) hx hb d_Model_control_49 (by decide) ?_
        refine lv_ishr hx hb d_Model_control_51 ?_
        refine lv_iconst (v := 1) hx hb d_Model_control_52 (by decide) ?_
        refine lv_icmp_ne (tgt := 65) hx hb d_Model_control_53 (by decide) (fun c_1045 => ?_) (fun c_1045 => ?_)
        · exact J65 t0 (k_Model_access sm p4 t0) (okT_acc c_1043) (okW_acc c_1043) H locs ls (hj.trans (by rw [k_Model_control_j19]; rw [if_pos c_1043]; rw [if_pos c_1044]; rw [if_neg c_1045]; try rfl)) hP hD hS (lv_sub hl [2, 3, 4, 5, 6, 1, 0] rfl)
        · refine lv_iload hx hb d_Model_control_56 (lv_at hl 6 rfl) ?_
          refine lv_sipush (v := 256) hx hb d_Model_control_58 (by decide) ?_
          refine lv_iadd hx hb d_Model_control_61 ?_
          refine lv_goto (tgt := 67) hx hb d_Model_control_62 (by decide) ?_
          exact J67 t0 (k_Model_access sm p4 t0) (p4 + 256) (okT_sh c_1045) (fun _ => okW_sh c_1045) H locs ls (hj.trans (by rw [k_Model_control_j19]; rw [if_pos c_1043]; rw [if_pos c_1044]; rw [if_pos c_1045]; try rfl)) hP hD hS (lv_sub hl [2, 3, 4, 5, 6, 1, 0] rfl)
    · refine lv_iload hx hb d_Model_control_36 (lv_at hl 0 rfl) ?_
      have hk : k_Model_control sm sk p1 p2 p3 p4 = ((k_Model_access sm p4 t0), sm, sk) := (hj.trans (by rw [k_Model_control_j19]; rw [if_neg c_1043]; try rfl))
      exact ct_ri hx hb hr hlocks hP hD hK hS d_Model_control_38 (by rw [hk]; first | done | rfl) (by rw [hk]; first | done | rfl)
  have J14 : ∀ (H : Heap) (locs : List Loc) (ls : Array Slot), k_Model_control sm sk p1 p2 p3 p4 = k_Model_control_j14 sm sk p1 p2 p3 p4 → va_P G.1 vwCl [(qm, .inr (6, f_Model qp qk sm)), (qk, .inl (cD, 512, .inl sk))] H → va_D A [(qm, .inr (6, f_Model qp qk sm)), (qk, .inl (cD, 512, .inl sk))] → va_S A s.heap H locs → lv_has ls 11 [(0, .ref qm), (1, .int p1), (2, .int p2), (3, .int p3), (4, .int p4)] → W p l e ({ frames := 3, cells := 0, slots := 0, locals := 64 }) s m ([.ref qm, .int p1, .int p2, .int p3, .int p4] : List Value).toArray below meth c H locs 0 0 (MQ below (ct_qi G tys A ((k_Model_control sm sk p1 p2 p3 p4).1) [(qm, .inr (6, f_Model qp qk ((k_Model_control sm sk p1 p2 p3 p4).2.1))), (qk, .inl (cD, 512, .inl ((k_Model_control sm sk p1 p2 p3 p4).2.2)))]) ([.ref qm, .int p1, .int p2, .int p3, .int p4] : List Value).toArray s 0 0 A) (F0 m 14 ls []) := by
    intro H locs ls hj hP hD hS hl
    refine lv_iconst (v := 1) hx hb d_Model_control_14 (by decide) ?_
    refine lv_goto (tgt := 19) hx hb d_Model_control_15 (by decide) ?_
    exact J19 true H locs ls (hj.trans (by rw [k_Model_control_j14]; try rfl)) hP hD hS (lv_sub hl [0, 1, 2, 3, 4] rfl)
  obtain ⟨H, eH⟩ : ∃ z, z = s.heap := ⟨_, rfl⟩
  obtain ⟨locs, eL⟩ : ∃ z, z = ([] : List Loc) := ⟨_, rfl⟩
  have hP : va_P G.1 vwCl [(qm, .inr (6, f_Model qp qk sm)), (qk, .inl (cD, 512, .inl sk))] H := by rw [eH]; exact hP
  have hS : va_S A s.heap H locs := by rw [eH, eL]; exact hS
  suffices hW : W p l e ({ frames := 3, cells := 0, slots := 0, locals := 64 }) s m ([.ref qm, .int p1, .int p2, .int p3, .int p4] : List Value).toArray below meth c H locs 0 0 (MQ below (ct_qi G tys A ((k_Model_control sm sk p1 p2 p3 p4).1) [(qm, .inr (6, f_Model qp qk ((k_Model_control sm sk p1 p2 p3 p4).2.1))), (qk, .inl (cD, 512, .inl ((k_Model_control sm sk p1 p2 p3 p4).2.2)))]) ([.ref qm, .int p1, .int p2, .int p3, .int p4] : List Value).toArray s 0 0 A) (F0 m 0 ls []) by rw [eH, eL] at hW; exact hW
  refine lv_iload_n hx hb d_Model_control_0 rfl (lv_at hl 1 rfl) ?_
  refine lv_iconst (v := 1) hx hb d_Model_control_1 (by decide) ?_
  refine lv_icmp_eq (tgt := 14) hx hb d_Model_control_2 (by decide) (fun c_1046 => ?_) (fun c_1046 => ?_)
  · exact J14 H locs ls (by rw [k_Model_control]; rw [if_pos c_1046]; try rfl) hP hD hS (lv_sub hl [0, 1, 2, 3, 4] rfl)
  · refine lv_iload_n hx hb d_Model_control_5 rfl (lv_at hl 1 rfl) ?_
    refine lv_iconst (v := 5) hx hb d_Model_control_6 (by decide) ?_
    refine lv_icmp_eq (tgt := 14) hx hb d_Model_control_7 (by decide) (fun c_1047 => ?_) (fun c_1047 => ?_)
    · exact J14 H locs ls (by rw [k_Model_control]; rw [if_neg c_1046]; rw [if_pos c_1047]; try rfl) hP hD hS (lv_sub hl [0, 1, 2, 3, 4] rfl)
    · refine lv_iload_n hx hb d_Model_control_10 rfl (lv_at hl 3 rfl) ?_
      refine lv_if_eq (tgt := 18) hx hb d_Model_control_11 (by decide) (fun c_1048 => ?_) (fun c_1048 => ?_)
      · refine lv_iconst (v := 0) hx hb d_Model_control_18 (by decide) ?_
        exact J19 false H locs ls (by rw [k_Model_control]; rw [if_neg c_1046]; rw [if_neg c_1047]; rw [if_pos c_1048]; try rfl) hP hD hS (lv_sub hl [0, 1, 2, 3, 4] rfl)
      · exact J14 H locs ls (by rw [k_Model_control]; rw [if_neg c_1046]; rw [if_neg c_1047]; rw [if_neg c_1048]; try rfl) hP hD hS (lv_sub hl [0, 1, 2, 3, 4] rfl)
