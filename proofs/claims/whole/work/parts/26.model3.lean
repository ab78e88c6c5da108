def k_Model_leave_256_j91 (sm : ob) (sk : Nat → Int32) (p2 : Int32) (p3 : Int32) (v4 : Int32) (v5 : Bool) (t0 : Int32) (t1 : Int32) (uk : Nat → Int32) : ob × (Nat → Int32) :=
  if 0 ≤ p2 then ((oi sm 1 ((uk 261) &&& (-4))), (upd uk 256 (t1 ||| t0))) else (if ((uk 261) &&& 1) = 1 then ((oi (oi sm 1 ((uk 261) &&& (-4))) 1 (((uk 261) &&& (-4)) + (4 * (p2 &&& 2147483647)))), (upd uk 256 (t1 ||| t0))) else ((oi sm 1 ((uk 261) &&& (-4))), (upd uk 256 (t1 ||| t0))))
def k_Model_leave_256_j64 (sm : ob) (sk : Nat → Int32) (p2 : Int32) (p3 : Int32) (v4 : Int32) (t0 : Bool) (uk : Nat → Int32) : ob × (Nat → Int32) :=
  if (bI t0) = 0 then (k_Model_leave_256_j91 sm sk p2 p3 v4 t0 0 ((v4 &&& (-291)) ||| ((v4 &&& 2) <<< ((4 : Int32) &&& 31))) uk) else (k_Model_leave_256_j91 sm sk p2 p3 v4 t0 256 ((v4 &&& (-291)) ||| ((v4 &&& 2) <<< ((4 : Int32) &&& 31))) uk)
def k_Model_leave_256_j59 (sm : ob) (sk : Nat → Int32) (p2 : Int32) (p3 : Int32) (v4 : Int32) (uk : Nat → Int32) : ob × (Nat → Int32) :=
  k_Model_leave_256_j64 sm sk p2 p3 v4 true uk
def k_Model_leave_256 (sm : ob) (sk : Nat → Int32) (p2 : Int32) (p3 : Int32) : ob × (Nat → Int32) :=
  if (sm.1 0) = 1 then (k_Model_leave_256_j59 sm sk p2 p3 (sk 256) (upd (upd (upd sk 321 (sm.1 1)) 322 p2) 323 p3)) else (if (sm.1 0) = 3 then (k_Model_leave_256_j59 sm sk p2 p3 (sk 256) (upd (upd (upd sk 321 (sm.1 1)) 322 p2) 323 p3)) else (k_Model_leave_256_j64 sm sk p2 p3 (sk 256) false (upd (upd (upd sk 321 (sm.1 1)) 322 p2) 323 p3)))
set_option maxHeartbeats 4000000 in
set_option maxRecDepth 100000 in
theorem c_Model_leave_256 (l : Launch) (G : gx) (tys : List (ClassId × FieldType)) {cD : ClassId} (ht2 : tys[2]? = some (cD, .int)) (qm qk qp : Nat) (sm : ob) (sk : Nat → Int32) (p2 : Int32) (p3 : Int32) : ct_V l y_Model_leave ws_Model_leave ({ frames := 0, cells := 0, slots := 0, locals := 0 }) G tys [.ref qm, .int 256, .int p2, .int p3] [(qm, .inr (6, f_Model qp qk sm)), (qk, .inl (cD, 512, .inl sk))] [(qm, .inr (6, f_Model qp qk ((k_Model_leave_256 sm sk p2 p3).1))), (qk, .inl (cD, 512, .inl ((k_Model_leave_256 sm sk p2 p3).2)))] := by
  refine ct_hV (cc := cc_Model_leave) (maxL := 7) (ret := none) (by decide) rfl (Nat.le_of_ble_eq_true rfl) ?_
  intro p e s m below meth c A ls hx hb hr hml hts hown hlocks hP hK hD hA hE hS hl
  have hl : lv_has ls 7 [(0, .ref qm), (1, .int 256), (2, .int p2), (3, .int p3)] := hl
  have hown : s.vm.findClass R_Model = some m.cls := hown
  have J91 : ∀ (v4 : Int32) (v5 : Bool) (t0 : Int32) (t1 : Int32) (uk : Nat → Int32) (H : Heap) (locs : List Loc) (ls : Array Slot), k_Model_leave_256 sm sk p2 p3 = k_Model_leave_256_j91 sm sk p2 p3 v4 v5 t0 t1 uk → va_P G.1 vwCl [(qm, .inr (6, f_Model qp qk sm)), (qk, .inl (cD, 512, .inl uk))] H → va_D A [(qm, .inr (6, f_Model qp qk sm)), (qk, .inl (cD, 512, .inl uk))] → va_S A s.heap H locs → lv_has ls 7 [(0, .ref qm), (1, .int 256), (2, .int p2), (3, .int p3), (4, .int v4), (5, .int (bI v5))] → W p l e ({ frames := 0, cells := 0, slots := 0, locals := 0 }) s m ([.ref qm, .int 256, .int p2, .int p3] : List Value).toArray below meth c H locs 0 0 (MQ below (ct_qv G tys A [(qm, .inr (6, f_Model qp qk ((k_Model_leave_256 sm sk p2 p3).1))), (qk, .inl (cD, 512, .inl ((k_Model_leave_256 sm sk p2 p3).2)))]) ([.ref qm, .int 256, .int p2, .int p3] : List Value).toArray s 0 0 A) (F0 m 91 ls [.int t0, .int t1]) := by
    intro v4 v5 t0 t1 uk H locs ls hj hP hD hS hl
    refine lv_ior hx hb d_Model_leave_91 ?_
    refine lv_istore (lv' := [(4, .int (t1 ||| t0)), (0, .ref qm), (1, .int 256), (2, .int p2), (3, .int p3), (5, .int (bI v5))]) hx hb d_Model_leave_92 hl (by decide) rfl (fun ls hl => ?_)
    refine lv_aload_n hx hb d_Model_leave_94 rfl (lv_at hl 1 rfl) ?_
    refine va_get (D := G.1) (ci := 6) (v := .ref qk) (C := R_Model) (T := T_Model) (N := 23) hx hb hts (fun w h => gd_sub _ (iw_Model w h)) hown hK hP 0 rfl rfl 14 (by decide) (hts _ (gd_sub _ q_621)) (fun _ h9 => h9) rfl d_Model_leave_95 ?_
    refine lv_iload_n hx hb d_Model_leave_98 rfl (lv_at hl 2 rfl) ?_
    refine lv_iconst (v := 0) hx hb d_Model_leave_99 (by decide) ?_
    refine lv_iadd hx hb d_Model_leave_100 ?_
    refine lv_topi (fun z9 e9 => ?_)
    obtain rfl : z9 = 256 := e9.trans (by decide)
    refine lv_iload hx hb d_Model_leave_101 (lv_at hl 0 rfl) ?_
    refine va_iast hx hb hK hP hD hS 1 2 rfl ht2 (by unfold vp_in; decide) d_Model_leave_103 (fun H locs hP hD hS => ?_)
    have hP : va_P G.1 vwCl [(qm, .inr (6, f_Model qp qk sm)), (qk, .inl (cD, 512, .inl (upd uk 256 (t1 ||| t0))))] H := hP
    have hD : va_D A [(qm, .inr (6, f_Model qp qk sm)), (qk, .inl (cD, 512, .inl (upd uk 256 (t1 ||| t0))))] := hD
    refine lv_aload_n hx hb d_Model_leave_104 rfl (lv_at hl 1 rfl) ?_
    refine va_get (D := G.1) (ci := 6) (v := .ref qk) (C := R_Model) (T := T_Model) (N := 23) hx hb hts (fun w h => gd_sub _ (iw_Model w h)) hown hK hP 0 rfl rfl 14 (by decide) (hts _ (gd_sub _ q_621)) (fun _ h9 => h9) rfl d_Model_leave_105 ?_
    refine lv_iload_n hx hb d_Model_leave_108 rfl (lv_at hl 2 rfl) ?_
    refine lv_iconst (v := 5) hx hb d_Model_leave_109 (by decide) ?_
    refine lv_iadd hx hb d_Model_leave_110 ?_
    refine lv_topi (fun z9 e9 => ?_)
    obtain rfl : z9 = 261 := e9.trans (by decide)
    refine va_iald hx hb hK hP 1 2 rfl ht2 (by unfold vp_in; decide) d_Model_leave_111 ?_
    refine lv_topi (fun z9 e9 => ?_)
    obtain rfl : z9 = (uk 261) := e9
    refine lv_istore (lv' := [(6, .int (uk 261)), (4, .int (t1 ||| t0)), (0, .ref qm), (1, .int 256), (2, .int p2), (3, .int p3), (5, .int (bI v5))]) hx hb d_Model_leave_112 hl (by decide) rfl (fun ls hl => ?_)
    refine lv_aload_n hx hb d_Model_leave_114 rfl (lv_at hl 2 rfl) ?_
    refine lv_iload hx hb d_Model_leave_115 (lv_at hl 0 rfl) ?_
    refine lv_bipush (v := (-4)) hx hb d_Model_leave_117 (by decide) ?_
    refine lv_iand hx hb d_Model_leave_119 ?_
    refine va_put (D := G.1) (ci := 6) (v := .int ((uk 261) &&& (-4))) (ty := .int) (C := R_Model) (T := T_Model) (N := 23) hx hb hts (fun w h => gd_sub _ (iw_Model w h)) ty_Model tyok_Model nm_Model hown hK hP hD hS 0 rfl rfl 1 (by decide) (hts _ (gd_sub _ q_608)) (fun _ h9 => h9) rfl (by decide +kernel) rfl rfl (Nat.le_of_ble_eq_true rfl) d_Model_leave_120 (fun H locs hP hD hS => ?_)
    have hP : va_P G.1 vwCl [(qm, .inr (6, f_Model qp qk (oi sm 1 ((uk 261) &&& (-4))))), (qk, .inl (cD, 512, .inl (upd uk 256 (t1 ||| t0))))] H := hP
    have hD : va_D A [(qm, .inr (6, f_Model qp qk (oi sm 1 ((uk 261) &&& (-4))))), (qk, .inl (cD, 512, .inl (upd uk 256 (t1 ||| t0))))] := hD
    refine lv_iload_n hx hb d_Model_leave_123 rfl (lv_at hl 4 rfl) ?_
    refine lv_if_ge (tgt := 150) hx hb d_Model_leave_124 (by decide) (fun c_942 => ?_) (fun c_942 => ?_)
    · have hk : k_Model_leave_256 sm sk p2 p3 = ((oi sm 1 ((uk 261) &&& (-4))), (upd uk 256 (t1 ||| t0))) := (hj.trans (by rw [k_Model_leave_256_j91]; rw [if_pos c_942]; try rfl))
      exact ct_rv hx hb hr hlocks hP hD hK hS d_Model_leave_150 (by rw [hk]; first | done | rfl)
    · refine lv_iload hx hb d_Model_leave_127 (lv_at hl 0 rfl) ?_
      refine lv_iconst (v := 1) hx hb d_Model_leave_129 (by decide) ?_
      refine lv_iand hx hb d_Model_leave_130 ?_
      refine lv_iconst (v := 1) hx hb d_Model_leave_131 (by decide) ?_
      refine lv_icmp_ne (tgt := 150) hx hb d_Model_leave_132 (by decide) (fun c_943 => ?_) (fun c_943 => ?_)
      · have hk : k_Model_leave_256 sm sk p2 p3 = ((oi sm 1 ((uk 261) &&& (-4))), (upd uk 256 (t1 ||| t0))) := (hj.trans (by rw [k_Model_leave_256_j91]; rw [if_neg c_942]; rw [if_neg c_943]; try rfl))
        exact ct_rv hx hb hr hlocks hP hD hK hS d_Model_leave_150 (by rw [hk]; first | done | rfl)
      · refine lv_aload_n hx hb d_Model_leave_135 rfl (lv_at hl 2 rfl) ?_
        refine lv_dup hx hb d_Model_leave_136 rfl ?_
        refine va_get (D := G.1) (ci := 6) (v := .int ((uk 261) &&& (-4))) (C := R_Model) (T := T_Model) (N := 23) hx hb hts (fun w h => gd_sub _ (iw_Model w h)) hown hK hP 0 rfl rfl 1 (by decide) (hts _ (gd_sub _ q_608)) (fun _ h9 => h9) rfl d_Model_leave_137 ?_
        refine lv_iconst (v := 4) hx hb d_Model_leave_140 (by decide) ?_
        refine lv_iload_n hx hb d_Model_leave_141 rfl (lv_at hl 4 rfl) ?_
        refine lv_ldc (v := 2147483647) hx hb hown (hts _ (gd_sub _ q_743)) d_Model_leave_142 ?_
        refine lv_iand hx hb d_Model_leave_144 ?_
        refine lv_imul hx hb d_Model_leave_145 ?_
        refine lv_iadd hx hb d_Model_leave_146 ?_
        refine va_put (D := G.1) (ci := 6) (v := .int (((uk 261) &&& (-4)) + (4 * (p2 &&& 2147483647)))) (ty := .int) (C := R_Model) (T := T_Model) (N := 23) hx hb hts (fun w h => gd_sub _ (iw_Model w h)) ty_Model tyok_Model nm_Model hown hK hP hD hS 0 rfl rfl 1 (by decide) (hts _ (gd_sub _ q_608)) (fun _ h9 => h9) rfl (by decide +kernel) rfl rfl (Nat.le_of_ble_eq_true rfl) d_Model_leave_147 (fun H locs hP hD hS => ?_)
        have hP : va_P G.1 vwCl [(qm, .inr (6, f_Model qp qk (oi (oi sm 1 ((uk 261) &&& (-4))) 1 (((uk 261) &&& (-4)) + (4 * (p2 &&& 2147483647)))))), (qk, .inl (cD, 512, .inl (upd uk 256 (t1 ||| t0))))] H := hP
        have hD : va_D A [(qm, .inr (6, f_Model qp qk (oi (oi sm 1 ((uk 261) &&& (-4))) 1 (((uk 261) &&& (-4)) + (4 * (p2 &&& 2147483647)))))), (qk, .inl (cD, 512, .inl (upd uk 256 (t1 ||| t0))))] := hD
        have hk : k_Model_leave_256 sm sk p2 p3 = ((oi (oi sm 1 ((uk 261) &&& (-4))) 1 (((uk 261) &&& (-4)) + (4 * (p2 &&& 2147483647)))), (upd uk 256 (t1 ||| t0))) := (hj.trans (by rw [k_Model_leave_256_j91]; rw [if_neg c_942]; rw [if_pos c_943]; try rfl))
        exact ct_rv hx hb hr hlocks hP hD hK hS d_Model_leave_150 (by rw [hk]; first | done | rfl)
  have J64 : ∀ (v4 : Int32) (t0 : Bool) (uk : Nat → Int32) (H : Heap) (locs : List Loc) (ls : Array Slot), k_Model_leave_256 sm sk p2 p3 = k_Model_leave_256_j64 sm sk p2 p3 v4 t0 uk → va_P G.1 vwCl [(qm, .inr (6, f_Model qp qk sm)), (qk, .inl (cD, 512, .inl uk))] H → va_D A [(qm, .inr (6, f_Model qp qk sm)), (qk, .inl (cD, 512, .inl uk))] → va_S A s.heap H locs → lv_has ls 7 [(0, .ref qm), (1, .int 256), (2, .int p2), (3, .int p3), (4, .int v4)] → W p l e ({ frames := 0, cells := 0, slots := 0, locals := 0 }) s m ([.ref qm, .int 256, .int p2, .int p3] : List Value).toArray below meth c H locs 0 0 (MQ below (ct_qv G tys A [(qm, .inr (6, f_Model qp qk ((k_Model_leave_256 sm sk p2 p3).1))), (qk, .inl (cD, 512, .inl ((k_Model_leave_256 sm sk p2 p3).2)))]) ([.ref qm, .int 256, .int p2, .int p3] : List Value).toArray s 0 0 A) (F0 m 64 ls [.int (bI t0)]) := by
    intro v4 t0 uk H locs ls hj hP hD hS hl
    refine lv_istore (lv' := [(5, .int (bI t0)), (0, .ref qm), (1, .int 256), (2, .int p2), (3, .int p3), (4, .int v4)]) hx hb d_Model_leave_64 hl (by decide) rfl (fun ls hl => ?_)
    refine lv_iload hx hb d_Model_leave_66 (lv_at hl 5 rfl) ?_
    refine lv_sipush (v := (-291)) hx hb d_Model_leave_68 (by decide) ?_
    refine lv_iand hx hb d_Model_leave_71 ?_
    refine lv_iload hx hb d_Model_leave_72 (lv_at hl 5 rfl) ?_
    refine lv_iconst (v := 2) hx hb d_Model_leave_74 (by decide) ?_
    refine lv_iand hx hb d_Model_leave_75 ?_
    refine lv_iconst (v := 4) hx hb d_Model_leave_76 (by decide) ?_
    refine lv_ishl hx hb d_Model_leave_77 ?_
    refine lv_ior hx hb d_Model_leave_78 ?_
    refine lv_iload hx hb d_Model_leave_79 (lv_at hl 0 rfl) ?_
    refine lv_if_eq (tgt := 90) hx hb d_Model_leave_81 (by decide) (fun c_944 => ?_) (fun c_944 => ?_)
    · refine lv_iconst (v := 0) hx hb d_Model_leave_90 (by decide) ?_
      exact J91 v4 t0 0 ((v4 &&& (-291)) ||| ((v4 &&& 2) <<< ((4 : Int32) &&& 31))) uk H locs ls (hj.trans (by rw [k_Model_leave_256_j64]; rw [if_pos c_944]; try rfl)) hP hD hS (lv_sub hl [1, 2, 3, 4, 5, 0] rfl)
    · refine lv_sipush (v := 256) hx hb d_Model_leave_84 (by decide) ?_
      refine lv_goto (tgt := 91) hx hb d_Model_leave_87 (by decide) ?_
      exact J91 v4 t0 256 ((v4 &&& (-291)) ||| ((v4 &&& 2) <<< ((4 : Int32) &&& 31))) uk H locs ls (hj.trans (by rw [k_Model_leave_256_j64]; rw [if_neg c_944]; try rfl)) hP hD hS (lv_sub hl [1, 2, 3, 4, 5, 0] rfl)
  have J59 : ∀ (v4 : Int32) (uk : Nat → Int32) (H : Heap) (locs : List Loc) (ls : Array Slot), k_Model_leave_256 sm sk p2 p3 = k_Model_leave_256_j59 sm sk p2 p3 v4 uk → va_P G.1 vwCl [(qm, .inr (6, f_Model qp qk sm)), (qk, .inl (cD, 512, .inl uk))] H → va_D A [(qm, .inr (6, f_Model qp qk sm)), (qk, .inl (cD, 512, .inl uk))] → va_S A s.heap H locs → lv_has ls 7 [(0, .ref qm), (1, .int 256), (2, .int p2), (3, .int p3), (4, .int v4)] → W p l e ({ frames := 0, cells := 0, slots := 0, locals := 0 }) s m ([.ref qm, .int 256, .int p2, .int p3] : List Value).toArray below meth c H locs 0 0 (MQ below (ct_qv G tys A [(qm, .inr (6, f_Model qp qk ((k_Model_leave_256 sm sk p2 p3).1))), (qk, .inl (cD, 512, .inl ((k_Model_leave_256 sm sk p2 p3).2)))]) ([.ref qm, .int 256, .int p2, .int p3] : List Value).toArray s 0 0 A) (F0 m 59 ls []) := by
    intro v4 uk H locs ls hj hP hD hS hl
    refine lv_iconst (v := 1) hx hb d_Model_leave_59 (by decide) ?_
    refine lv_goto (tgt := 64) hx hb d_Model_leave_60 (by decide) ?_
    exact J64 v4 true uk H locs ls (hj.trans (by rw [k_Model_leave_256_j59]; try rfl)) hP hD hS (lv_sub hl [0, 1, 2, 3, 4] rfl)
  obtain ⟨H, eH⟩ : ∃ z, z = s.heap := ⟨_, rfl⟩
  obtain ⟨locs, eL⟩ : ∃ z, z = ([] : List Loc) := ⟨_, rfl⟩
  have hP : va_P G.1 vwCl [(qm, .inr (6, f_Model qp qk sm)), (qk, .inl (cD, 512, .inl sk))] H := by rw [eH]; exact hP
  have hS : va_S A s.heap H locs := by rw [eH, eL]; exact hS
  suffices hW : W p l e ({ frames := 0, cells := 0, slots := 0, locals := 0 }) s m ([.ref qm, .int 256, .int p2, .int p3] : List Value).toArray below meth c H locs 0 0 (MQ below (ct_qv G tys A [(qm, .inr (6, f_Model qp qk ((k_Model_leave_256 sm sk p2 p3).1))), (qk, .inl (cD, 512, .inl ((k_Model_leave_256 sm sk p2 p3).2)))]) ([.ref qm, .int 256, .int p2, .int p3] : List Value).toArray s 0 0 A) (F0 m 0 ls []) by rw [eH, eL] at hW; exact hW
  refine lv_aload_n hx hb d_Model_leave_0 rfl (lv_at hl 0 rfl) ?_
  refine va_get (D := G.1) (ci := 6) (v := .ref qk) (C := R_Model) (T := T_Model) (N := 23) hx hb hts (fun w h => gd_sub _ (iw_Model w h)) hown hK hP 0 rfl rfl 14 (by decide) (hts _ (gd_sub _ q_621)) (fun _ h9 => h9) rfl d_Model_leave_1 ?_
  refine lv_iload_n hx hb d_Model_leave_4 rfl (lv_at hl 1 rfl) ?_
  refine lv_bipush (v := 65) hx hb d_Model_leave_5 (by decide) ?_
  refine lv_iadd hx hb d_Model_leave_7 ?_
  refine lv_topi (fun z9 e9 => ?_)
  obtain rfl : z9 = 321 := e9.trans (by decide)
  refine lv_aload_n hx hb d_Model_leave_8 rfl (lv_at hl 0 rfl) ?_
  refine va_get (D := G.1) (ci := 6) (v := .int (sm.1 1)) (C := R_Model) (T := T_Model) (N := 23) hx hb hts (fun w h => gd_sub _ (iw_Model w h)) hown hK hP 0 rfl rfl 1 (by decide) (hts _ (gd_sub _ q_608)) (fun _ h9 => h9) rfl d_Model_leave_9 ?_
  refine va_iast hx hb hK hP hD hS 1 2 rfl ht2 (by unfold vp_in; decide) d_Model_leave_12 (fun H locs hP hD hS => ?_)
  have hP : va_P G.1 vwCl [(qm, .inr (6, f_Model qp qk sm)), (qk, .inl (cD, 512, .inl (upd sk 321 (sm.1 1))))] H := hP
  have hD : va_D A [(qm, .inr (6, f_Model qp qk sm)), (qk, .inl (cD, 512, .inl (upd sk 321 (sm.1 1))))] := hD
  refine lv_aload_n hx hb d_Model_leave_13 rfl (lv_at hl 0 rfl) ?_
  refine va_get (D := G.1) (ci := 6) (v := .ref qk) (C := R_Model) (T := T_Model) (N := 23) hx hb hts (fun w h => gd_sub _ (iw_Model w h)) hown hK hP 0 rfl rfl 14 (by decide) (hts _ (gd_sub _ q_621)) (fun _ h9 => h9) rfl d_Model_leave_14 ?_
  refine lv_iload_n hx hb d_Model_leave_17 rfl (lv_at hl 1 rfl) ?_
  refine lv_bipush (v := 66) hx hb d_Model_leave_18 (by decide) ?_
  refine lv_iadd hx hb d_Model_leave_20 ?_
  refine lv_topi (fun z9 e9 => ?_)
  obtain rfl : z9 = 322 := e9.trans (by decide)
  refine lv_iload_n hx hb d_Model_leave_21 rfl (lv_at hl 2 rfl) ?_
  refine va_iast hx hb hK hP hD hS 1 2 rfl ht2 (by unfold vp_in; decide) d_Model_leave_22 (fun H locs hP hD hS => ?_)
  have hP : va_P G.1 vwCl [(qm, .inr (6, f_Model qp qk sm)), (qk, .inl (cD, 512, .inl (upd (upd sk 321 (sm.1 1)) 322 p2)))] H := hP
  have hD : va_D A [(qm, .inr (6, f_Model qp qk sm)), (qk, .inl (cD, 512, .inl (upd (upd sk 321 (sm.1 1)) 322 p2)))] := hD
  refine lv_aload_n hx hb d_Model_leave_23 rfl (lv_at hl 0 rfl) ?_
  refine va_get (D := G.1) (ci := 6) (v := .ref qk) (C := R_Model) (T := T_Model) (N := 23) hx hb hts (fun w h => gd_sub _ (iw_Model w h)) hown hK hP 0 rfl rfl 14 (by decide) (hts _ (gd_sub _ q_621)) (fun _ h9 => h9) rfl d_Model_leave_24 ?_
  refine lv_iload_n hx hb d_Model_leave_27 rfl (lv_at hl 1 rfl) ?_
  refine lv_bipush (v := 67) hx hb d_Model_leave_28 (by decide) ?_
  refine lv_iadd hx hb d_Model_leave_30 ?_
  refine lv_topi (fun z9 e9 => ?_)
  obtain rfl : z9 = 323 := e9.trans (by decide)
  refine lv_iload_n hx hb d_Model_leave_31 rfl (lv_at hl 3 rfl) ?_
  refine va_iast hx hb hK hP hD hS 1 2 rfl ht2 (by unfold vp_in; decide) d_Model_leave_32 (fun H locs hP hD hS => ?_)
  have hP : va_P G.1 vwCl [(qm, .inr (6, f_Model qp qk sm)), (qk, .inl (cD, 512, .inl (upd (upd (upd sk 321 (sm.1 1)) 322 p2) 323 p3)))] H := hP
  have hD : va_D A [(qm, .inr (6, f_Model qp qk sm)), (qk, .inl (cD, 512, .inl (upd (upd (upd sk 321 (sm.1 1)) 322 p2) 323 p3)))] := hD
  refine lv_aload_n hx hb d_Model_leave_33 rfl (lv_at hl 0 rfl) ?_
  refine va_get (D := G.1) (ci := 6) (v := .ref qk) (C := R_Model) (T := T_Model) (N := 23) hx hb hts (fun w h => gd_sub _ (iw_Model w h)) hown hK hP 0 rfl rfl 14 (by decide) (hts _ (gd_sub _ q_621)) (fun _ h9 => h9) rfl d_Model_leave_34 ?_
  refine lv_iload_n hx hb d_Model_leave_37 rfl (lv_at hl 1 rfl) ?_
  refine lv_iconst (v := 0) hx hb d_Model_leave_38 (by decide) ?_
  refine lv_iadd hx hb d_Model_leave_39 ?_
  refine lv_topi (fun z9 e9 => ?_)
  obtain rfl : z9 = 256 := e9.trans (by decide)
  refine va_iald hx hb hK hP 1 2 rfl ht2 (by unfold vp_in; decide) d_Model_leave_40 ?_
  refine lv_topi (fun z9 e9 => ?_)
  obtain rfl : z9 = (sk 256) := e9
  refine lv_istore (lv' := [(4, .int (sk 256)), (0, .ref qm), (1, .int 256), (2, .int p2), (3, .int p3)]) hx hb d_Model_leave_41 hl (by decide) rfl (fun ls hl => ?_)
  refine lv_aload_n hx hb d_Model_leave_43 rfl (lv_at hl 1 rfl) ?_
  refine va_get (D := G.1) (ci := 6) (v := .int (sm.1 0)) (C := R_Model) (T := T_Model) (N := 23) hx hb hts (fun w h => gd_sub _ (iw_Model w h)) hown hK hP 0 rfl rfl 0 (by decide) (hts _ (gd_sub _ q_607)) (fun _ h9 => h9) rfl d_Model_leave_44 ?_
  refine lv_iconst (v := 1) hx hb d_Model_leave_47 (by decide) ?_
  refine lv_icmp_eq (tgt := 59) hx hb d_Model_leave_48 (by decide) (fun c_945 => ?_) (fun c_945 => ?_)
  · exact J59 (sk 256) (upd (upd (upd sk 321 (sm.1 1)) 322 p2) 323 p3) H locs ls (by rw [k_Model_leave_256]; rw [if_pos c_945]; try rfl) hP hD hS (lv_sub hl [1, 2, 3, 4, 0] rfl)
  · refine lv_aload_n hx hb d_Model_leave_51 rfl (lv_at hl 1 rfl) ?_
    refine va_get (D := G.1) (ci := 6) (v := .int (sm.1 0)) (C := R_Model) (T := T_Model) (N := 23) hx hb hts (fun w h => gd_sub _ (iw_Model w h)) hown hK hP 0 rfl rfl 0 (by decide) (hts _ (gd_sub _ q_607)) (fun _ h9 => h9) rfl d_Model_leave_52 ?_
    refine lv_iconst (v := 3) hx hb d_Model_leave_55 (by decide) ?_
    refine lv_icmp_ne (tgt := 63) hx hb d_Model_leave_56 (by decide) (fun c_946 => ?_) (fun c_946 => ?_)
    · refine lv_iconst (v := 0) hx hb d_Model_leave_63 (by decide) ?_
      exact J64 (sk 256) false (upd (upd (upd sk 321 (sm.1 1)) 322 p2) 323 p3) H locs ls (by rw [k_Model_leave_256]; rw [if_neg c_945]; rw [if_neg c_946]; try rfl) hP hD hS (lv_sub hl [1, 2, 3, 4, 0] rfl)
    · exact J59 (sk 256) (upd (upd (upd sk 321 (sm.1 1)) 322 p2) 323 p3) H locs ls (by rw [k_Model_leave_256]; rw [if_neg c_945]; rw [if_pos c_946]; try rfl) hP hD hS (lv_sub hl [1, 2, 3, 4, 0] rfl)
def k_Model_toVs (sm : ob) (sk : Nat → Int32) (p1 : Int32) (p2 : Int32) : ob × (Nat → Int32) :=
  ((oi (oi ((k_Model_leave_256 sm sk p1 p2).1) 0 3) 12 ((((k_Model_leave_256 sm sk p1 p2).1).1 12) + 1)), ((k_Model_leave_256 sm sk p1 p2).2))
set_option maxHeartbeats 4000000 in
set_option maxRecDepth 100000 in
theorem c_Model_toVs (l : Launch) (G : gx) (tys : List (ClassId × FieldType)) {cD : ClassId} (ht2 : tys[2]? = some (cD, .int)) (qm qk qp : Nat) (sm : ob) (sk : Nat → Int32) (p1 : Int32) (p2 : Int32) : ct_V l y_Model_toVs ws_Model_toVs ({ frames := 1, cells := 0, slots := 0, locals := 26 }) G tys [.ref qm, .int p1, .int p2] [(qm, .inr (6, f_Model qp qk sm)), (qk, .inl (cD, 512, .inl sk))] [(qm, .inr (6, f_Model qp qk ((k_Model_toVs sm sk p1 p2).1))), (qk, .inl (cD, 512, .inl ((k_Model_toVs sm sk p1 p2).2)))] := by
  refine ct_hV (cc := cc_Model_toVs) (maxL := 3) (ret := none) (by decide) rfl (Nat.le_of_ble_eq_true rfl) ?_
  intro p e s m below meth c A ls hx hb hr hml hts hown hlocks hP hK hD hA hE hS hl
  have hl : lv_has ls 3 [(0, .ref qm), (1, .int p1), (2, .int p2)] := hl
  have hown : s.vm.findClass R_Model = some m.cls := hown
  refine lv_aload_n hx hb d_Model_toVs_0 rfl (lv_at hl 0 rfl) ?_
  refine lv_sipush (v := 256) hx hb d_Model_toVs_1 (by decide) ?_
  refine lv_iload_n hx hb d_Model_toVs_4 rfl (lv_at hl 1 rfl) ?_
  refine lv_iload_n hx hb d_Model_toVs_5 rfl (lv_at hl 2 rfl) ?_
  obtain ⟨sm_949, esm_949⟩ : ∃ z, z = (k_Model_leave_256 sm sk p1 p2).1 := ⟨_, rfl⟩
  obtain ⟨sk_950, esk_950⟩ : ∃ z, z = (k_Model_leave_256 sm sk p1 p2).2 := ⟨_, rfl⟩
  have hM := c_Model_leave_256 l G tys ht2 qm qk qp sm sk p1 p2
  rw [← esm_949, ← esk_950] at hM
  refine ct_cVv (wr := []) (w1 := [(qm, .inr (6, f_Model qp qk sm_949)), (qk, .inl (cD, 512, .inl sk_950))]) (w2 := [(qm, .inr (6, f_Model qp qk sm_949)), (qk, .inl (cD, 512, .inl sk_950))]) (As := [.int 256, .int p1, .int p2]) (rest := []) (ci := 6) (q0 := 0) ⟨hx, hb, hml, hown, hts⟩ hM (cwV 3 hts (gdV gd_gd q_739 q_741 q_27 q_47 q_742) rfl rfl rfl (by decide +kernel) ⟨Nat.le_of_ble_eq_true rfl, Nat.le_of_ble_eq_true rfl⟩) hE hK hP hD hS hA [0, 1] [] [0, 1] rfl (by decide) rfl (by decide) (by decide) rfl (by decide) rfl rfl rfl hl.1 rfl (Nat.le_of_ble_eq_true rfl) d_Model_toVs_6 ⟨Nat.zero_le _, Nat.zero_le _⟩ (fun H locs hP hD hS => ?_)
  refine lv_aload_n hx hb d_Model_toVs_9 rfl (lv_at hl 0 rfl) ?_
  refine lv_iconst (v := 3) hx hb d_Model_toVs_10 (by decide) ?_
  refine va_put (D := G.1) (ci := 6) (v := .int 3) (ty := .int) (C := R_Model) (T := T_Model) (N := 23) hx hb hts (fun w h => gd_sub _ (iw_Model w h)) ty_Model tyok_Model nm_Model hown hK hP hD hS 0 rfl rfl 0 (by decide) (hts _ (gd_sub _ q_607)) (fun _ h9 => h9) rfl (by decide +kernel) rfl rfl (Nat.le_of_ble_eq_true rfl) d_Model_toVs_11 (fun H locs hP hD hS => ?_)
  have hP : va_P G.1 vwCl [(qm, .inr (6, f_Model qp qk (oi sm_949 0 3))), (qk, .inl (cD, 512, .inl sk_950))] H := hP
  have hD : va_D A [(qm, .inr (6, f_Model qp qk (oi sm_949 0 3))), (qk, .inl (cD, 512, .inl sk_950))] := hD
  refine lv_aload_n hx hb d_Model_toVs_14 rfl (lv_at hl 0 rfl) ?_
  refine lv_dup hx hb d_Model_toVs_15 rfl ?_
  refine va_get (D := G.1) (ci := 6) (v := .int (sm_949.1 12)) (C := R_Model) (T := T_Model) (N := 23) hx hb hts (fun w h => gd_sub _ (iw_Model w h)) hown hK hP 0 rfl rfl 12 (by decide) (hts _ (gd_sub _ q_619)) (fun _ h9 => h9) rfl d_Model_toVs_16 ?_
  refine lv_iconst (v := 1) hx hb d_Model_toVs_19 (by decide) ?_
  refine lv_iadd hx hb d_Model_toVs_20 ?_
  refine va_put (D := G.1) (ci := 6) (v := .int ((sm_949.1 12) + 1)) (ty := .int) (C := R_Model) (T := T_Model) (N := 23) hx hb hts (fun w h => gd_sub _ (iw_Model w h)) ty_Model tyok_Model nm_Model hown hK hP hD hS 0 rfl rfl 12 (by decide) (hts _ (gd_sub _ q_619)) (fun _ h9 => h9) rfl (by decide +kernel) rfl rfl (Nat.le_of_ble_eq_true rfl) d_Model_toVs_21 (fun H locs hP hD hS => ?_)
  have hP : va_P G.1 vwCl [(qm, .inr (6, f_Model qp qk (oi (oi sm_949 0 3) 12 ((sm_949.1 12) + 1)))), (qk, .inl (cD, 512, .inl sk_950))] H := hP
  have hD : va_D A [(qm, .inr (6, f_Model qp qk (oi (oi sm_949 0 3) 12 ((sm_949.1 12) + 1)))), (qk, .inl (cD, 512, .inl sk_950))] := hD
  have hk : k_Model_toVs sm sk p1 p2 = ((oi (oi sm_949 0 3) 12 ((sm_949.1 12) + 1)), sk_950) := (by rw [k_Model_toVs]; try rw [← esm_949]; try rw [← esk_950]; try rfl)
  exact ct_rv hx hb hr hlocks hP hD hK hS d_Model_toVs_24 (by rw [hk]; first | done | rfl)
def k_Model_trap_j28 (sm : ob) (sk : Nat → Int32) (p1 : Int32) (p2 : Int32) (p3 : Bool) (p4 : Int32) (p5 : Bool) : ob × (Nat → Int32) :=
  (((k_Model_toS sm sk p1 p2 p3 p4 p5).1), ((k_Model_toS sm sk p1 p2 p3 p4 p5).2))
def k_Model_trap (sm : ob) (sk : Nat → Int32) (p1 : Int32) (p2 : Int32) (p3 : Bool) (p4 : Int32) (p5 : Bool) : ob × (Nat → Int32) :=
  if (bI (k_Model_isVirtual sm)) = 0 then (k_Model_trap_j28 sm sk p1 p2 p3 p4 p5) else (if ((ush (sm.1 16) p1) &&& 1) = 1 then (((k_Model_toVs sm sk p1 p2).1), ((k_Model_toVs sm sk p1 p2).2)) else (k_Model_trap_j28 sm sk p1 p2 p3 p4 p5))
set_option maxHeartbeats 4000000 in
set_option maxRecDepth 100000 in
theorem c_Model_trap (l : Launch) (G : gx) (tys : List (ClassId × FieldType)) {cD : ClassId} (ht2 : tys[2]? = some (cD, .int)) (qm qk qp : Nat) (sm : ob) (sk : Nat → Int32) (p1 : Int32) (p2 : Int32) (p3 : Bool) (p4 : Int32) (p5 : Bool) : ct_V l y_Model_trap ws_Model_trap ({ frames := 2, cells := 0, slots := 0, locals := 54 }) G tys [.ref qm, .int p1, .int p2, .int (bI p3), .int p4, .int (bI p5)] [(qm, .inr (6, f_Model qp qk sm)), (qk, .inl (cD, 512, .inl sk))] [(qm, .inr (6, f_Model qp qk ((k_Model_trap sm sk p1 p2 p3 p4 p5).1))), (qk, .inl (cD, 512, .inl ((k_Model_trap sm sk p1 p2 p3 p4 p5).2)))] := by
  refine ct_hV (cc := cc_Model_trap) (maxL := 6) (ret := none) (by decide) rfl (Nat.le_of_ble_eq_true rfl) ?_
  intro p e s m below meth c A ls hx hb hr hml hts hown hlocks hP hK hD hA hE hS hl
  have hl : lv_has ls 6 [(0, .ref qm), (1, .int p1), (2, .int p2), (3, .int (bI p3)), (4, .int p4), (5, .int (bI p5))] := hl
  have hown : s.vm.findClass R_Model = some m.cls := hown
  have J28 : ∀ (H : Heap) (locs : List Loc) (ls : Array Slot), k_Model_trap sm sk p1 p2 p3 p4 p5 = k_Model_trap_j28 sm sk p1 p2 p3 p4 p5 → va_P G.1 vwCl [(qm, .inr (6, f_Model qp qk sm)), (qk, .inl (cD, 512, .inl sk))] H → va_D A [(qm, .inr (6, f_Model qp qk sm)), (qk, .inl (cD, 512, .inl sk))] → va_S A s.heap H locs → lv_has ls 6 [(0, .ref qm), (1, .int p1), (2, .int p2), (3, .int (bI p3)), (4, .int p4), (5, .int (bI p5))] → W p l e ({ frames := 2, cells := 0, slots := 0, locals := 54 }) s m ([.ref qm, .int p1, .int p2, .int (bI p3), .int p4, .int (bI p5)] : List Value).toArray below meth c H locs 0 0 (MQ below (ct_qv G tys A [(qm, .inr (6, f_Model qp qk ((k_Model_trap sm sk p1 p2 p3 p4 p5).1))), (qk, .inl (cD, 512, .inl ((k_Model_trap sm sk p1 p2 p3 p4 p5).2)))]) ([.ref qm, .int p1, .int p2, .int (bI p3), .int p4, .int (bI p5)] : List Value).toArray s 0 0 A) (F0 m 28 ls []) := by
    intro H locs ls hj hP hD hS hl
    refine lv_aload_n hx hb d_Model_trap_28 rfl (lv_at hl 0 rfl) ?_
    refine lv_iload_n hx hb d_Model_trap_29 rfl (lv_at hl 1 rfl) ?_
    refine lv_iload_n hx hb d_Model_trap_30 rfl (lv_at hl 2 rfl) ?_
    refine lv_iload_n hx hb d_Model_trap_31 rfl (lv_at hl 3 rfl) ?_
    refine lv_iload hx hb d_Model_trap_32 (lv_at hl 4 rfl) ?_
    refine lv_iload hx hb d_Model_trap_34 (lv_at hl 5 rfl) ?_
    obtain ⟨sm_957, esm_957⟩ : ∃ z, z = (k_Model_toS sm sk p1 p2 p3 p4 p5).1 := ⟨_, rfl⟩
    obtain ⟨sk_958, esk_958⟩ : ∃ z, z = (k_Model_toS sm sk p1 p2 p3 p4 p5).2 := ⟨_, rfl⟩
    have hM := c_Model_toS l G tys ht2 qm qk qp sm sk p1 p2 p3 p4 p5
    rw [← esm_957, ← esk_958] at hM
    refine ct_cVv (wr := []) (w1 := [(qm, .inr (6, f_Model qp qk sm_957)), (qk, .inl (cD, 512, .inl sk_958))]) (w2 := [(qm, .inr (6, f_Model qp qk sm_957)), (qk, .inl (cD, 512, .inl sk_958))]) (As := [.int p1, .int p2, .int (bI p3), .int p4, .int (bI p5)]) (rest := []) (ci := 6) (q0 := 0) ⟨hx, hb, hml, hown, hts⟩ hM (cwV 5 hts (gdV gd_gd q_744 q_746 q_28 q_47 q_747) rfl rfl rfl (by decide +kernel) ⟨Nat.le_of_ble_eq_true rfl, Nat.le_of_ble_eq_true rfl⟩) hE hK hP hD hS hA [0, 1] [] [0, 1] rfl (by decide) rfl (by decide) (by decide) rfl (by decide) rfl rfl rfl hl.1 rfl (Nat.le_of_ble_eq_true rfl) d_Model_trap_36 ⟨Nat.zero_le _, Nat.zero_le _⟩ (fun H locs hP hD hS => ?_)
    have hk : k_Model_trap sm sk p1 p2 p3 p4 p5 = (sm_957, sk_958) := (hj.trans (by rw [k_Model_trap_j28]; try rw [← esm_957]; try rw [← esk_958]; try rfl))
    exact ct_rv hx hb hr hlocks hP hD hK hS d_Model_trap_39 (by rw [hk]; first | done | rfl)
  obtain ⟨H, eH⟩ : ∃ z, z = s.heap := ⟨_, rfl⟩
  obtain ⟨locs, eL⟩ : ∃ z, z = ([] : List Loc) := ⟨_, rfl⟩
  have hP : va_P G.1 vwCl [(qm, .inr (6, f_Model qp qk sm)), (qk, .inl (cD, 512, .inl sk))] H := by rw [eH]; exact hP
  have hS : va_S A s.heap H locs := by rw [eH, eL]; exact hS
  suffices hW : W p l e ({ frames := 2, cells := 0, slots := 0, locals := 54 }) s m ([.ref qm, .int p1, .int p2, .int (bI p3), .int p4, .int (bI p5)] : List Value).toArray below meth c H locs 0 0 (MQ below (ct_qv G tys A [(qm, .inr (6, f_Model qp qk ((k_Model_trap sm sk p1 p2 p3 p4 p5).1))), (qk, .inl (cD, 512, .inl ((k_Model_trap sm sk p1 p2 p3 p4 p5).2)))]) ([.ref qm, .int p1, .int p2, .int (bI p3), .int p4, .int (bI p5)] : List Value).toArray s 0 0 A) (F0 m 0 ls []) by rw [eH, eL] at hW; exact hW
  refine lv_aload_n hx hb d_Model_trap_0 rfl (lv_at hl 0 rfl) ?_
  refine ct_cVi (wr := [(qk, .inl (cD, 512, .inl sk))]) (w1 := [(qm, .inr (6, f_Model qp qk sm))]) (w2 := [(qm, .inr (6, f_Model qp qk sm)), (qk, .inl (cD, 512, .inl sk))]) (r := (bI (k_Model_isVirtual sm))) (As := []) (rest := []) (ci := 6) (q0 := 0) ⟨hx, hb, hml, hown, hts⟩ (c_Model_isVirtual l G tys qm qp qk sm) (cwV 0 hts (gdV gd_gd q_731 q_733 q_25 q_47 q_734) rfl rfl rfl (by decide +kernel) ⟨Nat.le_of_ble_eq_true rfl, Nat.le_of_ble_eq_true rfl⟩) hE hK hP hD hS hA [0] [1] [1, 0] rfl (by decide) rfl (by decide) (by decide) rfl (by decide) rfl rfl rfl hl.1 rfl (Nat.le_of_ble_eq_true rfl) d_Model_trap_1 ⟨Nat.zero_le _, Nat.zero_le _⟩ (fun H locs hP hD hS => ?_)
  refine lv_if_eq (tgt := 28) hx hb d_Model_trap_4 (by decide) (fun c_959 => ?_) (fun c_959 => ?_)
  · exact J28 H locs ls (by rw [k_Model_trap]; rw [if_pos c_959]; try rfl) hP hD hS (lv_sub hl [0, 1, 2, 3, 4, 5] rfl)
  · refine lv_aload_n hx hb d_Model_trap_7 rfl (lv_at hl 0 rfl) ?_
    refine va_get (D := G.1) (ci := 6) (v := .int (sm.1 16)) (C := R_Model) (T := T_Model) (N := 23) hx hb hts (fun w h => gd_sub _ (iw_Model w h)) hown hK hP 0 rfl rfl 16 (by decide) (hts _ (gd_sub _ q_623)) (fun _ h9 => h9) rfl d_Model_trap_8 ?_
    refine lv_iload_n hx hb d_Model_trap_11 rfl (lv_at hl 1 rfl) ?_
    refine lv_iushr (v := (ush (sm.1 16) p1)) hx hb d_Model_trap_12 rfl ?_
    refine lv_iconst (v := 1) hx hb d_Model_trap_13 (by decide) ?_
    refine lv_iand hx hb d_Model_trap_14 ?_
    refine lv_iconst (v := 1) hx hb d_Model_trap_15 (by decide) ?_
    refine lv_icmp_ne (tgt := 28) hx hb d_Model_trap_16 (by decide) (fun c_960 => ?_) (fun c_960 => ?_)
    · exact J28 H locs ls (by rw [k_Model_trap]; rw [if_neg c_959]; rw [if_neg c_960]; try rfl) hP hD hS (lv_sub hl [0, 1, 2, 3, 4, 5] rfl)
    · refine lv_aload_n hx hb d_Model_trap_19 rfl (lv_at hl 0 rfl) ?_
      refine lv_iload_n hx hb d_Model_trap_20 rfl (lv_at hl 1 rfl) ?_
      refine lv_iload_n hx hb d_Model_trap_21 rfl (lv_at hl 2 rfl) ?_
      obtain ⟨sm_961, esm_961⟩ : ∃ z, z = (k_Model_toVs sm sk p1 p2).1 := ⟨_, rfl⟩
      obtain ⟨sk_962, esk_962⟩ : ∃ z, z = (k_Model_toVs sm sk p1 p2).2 := ⟨_, rfl⟩
      have hM := c_Model_toVs l G tys ht2 qm qk qp sm sk p1 p2
      rw [← esm_961, ← esk_962] at hM
      refine ct_cVv (wr := []) (w1 := [(qm, .inr (6, f_Model qp qk sm_961)), (qk, .inl (cD, 512, .inl sk_962))]) (w2 := [(qm, .inr (6, f_Model qp qk sm_961)), (qk, .inl (cD, 512, .inl sk_962))]) (As := [.int p1, .int p2]) (rest := []) (ci := 6) (q0 := 0) ⟨hx, hb, hml, hown, hts⟩ hM (cwV 2 hts (gdV gd_gd q_735 q_737 q_26 q_47 q_738) rfl rfl rfl (by decide +kernel) ⟨Nat.le_of_ble_eq_true rfl, Nat.le_of_ble_eq_true rfl⟩) hE hK hP hD hS hA [0, 1] [] [0, 1] rfl (by decide) rfl (by decide) (by decide) rfl (by decide) rfl rfl rfl hl.1 rfl (Nat.le_of_ble_eq_true rfl) d_Model_trap_22 ⟨Nat.zero_le _, Nat.zero_le _⟩ (fun H locs hP hD hS => ?_)
      refine lv_goto (tgt := 39) hx hb d_Model_trap_25 (by decide) ?_
      have hk : k_Model_trap sm sk p1 p2 p3 p4 p5 = (sm_961, sk_962) := (by rw [k_Model_trap]; rw [if_neg c_959]; rw [if_pos c_960]; try rw [← esm_961]; try rw [← esk_962]; try rfl)
      exact ct_rv hx hb hr hlocks hP hD hK hS d_Model_trap_39 (by rw [hk]; first | done | rfl)
def k_Model_fail_j17 (sm : ob) (sk : Nat → Int32) (p1 : Int32) (p2 : Int32) (p3 : Bool) (p4 : Int64) (p5 : Bool) (t0 : Bool) : Int32 × ob × (Nat → Int32) :=
  if (bI t0) = 0 then ((-1), sm, sk) else (if (lg_cmp p4 0) < 0 then ((-1), sm, sk) else (if (lg_cmp p4 17179869184) < 0 then (if (bI (sm.2.2 10)) = 0 then ((((k_Model_trap sm sk p1 p2 p3 ((lshr p4 2).toInt32) p5).1).1 0), ((k_Model_trap sm sk p1 p2 p3 ((lshr p4 2).toInt32) p5).1), ((k_Model_trap sm sk p1 p2 p3 ((lshr p4 2).toInt32) p5).2)) else ((-3), sm, sk)) else ((-1), sm, sk)))
def k_Model_fail_j16 (sm : ob) (sk : Nat → Int32) (p1 : Int32) (p2 : Int32) (p3 : Bool) (p4 : Int64) (p5 : Bool) : Int32 × ob × (Nat → Int32) :=
  k_Model_fail_j17 sm sk p1 p2 p3 p4 p5 false
def k_Model_fail (sm : ob) (sk : Nat → Int32) (p1 : Int32) (p2 : Int32) (p3 : Bool) (p4 : Int64) (p5 : Bool) : Int32 × ob × (Nat → Int32) :=
  if (bI (k_Model_isAddress p1)) = 0 then (k_Model_fail_j16 sm sk p1 p2 p3 p4 p5) else (if p1 = 3 then (k_Model_fail_j16 sm sk p1 p2 p3 p4 p5) else (k_Model_fail_j17 sm sk p1 p2 p3 p4 p5 true))
set_option maxHeartbeats 4000000 in
set_option maxRecDepth 100000 in
theorem c_Model_fail (l : Launch) (G : gx) (tys : List (ClassId × FieldType)) {cD : ClassId} (ht2 : tys[2]? = some (cD, .int)) (qm qk qp : Nat) (sm : ob) (sk : Nat → Int32) (p1 : Int32) (p2 : Int32) (p3 : Bool) (p4 : Int64) (p5 : Bool) : ct_I l y_Model_fail ws_Model_fail ({ frames := 3, cells := 0, slots := 0, locals := 79 }) G tys [.ref qm, .int p1, .int p2, .int (bI p3), .long p4, .int (bI p5)] [(qm, .inr (6, f_Model qp qk sm)), (qk, .inl (cD, 512, .inl sk))] ((k_Model_fail sm sk p1 p2 p3 p4 p5).1) [(qm, .inr (6, f_Model qp qk ((k_Model_fail sm sk p1 p2 p3 p4 p5).2.1))), (qk, .inl (cD, 512, .inl ((k_Model_fail sm sk p1 p2 p3 p4 p5).2.2)))] := by
  refine ct_hI (cc := cc_Model_fail) (maxL := 8) (ret := (some .int)) (by decide) rfl (Nat.le_of_ble_eq_true rfl) ?_
  intro p e s m below meth c A ls hx hb hr hml hts hown hlocks hP hK hD hA hE hS hl
  have hl : lv_has ls 8 [(0, .ref qm), (1, .int p1), (2, .int p2), (3, .int (bI p3)), (4, .long p4), (6, .int (bI p5))] := hl
  have hown : s.vm.findClass R_Model = some m.cls := hown
  have J17 : ∀ (t0 : Bool) (H : Heap) (locs : List Loc) (ls : Array Slot), k_Model_fail sm sk p1 p2 p3 p4 p5 = k_Model_fail_j17 sm sk p1 p2 p3 p4 p5 t0 → va_P G.1 vwCl [(qm, .inr (6, f_Model qp qk sm)), (qk, .inl (cD, 512, .inl sk))] H → va_D A [(qm, .inr (6, f_Model qp qk sm)), (qk, .inl (cD, 512, .inl sk))] → va_S A s.heap H locs → lv_has ls 8 [(0, .ref qm), (1, .int p1), (2, .int p2), (3, .int (bI p3)), (4, .long p4), (6, .int (bI p5))] → W p l e ({ frames := 3, cells := 0, slots := 0, locals := 79 }) s m ([.ref qm, .int p1, .int p2, .int (bI p3), .long p4, .int (bI p5)] : List Value).toArray below meth c H locs 0 0 (MQ below (ct_qi G tys A ((k_Model_fail sm sk p1 p2 p3 p4 p5).1) [(qm, .inr (6, f_Model qp qk ((k_Model_fail sm sk p1 p2 p3 p4 p5).2.1))), (qk, .inl (cD, 512, .inl ((k_Model_fail sm sk p1 p2 p3 p4 p5).2.2)))]) ([.ref qm, .int p1, .int p2, .int (bI p3), .long p4, .int (bI p5)] : List Value).toArray s 0 0 A) (F0 m 17 ls [.int (bI t0)]) := by
    intro t0 H locs ls hj hP hD hS hl
    refine lv_istore (lv' := [(7, .int (bI t0)), (0, .ref qm), (1, .int p1), (2, .int p2), (3, .int (bI p3)), (4, .long p4), (6, .int (bI p5))]) hx hb d_Model_fail_17 hl (by decide) rfl (fun ls hl => ?_)
    refine lv_iload hx hb d_Model_fail_19 (lv_at hl 0 rfl) ?_
    refine lv_if_eq (tgt := 40) hx hb d_Model_fail_21 (by decide) (fun c_971 => ?_) (fun c_971 => ?_)
    · refine lv_iconst (v := (-1)) hx hb d_Model_fail_40 (by decide) ?_
      have hk : k_Model_fail sm sk p1 p2 p3 p4 p5 = ((-1), sm, sk) := (hj.trans (by rw [k_Model_fail_j17]; rw [if_pos c_971]; try rfl))
      exact ct_ri hx hb hr hlocks hP hD hK hS d_Model_fail_41 (by rw [hk]; first | done | rfl) (by rw [hk]; first | done | rfl)
    · refine lv_lload hx hb d_Model_fail_24 (lv_at hl 5 rfl) ?_
      refine lv_lconst (v := 0) hx hb d_Model_fail_26 (by decide) ?_
      refine W.lcmp hx hb d_Model_fail_27 ?_
      refine lv_if_lt (tgt := 40) hx hb d_Model_fail_28 (by decide) (fun c_972 => ?_) (fun c_972 => ?_)
      · refine lv_iconst (v := (-1)) hx hb d_Model_fail_40 (by decide) ?_
        have hk : k_Model_fail sm sk p1 p2 p3 p4 p5 = ((-1), sm, sk) := (hj.trans (by rw [k_Model_fail_j17]; rw [if_neg c_971]; rw [if_pos c_972]; try rfl))
        exact ct_ri hx hb hr hlocks hP hD hK hS d_Model_fail_41 (by rw [hk]; first | done | rfl) (by rw [hk]; first | done | rfl)
      · refine lv_lload hx hb d_Model_fail_31 (lv_at hl 5 rfl) ?_
        refine lv_ldc2 (v := 17179869184) hx hb hown (hts _ (gd_sub _ q_726)) d_Model_fail_33 ?_
        refine W.lcmp hx hb d_Model_fail_36 ?_
        refine lv_if_lt (tgt := 42) hx hb d_Model_fail_37 (by decide) (fun c_973 => ?_) (fun c_973 => ?_)
        · refine lv_aload_n hx hb d_Model_fail_42 rfl (lv_at hl 1 rfl) ?_
          refine va_get (D := G.1) (ci := 6) (v := .int (bI (sm.2.2 10))) (C := R_Model) (T := T_Model) (N := 23) hx hb hts (fun w h => gd_sub _ (iw_Model w h)) hown hK hP 0 rfl rfl 10 (by decide) (hts _ (gd_sub _ q_617)) (fun _ h9 => h9) rfl d_Model_fail_43 ?_
          refine lv_if_eq (tgt := 52) hx hb d_Model_fail_46 (by decide) (fun c_974 => ?_) (fun c_974 => ?_)
          · refine lv_aload_n hx hb d_Model_fail_52 rfl (lv_at hl 1 rfl) ?_
            refine lv_iload_n hx hb d_Model_fail_53 rfl (lv_at hl 2 rfl) ?_
            refine lv_iload_n hx hb d_Model_fail_54 rfl (lv_at hl 3 rfl) ?_
            refine lv_iload_n hx hb d_Model_fail_55 rfl (lv_at hl 4 rfl) ?_
            refine lv_lload hx hb d_Model_fail_56 (lv_at hl 5 rfl) ?_
            refine lv_iconst (v := 2) hx hb d_Model_fail_58 (by decide) ?_
            refine lv_lshr (v := (lshr p4 2)) hx hb d_Model_fail_59 rfl ?_
            refine lv_l2i (v := (lshr p4 2).toInt32) hx hb d_Model_fail_60 rfl ?_
            refine lv_iload hx hb d_Model_fail_61 (lv_at hl 6 rfl) ?_
            obtain ⟨sm_975, esm_975⟩ : ∃ z, z = (k_Model_trap sm sk p1 p2 p3 ((lshr p4 2).toInt32) p5).1 := ⟨_, rfl⟩
            obtain ⟨sk_976, esk_976⟩ : ∃ z, z = (k_Model_trap sm sk p1 p2 p3 ((lshr p4 2).toInt32) p5).2 := ⟨_, rfl⟩
            have hM := c_Model_trap l G tys ht2 qm qk qp sm sk p1 p2 p3 ((lshr p4 2).toInt32) p5
            rw [← esm_975, ← esk_976] at hM
            refine ct_cVv (wr := []) (w1 := [(qm, .inr (6, f_Model qp qk sm_975)), (qk, .inl (cD, 512, .inl sk_976))]) (w2 := [(qm, .inr (6, f_Model qp qk sm_975)), (qk, .inl (cD, 512, .inl sk_976))]) (As := [.int p1, .int p2, .int (bI p3), .int ((lshr p4 2).toInt32), .int (bI p5)]) (rest := []) (ci := 6) (q0 := 0) ⟨hx, hb, hml, hown, hts⟩ hM (cwV 5 hts (gdV gd_gd q_727 q_729 q_24 q_47 q_730) rfl rfl rfl (by decide +kernel) ⟨Nat.le_of_ble_eq_true rfl, Nat.le_of_ble_eq_true rfl⟩) hE hK hP hD hS hA [0, 1] [] [0, 1] rfl (by decide) rfl (by decide) (by decide) rfl (by decide) rfl rfl rfl hl.1 rfl (Nat.le_of_ble_eq_true rfl) d_Model_fail_63 ⟨Nat.zero_le _, Nat.zero_le _⟩ (fun H locs hP hD hS => ?_)
            refine lv_aload_n hx hb d_Model_fail_66 rfl (lv_at hl 1 rfl) ?_
            refine va_get (D := G.1) (ci := 6) (v := .int (sm_975.1 0)) (C := R_Model) (T := T_Model) (N := 23) hx hb hts (fun w h => gd_sub _ (iw_Model w h)) hown hK hP 0 rfl rfl 0 (by decide) (hts _ (gd_sub _ q_607)) (fun _ h9 => h9) rfl d_Model_fail_67 ?_
            have hk : k_Model_fail sm sk p1 p2 p3 p4 p5 = ((sm_975.1 0), sm_975, sk_976) := (hj.trans (by rw [k_Model_fail_j17]; rw [if_neg c_971]; rw [if_neg c_972]; rw [if_pos c_973]; rw [if_pos c_974]; try rw [← esm_975]; try rw [← esk_976]; try rfl))
            exact ct_ri hx hb hr hlocks hP hD hK hS d_Model_fail_70 (by rw [hk]; first | done | rfl) (by rw [hk]; first | done | rfl)
          · refine lv_bipush (v := (-3)) hx hb d_Model_fail_49 (by decide) ?_
            have hk : k_Model_fail sm sk p1 p2 p3 p4 p5 = ((-3), sm, sk) := (hj.trans (by rw [k_Model_fail_j17]; rw [if_neg c_971]; rw [if_neg c_972]; rw [if_pos c_973]; rw [if_neg c_974]; try rfl))
            exact ct_ri hx hb hr hlocks hP hD hK hS d_Model_fail_51 (by rw [hk]; first | done | rfl) (by rw [hk]; first | done | rfl)
        · refine lv_iconst (v := (-1)) hx hb d_Model_fail_40 (by decide) ?_
          have hk : k_Model_fail sm sk p1 p2 p3 p4 p5 = ((-1), sm, sk) := (hj.trans (by rw [k_Model_fail_j17]; rw [if_neg c_971]; rw [if_neg c_972]; rw [if_neg c_973]; try rfl))
          exact ct_ri hx hb hr hlocks hP hD hK hS d_Model_fail_41 (by rw [hk]; first | done | rfl) (by rw [hk]; first | done | rfl)
  have J16 : ∀ (H : Heap) (locs : List Loc) (ls : Array Slot), k_Model_fail sm sk p1 p2 p3 p4 p5 = k_Model_fail_j16 sm sk p1 p2 p3 p4 p5 → va_P G.1 vwCl [(qm, .inr (6, f_Model qp qk sm)), (qk, .inl (cD, 512, .inl sk))] H → va_D A [(qm, .inr (6, f_Model qp qk sm)), (qk, .inl (cD, 512, .inl sk))] → va_S A s.heap H locs → lv_has ls 8 [(0, .ref qm), (1, .int p1), (2, .int p2), (3, .int (bI p3)), (4, .long p4), (6, .int (bI p5))] → W p l e ({ frames := 3, cells := 0, slots := 0, locals := 79 }) s m ([.ref qm, .int p1, .int p2, .int (bI p3), .long p4, .int (bI p5)] : List Value).toArray below meth c H locs 0 0 (MQ below (ct_qi G tys A ((k_Model_fail sm sk p1 p2 p3 p4 p5).1) [(qm, .inr (6, f_Model qp qk ((k_Model_fail sm sk p1 p2 p3 p4 p5).2.1))), (qk, .inl (cD, 512, .inl ((k_Model_fail sm sk p1 p2 p3 p4 p5).2.2)))]) ([.ref qm, .int p1, .int p2, .int (bI p3), .long p4, .int (bI p5)] : List Value).toArray s 0 0 A) (F0 m 16 ls []) := by
    intro H locs ls hj hP hD hS hl
    refine lv_iconst (v := 0) hx hb d_Model_fail_16 (by decide) ?_
    exact J17 false H locs ls (hj.trans (by rw [k_Model_fail_j16]; try rfl)) hP hD hS (lv_sub hl [0, 1, 2, 3, 4, 5] rfl)
  obtain ⟨H, eH⟩ : ∃ z, z = s.heap := ⟨_, rfl⟩
  obtain ⟨locs, eL⟩ : ∃ z, z = ([] : List Loc) := ⟨_, rfl⟩
  have hP : va_P G.1 vwCl [(qm, .inr (6, f_Model qp qk sm)), (qk, .inl (cD, 512, .inl sk))] H := by rw [eH]; exact hP
  have hS : va_S A s.heap H locs := by rw [eH, eL]; exact hS
  suffices hW : W p l e ({ frames := 3, cells := 0, slots := 0, locals := 79 }) s m ([.ref qm, .int p1, .int p2, .int (bI p3), .long p4, .int (bI p5)] : List Value).toArray below meth c H locs 0 0 (MQ below (ct_qi G tys A ((k_Model_fail sm sk p1 p2 p3 p4 p5).1) [(qm, .inr (6, f_Model qp qk ((k_Model_fail sm sk p1 p2 p3 p4 p5).2.1))), (qk, .inl (cD, 512, .inl ((k_Model_fail sm sk p1 p2 p3 p4 p5).2.2)))]) ([.ref qm, .int p1, .int p2, .int (bI p3), .long p4, .int (bI p5)] : List Value).toArray s 0 0 A) (F0 m 0 ls []) by rw [eH, eL] at hW; exact hW
  refine lv_iload_n hx hb d_Model_fail_0 rfl (lv_at hl 1 rfl) ?_
  refine ct_cSi (wr := [(qm, .inr (6, f_Model qp qk sm)), (qk, .inl (cD, 512, .inl sk))]) (w1 := []) (w2 := [(qm, .inr (6, f_Model qp qk sm)), (qk, .inl (cD, 512, .inl sk))]) (r := (bI (k_Model_isAddress p1))) (As := [.int p1]) (rest := []) ⟨hx, hb, hml, hown, hts⟩ (c_Model_isAddress l G tys p1) (va_cwS 1 hts (gdS gd_gd q_723 q_724 q_47 q_725) rfl rfl rfl (by decide +kernel) ⟨Nat.le_of_ble_eq_true rfl, Nat.le_of_ble_eq_true rfl⟩) hE hK hP hD hS hA [] [0, 1] [0, 1] rfl (by decide) rfl (by decide) (by decide) rfl (by decide) rfl hl.1 rfl (Nat.le_of_ble_eq_true rfl) d_Model_fail_1 ⟨Nat.zero_le _, Nat.zero_le _⟩ (fun H locs hP hD hS => ?_)
  refine lv_if_eq (tgt := 16) hx hb d_Model_fail_4 (by decide) (fun c_977 => ?_) (fun c_977 => ?_)
  · exact J16 H locs ls (by rw [k_Model_fail]; rw [if_pos c_977]; try rfl) hP hD hS (lv_sub hl [0, 1, 2, 3, 4, 5] rfl)
  · refine lv_iload_n hx hb d_Model_fail_7 rfl (lv_at hl 1 rfl) ?_
    refine lv_iconst (v := 3) hx hb d_Model_fail_8 (by decide) ?_
    refine lv_icmp_eq (tgt := 16) hx hb d_Model_fail_9 (by decide) (fun c_978 => ?_) (fun c_978 => ?_)
    · exact J16 H locs ls (by rw [k_Model_fail]; rw [if_neg c_977]; rw [if_pos c_978]; try rfl) hP hD hS (lv_sub hl [0, 1, 2, 3, 4, 5] rfl)
    · refine lv_iconst (v := 1) hx hb d_Model_fail_12 (by decide) ?_
      refine lv_goto (tgt := 17) hx hb d_Model_fail_13 (by decide) ?_
      exact J17 true H locs ls (by rw [k_Model_fail]; rw [if_neg c_977]; rw [if_neg c_978]; try rfl) hP hD hS (lv_sub hl [0, 1, 2, 3, 4, 5] rfl)
def k_Model_first (p1 : Int32) (p2 : Int32) (p3 : Int32) (p4 : Int32) : Int32 :=
  if ((p1 >>> ((p2 : Int32) &&& 31)) &&& 1) = 1 then p2 else (if ((p1 >>> ((p3 : Int32) &&& 31)) &&& 1) = 1 then p3 else (if ((p1 >>> ((p4 : Int32) &&& 31)) &&& 1) = 1 then p4 else (-1)))
set_option maxHeartbeats 4000000 in
set_option maxRecDepth 100000 in
theorem c_Model_first (l : Launch) (G : gx) (tys : List (ClassId × FieldType)) (p1 : Int32) (p2 : Int32) (p3 : Int32) (p4 : Int32) : ct_I l y_Model_first ws_Model_first ({ frames := 0, cells := 0, slots := 0, locals := 0 }) G tys [.int p1, .int p2, .int p3, .int p4] [] (k_Model_first p1 p2 p3 p4) [] := by
  refine ct_hI (cc := cc_Model_first) (maxL := 4) (ret := (some .int)) (by decide) rfl (Nat.le_of_ble_eq_true rfl) ?_
  intro p e s m below meth c A ls hx hb hr hml hts hown hlocks hP hK hD hA hE hS hl
  have hl : lv_has ls 4 [(0, .int p1), (1, .int p2), (2, .int p3), (3, .int p4)] := hl
  have hown : s.vm.findClass R_Model = some m.cls := hown
  refine lv_iload_n hx hb d_Model_first_0 rfl (lv_at hl 0 rfl) ?_
  refine lv_iload_n hx hb d_Model_first_1 rfl (lv_at hl 1 rfl) ?_
  refine lv_ishr hx hb d_Model_first_2 ?_
  refine lv_iconst (v := 1) hx hb d_Model_first_3 (by decide) ?_
  refine lv_iand hx hb d_Model_first_4 ?_
  refine lv_iconst (v := 1) hx hb d_Model_first_5 (by decide) ?_
  refine lv_icmp_ne (tgt := 13) hx hb d_Model_first_6 (by decide) (fun c_982 => ?_) (fun c_982 => ?_)
  · refine lv_iload_n hx hb d_Model_first_13 rfl (lv_at hl 0 rfl) ?_
    refine lv_iload_n hx hb d_Model_first_14 rfl (lv_at hl 2 rfl) ?_
    refine lv_ishr hx hb d_Model_first_15 ?_
    refine lv_iconst (v := 1) hx hb d_Model_first_16 (by decide) ?_
    refine lv_iand hx hb d_Model_first_17 ?_
    refine lv_iconst (v := 1) hx hb d_Model_first_18 (by decide) ?_
    refine lv_icmp_ne (tgt := 26) hx hb d_Model_first_19 (by decide) (fun c_983 => ?_) (fun c_983 => ?_)
    · refine lv_iload_n hx hb d_Model_first_26 rfl (lv_at hl 0 rfl) ?_
      refine lv_iload_n hx hb d_Model_first_27 rfl (lv_at hl 3 rfl) ?_
      refine lv_ishr hx hb d_Model_first_28 ?_
      refine lv_iconst (v := 1) hx hb d_Model_first_29 (by decide) ?_
      refine lv_iand hx hb d_Model_first_30 ?_
      refine lv_iconst (v := 1) hx hb d_Model_first_31 (by decide) ?_
      refine lv_icmp_ne (tgt := 39) hx hb d_Model_first_32 (by decide) (fun c_984 => ?_) (fun c_984 => ?_)
      · refine lv_iconst (v := (-1)) hx hb d_Model_first_39 (by decide) ?_
        have hk : k_Model_first p1 p2 p3 p4 = (-1) := (by rw [k_Model_first]; rw [if_neg c_982]; rw [if_neg c_983]; rw [if_neg c_984]; try rfl)
        exact ct_ri hx hb hr hlocks hP hD hK hS d_Model_first_40 (by rw [hk]; first | done | rfl) rfl
      · refine lv_iload_n hx hb d_Model_first_35 rfl (lv_at hl 3 rfl) ?_
        refine lv_goto (tgt := 40) hx hb d_Model_first_36 (by decide) ?_
        have hk : k_Model_first p1 p2 p3 p4 = p4 := (by rw [k_Model_first]; rw [if_neg c_982]; rw [if_neg c_983]; rw [if_pos c_984]; try rfl)
        exact ct_ri hx hb hr hlocks hP hD hK hS d_Model_first_40 (by rw [hk]; first | done | rfl) rfl
    · refine lv_iload_n hx hb d_Model_first_22 rfl (lv_at hl 2 rfl) ?_
      refine lv_goto (tgt := 40) hx hb d_Model_first_23 (by decide) ?_
      have hk : k_Model_first p1 p2 p3 p4 = p3 := (by rw [k_Model_first]; rw [if_neg c_982]; rw [if_pos c_983]; try rfl)
      exact ct_ri hx hb hr hlocks hP hD hK hS d_Model_first_40 (by rw [hk]; first | done | rfl) rfl
  · refine lv_iload_n hx hb d_Model_first_9 rfl (lv_at hl 1 rfl) ?_
    refine lv_goto (tgt := 40) hx hb d_Model_first_10 (by decide) ?_
    have hk : k_Model_first p1 p2 p3 p4 = p2 := (by rw [k_Model_first]; rw [if_pos c_982]; try rfl)
    exact ct_ri hx hb hr hlocks hP hD hK hS d_Model_first_40 (by rw [hk]; first | done | rfl) rfl
