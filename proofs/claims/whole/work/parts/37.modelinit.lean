def zf (f : Nat → Int32) (n : Nat) : Nat → Int32 := fun j => if j < n then 0 else f j
theorem zf_0 (f : Nat → Int32) : zf f 0 = f := by
  funext j
  simp [zf]
theorem zf_s (f : Nat → Int32) {k : Nat} (h : k < 512) : upd (zf f k) (nI k).toNatClampNeg 0 = zf f (k + 1) := by
  rw [nI_clamp (by omega)]
  funext j
  unfold upd zf
  by_cases h1 : j = k
  · rw [if_pos h1, if_pos (by omega)]
  · rw [if_neg h1]
    by_cases h2 : j < k
    · rw [if_pos h2, if_pos (by omega)]
    · rw [if_neg h2, if_neg (by omega)]
def k_Model_begin (sm : ob) (sk : Nat → Int32) : ob × (Nat → Int32) := ((oi (oi (oi (oi (oi (oi (oi (oi (oi (oi (oi (oz (oi (oi (oi (oi (oz (ol (ol (oi (oi sm 0 1) 1 0) 2 0) 3 9223372036854775807) 4 false) 5 0) 6 0) 7 0) 9 0) 10 false) 11 0) 12 0) 13 0) 15 0) 16 0) 17 0) 18 0) 19 0) 20 0) 21 0) 22 0), zf sk 512)
set_option maxHeartbeats 4000000 in
set_option maxRecDepth 100000 in
theorem c_Model_begin (l : Launch) (G : gx) (tys : List (ClassId × FieldType)) {cD : ClassId} (ht2 : tys[2]? = some (cD, .int)) (qm qk qp : Nat) (sm : ob) (sk : Nat → Int32) : ct_V l y_Model_begin ws_Model_begin ({ frames := 0, cells := 0, slots := 0, locals := 0 }) G tys [.ref qm] [(qm, .inr (6, f_Model qp qk sm)), (qk, .inl (cD, 512, .inl sk))] [(qm, .inr (6, f_Model qp qk ((k_Model_begin sm sk).1))), (qk, .inl (cD, 512, .inl ((k_Model_begin sm sk).2)))] := by
  refine ct_hV (cc := cc_Model_begin) (maxL := 2) (ret := none) (by decide) rfl (Nat.le_of_ble_eq_true rfl) ?_
  intro p e s m below meth c A ls hx hb hr hml hts hown hlocks hP hK hD hA hE hS hl
  have hl : lv_has ls 2 [(0, .ref qm)] := hl
  have hown : s.vm.findClass R_Model = some m.cls := hown
  have hL : ∀ (n k : Nat), k + n = 512 → ∀ (H : Heap) (locs : List Loc) (ls : Array Slot), va_P G.1 vwCl [(qm, .inr (6, f_Model qp qk (oi (oi (oi (oz (oi (oi (oi (oi (oz (ol (ol (oi (oi sm 0 1) 1 0) 2 0) 3 9223372036854775807) 4 false) 5 0) 6 0) 7 0) 9 0) 10 false) 11 0) 12 0) 13 0))), (qk, .inl (cD, 512, .inl (zf sk k)))] H → va_D A [(qm, .inr (6, f_Model qp qk (oi (oi (oi (oz (oi (oi (oi (oi (oz (ol (ol (oi (oi sm 0 1) 1 0) 2 0) 3 9223372036854775807) 4 false) 5 0) 6 0) 7 0) 9 0) 10 false) 11 0) 12 0) 13 0))), (qk, .inl (cD, 512, .inl (zf sk k)))] → va_S A s.heap H locs → lv_has ls 2 [(0, .ref qm), (1, .int (nI k))] → W p l e ({ frames := 0, cells := 0, slots := 0, locals := 0 }) s m ([.ref qm] : List Value).toArray below meth c H locs 0 0 (MQ below (ct_qv G tys A [(qm, .inr (6, f_Model qp qk ((k_Model_begin sm sk).1))), (qk, .inl (cD, 512, .inl ((k_Model_begin sm sk).2)))]) ([.ref qm] : List Value).toArray s 0 0 A) (F0 m 69 ls []) := by
    intro n
    induction n with
    | zero =>
      intro k hk H locs ls hP hD hS hl
      obtain rfl : k = 512 := by omega
      refine lv_iload_n hx hb d_Model_begin_69 rfl (lv_at hl 1 rfl) ?_
      refine lv_sipush (v := 512) hx hb d_Model_begin_70 (by decide) ?_
      refine lv_icmp_ge (tgt := 89) hx hb d_Model_begin_73 (by decide) (fun _ => ?_) (fun c9 => absurd (nI_le (a := 512) (b := 512) (Nat.le_refl _) (by decide)) c9)
      refine lv_aload_n hx hb d_Model_begin_89 rfl (lv_at hl 0 rfl) ?_
      refine lv_iconst (v := 0) hx hb d_Model_begin_90 (by decide) ?_
      refine va_put (D := G.1) (ci := 6) (v := .int 0) (ty := .int) (C := R_Model) (T := T_Model) (N := 23) hx hb hts (fun w h => gd_sub _ (iw_Model w h)) ty_Model tyok_Model nm_Model hown hK hP hD hS 0 rfl rfl 15 (by decide) (hts _ (gd_sub _ q_622)) (fun _ h9 => h9) rfl (by decide +kernel) rfl rfl (Nat.le_of_ble_eq_true rfl) d_Model_begin_91 (fun H locs hP hD hS => ?_)
      have hP : va_P G.1 vwCl [(qm, .inr (6, f_Model qp qk (oi (oi (oi (oi (oz (oi (oi (oi (oi (oz (ol (ol (oi (oi sm 0 1) 1 0) 2 0) 3 9223372036854775807) 4 false) 5 0) 6 0) 7 0) 9 0) 10 false) 11 0) 12 0) 13 0) 15 0))), (qk, .inl (cD, 512, .inl (zf sk 512)))] H := hP
      have hD : va_D A [(qm, .inr (6, f_Model qp qk (oi (oi (oi (oi (oz (oi (oi (oi (oi (oz (ol (ol (oi (oi sm 0 1) 1 0) 2 0) 3 9223372036854775807) 4 false) 5 0) 6 0) 7 0) 9 0) 10 false) 11 0) 12 0) 13 0) 15 0))), (qk, .inl (cD, 512, .inl (zf sk 512)))] := hD
      refine lv_aload_n hx hb d_Model_begin_94 rfl (lv_at hl 0 rfl) ?_
      refine lv_iconst (v := 0) hx hb d_Model_begin_95 (by decide) ?_
      refine va_put (D := G.1) (ci := 6) (v := .int 0) (ty := .int) (C := R_Model) (T := T_Model) (N := 23) hx hb hts (fun w h => gd_sub _ (iw_Model w h)) ty_Model tyok_Model nm_Model hown hK hP hD hS 0 rfl rfl 16 (by decide) (hts _ (gd_sub _ q_623)) (fun _ h9 => h9) rfl (by decide +kernel) rfl rfl (Nat.le_of_ble_eq_true rfl) d_Model_begin_96 (fun H locs hP hD hS => ?_)
      have hP : va_P G.1 vwCl [(qm, .inr (6, f_Model qp qk (oi (oi (oi (oi (oi (oz (oi (oi (oi (oi (oz (ol (ol (oi (oi sm 0 1) 1 0) 2 0) 3 9223372036854775807) 4 false) 5 0) 6 0) 7 0) 9 0) 10 false) 11 0) 12 0) 13 0) 15 0) 16 0))), (qk, .inl (cD, 512, .inl (zf sk 512)))] H := hP
      have hD : va_D A [(qm, .inr (6, f_Model qp qk (oi (oi (oi (oi (oi (oz (oi (oi (oi (oi (oz (ol (ol (oi (oi sm 0 1) 1 0) 2 0) 3 9223372036854775807) 4 false) 5 0) 6 0) 7 0) 9 0) 10 false) 11 0) 12 0) 13 0) 15 0) 16 0))), (qk, .inl (cD, 512, .inl (zf sk 512)))] := hD
      refine lv_aload_n hx hb d_Model_begin_99 rfl (lv_at hl 0 rfl) ?_
      refine lv_iconst (v := 0) hx hb d_Model_begin_100 (by decide) ?_
      refine va_put (D := G.1) (ci := 6) (v := .int 0) (ty := .int) (C := R_Model) (T := T_Model) (N := 23) hx hb hts (fun w h => gd_sub _ (iw_Model w h)) ty_Model tyok_Model nm_Model hown hK hP hD hS 0 rfl rfl 17 (by decide) (hts _ (gd_sub _ q_624)) (fun _ h9 => h9) rfl (by decide +kernel) rfl rfl (Nat.le_of_ble_eq_true rfl) d_Model_begin_101 (fun H locs hP hD hS => ?_)
      have hP : va_P G.1 vwCl [(qm, .inr (6, f_Model qp qk (oi (oi (oi (oi (oi (oi (oz (oi (oi (oi (oi (oz (ol (ol (oi (oi sm 0 1) 1 0) 2 0) 3 9223372036854775807) 4 false) 5 0) 6 0) 7 0) 9 0) 10 false) 11 0) 12 0) 13 0) 15 0) 16 0) 17 0))), (qk, .inl (cD, 512, .inl (zf sk 512)))] H := hP
      have hD : va_D A [(qm, .inr (6, f_Model qp qk (oi (oi (oi (oi (oi (oi (oz (oi (oi (oi (oi (oz (ol (ol (oi (oi sm 0 1) 1 0) 2 0) 3 9223372036854775807) 4 false) 5 0) 6 0) 7 0) 9 0) 10 false) 11 0) 12 0) 13 0) 15 0) 16 0) 17 0))), (qk, .inl (cD, 512, .inl (zf sk 512)))] := hD
      refine lv_aload_n hx hb d_Model_begin_104 rfl (lv_at hl 0 rfl) ?_
      refine lv_iconst (v := 0) hx hb d_Model_begin_105 (by decide) ?_
      refine va_put (D := G.1) (ci := 6) (v := .int 0) (ty := .int) (C := R_Model) (T := T_Model) (N := 23) hx hb hts (fun w h => gd_sub _ (iw_Model w h)) ty_Model tyok_Model nm_Model hown hK hP hD hS 0 rfl rfl 18 (by decide) (hts _ (gd_sub _ q_625)) (fun _ h9 => h9) rfl (by decide +kernel) rfl rfl (Nat.le_of_ble_eq_true rfl) d_Model_begin_106 (fun H locs hP hD hS => ?_)
      have hP : va_P G.1 vwCl [(qm, .inr (6, f_Model qp qk (oi (oi (oi (oi (oi (oi (oi (oz (oi (oi (oi (oi (oz (ol (ol (oi (oi sm 0 1) 1 0) 2 0) 3 9223372036854775807) 4 false) 5 0) 6 0) 7 0) 9 0) 10 false) 11 0) 12 0) 13 0) 15 0) 16 0) 17 0) 18 0))), (qk, .inl (cD, 512, .inl (zf sk 512)))] H := hP
      have hD : va_D A [(qm, .inr (6, f_Model qp qk (oi (oi (oi (oi (oi (oi (oi (oz (oi (oi (oi (oi (oz (ol (ol (oi (oi sm 0 1) 1 0) 2 0) 3 9223372036854775807) 4 false) 5 0) 6 0) 7 0) 9 0) 10 false) 11 0) 12 0) 13 0) 15 0) 16 0) 17 0) 18 0))), (qk, .inl (cD, 512, .inl (zf sk 512)))] := hD
      refine lv_aload_n hx hb d_Model_begin_109 rfl (lv_at hl 0 rfl) ?_
      refine lv_iconst (v := 0) hx hb d_Model_begin_110 (by decide) ?_
      refine va_put (D := G.1) (ci := 6) (v := .int 0) (ty := .int) (C := R_Model) (T := T_Model) (N := 23) hx hb hts (fun w h => gd_sub _ (iw_Model w h)) ty_Model tyok_Model nm_Model hown hK hP hD hS 0 rfl rfl 19 (by decide) (hts _ (gd_sub _ q_626)) (fun _ h9 => h9) rfl (by decide +kernel) rfl rfl (Nat.le_of_ble_eq_true rfl) d_Model_begin_111 (fun H locs hP hD hS => ?_)
      have hP : va_P G.1 vwCl [(qm, .inr (6, f_Model qp qk (oi (oi (oi (oi (oi (oi (oi (oi (oz (oi (oi (oi (oi (oz (ol (ol (oi (oi sm 0 1) 1 0) 2 0) 3 9223372036854775807) 4 false) 5 0) 6 0) 7 0) 9 0) 10 false) 11 0) 12 0) 13 0) 15 0) 16 0) 17 0) 18 0) 19 0))), (qk, .inl (cD, 512, .inl (zf sk 512)))] H := hP
      have hD : va_D A [(qm, .inr (6, f_Model qp qk (oi (oi (oi (oi (oi (oi (oi (oi (oz (oi (oi (oi (oi (oz (ol (ol (oi (oi sm 0 1) 1 0) 2 0) 3 9223372036854775807) 4 false) 5 0) 6 0) 7 0) 9 0) 10 false) 11 0) 12 0) 13 0) 15 0) 16 0) 17 0) 18 0) 19 0))), (qk, .inl (cD, 512, .inl (zf sk 512)))] := hD
      refine lv_aload_n hx hb d_Model_begin_114 rfl (lv_at hl 0 rfl) ?_
      refine lv_iconst (v := 0) hx hb d_Model_begin_115 (by decide) ?_
      refine va_put (D := G.1) (ci := 6) (v := .int 0) (ty := .int) (C := R_Model) (T := T_Model) (N := 23) hx hb hts (fun w h => gd_sub _ (iw_Model w h)) ty_Model tyok_Model nm_Model hown hK hP hD hS 0 rfl rfl 20 (by decide) (hts _ (gd_sub _ q_627)) (fun _ h9 => h9) rfl (by decide +kernel) rfl rfl (Nat.le_of_ble_eq_true rfl) d_Model_begin_116 (fun H locs hP hD hS => ?_)
      have hP : va_P G.1 vwCl [(qm, .inr (6, f_Model qp qk (oi (oi (oi (oi (oi (oi (oi (oi (oi (oz (oi (oi (oi (oi (oz (ol (ol (oi (oi sm 0 1) 1 0) 2 0) 3 9223372036854775807) 4 false) 5 0) 6 0) 7 0) 9 0) 10 false) 11 0) 12 0) 13 0) 15 0) 16 0) 17 0) 18 0) 19 0) 20 0))), (qk, .inl (cD, 512, .inl (zf sk 512)))] H := hP
      have hD : va_D A [(qm, .inr (6, f_Model qp qk (oi (oi (oi (oi (oi (oi (oi (oi (oi (oz (oi (oi (oi (oi (oz (ol (ol (oi (oi sm 0 1) 1 0) 2 0) 3 9223372036854775807) 4 false) 5 0) 6 0) 7 0) 9 0) 10 false) 11 0) 12 0) 13 0) 15 0) 16 0) 17 0) 18 0) 19 0) 20 0))), (qk, .inl (cD, 512, .inl (zf sk 512)))] := hD
      refine lv_aload_n hx hb d_Model_begin_119 rfl (lv_at hl 0 rfl) ?_
      refine lv_iconst (v := 0) hx hb d_Model_begin_120 (by decide) ?_
      refine va_put (D := G.1) (ci := 6) (v := .int 0) (ty := .int) (C := R_Model) (T := T_Model) (N := 23) hx hb hts (fun w h => gd_sub _ (iw_Model w h)) ty_Model tyok_Model nm_Model hown hK hP hD hS 0 rfl rfl 21 (by decide) (hts _ (gd_sub _ q_628)) (fun _ h9 => h9) rfl (by decide +kernel) rfl rfl (Nat.le_of_ble_eq_true rfl) d_Model_begin_121 (fun H locs hP hD hS => ?_)
      have hP : va_P G.1 vwCl [(qm, .inr (6, f_Model qp qk (oi (oi (oi (oi (oi (oi (oi (oi (oi (oi (oz (oi (oi (oi (oi (oz (ol (ol (oi (oi sm 0 1) 1 0) 2 0) 3 9223372036854775807) 4 false) 5 0) 6 0) 7 0) 9 0) 10 false) 11 0) 12 0) 13 0) 15 0) 16 0) 17 0) 18 0) 19 0) 20 0) 21 0))), (qk, .inl (cD, 512, .inl (zf sk 512)))] H := hP
      have hD : va_D A [(qm, .inr (6, f_Model qp qk (oi (oi (oi (oi (oi (oi (oi (oi (oi (oi (oz (oi (oi (oi (oi (oz (ol (ol (oi (oi sm 0 1) 1 0) 2 0) 3 9223372036854775807) 4 false) 5 0) 6 0) 7 0) 9 0) 10 false) 11 0) 12 0) 13 0) 15 0) 16 0) 17 0) 18 0) 19 0) 20 0) 21 0))), (qk, .inl (cD, 512, .inl (zf sk 512)))] := hD
      refine lv_aload_n hx hb d_Model_begin_124 rfl (lv_at hl 0 rfl) ?_
      refine lv_iconst (v := 0) hx hb d_Model_begin_125 (by decide) ?_
      refine va_put (D := G.1) (ci := 6) (v := .int 0) (ty := .int) (C := R_Model) (T := T_Model) (N := 23) hx hb hts (fun w h => gd_sub _ (iw_Model w h)) ty_Model tyok_Model nm_Model hown hK hP hD hS 0 rfl rfl 22 (by decide) (hts _ (gd_sub _ q_629)) (fun _ h9 => h9) rfl (by decide +kernel) rfl rfl (Nat.le_of_ble_eq_true rfl) d_Model_begin_126 (fun H locs hP hD hS => ?_)
      have hP : va_P G.1 vwCl [(qm, .inr (6, f_Model qp qk (oi (oi (oi (oi (oi (oi (oi (oi (oi (oi (oi (oz (oi (oi (oi (oi (oz (ol (ol (oi (oi sm 0 1) 1 0) 2 0) 3 9223372036854775807) 4 false) 5 0) 6 0) 7 0) 9 0) 10 false) 11 0) 12 0) 13 0) 15 0) 16 0) 17 0) 18 0) 19 0) 20 0) 21 0) 22 0))), (qk, .inl (cD, 512, .inl (zf sk 512)))] H := hP
      have hD : va_D A [(qm, .inr (6, f_Model qp qk (oi (oi (oi (oi (oi (oi (oi (oi (oi (oi (oi (oz (oi (oi (oi (oi (oz (ol (ol (oi (oi sm 0 1) 1 0) 2 0) 3 9223372036854775807) 4 false) 5 0) 6 0) 7 0) 9 0) 10 false) 11 0) 12 0) 13 0) 15 0) 16 0) 17 0) 18 0) 19 0) 20 0) 21 0) 22 0))), (qk, .inl (cD, 512, .inl (zf sk 512)))] := hD
      exact ct_rv hx hb hr hlocks hP hD hK hS d_Model_begin_129 rfl
    | succ n ih =>
      intro k hk H locs ls hP hD hS hl
      refine lv_iload_n hx hb d_Model_begin_69 rfl (lv_at hl 1 rfl) ?_
      refine lv_sipush (v := 512) hx hb d_Model_begin_70 (by decide) ?_
      refine lv_icmp_ge (tgt := 89) hx hb d_Model_begin_73 (by decide) (fun c9 => absurd c9 (nI_ge (a := k) (b := 512) (by omega) (by decide))) (fun _ => ?_)
      refine lv_aload_n hx hb d_Model_begin_76 rfl (lv_at hl 0 rfl) ?_
      refine va_get (D := G.1) (ci := 6) (v := .ref qk) (C := R_Model) (T := T_Model) (N := 23) hx hb hts (fun w h => gd_sub _ (iw_Model w h)) hown hK hP 0 rfl rfl 14 (by decide) (hts _ (gd_sub _ q_621)) (fun _ h9 => h9) rfl d_Model_begin_77 ?_
      refine lv_iload_n hx hb d_Model_begin_80 rfl (lv_at hl 1 rfl) ?_
      refine lv_iconst (v := 0) hx hb d_Model_begin_81 (by decide) ?_
      refine va_iast hx hb hK hP hD hS 1 2 rfl ht2 (vp_in_nI (by omega) (by decide)) d_Model_begin_82 (fun H locs hP hD hS => ?_)
      have hP : va_P G.1 vwCl [(qm, .inr (6, f_Model qp qk (oi (oi (oi (oz (oi (oi (oi (oi (oz (ol (ol (oi (oi sm 0 1) 1 0) 2 0) 3 9223372036854775807) 4 false) 5 0) 6 0) 7 0) 9 0) 10 false) 11 0) 12 0) 13 0))), (qk, .inl (cD, 512, .inl (upd (zf sk k) (nI k).toNatClampNeg 0)))] H := hP
      have hD : va_D A [(qm, .inr (6, f_Model qp qk (oi (oi (oi (oz (oi (oi (oi (oi (oz (ol (ol (oi (oi sm 0 1) 1 0) 2 0) 3 9223372036854775807) 4 false) 5 0) 6 0) 7 0) 9 0) 10 false) 11 0) 12 0) 13 0))), (qk, .inl (cD, 512, .inl (upd (zf sk k) (nI k).toNatClampNeg 0)))] := hD
      rw [zf_s sk (by omega)] at hP hD
      refine lv_iinc (v := nI (k + 1)) (lv' := [(1, .int (nI (k + 1))), (0, .ref qm)]) hx hb d_Model_begin_83 hl (k := 1) rfl (nI_1 k) (by decide) rfl (fun ls hl => ?_)
      refine lv_goto (tgt := 69) hx hb d_Model_begin_86 (by decide) ?_
      exact ih (k + 1) (by omega) H locs ls hP hD hS (lv_sub hl [1, 0] rfl)
  refine lv_aload_n hx hb d_Model_begin_0 rfl (lv_at hl 0 rfl) ?_
  refine lv_iconst (v := 1) hx hb d_Model_begin_1 (by decide) ?_
  refine va_put (D := G.1) (ci := 6) (v := .int 1) (ty := .int) (C := R_Model) (T := T_Model) (N := 23) hx hb hts (fun w h => gd_sub _ (iw_Model w h)) ty_Model tyok_Model nm_Model hown hK hP hD hS 0 rfl rfl 0 (by decide) (hts _ (gd_sub _ q_607)) (fun _ h9 => h9) rfl (by decide +kernel) rfl rfl (Nat.le_of_ble_eq_true rfl) d_Model_begin_2 (fun H locs hP hD hS => ?_)
  have hP : va_P G.1 vwCl [(qm, .inr (6, f_Model qp qk (oi sm 0 1))), (qk, .inl (cD, 512, .inl sk))] H := hP
  have hD : va_D A [(qm, .inr (6, f_Model qp qk (oi sm 0 1))), (qk, .inl (cD, 512, .inl sk))] := hD
  refine lv_aload_n hx hb d_Model_begin_5 rfl (lv_at hl 0 rfl) ?_
  refine lv_iconst (v := 0) hx hb d_Model_begin_6 (by decide) ?_
  refine va_put (D := G.1) (ci := 6) (v := .int 0) (ty := .int) (C := R_Model) (T := T_Model) (N := 23) hx hb hts (fun w h => gd_sub _ (iw_Model w h)) ty_Model tyok_Model nm_Model hown hK hP hD hS 0 rfl rfl 1 (by decide) (hts _ (gd_sub _ q_608)) (fun _ h9 => h9) rfl (by decide +kernel) rfl rfl (Nat.le_of_ble_eq_true rfl) d_Model_begin_7 (fun H locs hP hD hS => ?_)
  have hP : va_P G.1 vwCl [(qm, .inr (6, f_Model qp qk (oi (oi sm 0 1) 1 0))), (qk, .inl (cD, 512, .inl sk))] H := hP
  have hD : va_D A [(qm, .inr (6, f_Model qp qk (oi (oi sm 0 1) 1 0))), (qk, .inl (cD, 512, .inl sk))] := hD
  refine lv_aload_n hx hb d_Model_begin_10 rfl (lv_at hl 0 rfl) ?_
  refine lv_lconst (v := 0) hx hb d_Model_begin_11 (by decide) ?_
  refine va_put (D := G.1) (ci := 6) (v := .long 0) (ty := .long) (C := R_Model) (T := T_Model) (N := 23) hx hb hts (fun w h => gd_sub _ (iw_Model w h)) ty_Model tyok_Model nm_Model hown hK hP hD hS 0 rfl rfl 2 (by decide) (hts _ (gd_sub _ q_609)) (fun _ h9 => h9) rfl (by decide +kernel) rfl rfl (Nat.le_of_ble_eq_true rfl) d_Model_begin_12 (fun H locs hP hD hS => ?_)
  have hP : va_P G.1 vwCl [(qm, .inr (6, f_Model qp qk (ol (oi (oi sm 0 1) 1 0) 2 0))), (qk, .inl (cD, 512, .inl sk))] H := hP
  have hD : va_D A [(qm, .inr (6, f_Model qp qk (ol (oi (oi sm 0 1) 1 0) 2 0))), (qk, .inl (cD, 512, .inl sk))] := hD
  refine lv_aload_n hx hb d_Model_begin_15 rfl (lv_at hl 0 rfl) ?_
  refine lv_ldc2 (v := 9223372036854775807) hx hb hown (hts _ (gd_sub _ q_606)) d_Model_begin_16 ?_
  refine va_put (D := G.1) (ci := 6) (v := .long 9223372036854775807) (ty := .long) (C := R_Model) (T := T_Model) (N := 23) hx hb hts (fun w h => gd_sub _ (iw_Model w h)) ty_Model tyok_Model nm_Model hown hK hP hD hS 0 rfl rfl 3 (by decide) (hts _ (gd_sub _ q_610)) (fun _ h9 => h9) rfl (by decide +kernel) rfl rfl (Nat.le_of_ble_eq_true rfl) d_Model_begin_19 (fun H locs hP hD hS => ?_)
  have hP : va_P G.1 vwCl [(qm, .inr (6, f_Model qp qk (ol (ol (oi (oi sm 0 1) 1 0) 2 0) 3 9223372036854775807))), (qk, .inl (cD, 512, .inl sk))] H := hP
  have hD : va_D A [(qm, .inr (6, f_Model qp qk (ol (ol (oi (oi sm 0 1) 1 0) 2 0) 3 9223372036854775807))), (qk, .inl (cD, 512, .inl sk))] := hD
  refine lv_aload_n hx hb d_Model_begin_22 rfl (lv_at hl 0 rfl) ?_
  refine lv_iconst (v := 0) hx hb d_Model_begin_23 (by decide) ?_
  refine va_put (D := G.1) (ci := 6) (v := .int 0) (ty := .boolean) (C := R_Model) (T := T_Model) (N := 23) hx hb hts (fun w h => gd_sub _ (iw_Model w h)) ty_Model tyok_Model nm_Model hown hK hP hD hS 0 rfl rfl 4 (by decide) (hts _ (gd_sub _ q_611)) (fun _ h9 => h9) rfl (by decide +kernel) rfl rfl (Nat.le_of_ble_eq_true rfl) d_Model_begin_24 (fun H locs hP hD hS => ?_)
  have hP : va_P G.1 vwCl [(qm, .inr (6, f_Model qp qk (oz (ol (ol (oi (oi sm 0 1) 1 0) 2 0) 3 9223372036854775807) 4 false))), (qk, .inl (cD, 512, .inl sk))] H := hP
  have hD : va_D A [(qm, .inr (6, f_Model qp qk (oz (ol (ol (oi (oi sm 0 1) 1 0) 2 0) 3 9223372036854775807) 4 false))), (qk, .inl (cD, 512, .inl sk))] := hD
  refine lv_aload_n hx hb d_Model_begin_27 rfl (lv_at hl 0 rfl) ?_
  refine lv_iconst (v := 0) hx hb d_Model_begin_28 (by decide) ?_
  refine va_put (D := G.1) (ci := 6) (v := .int 0) (ty := .int) (C := R_Model) (T := T_Model) (N := 23) hx hb hts (fun w h => gd_sub _ (iw_Model w h)) ty_Model tyok_Model nm_Model hown hK hP hD hS 0 rfl rfl 5 (by decide) (hts _ (gd_sub _ q_612)) (fun _ h9 => h9) rfl (by decide +kernel) rfl rfl (Nat.le_of_ble_eq_true rfl) d_Model_begin_29 (fun H locs hP hD hS => ?_)
  have hP : va_P G.1 vwCl [(qm, .inr (6, f_Model qp qk (oi (oz (ol (ol (oi (oi sm 0 1) 1 0) 2 0) 3 9223372036854775807) 4 false) 5 0))), (qk, .inl (cD, 512, .inl sk))] H := hP
  have hD : va_D A [(qm, .inr (6, f_Model qp qk (oi (oz (ol (ol (oi (oi sm 0 1) 1 0) 2 0) 3 9223372036854775807) 4 false) 5 0))), (qk, .inl (cD, 512, .inl sk))] := hD
  refine lv_aload_n hx hb d_Model_begin_32 rfl (lv_at hl 0 rfl) ?_
  refine lv_iconst (v := 0) hx hb d_Model_begin_33 (by decide) ?_
  refine va_put (D := G.1) (ci := 6) (v := .int 0) (ty := .int) (C := R_Model) (T := T_Model) (N := 23) hx hb hts (fun w h => gd_sub _ (iw_Model w h)) ty_Model tyok_Model nm_Model hown hK hP hD hS 0 rfl rfl 6 (by decide) (hts _ (gd_sub _ q_613)) (fun _ h9 => h9) rfl (by decide +kernel) rfl rfl (Nat.le_of_ble_eq_true rfl) d_Model_begin_34 (fun H locs hP hD hS => ?_)
  have hP : va_P G.1 vwCl [(qm, .inr (6, f_Model qp qk (oi (oi (oz (ol (ol (oi (oi sm 0 1) 1 0) 2 0) 3 9223372036854775807) 4 false) 5 0) 6 0))), (qk, .inl (cD, 512, .inl sk))] H := hP
  have hD : va_D A [(qm, .inr (6, f_Model qp qk (oi (oi (oz (ol (ol (oi (oi sm 0 1) 1 0) 2 0) 3 9223372036854775807) 4 false) 5 0) 6 0))), (qk, .inl (cD, 512, .inl sk))] := hD
  refine lv_aload_n hx hb d_Model_begin_37 rfl (lv_at hl 0 rfl) ?_
  refine lv_iconst (v := 0) hx hb d_Model_begin_38 (by decide) ?_
  refine va_put (D := G.1) (ci := 6) (v := .int 0) (ty := .int) (C := R_Model) (T := T_Model) (N := 23) hx hb hts (fun w h => gd_sub _ (iw_Model w h)) ty_Model tyok_Model nm_Model hown hK hP hD hS 0 rfl rfl 7 (by decide) (hts _ (gd_sub _ q_614)) (fun _ h9 => h9) rfl (by decide +kernel) rfl rfl (Nat.le_of_ble_eq_true rfl) d_Model_begin_39 (fun H locs hP hD hS => ?_)
  have hP : va_P G.1 vwCl [(qm, .inr (6, f_Model qp qk (oi (oi (oi (oz (ol (ol (oi (oi sm 0 1) 1 0) 2 0) 3 9223372036854775807) 4 false) 5 0) 6 0) 7 0))), (qk, .inl (cD, 512, .inl sk))] H := hP
  have hD : va_D A [(qm, .inr (6, f_Model qp qk (oi (oi (oi (oz (ol (ol (oi (oi sm 0 1) 1 0) 2 0) 3 9223372036854775807) 4 false) 5 0) 6 0) 7 0))), (qk, .inl (cD, 512, .inl sk))] := hD
  refine lv_aload_n hx hb d_Model_begin_42 rfl (lv_at hl 0 rfl) ?_
  refine lv_iconst (v := 0) hx hb d_Model_begin_43 (by decide) ?_
  refine va_put (D := G.1) (ci := 6) (v := .int 0) (ty := .int) (C := R_Model) (T := T_Model) (N := 23) hx hb hts (fun w h => gd_sub _ (iw_Model w h)) ty_Model tyok_Model nm_Model hown hK hP hD hS 0 rfl rfl 9 (by decide) (hts _ (gd_sub _ q_616)) (fun _ h9 => h9) rfl (by decide +kernel) rfl rfl (Nat.le_of_ble_eq_true rfl) d_Model_begin_44 (fun H locs hP hD hS => ?_)
  have hP : va_P G.1 vwCl [(qm, .inr (6, f_Model qp qk (oi (oi (oi (oi (oz (ol (ol (oi (oi sm 0 1) 1 0) 2 0) 3 9223372036854775807) 4 false) 5 0) 6 0) 7 0) 9 0))), (qk, .inl (cD, 512, .inl sk))] H := hP
  have hD : va_D A [(qm, .inr (6, f_Model qp qk (oi (oi (oi (oi (oz (ol (ol (oi (oi sm 0 1) 1 0) 2 0) 3 9223372036854775807) 4 false) 5 0) 6 0) 7 0) 9 0))), (qk, .inl (cD, 512, .inl sk))] := hD
  refine lv_aload_n hx hb d_Model_begin_47 rfl (lv_at hl 0 rfl) ?_
  refine lv_iconst (v := 0) hx hb d_Model_begin_48 (by decide) ?_
  refine va_put (D := G.1) (ci := 6) (v := .int 0) (ty := .boolean) (C := R_Model) (T := T_Model) (N := 23) hx hb hts (fun w h => gd_sub _ (iw_Model w h)) ty_Model tyok_Model nm_Model hown hK hP hD hS 0 rfl rfl 10 (by decide) (hts _ (gd_sub _ q_617)) (fun _ h9 => h9) rfl (by decide +kernel) rfl rfl (Nat.le_of_ble_eq_true rfl) d_Model_begin_49 (fun H locs hP hD hS => ?_)
  have hP : va_P G.1 vwCl [(qm, .inr (6, f_Model qp qk (oz (oi (oi (oi (oi (oz (ol (ol (oi (oi sm 0 1) 1 0) 2 0) 3 9223372036854775807) 4 false) 5 0) 6 0) 7 0) 9 0) 10 false))), (qk, .inl (cD, 512, .inl sk))] H := hP
  have hD : va_D A [(qm, .inr (6, f_Model qp qk (oz (oi (oi (oi (oi (oz (ol (ol (oi (oi sm 0 1) 1 0) 2 0) 3 9223372036854775807) 4 false) 5 0) 6 0) 7 0) 9 0) 10 false))), (qk, .inl (cD, 512, .inl sk))] := hD
  refine lv_aload_n hx hb d_Model_begin_52 rfl (lv_at hl 0 rfl) ?_
  refine lv_iconst (v := 0) hx hb d_Model_begin_53 (by decide) ?_
  refine va_put (D := G.1) (ci := 6) (v := .int 0) (ty := .int) (C := R_Model) (T := T_Model) (N := 23) hx hb hts (fun w h => gd_sub _ (iw_Model w h)) ty_Model tyok_Model nm_Model hown hK hP hD hS 0 rfl rfl 11 (by decide) (hts _ (gd_sub _ q_618)) (fun _ h9 => h9) rfl (by decide +kernel) rfl rfl (Nat.le_of_ble_eq_true rfl) d_Model_begin_54 (fun H locs hP hD hS => ?_)
  have hP : va_P G.1 vwCl [(qm, .inr (6, f_Model qp qk (oi (oz (oi (oi (oi (oi (oz (ol (ol (oi (oi sm 0 1) 1 0) 2 0) 3 9223372036854775807) 4 false) 5 0) 6 0) 7 0) 9 0) 10 false) 11 0))), (qk, .inl (cD, 512, .inl sk))] H := hP
  have hD : va_D A [(qm, .inr (6, f_Model qp qk (oi (oz (oi (oi (oi (oi (oz (ol (ol (oi (oi sm 0 1) 1 0) 2 0) 3 9223372036854775807) 4 false) 5 0) 6 0) 7 0) 9 0) 10 false) 11 0))), (qk, .inl (cD, 512, .inl sk))] := hD
  refine lv_aload_n hx hb d_Model_begin_57 rfl (lv_at hl 0 rfl) ?_
  refine lv_iconst (v := 0) hx hb d_Model_begin_58 (by decide) ?_
  refine va_put (D := G.1) (ci := 6) (v := .int 0) (ty := .int) (C := R_Model) (T := T_Model) (N := 23) hx hb hts (fun w h => gd_sub _ (iw_Model w h)) ty_Model tyok_Model nm_Model hown hK hP hD hS 0 rfl rfl 12 (by decide) (hts _ (gd_sub _ q_619)) (fun _ h9 => h9) rfl (by decide +kernel) rfl rfl (Nat.le_of_ble_eq_true rfl) d_Model_begin_59 (fun H locs hP hD hS => ?_)
  have hP : va_P G.1 vwCl [(qm, .inr (6, f_Model qp qk (oi (oi (oz (oi (oi (oi (oi (oz (ol (ol (oi (oi sm 0 1) 1 0) 2 0) 3 9223372036854775807) 4 false) 5 0) 6 0) 7 0) 9 0) 10 false) 11 0) 12 0))), (qk, .inl (cD, 512, .inl sk))] H := hP
  have hD : va_D A [(qm, .inr (6, f_Model qp qk (oi (oi (oz (oi (oi (oi (oi (oz (ol (ol (oi (oi sm 0 1) 1 0) 2 0) 3 9223372036854775807) 4 false) 5 0) 6 0) 7 0) 9 0) 10 false) 11 0) 12 0))), (qk, .inl (cD, 512, .inl sk))] := hD
  refine lv_aload_n hx hb d_Model_begin_62 rfl (lv_at hl 0 rfl) ?_
  refine lv_iconst (v := 0) hx hb d_Model_begin_63 (by decide) ?_
  refine va_put (D := G.1) (ci := 6) (v := .int 0) (ty := .int) (C := R_Model) (T := T_Model) (N := 23) hx hb hts (fun w h => gd_sub _ (iw_Model w h)) ty_Model tyok_Model nm_Model hown hK hP hD hS 0 rfl rfl 13 (by decide) (hts _ (gd_sub _ q_620)) (fun _ h9 => h9) rfl (by decide +kernel) rfl rfl (Nat.le_of_ble_eq_true rfl) d_Model_begin_64 (fun H locs hP hD hS => ?_)
  have hP : va_P G.1 vwCl [(qm, .inr (6, f_Model qp qk (oi (oi (oi (oz (oi (oi (oi (oi (oz (ol (ol (oi (oi sm 0 1) 1 0) 2 0) 3 9223372036854775807) 4 false) 5 0) 6 0) 7 0) 9 0) 10 false) 11 0) 12 0) 13 0))), (qk, .inl (cD, 512, .inl sk))] H := hP
  have hD : va_D A [(qm, .inr (6, f_Model qp qk (oi (oi (oi (oz (oi (oi (oi (oi (oz (ol (ol (oi (oi sm 0 1) 1 0) 2 0) 3 9223372036854775807) 4 false) 5 0) 6 0) 7 0) 9 0) 10 false) 11 0) 12 0) 13 0))), (qk, .inl (cD, 512, .inl sk))] := hD
  refine lv_iconst (v := 0) hx hb d_Model_begin_67 (by decide) ?_
  refine lv_istore_n (lv' := [(1, .int 0), (0, .ref qm)]) hx hb d_Model_begin_68 rfl hl (by decide) rfl (fun ls hl => ?_)
  have hP : va_P G.1 vwCl [(qm, .inr (6, f_Model qp qk (oi (oi (oi (oz (oi (oi (oi (oi (oz (ol (ol (oi (oi sm 0 1) 1 0) 2 0) 3 9223372036854775807) 4 false) 5 0) 6 0) 7 0) 9 0) 10 false) 11 0) 12 0) 13 0))), (qk, .inl (cD, 512, .inl (zf sk 0)))] H := by rw [zf_0]; exact hP
  have hD : va_D A [(qm, .inr (6, f_Model qp qk (oi (oi (oi (oz (oi (oi (oi (oi (oz (ol (ol (oi (oi sm 0 1) 1 0) 2 0) 3 9223372036854775807) 4 false) 5 0) 6 0) 7 0) 9 0) 10 false) 11 0) 12 0) 13 0))), (qk, .inl (cD, 512, .inl (zf sk 0)))] := by rw [zf_0]; exact hD
  exact hL 512 0 rfl H locs ls hP hD hS (lv_sub hl [1, 0] rfl)
set_option maxHeartbeats 4000000 in
set_option maxRecDepth 100000 in
theorem c_Model_init (l : Launch) (G : gx) (cA : ClassId) (qm : Nat) : ct_N (Sg := Nat × Nat × ClassId × ClassId) l y_Model_init ws_Model_init ({ frames := 1, cells := 2, slots := 768, locals := 21 }) G [(cA, .byte)] [.ref qm] [(qm, .inr (6, [.int 0, .int 0, .long 0, .long 0, .int 0, .int 0, .int 0, .int 0, .null, .int 0, .int 0, .int 0, .int 0, .int 0, .null, .int 0, .int 0, .int 0, .int 0, .int 0, .int 0, .int 0, .int 0]))] 2 768 (fun u => [(cA, .byte), (u.2.2.1, .int), (u.2.2.2, .int)]) (fun u => [(qm, .inr (6, f_Model u.1 u.2.1 (k_Model_begin o0 (fun _ => 0)).1)), (u.1, .inl (u.2.2.1, 256, .inl (fun _ => 0))), (u.2.1, .inl (u.2.2.2, 512, .inl (k_Model_begin o0 (fun _ => 0)).2))]) := by
  refine ct_hN (cc := cc_Model_init) (maxL := 1) (ret := none) (by decide) rfl (Nat.le_of_ble_eq_true rfl) ?_
  intro p e s m below meth c A ls hx hb hr hml hts hown hlocks hin hP hK hD hA hE hS hl
  have hl : lv_has ls 1 [(0, .ref qm)] := hl
  have hown : s.vm.findClass R_Model = some m.cls := hown
  refine lv_aload_n hx hb d_Model_init_0 rfl (lv_at hl 0 rfl) ?_
  refine W.objInit hx hb hown (hts _ (gd_sub _ q_601)) (hts _ (gd_sub _ q_55)) (hts _ (gd_sub _ q_56)) rfl (by rw [hml]; exact hl.1) rfl d_Model_init_1 (Nat.le_of_ble_eq_true rfl) (Nat.le_of_ble_eq_true rfl) ?_
  refine W.eq (g2 := F0 m 4 ls []) rfl ?_
  refine lv_aload_n hx hb d_Model_init_4 rfl (lv_at hl 0 rfl) ?_
  refine lv_sipush (v := 256) hx hb d_Model_init_5 (by decide) ?_
  refine va_newa (atype := .int) (ty := .int) (a0 := (256, .inl (fun _ => 0))) (N' := 256) hx hb (hts _ (gd_sub _ q_677)) rfl hK hP hD hS hA (fun _ => rfl) (by decide) (by decide) (by decide) (Nat.le_of_ble_eq_true rfl) (Nat.le_of_ble_eq_true rfl) d_Model_init_8 (fun qp cB H hK hP hD hS => ?_)
  have hP : va_P G.1 vwCl [(qm, .inr (6, [.int 0, .int 0, .long 0, .long 0, .int 0, .int 0, .int 0, .int 0, .null, .int 0, .int 0, .int 0, .int 0, .int 0, .null, .int 0, .int 0, .int 0, .int 0, .int 0, .int 0, .int 0, .int 0])), (qp, .inl (cB, 256, .inl (fun _ => 0)))] H := hP
  have hD : va_D A [(qm, .inr (6, [.int 0, .int 0, .long 0, .long 0, .int 0, .int 0, .int 0, .int 0, .null, .int 0, .int 0, .int 0, .int 0, .int 0, .null, .int 0, .int 0, .int 0, .int 0, .int 0, .int 0, .int 0, .int 0])), (qp, .inl (cB, 256, .inl (fun _ => 0)))] := hD
  refine va_putF (D := G.1) (ci := 6) (v := .ref qp) (ty := .array .int) (C := R_Model) (T := T_Model) (N := 23) hx hb hts (fun w h => gd_sub _ (iw_Model w h)) ty_Model tyok_Model nm_Model hown hK hP hD hS 0 rfl rfl 8 (by decide) (hts _ (gd_sub _ q_615)) (fun _ h9 => h9) rfl hin rfl (by decide +kernel) rfl rfl (Nat.le_of_ble_eq_true rfl) d_Model_init_10 (fun H locs hP hD hS => ?_)
  have hP : va_P G.1 vwCl [(qm, .inr (6, [.int 0, .int 0, .long 0, .long 0, .int 0, .int 0, .int 0, .int 0, .ref qp, .int 0, .int 0, .int 0, .int 0, .int 0, .null, .int 0, .int 0, .int 0, .int 0, .int 0, .int 0, .int 0, .int 0])), (qp, .inl (cB, 256, .inl (fun _ => 0)))] H := hP
  have hD : va_D A [(qm, .inr (6, [.int 0, .int 0, .long 0, .long 0, .int 0, .int 0, .int 0, .int 0, .ref qp, .int 0, .int 0, .int 0, .int 0, .int 0, .null, .int 0, .int 0, .int 0, .int 0, .int 0, .int 0, .int 0, .int 0])), (qp, .inl (cB, 256, .inl (fun _ => 0)))] := hD
  refine lv_aload_n hx hb d_Model_init_13 rfl (lv_at hl 0 rfl) ?_
  refine lv_sipush (v := 512) hx hb d_Model_init_14 (by decide) ?_
  refine va_newa (atype := .int) (ty := .int) (a0 := (512, .inl (fun _ => 0))) (N' := 512) hx hb (hts _ (gd_sub _ q_677)) rfl hK hP hD hS hA (fun _ => rfl) (by decide) (by decide) (by decide) (Nat.le_of_ble_eq_true rfl) (Nat.le_of_ble_eq_true rfl) d_Model_init_17 (fun qk cD H hK hP hD hS => ?_)
  have hP : va_P G.1 vwCl [(qm, .inr (6, [.int 0, .int 0, .long 0, .long 0, .int 0, .int 0, .int 0, .int 0, .ref qp, .int 0, .int 0, .int 0, .int 0, .int 0, .null, .int 0, .int 0, .int 0, .int 0, .int 0, .int 0, .int 0, .int 0])), (qp, .inl (cB, 256, .inl (fun _ => 0))), (qk, .inl (cD, 512, .inl (fun _ => 0)))] H := hP
  have hD : va_D A [(qm, .inr (6, [.int 0, .int 0, .long 0, .long 0, .int 0, .int 0, .int 0, .int 0, .ref qp, .int 0, .int 0, .int 0, .int 0, .int 0, .null, .int 0, .int 0, .int 0, .int 0, .int 0, .int 0, .int 0, .int 0])), (qp, .inl (cB, 256, .inl (fun _ => 0))), (qk, .inl (cD, 512, .inl (fun _ => 0)))] := hD
  refine va_putF (D := G.1) (ci := 6) (v := .ref qk) (ty := .array .int) (C := R_Model) (T := T_Model) (N := 23) hx hb hts (fun w h => gd_sub _ (iw_Model w h)) ty_Model tyok_Model nm_Model hown hK hP hD hS 0 rfl rfl 14 (by decide) (hts _ (gd_sub _ q_621)) (fun _ h9 => h9) rfl hin rfl (by decide +kernel) rfl rfl (Nat.le_of_ble_eq_true rfl) d_Model_init_19 (fun H locs hP hD hS => ?_)
  have hP : va_P G.1 vwCl [(qm, .inr (6, f_Model qp qk o0)), (qp, .inl (cB, 256, .inl (fun _ => 0))), (qk, .inl (cD, 512, .inl (fun _ => 0)))] H := hP
  have hD : va_D A [(qm, .inr (6, f_Model qp qk o0)), (qp, .inl (cB, 256, .inl (fun _ => 0))), (qk, .inl (cD, 512, .inl (fun _ => 0)))] := hD
  have hK : va_K G.1 vwCl [(cA, .byte), (cB, .int), (cD, .int)] s := hK
  refine lv_aload_n hx hb d_Model_init_22 rfl (lv_at hl 0 rfl) ?_
  refine ct_cVv (wr := [(qp, .inl (cB, 256, .inl (fun _ => 0)))]) (w1 := [(qm, .inr (6, f_Model qp qk (k_Model_begin o0 (fun _ => 0)).1)), (qk, .inl (cD, 512, .inl (k_Model_begin o0 (fun _ => 0)).2))]) (w2 := [(qm, .inr (6, f_Model qp qk (k_Model_begin o0 (fun _ => 0)).1)), (qp, .inl (cB, 256, .inl (fun _ => 0))), (qk, .inl (cD, 512, .inl (k_Model_begin o0 (fun _ => 0)).2))]) (As := []) (rest := []) (ci := 6) (q0 := 0) ⟨hx, hb, hml, hown, hts⟩ (c_Model_begin l G [(cA, .byte), (cB, .int), (cD, .int)] rfl qm qk qp o0 (fun _ => 0)) (cwV 0 hts (gdV gd_gd q_602 q_603 q_604 q_47 q_605) rfl rfl rfl (by decide +kernel) ⟨Nat.le_of_ble_eq_true rfl, Nat.le_of_ble_eq_true rfl⟩) hE hK hP hD hS hA [0, 2] [1] [1, 0, 2] rfl (by decide) rfl (by decide) (by decide) rfl (by decide) rfl rfl rfl hl.1 rfl (Nat.le_of_ble_eq_true rfl) d_Model_init_23 ⟨Nat.le_of_ble_eq_true rfl, Nat.le_of_ble_eq_true rfl⟩ (fun H locs hP hD hS => ?_)
  exact ct_rn hx hb hr hlocks (qp, qk, cB, cD) hP hD hK hS d_Model_init_26 rfl rfl
