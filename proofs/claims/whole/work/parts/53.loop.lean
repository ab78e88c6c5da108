set_option maxHeartbeats 4000000 in
set_option maxRecDepth 100000 in
theorem law_loop {p : Program} {l : Launch} {e : Env} {s : State} {m : MethodId} {below : List Frame} {meth : Method} {c : Code} {b L : Nat} {xs : Nat → Int32} {G : gx} {tys : List (ClassId × FieldType)} {cA : ClassId} (ht : tys[0]? = some (cA, .byte)) {cB : ClassId} (ht1 : tys[1]? = some (cB, .int)) {cD : ClassId} (ht2 : tys[2]? = some (cD, .int)) (C0 : lw_At p s m meth c b L xs) (hE : ex G (fun q : Nat => s.heap.size ≤ q) s) (hK : va_K G.1 vwCl tys s) (hL : L ≤ 3584) {qx qc qo qa qhs qgs qy qr qm qp qk : Nat} : ∀ (n i : Nat), i ≤ L → L - i < n → ∀ (sx : ob) (sc : ob) (so : ob) (sa : Nat → Int32) (shs : ob) (sgs : ob) (sy : ob) (sr : ob) (sm : ob) (sp : Nat → Int32) (sk : Nat → Int32) (H : Heap) (locs : List Loc) (ls : Array Slot), Rel sx sc so sa shs sgs sy sr sm sp sk → va_P G.1 vwCl [(qx, .inr (5, f_Desk qc qo qr sx)), (qc, .inr (1, f_Controls qo qhs qgs qy sc)), (qo, .inr (3, f_Outside qa so)), (qa, .inl (cA, 256, .inl sa)), (qhs, .inr (0, f_Bank shs)), (qgs, .inr (0, f_Bank sgs)), (qy, .inr (2, f_Hyper sy)), (qr, .inr (4, f_Registers sr)), (qm, .inr (6, f_Model qp qk sm)), (qp, .inl (cB, 256, .inl sp)), (qk, .inl (cD, 512, .inl sk))] H → va_D (fun q : Nat => s.heap.size ≤ q) [(qx, .inr (5, f_Desk qc qo qr sx)), (qc, .inr (1, f_Controls qo qhs qgs qy sc)), (qo, .inr (3, f_Outside qa so)), (qa, .inl (cA, 256, .inl sa)), (qhs, .inr (0, f_Bank shs)), (qgs, .inr (0, f_Bank sgs)), (qy, .inr (2, f_Hyper sy)), (qr, .inr (4, f_Registers sr)), (qm, .inr (6, f_Model qp qk sm)), (qp, .inl (cB, 256, .inl sp)), (qk, .inl (cD, 512, .inl sk))] → va_S (fun q : Nat => s.heap.size ≤ q) s.heap H locs → lv_has ls 4 [(0, .ref b), (1, .ref qx), (2, .ref qm), (3, .int (nI i))] → W p l e room_1 s m #[Value.ref b] below meth c H locs 11 1092 (lw_Z below #[Value.ref b] s) (F0 m 18 ls []) := by
  obtain ⟨hx, hb, hr, hml, hown, hts, hX, hbl, hlocks, hgv⟩ := id C0
  have hbA : ¬ (fun q : Nat => s.heap.size ≤ q) b := Nat.not_le.mpr hbl
  intro n
  induction n with
  | zero =>
    intro i h1 h2
    exact absurd h2 (Nat.not_lt_zero _)
  | succ n ih =>
    intro i hiL hn sx sc so sa shs sgs sy sr sm sp sk H locs ls hR hP hD hS hl
    refine lv_iload_n hx hb d_Law_law_18 rfl (lv_at hl 3 rfl) ?_
    refine lv_aload_n hx hb d_Law_law_19 rfl (lv_at hl 0 rfl) ?_
    refine va_slen hx hb hX hbl hbA hS d_Law_law_20 ?_
    refine lv_bipush (v := 7) hx hb d_Law_law_21 (by decide) ?_
    refine lv_isub hx hb d_Law_law_23 ?_
    have hs7 : (Int32.ofNat L - 7).toInt = (L : Int) - 7 := pk_sub_toInt (a := L) (b := 7) (by omega) (by decide)
    refine lv_icmp_gt (tgt := 581) hx hb d_Law_law_24 (by decide) (fun c9 => ?_) (fun c9 => ?_)
    · refine lv_iconst (v := 1) hx hb d_Law_law_581 (by decide) ?_
      refine va_forget (fun q hq => hS.2.2 q hq) ?_
      exact lw_ret hx hb hr hlocks d_Law_law_582
    · have hi : i + 7 ≤ L := by
        rw [Int32.lt_iff_toInt_lt, hs7, nI_toInt (by omega)] at c9
        omega
      have hC : ∀ (sx : ob) (sc : ob) (so : ob) (sa : Nat → Int32) (shs : ob) (sgs : ob) (sy : ob) (sr : ob) (sm : ob) (sp : Nat → Int32) (sk : Nat → Int32) (H : Heap) (locs : List Loc) (ls : Array Slot), Rel sx sc so sa shs sgs sy sr sm sp sk → va_P G.1 vwCl [(qx, .inr (5, f_Desk qc qo qr sx)), (qc, .inr (1, f_Controls qo qhs qgs qy sc)), (qo, .inr (3, f_Outside qa so)), (qa, .inl (cA, 256, .inl sa)), (qhs, .inr (0, f_Bank shs)), (qgs, .inr (0, f_Bank sgs)), (qy, .inr (2, f_Hyper sy)), (qr, .inr (4, f_Registers sr)), (qm, .inr (6, f_Model qp qk sm)), (qp, .inl (cB, 256, .inl sp)), (qk, .inl (cD, 512, .inl sk))] H → va_D (fun q : Nat => s.heap.size ≤ q) [(qx, .inr (5, f_Desk qc qo qr sx)), (qc, .inr (1, f_Controls qo qhs qgs qy sc)), (qo, .inr (3, f_Outside qa so)), (qa, .inl (cA, 256, .inl sa)), (qhs, .inr (0, f_Bank shs)), (qgs, .inr (0, f_Bank sgs)), (qy, .inr (2, f_Hyper sy)), (qr, .inr (4, f_Registers sr)), (qm, .inr (6, f_Model qp qk sm)), (qp, .inl (cB, 256, .inl sp)), (qk, .inl (cD, 512, .inl sk))] → va_S (fun q : Nat => s.heap.size ≤ q) s.heap H locs → lv_has ls 4 [(0, .ref b), (1, .ref qx), (2, .ref qm), (3, .int (nI i))] → W p l e room_1 s m #[Value.ref b] below meth c H locs 11 1092 (lw_Z below #[Value.ref b] s) (F0 m 575 ls []) := by
        intro sx sc so sa shs sgs sy sr sm sp sk H locs ls hR hP hD hS hl
        refine lv_iinc (v := nI (i + 7)) (lv' := [(3, .int (nI (i + 7))), (0, .ref b), (1, .ref qx), (2, .ref qm)]) hx hb d_Law_law_575 hl (k := 3) rfl (nI_add i 7) (by decide) rfl (fun ls hl => ?_)
        refine lv_goto (tgt := 18) hx hb d_Law_law_578 (by decide) ?_
        exact ih (i + 7) hi (by omega) sx sc so sa shs sgs sy sr sm sp sk H locs ls hR hP hD hS (lv_sub hl [1, 2, 3, 0] rfl)
      refine lv_aload_n hx hb d_Law_law_27 rfl (lv_at hl 0 rfl) ?_
      refine lv_iload_n hx hb d_Law_law_28 rfl (lv_at hl 3 rfl) ?_
      refine va_sld hx hb hX hbl hbA hS (vp_in_nI (by omega) (by omega)) d_Law_law_29 ?_
      refine lv_bipush (v := 15) hx hb d_Law_law_30 (by decide) ?_
      refine lv_iand hx hb d_Law_law_32 ?_
      refine lv_topi (fun w ew => ?_)
      by_cases c_0 : w = 0
      · refine lv_tableIn (off := 71) (tgt := 104) hx hb d_Law_law_33 (by rw [c_0]; decide) (by rw [c_0]; decide) (by rw [c_0]; decide) (by decide) ?_
        exact law_c0 ht ht1 ht2 C0 hE hK hi hL hR hC hP hD hS hl
      by_cases c_1 : w = 1
      · refine lv_tableIn (off := 82) (tgt := 115) hx hb d_Law_law_33 (by rw [c_1]; decide) (by rw [c_1]; decide) (by rw [c_1]; decide) (by decide) ?_
        exact law_c1 ht ht1 ht2 C0 hE hK hi hL hR hC hP hD hS hl
      by_cases c_2 : w = 2
      · refine lv_tableIn (off := 105) (tgt := 138) hx hb d_Law_law_33 (by rw [c_2]; decide) (by rw [c_2]; decide) (by rw [c_2]; decide) (by decide) ?_
        exact law_c2 ht ht1 ht2 C0 hE hK hi hL hR hC hP hD hS hl
      by_cases c_3 : w = 3
      · refine lv_tableIn (off := 128) (tgt := 161) hx hb d_Law_law_33 (by rw [c_3]; decide) (by rw [c_3]; decide) (by rw [c_3]; decide) (by decide) ?_
        exact law_c3 ht ht1 ht2 C0 hE hK hi hL hR hC hP hD hS hl
      by_cases c_4 : w = 4
      · refine lv_tableIn (off := 161) (tgt := 194) hx hb d_Law_law_33 (by rw [c_4]; decide) (by rw [c_4]; decide) (by rw [c_4]; decide) (by decide) ?_
        exact law_c4 ht ht1 ht2 C0 hE hK hi hL hR hC hP hD hS hl
      by_cases c_5 : w = 5
      · refine lv_tableIn (off := 184) (tgt := 217) hx hb d_Law_law_33 (by rw [c_5]; decide) (by rw [c_5]; decide) (by rw [c_5]; decide) (by decide) ?_
        exact law_c5 ht ht1 ht2 C0 hE hK hi hL hR hC hP hD hS hl
      by_cases c_6 : w = 6
      · refine lv_tableIn (off := 238) (tgt := 271) hx hb d_Law_law_33 (by rw [c_6]; decide) (by rw [c_6]; decide) (by rw [c_6]; decide) (by decide) ?_
        exact law_c6 ht ht1 ht2 C0 hE hK hi hL hR hC hP hD hS hl
      by_cases c_7 : w = 7
      · refine lv_tableIn (off := 277) (tgt := 310) hx hb d_Law_law_33 (by rw [c_7]; decide) (by rw [c_7]; decide) (by rw [c_7]; decide) (by decide) ?_
        exact law_c7 ht ht1 ht2 C0 hE hK hi hL hR hC hP hD hS hl
      by_cases c_8 : w = 8
      · refine lv_tableIn (off := 310) (tgt := 343) hx hb d_Law_law_33 (by rw [c_8]; decide) (by rw [c_8]; decide) (by rw [c_8]; decide) (by decide) ?_
        exact law_c8 ht ht1 ht2 C0 hE hK hi hL hR hC hP hD hS hl
      by_cases c_9 : w = 9
      · refine lv_tableIn (off := 333) (tgt := 366) hx hb d_Law_law_33 (by rw [c_9]; decide) (by rw [c_9]; decide) (by rw [c_9]; decide) (by decide) ?_
        exact law_c9 ht ht1 ht2 C0 hE hK hi hL hR hC hP hD hS hl
      by_cases c_10 : w = 10
      · refine lv_tableIn (off := 356) (tgt := 389) hx hb d_Law_law_33 (by rw [c_10]; decide) (by rw [c_10]; decide) (by rw [c_10]; decide) (by decide) ?_
        exact law_c10 ht ht1 ht2 C0 hE hK hi hL hR hC hP hD hS hl
      by_cases c_11 : w = 11
      · refine lv_tableIn (off := 483) (tgt := 516) hx hb d_Law_law_33 (by rw [c_11]; decide) (by rw [c_11]; decide) (by rw [c_11]; decide) (by decide) ?_
        exact law_c11 ht ht1 ht2 C0 hE hK hi hL hR hC hP hD hS hl
      by_cases c_12 : w = 12
      · refine lv_tableIn (off := 496) (tgt := 529) hx hb d_Law_law_33 (by rw [c_12]; decide) (by rw [c_12]; decide) (by rw [c_12]; decide) (by decide) ?_
        exact law_c12 ht ht1 ht2 C0 hE hK hi hL hR hC hP hD hS hl
      by_cases c_13 : w = 13
      · refine lv_tableIn (off := 519) (tgt := 552) hx hb d_Law_law_33 (by rw [c_13]; decide) (by rw [c_13]; decide) (by rw [c_13]; decide) (by decide) ?_
        exact law_c13 ht ht1 ht2 C0 hE hK hi hL hR hC hP hD hS hl
      refine lv_tableOut (tgt := 575) hx hb d_Law_law_33 (by have := lv_neT (a := 0) c_0 (by decide); have := lv_neT (a := 1) c_1 (by decide); have := lv_neT (a := 2) c_2 (by decide); have := lv_neT (a := 3) c_3 (by decide); have := lv_neT (a := 4) c_4 (by decide); have := lv_neT (a := 5) c_5 (by decide); have := lv_neT (a := 6) c_6 (by decide); have := lv_neT (a := 7) c_7 (by decide); have := lv_neT (a := 8) c_8 (by decide); have := lv_neT (a := 9) c_9 (by decide); have := lv_neT (a := 10) c_10 (by decide); have := lv_neT (a := 11) c_11 (by decide); have := lv_neT (a := 12) c_12 (by decide); have := lv_neT (a := 13) c_13 (by decide); omega) (by decide) ?_
      exact hC sx sc so sa shs sgs sy sr sm sp sk H locs ls hR hP hD hS hl
