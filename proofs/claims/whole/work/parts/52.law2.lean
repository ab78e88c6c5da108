set_option maxHeartbeats 4000000 in
set_option maxRecDepth 100000 in
theorem law_c7 {p : Program} {l : Launch} {e : Env} {s : State} {m : MethodId} {below : List Frame} {meth : Method} {c : Code} {b L : Nat} {xs : Nat → Int32} {G : gx} {tys : List (ClassId × FieldType)} {cA : ClassId} (ht : tys[0]? = some (cA, .byte)) {cB : ClassId} (ht1 : tys[1]? = some (cB, .int)) {cD : ClassId} (ht2 : tys[2]? = some (cD, .int)) (C0 : lw_At p s m meth c b L xs) (hE : ex G (fun q : Nat => s.heap.size ≤ q) s) (hK : va_K G.1 vwCl tys s) {i : Nat} (hi : i + 7 ≤ L) (hL : L ≤ 3584) {qx qc qo qa qhs qgs qy qr qm qp qk : Nat} {sx : ob} {sc : ob} {so : ob} {sa : Nat → Int32} {shs : ob} {sgs : ob} {sy : ob} {sr : ob} {sm : ob} {sp : Nat → Int32} {sk : Nat → Int32} (hR : Rel sx sc so sa shs sgs sy sr sm sp sk)
    (hC : ∀ (sx : ob) (sc : ob) (so : ob) (sa : Nat → Int32) (shs : ob) (sgs : ob) (sy : ob) (sr : ob) (sm : ob) (sp : Nat → Int32) (sk : Nat → Int32) (H : Heap) (locs : List Loc) (ls : Array Slot), Rel sx sc so sa shs sgs sy sr sm sp sk → va_P G.1 vwCl [(qx, .inr (5, f_Desk qc qo qr sx)), (qc, .inr (1, f_Controls qo qhs qgs qy sc)), (qo, .inr (3, f_Outside qa so)), (qa, .inl (cA, 256, .inl sa)), (qhs, .inr (0, f_Bank shs)), (qgs, .inr (0, f_Bank sgs)), (qy, .inr (2, f_Hyper sy)), (qr, .inr (4, f_Registers sr)), (qm, .inr (6, f_Model qp qk sm)), (qp, .inl (cB, 256, .inl sp)), (qk, .inl (cD, 512, .inl sk))] H → va_D (fun q : Nat => s.heap.size ≤ q) [(qx, .inr (5, f_Desk qc qo qr sx)), (qc, .inr (1, f_Controls qo qhs qgs qy sc)), (qo, .inr (3, f_Outside qa so)), (qa, .inl (cA, 256, .inl sa)), (qhs, .inr (0, f_Bank shs)), (qgs, .inr (0, f_Bank sgs)), (qy, .inr (2, f_Hyper sy)), (qr, .inr (4, f_Registers sr)), (qm, .inr (6, f_Model qp qk sm)), (qp, .inl (cB, 256, .inl sp)), (qk, .inl (cD, 512, .inl sk))] → va_S (fun q : Nat => s.heap.size ≤ q) s.heap H locs → lv_has ls 4 [(0, .ref b), (1, .ref qx), (2, .ref qm), (3, .int (nI i))] → W p l e room_1 s m #[Value.ref b] below meth c H locs 11 1092 (lw_Z below #[Value.ref b] s) (F0 m 575 ls []))
    {H : Heap} {locs : List Loc} {ls : Array Slot} (hP : va_P G.1 vwCl [(qx, .inr (5, f_Desk qc qo qr sx)), (qc, .inr (1, f_Controls qo qhs qgs qy sc)), (qo, .inr (3, f_Outside qa so)), (qa, .inl (cA, 256, .inl sa)), (qhs, .inr (0, f_Bank shs)), (qgs, .inr (0, f_Bank sgs)), (qy, .inr (2, f_Hyper sy)), (qr, .inr (4, f_Registers sr)), (qm, .inr (6, f_Model qp qk sm)), (qp, .inl (cB, 256, .inl sp)), (qk, .inl (cD, 512, .inl sk))] H) (hD : va_D (fun q : Nat => s.heap.size ≤ q) [(qx, .inr (5, f_Desk qc qo qr sx)), (qc, .inr (1, f_Controls qo qhs qgs qy sc)), (qo, .inr (3, f_Outside qa so)), (qa, .inl (cA, 256, .inl sa)), (qhs, .inr (0, f_Bank shs)), (qgs, .inr (0, f_Bank sgs)), (qy, .inr (2, f_Hyper sy)), (qr, .inr (4, f_Registers sr)), (qm, .inr (6, f_Model qp qk sm)), (qp, .inl (cB, 256, .inl sp)), (qk, .inl (cD, 512, .inl sk))]) (hS : va_S (fun q : Nat => s.heap.size ≤ q) s.heap H locs) (hl : lv_has ls 4 [(0, .ref b), (1, .ref qx), (2, .ref qm), (3, .int (nI i))]) : W p l e room_1 s m #[Value.ref b] below meth c H locs 11 1092 (lw_Z below #[Value.ref b] s) (F0 m 310 ls []) := by
  obtain ⟨hx, hb, hr, hml, hown, hts, hX, hbl, hlocks, hgv⟩ := id C0
  have hts : ∀ w ∈ gtb, w.before #[Value.ref b] s = true := fun w h => hts w (List.mem_filter.mp h).1
  have hown : s.vm.findClass R_Law = some m.cls := hown
  have hA : ∀ q : Nat, s.heap.size ≤ q → (fun q : Nat => s.heap.size ≤ q) q := fun _ h => h
  have hbA : ¬ (fun q : Nat => s.heap.size ≤ q) b := Nat.not_le.mpr hbl
  have hq9 := hR.2.2.1.2.2.2.2.2.1
  have hq8 := hR.2.2.1.2.2.2.2.2.2
  have hp9 : ¬ so.1 1 < 0 := by rw [hR.2.2.1.1]; exact hR.2.2.1.2.2.2.2.2.1
  refine lv_aload_n hx hb d_Law_law_310 rfl (lv_at hl 1 rfl) ?_
  refine lv_aload_n hx hb d_Law_law_311 rfl (lv_at hl 0 rfl) ?_
  refine lv_iload_n hx hb d_Law_law_312 rfl (lv_at hl 3 rfl) ?_
  refine lv_iconst (v := 1) hx hb d_Law_law_313 (by decide) ?_
  refine lv_iadd hx hb d_Law_law_314 ?_
  refine va_sld hx hb hX hbl hbA hS (lw_ix 1 hi (by decide) hL) d_Law_law_315 ?_
  refine lv_aload_n hx hb d_Law_law_316 rfl (lv_at hl 0 rfl) ?_
  refine lv_iload_n hx hb d_Law_law_317 rfl (lv_at hl 3 rfl) ?_
  refine lv_iconst (v := 2) hx hb d_Law_law_318 (by decide) ?_
  refine lv_iadd hx hb d_Law_law_319 ?_
  refine va_sld hx hb hX hbl hbA hS (lw_ix 2 hi (by decide) hL) d_Law_law_320 ?_
  obtain ⟨r_1274, er_1274⟩ : ∃ z, z = (k_Desk_set sx sr (xs ((nI i) + 1).toNatClampNeg) (xs ((nI i) + 2).toNatClampNeg)).1 := ⟨_, rfl⟩
  obtain ⟨sr_1275, esr_1275⟩ : ∃ z, z = (k_Desk_set sx sr (xs ((nI i) + 1).toNatClampNeg) (xs ((nI i) + 2).toNatClampNeg)).2 := ⟨_, rfl⟩
  have hM := c_Desk_set l G tys qx qr qc qo sx sr (xs ((nI i) + 1).toNatClampNeg) (xs ((nI i) + 2).toNatClampNeg)
  rw [← er_1274, ← esr_1275] at hM
  refine ct_cVi (wr := [(qc, .inr (1, f_Controls qo qhs qgs qy sc)), (qo, .inr (3, f_Outside qa so)), (qa, .inl (cA, 256, .inl sa)), (qhs, .inr (0, f_Bank shs)), (qgs, .inr (0, f_Bank sgs)), (qy, .inr (2, f_Hyper sy)), (qm, .inr (6, f_Model qp qk sm)), (qp, .inl (cB, 256, .inl sp)), (qk, .inl (cD, 512, .inl sk))]) (w1 := [(qx, .inr (5, f_Desk qc qo qr sx)), (qr, .inr (4, f_Registers sr_1275))]) (w2 := [(qx, .inr (5, f_Desk qc qo qr sx)), (qc, .inr (1, f_Controls qo qhs qgs qy sc)), (qo, .inr (3, f_Outside qa so)), (qa, .inl (cA, 256, .inl sa)), (qhs, .inr (0, f_Bank shs)), (qgs, .inr (0, f_Bank sgs)), (qy, .inr (2, f_Hyper sy)), (qr, .inr (4, f_Registers sr_1275)), (qm, .inr (6, f_Model qp qk sm)), (qp, .inl (cB, 256, .inl sp)), (qk, .inl (cD, 512, .inl sk))]) (r := r_1274) (As := [.int (xs ((nI i) + 1).toNatClampNeg), .int (xs ((nI i) + 2).toNatClampNeg)]) (rest := []) (ci := 5) (q0 := 0) ⟨hx, hb, hml, hown, hts⟩ hM (cwV 2 hts (gdV gd_gg q_379 q_380 q_381 q_41 q_382) rfl rfl rfl (by decide +kernel) ⟨Nat.le_of_ble_eq_true rfl, Nat.le_of_ble_eq_true rfl⟩) hE hK hP hD hS hA [0, 7] [1, 2, 3, 4, 5, 6, 8, 9, 10] [9, 0, 1, 2, 3, 4, 5, 10, 6, 7, 8] rfl (by decide) rfl (by decide) (by decide) rfl (by decide) rfl rfl rfl hl.1 rfl (Nat.le_of_ble_eq_true rfl) d_Law_law_321 ⟨Nat.le_of_ble_eq_true rfl, Nat.le_of_ble_eq_true rfl⟩ (fun H locs hP hD hS => ?_)
  refine lv_aload_n hx hb d_Law_law_324 rfl (lv_at hl 2 rfl) ?_
  refine lv_aload_n hx hb d_Law_law_325 rfl (lv_at hl 0 rfl) ?_
  refine lv_iload_n hx hb d_Law_law_326 rfl (lv_at hl 3 rfl) ?_
  refine lv_iconst (v := 1) hx hb d_Law_law_327 (by decide) ?_
  refine lv_iadd hx hb d_Law_law_328 ?_
  refine va_sld hx hb hX hbl hbA hS (lw_ix 1 hi (by decide) hL) d_Law_law_329 ?_
  refine lv_aload_n hx hb d_Law_law_330 rfl (lv_at hl 0 rfl) ?_
  refine lv_iload_n hx hb d_Law_law_331 rfl (lv_at hl 3 rfl) ?_
  refine lv_iconst (v := 2) hx hb d_Law_law_332 (by decide) ?_
  refine lv_iadd hx hb d_Law_law_333 ?_
  refine va_sld hx hb hX hbl hbA hS (lw_ix 2 hi (by decide) hL) d_Law_law_334 ?_
  obtain ⟨r_1276, er_1276⟩ : ∃ z, z = (k_Model_set sm (xs ((nI i) + 1).toNatClampNeg) (xs ((nI i) + 2).toNatClampNeg)).1 := ⟨_, rfl⟩
  obtain ⟨sm_1277, esm_1277⟩ : ∃ z, z = (k_Model_set sm (xs ((nI i) + 1).toNatClampNeg) (xs ((nI i) + 2).toNatClampNeg)).2 := ⟨_, rfl⟩
  have hM := c_Model_set l G tys qm qp qk sm (xs ((nI i) + 1).toNatClampNeg) (xs ((nI i) + 2).toNatClampNeg)
  rw [← er_1276, ← esm_1277] at hM
  refine ct_cVi (wr := [(qx, .inr (5, f_Desk qc qo qr sx)), (qc, .inr (1, f_Controls qo qhs qgs qy sc)), (qo, .inr (3, f_Outside qa so)), (qa, .inl (cA, 256, .inl sa)), (qhs, .inr (0, f_Bank shs)), (qgs, .inr (0, f_Bank sgs)), (qy, .inr (2, f_Hyper sy)), (qr, .inr (4, f_Registers sr_1275)), (qp, .inl (cB, 256, .inl sp)), (qk, .inl (cD, 512, .inl sk))]) (w1 := [(qm, .inr (6, f_Model qp qk sm_1277))]) (w2 := [(qx, .inr (5, f_Desk qc qo qr sx)), (qc, .inr (1, f_Controls qo qhs qgs qy sc)), (qo, .inr (3, f_Outside qa so)), (qa, .inl (cA, 256, .inl sa)), (qhs, .inr (0, f_Bank shs)), (qgs, .inr (0, f_Bank sgs)), (qy, .inr (2, f_Hyper sy)), (qr, .inr (4, f_Registers sr_1275)), (qm, .inr (6, f_Model qp qk sm_1277)), (qp, .inl (cB, 256, .inl sp)), (qk, .inl (cD, 512, .inl sk))]) (r := r_1276) (As := [.int (xs ((nI i) + 1).toNatClampNeg), .int (xs ((nI i) + 2).toNatClampNeg)]) (rest := [.int r_1274]) (ci := 6) (q0 := 0) ⟨hx, hb, hml, hown, hts⟩ hM (cwV 2 hts (gdV gd_gg q_828 q_829 q_830 q_47 q_831) rfl rfl rfl (by decide +kernel) ⟨Nat.le_of_ble_eq_true rfl, Nat.le_of_ble_eq_true rfl⟩) hE hK hP hD hS hA [8] [0, 1, 2, 3, 4, 5, 6, 7, 9, 10] [0, 1, 2, 3, 4, 5, 6, 7, 10, 8, 9] rfl (by decide) rfl (by decide) (by decide) rfl (by decide) rfl rfl rfl hl.1 rfl (Nat.le_of_ble_eq_true rfl) d_Law_law_335 ⟨Nat.le_of_ble_eq_true rfl, Nat.le_of_ble_eq_true rfl⟩ (fun H locs hP hD hS => ?_)
  have hq := rel_set hR (xs ((nI i) + 1).toNatClampNeg) (xs ((nI i) + 2).toNatClampNeg)
  rw [← er_1274, ← esr_1275, ← er_1276, ← esm_1277] at hq
  refine lv_icmp_eq (tgt := 575) hx hb d_Law_law_338 (by decide) (fun _ => ?_) (fun c9 => absurd hq.1 c9)
  exact hC sx sc so sa shs sgs sy sr_1275 sm_1277 sp sk H locs ls hq.2 hP hD hS hl
set_option maxHeartbeats 4000000 in
set_option maxRecDepth 100000 in
theorem law_c8 {p : Program} {l : Launch} {e : Env} {s : State} {m : MethodId} {below : List Frame} {meth : Method} {c : Code} {b L : Nat} {xs : Nat → Int32} {G : gx} {tys : List (ClassId × FieldType)} {cA : ClassId} (ht : tys[0]? = some (cA, .byte)) {cB : ClassId} (ht1 : tys[1]? = some (cB, .int)) {cD : ClassId} (ht2 : tys[2]? = some (cD, .int)) (C0 : lw_At p s m meth c b L xs) (hE : ex G (fun q : Nat => s.heap.size ≤ q) s) (hK : va_K G.1 vwCl tys s) {i : Nat} (hi : i + 7 ≤ L) (hL : L ≤ 3584) {qx qc qo qa qhs qgs qy qr qm qp qk : Nat} {sx : ob} {sc : ob} {so : ob} {sa : Nat → Int32} {shs : ob} {sgs : ob} {sy : ob} {sr : ob} {sm : ob} {sp : Nat → Int32} {sk : Nat → Int32} (hR : Rel sx sc so sa shs sgs sy sr sm sp sk)
    (hC : ∀ (sx : ob) (sc : ob) (so : ob) (sa : Nat → Int32) (shs : ob) (sgs : ob) (sy : ob) (sr : ob) (sm : ob) (sp : Nat → Int32) (sk : Nat → Int32) (H : Heap) (locs : List Loc) (ls : Array Slot), Rel sx sc so sa shs sgs sy sr sm sp sk → va_P G.1 vwCl [(qx, .inr (5, f_Desk qc qo qr sx)), (qc, .inr (1, f_Controls qo qhs qgs qy sc)), (qo, .inr (3, f_Outside qa so)), (qa, .inl (cA, 256, .inl sa)), (qhs, .inr (0, f_Bank shs)), (qgs, .inr (0, f_Bank sgs)), (qy, .inr (2, f_Hyper sy)), (qr, .inr (4, f_Registers sr)), (qm, .inr (6, f_Model qp qk sm)), (qp, .inl (cB, 256, .inl sp)), (qk, .inl (cD, 512, .inl sk))] H → va_D (fun q : Nat => s.heap.size ≤ q) [(qx, .inr (5, f_Desk qc qo qr sx)), (qc, .inr (1, f_Controls qo qhs qgs qy sc)), (qo, .inr (3, f_Outside qa so)), (qa, .inl (cA, 256, .inl sa)), (qhs, .inr (0, f_Bank shs)), (qgs, .inr (0, f_Bank sgs)), (qy, .inr (2, f_Hyper sy)), (qr, .inr (4, f_Registers sr)), (qm, .inr (6, f_Model qp qk sm)), (qp, .inl (cB, 256, .inl sp)), (qk, .inl (cD, 512, .inl sk))] → va_S (fun q : Nat => s.heap.size ≤ q) s.heap H locs → lv_has ls 4 [(0, .ref b), (1, .ref qx), (2, .ref qm), (3, .int (nI i))] → W p l e room_1 s m #[Value.ref b] below meth c H locs 11 1092 (lw_Z below #[Value.ref b] s) (F0 m 575 ls []))
    {H : Heap} {locs : List Loc} {ls : Array Slot} (hP : va_P G.1 vwCl [(qx, .inr (5, f_Desk qc qo qr sx)), (qc, .inr (1, f_Controls qo qhs qgs qy sc)), (qo, .inr (3, f_Outside qa so)), (qa, .inl (cA, 256, .inl sa)), (qhs, .inr (0, f_Bank shs)), (qgs, .inr (0, f_Bank sgs)), (qy, .inr (2, f_Hyper sy)), (qr, .inr (4, f_Registers sr)), (qm, .inr (6, f_Model qp qk sm)), (qp, .inl (cB, 256, .inl sp)), (qk, .inl (cD, 512, .inl sk))] H) (hD : va_D (fun q : Nat => s.heap.size ≤ q) [(qx, .inr (5, f_Desk qc qo qr sx)), (qc, .inr (1, f_Controls qo qhs qgs qy sc)), (qo, .inr (3, f_Outside qa so)), (qa, .inl (cA, 256, .inl sa)), (qhs, .inr (0, f_Bank shs)), (qgs, .inr (0, f_Bank sgs)), (qy, .inr (2, f_Hyper sy)), (qr, .inr (4, f_Registers sr)), (qm, .inr (6, f_Model qp qk sm)), (qp, .inl (cB, 256, .inl sp)), (qk, .inl (cD, 512, .inl sk))]) (hS : va_S (fun q : Nat => s.heap.size ≤ q) s.heap H locs) (hl : lv_has ls 4 [(0, .ref b), (1, .ref qx), (2, .ref qm), (3, .int (nI i))]) : W p l e room_1 s m #[Value.ref b] below meth c H locs 11 1092 (lw_Z below #[Value.ref b] s) (F0 m 343 ls []) := by
  obtain ⟨hx, hb, hr, hml, hown, hts, hX, hbl, hlocks, hgv⟩ := id C0
  have hts : ∀ w ∈ gtb, w.before #[Value.ref b] s = true := fun w h => hts w (List.mem_filter.mp h).1
  have hown : s.vm.findClass R_Law = some m.cls := hown
  have hA : ∀ q : Nat, s.heap.size ≤ q → (fun q : Nat => s.heap.size ≤ q) q := fun _ h => h
  have hbA : ¬ (fun q : Nat => s.heap.size ≤ q) b := Nat.not_le.mpr hbl
  have hq9 := hR.2.2.1.2.2.2.2.2.1
  have hq8 := hR.2.2.1.2.2.2.2.2.2
  have hp9 : ¬ so.1 1 < 0 := by rw [hR.2.2.1.1]; exact hR.2.2.1.2.2.2.2.2.1
  refine lv_aload_n hx hb d_Law_law_343 rfl (lv_at hl 1 rfl) ?_
  refine lv_aload_n hx hb d_Law_law_344 rfl (lv_at hl 0 rfl) ?_
  refine lv_iload_n hx hb d_Law_law_345 rfl (lv_at hl 3 rfl) ?_
  refine lv_iconst (v := 1) hx hb d_Law_law_346 (by decide) ?_
  refine lv_iadd hx hb d_Law_law_347 ?_
  refine va_sld hx hb hX hbl hbA hS (lw_ix 1 hi (by decide) hL) d_Law_law_348 ?_
  refine ct_cVi (wr := [(qc, .inr (1, f_Controls qo qhs qgs qy sc)), (qo, .inr (3, f_Outside qa so)), (qa, .inl (cA, 256, .inl sa)), (qhs, .inr (0, f_Bank shs)), (qgs, .inr (0, f_Bank sgs)), (qy, .inr (2, f_Hyper sy)), (qm, .inr (6, f_Model qp qk sm)), (qp, .inl (cB, 256, .inl sp)), (qk, .inl (cD, 512, .inl sk))]) (w1 := [(qx, .inr (5, f_Desk qc qo qr sx)), (qr, .inr (4, f_Registers sr))]) (w2 := [(qx, .inr (5, f_Desk qc qo qr sx)), (qc, .inr (1, f_Controls qo qhs qgs qy sc)), (qo, .inr (3, f_Outside qa so)), (qa, .inl (cA, 256, .inl sa)), (qhs, .inr (0, f_Bank shs)), (qgs, .inr (0, f_Bank sgs)), (qy, .inr (2, f_Hyper sy)), (qr, .inr (4, f_Registers sr)), (qm, .inr (6, f_Model qp qk sm)), (qp, .inl (cB, 256, .inl sp)), (qk, .inl (cD, 512, .inl sk))]) (r := (k_Desk_register sx sr (xs ((nI i) + 1).toNatClampNeg))) (As := [.int (xs ((nI i) + 1).toNatClampNeg)]) (rest := []) (ci := 5) (q0 := 0) ⟨hx, hb, hml, hown, hts⟩ (c_Desk_register l G tys qx qr qc qo sx sr (xs ((nI i) + 1).toNatClampNeg)) (cwV 1 hts (gdV gd_gg q_391 q_392 q_393 q_41 q_394) rfl rfl rfl (by decide +kernel) ⟨Nat.le_of_ble_eq_true rfl, Nat.le_of_ble_eq_true rfl⟩) hE hK hP hD hS hA [0, 7] [1, 2, 3, 4, 5, 6, 8, 9, 10] [9, 0, 1, 2, 3, 4, 5, 10, 6, 7, 8] rfl (by decide) rfl (by decide) (by decide) rfl (by decide) rfl rfl rfl hl.1 rfl (Nat.le_of_ble_eq_true rfl) d_Law_law_349 ⟨Nat.le_of_ble_eq_true rfl, Nat.le_of_ble_eq_true rfl⟩ (fun H locs hP hD hS => ?_)
  refine lv_aload_n hx hb d_Law_law_352 rfl (lv_at hl 2 rfl) ?_
  refine lv_aload_n hx hb d_Law_law_353 rfl (lv_at hl 0 rfl) ?_
  refine lv_iload_n hx hb d_Law_law_354 rfl (lv_at hl 3 rfl) ?_
  refine lv_iconst (v := 1) hx hb d_Law_law_355 (by decide) ?_
  refine lv_iadd hx hb d_Law_law_356 ?_
  refine va_sld hx hb hX hbl hbA hS (lw_ix 1 hi (by decide) hL) d_Law_law_357 ?_
  refine ct_cVi (wr := [(qx, .inr (5, f_Desk qc qo qr sx)), (qc, .inr (1, f_Controls qo qhs qgs qy sc)), (qo, .inr (3, f_Outside qa so)), (qa, .inl (cA, 256, .inl sa)), (qhs, .inr (0, f_Bank shs)), (qgs, .inr (0, f_Bank sgs)), (qy, .inr (2, f_Hyper sy)), (qr, .inr (4, f_Registers sr)), (qp, .inl (cB, 256, .inl sp)), (qk, .inl (cD, 512, .inl sk))]) (w1 := [(qm, .inr (6, f_Model qp qk sm))]) (w2 := [(qx, .inr (5, f_Desk qc qo qr sx)), (qc, .inr (1, f_Controls qo qhs qgs qy sc)), (qo, .inr (3, f_Outside qa so)), (qa, .inl (cA, 256, .inl sa)), (qhs, .inr (0, f_Bank shs)), (qgs, .inr (0, f_Bank sgs)), (qy, .inr (2, f_Hyper sy)), (qr, .inr (4, f_Registers sr)), (qm, .inr (6, f_Model qp qk sm)), (qp, .inl (cB, 256, .inl sp)), (qk, .inl (cD, 512, .inl sk))]) (r := (k_Model_register sm (xs ((nI i) + 1).toNatClampNeg))) (As := [.int (xs ((nI i) + 1).toNatClampNeg)]) (rest := [.int (k_Desk_register sx sr (xs ((nI i) + 1).toNatClampNeg))]) (ci := 6) (q0 := 0) ⟨hx, hb, hml, hown, hts⟩ (c_Model_register l G tys qm qp qk sm (xs ((nI i) + 1).toNatClampNeg)) (cwV 1 hts (gdV gd_gg q_832 q_833 q_834 q_47 q_835) rfl rfl rfl (by decide +kernel) ⟨Nat.le_of_ble_eq_true rfl, Nat.le_of_ble_eq_true rfl⟩) hE hK hP hD hS hA [8] [0, 1, 2, 3, 4, 5, 6, 7, 9, 10] [0, 1, 2, 3, 4, 5, 6, 7, 10, 8, 9] rfl (by decide) rfl (by decide) (by decide) rfl (by decide) rfl rfl rfl hl.1 rfl (Nat.le_of_ble_eq_true rfl) d_Law_law_358 ⟨Nat.le_of_ble_eq_true rfl, Nat.le_of_ble_eq_true rfl⟩ (fun H locs hP hD hS => ?_)
  have hq := rel_register hR (xs ((nI i) + 1).toNatClampNeg)
  refine lv_icmp_eq (tgt := 575) hx hb d_Law_law_361 (by decide) (fun _ => ?_) (fun c9 => absurd hq.1 c9)
  exact hC sx sc so sa shs sgs sy sr sm sp sk H locs ls hq.2 hP hD hS hl
set_option maxHeartbeats 4000000 in
set_option maxRecDepth 100000 in
theorem law_c9 {p : Program} {l : Launch} {e : Env} {s : State} {m : MethodId} {below : List Frame} {meth : Method} {c : Code} {b L : Nat} {xs : Nat → Int32} {G : gx} {tys : List (ClassId × FieldType)} {cA : ClassId} (ht : tys[0]? = some (cA, .byte)) {cB : ClassId} (ht1 : tys[1]? = some (cB, .int)) {cD : ClassId} (ht2 : tys[2]? = some (cD, .int)) (C0 : lw_At p s m meth c b L xs) (hE : ex G (fun q : Nat => s.heap.size ≤ q) s) (hK : va_K G.1 vwCl tys s) {i : Nat} (hi : i + 7 ≤ L) (hL : L ≤ 3584) {qx qc qo qa qhs qgs qy qr qm qp qk : Nat} {sx : ob} {sc : ob} {so : ob} {sa : Nat → Int32} {shs : ob} {sgs : ob} {sy : ob} {sr : ob} {sm : ob} {sp : Nat → Int32} {sk : Nat → Int32} (hR : Rel sx sc so sa shs sgs sy sr sm sp sk)
    (hC : ∀ (sx : ob) (sc : ob) (so : ob) (sa : Nat → Int32) (shs : ob) (sgs : ob) (sy : ob) (sr : ob) (sm : ob) (sp : Nat → Int32) (sk : Nat → Int32) (H : Heap) (locs : List Loc) (ls : Array Slot), Rel sx sc so sa shs sgs sy sr sm sp sk → va_P G.1 vwCl [(qx, .inr (5, f_Desk qc qo qr sx)), (qc, .inr (1, f_Controls qo qhs qgs qy sc)), (qo, .inr (3, f_Outside qa so)), (qa, .inl (cA, 256, .inl sa)), (qhs, .inr (0, f_Bank shs)), (qgs, .inr (0, f_Bank sgs)), (qy, .inr (2, f_Hyper sy)), (qr, .inr (4, f_Registers sr)), (qm, .inr (6, f_Model qp qk sm)), (qp, .inl (cB, 256, .inl sp)), (qk, .inl (cD, 512, .inl sk))] H → va_D (fun q : Nat => s.heap.size ≤ q) [(qx, .inr (5, f_Desk qc qo qr sx)), (qc, .inr (1, f_Controls qo qhs qgs qy sc)), (qo, .inr (3, f_Outside qa so)), (qa, .inl (cA, 256, .inl sa)), (qhs, .inr (0, f_Bank shs)), (qgs, .inr (0, f_Bank sgs)), (qy, .inr (2, f_Hyper sy)), (qr, .inr (4, f_Registers sr)), (qm, .inr (6, f_Model qp qk sm)), (qp, .inl (cB, 256, .inl sp)), (qk, .inl (cD, 512, .inl sk))] → va_S (fun q : Nat => s.heap.size ≤ q) s.heap H locs → lv_has ls 4 [(0, .ref b), (1, .ref qx), (2, .ref qm), (3, .int (nI i))] → W p l e room_1 s m #[Value.ref b] below meth c H locs 11 1092 (lw_Z below #[Value.ref b] s) (F0 m 575 ls []))
    {H : Heap} {locs : List Loc} {ls : Array Slot} (hP : va_P G.1 vwCl [(qx, .inr (5, f_Desk qc qo qr sx)), (qc, .inr (1, f_Controls qo qhs qgs qy sc)), (qo, .inr (3, f_Outside qa so)), (qa, .inl (cA, 256, .inl sa)), (qhs, .inr (0, f_Bank shs)), (qgs, .inr (0, f_Bank sgs)), (qy, .inr (2, f_Hyper sy)), (qr, .inr (4, f_Registers sr)), (qm, .inr (6, f_Model qp qk sm)), (qp, .inl (cB, 256, .inl sp)), (qk, .inl (cD, 512, .inl sk))] H) (hD : va_D (fun q : Nat => s.heap.size ≤ q) [(qx, .inr (5, f_Desk qc qo qr sx)), (qc, .inr (1, f_Controls qo qhs qgs qy sc)), (qo, .inr (3, f_Outside qa so)), (qa, .inl (cA, 256, .inl sa)), (qhs, .inr (0, f_Bank shs)), (qgs, .inr (0, f_Bank sgs)), (qy, .inr (2, f_Hyper sy)), (qr, .inr (4, f_Registers sr)), (qm, .inr (6, f_Model qp qk sm)), (qp, .inl (cB, 256, .inl sp)), (qk, .inl (cD, 512, .inl sk))]) (hS : va_S (fun q : Nat => s.heap.size ≤ q) s.heap H locs) (hl : lv_has ls 4 [(0, .ref b), (1, .ref qx), (2, .ref qm), (3, .int (nI i))]) : W p l e room_1 s m #[Value.ref b] below meth c H locs 11 1092 (lw_Z below #[Value.ref b] s) (F0 m 366 ls []) := by
  obtain ⟨hx, hb, hr, hml, hown, hts, hX, hbl, hlocks, hgv⟩ := id C0
  have hts : ∀ w ∈ gtb, w.before #[Value.ref b] s = true := fun w h => hts w (List.mem_filter.mp h).1
  have hown : s.vm.findClass R_Law = some m.cls := hown
  have hA : ∀ q : Nat, s.heap.size ≤ q → (fun q : Nat => s.heap.size ≤ q) q := fun _ h => h
  have hbA : ¬ (fun q : Nat => s.heap.size ≤ q) b := Nat.not_le.mpr hbl
  have hq9 := hR.2.2.1.2.2.2.2.2.1
  have hq8 := hR.2.2.1.2.2.2.2.2.2
  have hp9 : ¬ so.1 1 < 0 := by rw [hR.2.2.1.1]; exact hR.2.2.1.2.2.2.2.2.1
  refine lv_aload_n hx hb d_Law_law_366 rfl (lv_at hl 1 rfl) ?_
  refine lv_aload_n hx hb d_Law_law_367 rfl (lv_at hl 0 rfl) ?_
  refine lv_iload_n hx hb d_Law_law_368 rfl (lv_at hl 3 rfl) ?_
  refine lv_iconst (v := 1) hx hb d_Law_law_369 (by decide) ?_
  refine lv_iadd hx hb d_Law_law_370 ?_
  refine va_sld hx hb hX hbl hbA hS (lw_ix 1 hi (by decide) hL) d_Law_law_371 ?_
  obtain ⟨r_1278, er_1278⟩ : ∃ z, z = (k_Desk_doWord sx sc so sa shs sgs sy sr (xs ((nI i) + 1).toNatClampNeg)).1 := ⟨_, rfl⟩
  obtain ⟨sx_1279, esx_1279⟩ : ∃ z, z = (k_Desk_doWord sx sc so sa shs sgs sy sr (xs ((nI i) + 1).toNatClampNeg)).2.1 := ⟨_, rfl⟩
  obtain ⟨sc_1280, esc_1280⟩ : ∃ z, z = (k_Desk_doWord sx sc so sa shs sgs sy sr (xs ((nI i) + 1).toNatClampNeg)).2.2.1 := ⟨_, rfl⟩
  obtain ⟨so_1281, eso_1281⟩ : ∃ z, z = (k_Desk_doWord sx sc so sa shs sgs sy sr (xs ((nI i) + 1).toNatClampNeg)).2.2.2.1 := ⟨_, rfl⟩
  obtain ⟨sa_1282, esa_1282⟩ : ∃ z, z = (k_Desk_doWord sx sc so sa shs sgs sy sr (xs ((nI i) + 1).toNatClampNeg)).2.2.2.2.1 := ⟨_, rfl⟩
  obtain ⟨shs_1283, eshs_1283⟩ : ∃ z, z = (k_Desk_doWord sx sc so sa shs sgs sy sr (xs ((nI i) + 1).toNatClampNeg)).2.2.2.2.2.1 := ⟨_, rfl⟩
  obtain ⟨sgs_1284, esgs_1284⟩ : ∃ z, z = (k_Desk_doWord sx sc so sa shs sgs sy sr (xs ((nI i) + 1).toNatClampNeg)).2.2.2.2.2.2.1 := ⟨_, rfl⟩
  obtain ⟨sy_1285, esy_1285⟩ : ∃ z, z = (k_Desk_doWord sx sc so sa shs sgs sy sr (xs ((nI i) + 1).toNatClampNeg)).2.2.2.2.2.2.2.1 := ⟨_, rfl⟩
  obtain ⟨sr_1286, esr_1286⟩ : ∃ z, z = (k_Desk_doWord sx sc so sa shs sgs sy sr (xs ((nI i) + 1).toNatClampNeg)).2.2.2.2.2.2.2.2 := ⟨_, rfl⟩
  have hM := c_Desk_doWord l G tys ht qx qc qo qa qhs qgs qy qr sx sc so sa shs sgs sy sr (xs ((nI i) + 1).toNatClampNeg) hp9
  rw [← er_1278, ← esx_1279, ← esc_1280, ← eso_1281, ← esa_1282, ← eshs_1283, ← esgs_1284, ← esy_1285, ← esr_1286] at hM
  refine ct_cVi (wr := [(qm, .inr (6, f_Model qp qk sm)), (qp, .inl (cB, 256, .inl sp)), (qk, .inl (cD, 512, .inl sk))]) (w1 := [(qx, .inr (5, f_Desk qc qo qr sx_1279)), (qc, .inr (1, f_Controls qo qhs qgs qy sc_1280)), (qo, .inr (3, f_Outside qa so_1281)), (qa, .inl (cA, 256, .inl sa_1282)), (qhs, .inr (0, f_Bank shs_1283)), (qgs, .inr (0, f_Bank sgs_1284)), (qy, .inr (2, f_Hyper sy_1285)), (qr, .inr (4, f_Registers sr_1286))]) (w2 := [(qx, .inr (5, f_Desk qc qo qr sx_1279)), (qc, .inr (1, f_Controls qo qhs qgs qy sc_1280)), (qo, .inr (3, f_Outside qa so_1281)), (qa, .inl (cA, 256, .inl sa_1282)), (qhs, .inr (0, f_Bank shs_1283)), (qgs, .inr (0, f_Bank sgs_1284)), (qy, .inr (2, f_Hyper sy_1285)), (qr, .inr (4, f_Registers sr_1286)), (qm, .inr (6, f_Model qp qk sm)), (qp, .inl (cB, 256, .inl sp)), (qk, .inl (cD, 512, .inl sk))]) (r := r_1278) (As := [.int (xs ((nI i) + 1).toNatClampNeg)]) (rest := []) (ci := 5) (q0 := 0) ⟨hx, hb, hml, hown, hts⟩ hM (cwV 1 hts (gdV gd_gg q_395 q_396 q_397 q_41 q_398) rfl rfl rfl (by decide +kernel) ⟨Nat.le_of_ble_eq_true rfl, Nat.le_of_ble_eq_true rfl⟩) hE hK hP hD hS hA [0, 1, 2, 3, 4, 5, 6, 7] [8, 9, 10] [3, 4, 5, 6, 7, 8, 9, 10, 0, 1, 2] rfl (by decide) rfl (by decide) (by decide) rfl (by decide) rfl rfl rfl hl.1 rfl (Nat.le_of_ble_eq_true rfl) d_Law_law_372 ⟨Nat.le_of_ble_eq_true rfl, Nat.le_of_ble_eq_true rfl⟩ (fun H locs hP hD hS => ?_)
  refine lv_aload_n hx hb d_Law_law_375 rfl (lv_at hl 2 rfl) ?_
  refine lv_aload_n hx hb d_Law_law_376 rfl (lv_at hl 0 rfl) ?_
  refine lv_iload_n hx hb d_Law_law_377 rfl (lv_at hl 3 rfl) ?_
  refine lv_iconst (v := 1) hx hb d_Law_law_378 (by decide) ?_
  refine lv_iadd hx hb d_Law_law_379 ?_
  refine va_sld hx hb hX hbl hbA hS (lw_ix 1 hi (by decide) hL) d_Law_law_380 ?_
  obtain ⟨r_1287, er_1287⟩ : ∃ z, z = (k_Model_doWord sm sp sk (xs ((nI i) + 1).toNatClampNeg)).1 := ⟨_, rfl⟩
  obtain ⟨sm_1288, esm_1288⟩ : ∃ z, z = (k_Model_doWord sm sp sk (xs ((nI i) + 1).toNatClampNeg)).2.1 := ⟨_, rfl⟩
  obtain ⟨sp_1289, esp_1289⟩ : ∃ z, z = (k_Model_doWord sm sp sk (xs ((nI i) + 1).toNatClampNeg)).2.2.1 := ⟨_, rfl⟩
  obtain ⟨sk_1290, esk_1290⟩ : ∃ z, z = (k_Model_doWord sm sp sk (xs ((nI i) + 1).toNatClampNeg)).2.2.2 := ⟨_, rfl⟩
  have hM := c_Model_doWord l G tys ht1 ht2 qm qp qk sm sp sk (xs ((nI i) + 1).toNatClampNeg) hq9
  rw [← er_1287, ← esm_1288, ← esp_1289, ← esk_1290] at hM
  refine ct_cVi (wr := [(qx, .inr (5, f_Desk qc qo qr sx_1279)), (qc, .inr (1, f_Controls qo qhs qgs qy sc_1280)), (qo, .inr (3, f_Outside qa so_1281)), (qa, .inl (cA, 256, .inl sa_1282)), (qhs, .inr (0, f_Bank shs_1283)), (qgs, .inr (0, f_Bank sgs_1284)), (qy, .inr (2, f_Hyper sy_1285)), (qr, .inr (4, f_Registers sr_1286))]) (w1 := [(qm, .inr (6, f_Model qp qk sm_1288)), (qp, .inl (cB, 256, .inl sp_1289)), (qk, .inl (cD, 512, .inl sk_1290))]) (w2 := [(qx, .inr (5, f_Desk qc qo qr sx_1279)), (qc, .inr (1, f_Controls qo qhs qgs qy sc_1280)), (qo, .inr (3, f_Outside qa so_1281)), (qa, .inl (cA, 256, .inl sa_1282)), (qhs, .inr (0, f_Bank shs_1283)), (qgs, .inr (0, f_Bank sgs_1284)), (qy, .inr (2, f_Hyper sy_1285)), (qr, .inr (4, f_Registers sr_1286)), (qm, .inr (6, f_Model qp qk sm_1288)), (qp, .inl (cB, 256, .inl sp_1289)), (qk, .inl (cD, 512, .inl sk_1290))]) (r := r_1287) (As := [.int (xs ((nI i) + 1).toNatClampNeg)]) (rest := [.int r_1278]) (ci := 6) (q0 := 0) ⟨hx, hb, hml, hown, hts⟩ hM (cwV 1 hts (gdV gd_gg q_756 q_757 q_758 q_47 q_759) rfl rfl rfl (by decide +kernel) ⟨Nat.le_of_ble_eq_true rfl, Nat.le_of_ble_eq_true rfl⟩) hE hK hP hD hS hA [8, 9, 10] [0, 1, 2, 3, 4, 5, 6, 7] [0, 1, 2, 3, 4, 5, 6, 7, 8, 9, 10] rfl (by decide) rfl (by decide) (by decide) rfl (by decide) rfl rfl rfl hl.1 rfl (Nat.le_of_ble_eq_true rfl) d_Law_law_381 ⟨Nat.le_of_ble_eq_true rfl, Nat.le_of_ble_eq_true rfl⟩ (fun H locs hP hD hS => ?_)
  have hq := rel_doWord hR (xs ((nI i) + 1).toNatClampNeg)
  rw [← er_1278, ← esx_1279, ← esc_1280, ← eso_1281, ← esa_1282, ← eshs_1283, ← esgs_1284, ← esy_1285, ← esr_1286, ← er_1287, ← esm_1288, ← esp_1289, ← esk_1290] at hq
  refine lv_icmp_eq (tgt := 575) hx hb d_Law_law_384 (by decide) (fun _ => ?_) (fun c9 => absurd hq.1 c9)
  exact hC sx_1279 sc_1280 so_1281 sa_1282 shs_1283 sgs_1284 sy_1285 sr_1286 sm_1288 sp_1289 sk_1290 H locs ls hq.2 hP hD hS hl
set_option maxHeartbeats 4000000 in
set_option maxRecDepth 100000 in
theorem law_c10 {p : Program} {l : Launch} {e : Env} {s : State} {m : MethodId} {below : List Frame} {meth : Method} {c : Code} {b L : Nat} {xs : Nat → Int32} {G : gx} {tys : List (ClassId × FieldType)} {cA : ClassId} (ht : tys[0]? = some (cA, .byte)) {cB : ClassId} (ht1 : tys[1]? = some (cB, .int)) {cD : ClassId} (ht2 : tys[2]? = some (cD, .int)) (C0 : lw_At p s m meth c b L xs) (hE : ex G (fun q : Nat => s.heap.size ≤ q) s) (hK : va_K G.1 vwCl tys s) {i : Nat} (hi : i + 7 ≤ L) (hL : L ≤ 3584) {qx qc qo qa qhs qgs qy qr qm qp qk : Nat} {sx : ob} {sc : ob} {so : ob} {sa : Nat → Int32} {shs : ob} {sgs : ob} {sy : ob} {sr : ob} {sm : ob} {sp : Nat → Int32} {sk : Nat → Int32} (hR : Rel sx sc so sa shs sgs sy sr sm sp sk)
    (hC : ∀ (sx : ob) (sc : ob) (so : ob) (sa : Nat → Int32) (shs : ob) (sgs : ob) (sy : ob) (sr : ob) (sm : ob) (sp : Nat → Int32) (sk : Nat → Int32) (H : Heap) (locs : List Loc) (ls : Array Slot), Rel sx sc so sa shs sgs sy sr sm sp sk → va_P G.1 vwCl [(qx, .inr (5, f_Desk qc qo qr sx)), (qc, .inr (1, f_Controls qo qhs qgs qy sc)), (qo, .inr (3, f_Outside qa so)), (qa, .inl (cA, 256, .inl sa)), (qhs, .inr (0, f_Bank shs)), (qgs, .inr (0, f_Bank sgs)), (qy, .inr (2, f_Hyper sy)), (qr, .inr (4, f_Registers sr)), (qm, .inr (6, f_Model qp qk sm)), (qp, .inl (cB, 256, .inl sp)), (qk, .inl (cD, 512, .inl sk))] H → va_D (fun q : Nat => s.heap.size ≤ q) [(qx, .inr (5, f_Desk qc qo qr sx)), (qc, .inr (1, f_Controls qo qhs qgs qy sc)), (qo, .inr (3, f_Outside qa so)), (qa, .inl (cA, 256, .inl sa)), (qhs, .inr (0, f_Bank shs)), (qgs, .inr (0, f_Bank sgs)), (qy, .inr (2, f_Hyper sy)), (qr, .inr (4, f_Registers sr)), (qm, .inr (6, f_Model qp qk sm)), (qp, .inl (cB, 256, .inl sp)), (qk, .inl (cD, 512, .inl sk))] → va_S (fun q : Nat => s.heap.size ≤ q) s.heap H locs → lv_has ls 4 [(0, .ref b), (1, .ref qx), (2, .ref qm), (3, .int (nI i))] → W p l e room_1 s m #[Value.ref b] below meth c H locs 11 1092 (lw_Z below #[Value.ref b] s) (F0 m 575 ls []))
    {H : Heap} {locs : List Loc} {ls : Array Slot} (hP : va_P G.1 vwCl [(qx, .inr (5, f_Desk qc qo qr sx)), (qc, .inr (1, f_Controls qo qhs qgs qy sc)), (qo, .inr (3, f_Outside qa so)), (qa, .inl (cA, 256, .inl sa)), (qhs, .inr (0, f_Bank shs)), (qgs, .inr (0, f_Bank sgs)), (qy, .inr (2, f_Hyper sy)), (qr, .inr (4, f_Registers sr)), (qm, .inr (6, f_Model qp qk sm)), (qp, .inl (cB, 256, .inl sp)), (qk, .inl (cD, 512, .inl sk))] H) (hD : va_D (fun q : Nat => s.heap.size ≤ q) [(qx, .inr (5, f_Desk qc qo qr sx)), (qc, .inr (1, f_Controls qo qhs qgs qy sc)), (qo, .inr (3, f_Outside qa so)), (qa, .inl (cA, 256, .inl sa)), (qhs, .inr (0, f_Bank shs)), (qgs, .inr (0, f_Bank sgs)), (qy, .inr (2, f_Hyper sy)), (qr, .inr (4, f_Registers sr)), (qm, .inr (6, f_Model qp qk sm)), (qp, .inl (cB, 256, .inl sp)), (qk, .inl (cD, 512, .inl sk))]) (hS : va_S (fun q : Nat => s.heap.size ≤ q) s.heap H locs) (hl : lv_has ls 4 [(0, .ref b), (1, .ref qx), (2, .ref qm), (3, .int (nI i))]) : W p l e room_1 s m #[Value.ref b] below meth c H locs 11 1092 (lw_Z below #[Value.ref b] s) (F0 m 389 ls []) := by
  obtain ⟨hx, hb, hr, hml, hown, hts, hX, hbl, hlocks, hgv⟩ := id C0
  have hts : ∀ w ∈ gtb, w.before #[Value.ref b] s = true := fun w h => hts w (List.mem_filter.mp h).1
  have hown : s.vm.findClass R_Law = some m.cls := hown
  have hA : ∀ q : Nat, s.heap.size ≤ q → (fun q : Nat => s.heap.size ≤ q) q := fun _ h => h
  have hbA : ¬ (fun q : Nat => s.heap.size ≤ q) b := Nat.not_le.mpr hbl
  have hq9 := hR.2.2.1.2.2.2.2.2.1
  have hq8 := hR.2.2.1.2.2.2.2.2.2
  have hp9 : ¬ so.1 1 < 0 := by rw [hR.2.2.1.1]; exact hR.2.2.1.2.2.2.2.2.1
  refine lv_aload_n hx hb d_Law_law_389 rfl (lv_at hl 1 rfl) ?_
  refine lv_aload_n hx hb d_Law_law_390 rfl (lv_at hl 0 rfl) ?_
  refine lv_iload_n hx hb d_Law_law_391 rfl (lv_at hl 3 rfl) ?_
  refine lv_iconst (v := 1) hx hb d_Law_law_392 (by decide) ?_
  refine lv_iadd hx hb d_Law_law_393 ?_
  refine va_sld hx hb hX hbl hbA hS (lw_ix 1 hi (by decide) hL) d_Law_law_394 ?_
  refine lv_aload_n hx hb d_Law_law_395 rfl (lv_at hl 0 rfl) ?_
  refine lv_iload_n hx hb d_Law_law_396 rfl (lv_at hl 3 rfl) ?_
  refine lv_iconst (v := 2) hx hb d_Law_law_397 (by decide) ?_
  refine lv_iadd hx hb d_Law_law_398 ?_
  refine va_sld hx hb hX hbl hbA hS (lw_ix 2 hi (by decide) hL) d_Law_law_399 ?_
  refine lv_aload_n hx hb d_Law_law_400 rfl (lv_at hl 0 rfl) ?_
  refine lv_iload_n hx hb d_Law_law_401 rfl (lv_at hl 3 rfl) ?_
  refine lv_iconst (v := 3) hx hb d_Law_law_402 (by decide) ?_
  refine lv_iadd hx hb d_Law_law_403 ?_
  refine va_sld hx hb hX hbl hbA hS (lw_ix 3 hi (by decide) hL) d_Law_law_404 ?_
  refine lw_nz hx hb d_Law_law_405 d_Law_law_408 d_Law_law_409 d_Law_law_412 ?_
  refine lv_aload_n hx hb d_Law_law_413 rfl (lv_at hl 0 rfl) ?_
  refine lv_iload_n hx hb d_Law_law_414 rfl (lv_at hl 3 rfl) ?_
  refine lv_iconst (v := 4) hx hb d_Law_law_415 (by decide) ?_
  refine lv_iadd hx hb d_Law_law_416 ?_
  refine va_sld hx hb hX hbl hbA hS (lw_ix 4 hi (by decide) hL) d_Law_law_417 ?_
  refine lv_i2l (v := (xs ((nI i) + 4).toNatClampNeg).toInt64) hx hb d_Law_law_418 rfl ?_
  refine lv_bipush (v := 32) hx hb d_Law_law_419 (by decide) ?_
  refine lv_lshl (v := (lsh ((xs ((nI i) + 4).toNatClampNeg).toInt64) 32)) hx hb d_Law_law_421 rfl ?_
  refine lv_aload_n hx hb d_Law_law_422 rfl (lv_at hl 0 rfl) ?_
  refine lv_iload_n hx hb d_Law_law_423 rfl (lv_at hl 3 rfl) ?_
  refine lv_iconst (v := 5) hx hb d_Law_law_424 (by decide) ?_
  refine lv_iadd hx hb d_Law_law_425 ?_
  refine va_sld hx hb hX hbl hbA hS (lw_ix 5 hi (by decide) hL) d_Law_law_426 ?_
  refine lv_i2l (v := (xs ((nI i) + 5).toNatClampNeg).toInt64) hx hb d_Law_law_427 rfl ?_
  refine lv_ldc2 (v := 4294967295) hx hb hown (hts _ q_844) d_Law_law_428 ?_
  refine lv_land hx hb d_Law_law_431 ?_
  refine lv_lor hx hb d_Law_law_432 ?_
  refine lv_aload_n hx hb d_Law_law_433 rfl (lv_at hl 0 rfl) ?_
  refine lv_iload_n hx hb d_Law_law_434 rfl (lv_at hl 3 rfl) ?_
  refine lv_bipush (v := 6) hx hb d_Law_law_435 (by decide) ?_
  refine lv_iadd hx hb d_Law_law_437 ?_
  refine va_sld hx hb hX hbl hbA hS (lw_ix 6 hi (by decide) hL) d_Law_law_438 ?_
  refine lw_nz hx hb d_Law_law_439 d_Law_law_442 d_Law_law_443 d_Law_law_446 ?_
  obtain ⟨r_1291, er_1291⟩ : ∃ z, z = (k_Desk_fail sx sc so shs sgs sy (xs ((nI i) + 1).toNatClampNeg) (xs ((nI i) + 2).toNatClampNeg) (bz (xs ((nI i) + 3).toNatClampNeg)) ((lsh ((xs ((nI i) + 4).toNatClampNeg).toInt64) 32) ||| ((xs ((nI i) + 5).toNatClampNeg).toInt64 &&& 4294967295)) (bz (xs ((nI i) + 6).toNatClampNeg))).1 := ⟨_, rfl⟩
  obtain ⟨sx_1292, esx_1292⟩ : ∃ z, z = (k_Desk_fail sx sc so shs sgs sy (xs ((nI i) + 1).toNatClampNeg) (xs ((nI i) + 2).toNatClampNeg) (bz (xs ((nI i) + 3).toNatClampNeg)) ((lsh ((xs ((nI i) + 4).toNatClampNeg).toInt64) 32) ||| ((xs ((nI i) + 5).toNatClampNeg).toInt64 &&& 4294967295)) (bz (xs ((nI i) + 6).toNatClampNeg))).2.1 := ⟨_, rfl⟩
  obtain ⟨shs_1293, eshs_1293⟩ : ∃ z, z = (k_Desk_fail sx sc so shs sgs sy (xs ((nI i) + 1).toNatClampNeg) (xs ((nI i) + 2).toNatClampNeg) (bz (xs ((nI i) + 3).toNatClampNeg)) ((lsh ((xs ((nI i) + 4).toNatClampNeg).toInt64) 32) ||| ((xs ((nI i) + 5).toNatClampNeg).toInt64 &&& 4294967295)) (bz (xs ((nI i) + 6).toNatClampNeg))).2.2.1 := ⟨_, rfl⟩
  obtain ⟨sgs_1294, esgs_1294⟩ : ∃ z, z = (k_Desk_fail sx sc so shs sgs sy (xs ((nI i) + 1).toNatClampNeg) (xs ((nI i) + 2).toNatClampNeg) (bz (xs ((nI i) + 3).toNatClampNeg)) ((lsh ((xs ((nI i) + 4).toNatClampNeg).toInt64) 32) ||| ((xs ((nI i) + 5).toNatClampNeg).toInt64 &&& 4294967295)) (bz (xs ((nI i) + 6).toNatClampNeg))).2.2.2.1 := ⟨_, rfl⟩
  obtain ⟨sy_1295, esy_1295⟩ : ∃ z, z = (k_Desk_fail sx sc so shs sgs sy (xs ((nI i) + 1).toNatClampNeg) (xs ((nI i) + 2).toNatClampNeg) (bz (xs ((nI i) + 3).toNatClampNeg)) ((lsh ((xs ((nI i) + 4).toNatClampNeg).toInt64) 32) ||| ((xs ((nI i) + 5).toNatClampNeg).toInt64 &&& 4294967295)) (bz (xs ((nI i) + 6).toNatClampNeg))).2.2.2.2 := ⟨_, rfl⟩
  have hM := c_Desk_fail l G tys qx qc qo qhs qgs qy qr qa sx sc so shs sgs sy (xs ((nI i) + 1).toNatClampNeg) (xs ((nI i) + 2).toNatClampNeg) (bz (xs ((nI i) + 3).toNatClampNeg)) ((lsh ((xs ((nI i) + 4).toNatClampNeg).toInt64) 32) ||| ((xs ((nI i) + 5).toNatClampNeg).toInt64 &&& 4294967295)) (bz (xs ((nI i) + 6).toNatClampNeg))
  rw [← er_1291, ← esx_1292, ← eshs_1293, ← esgs_1294, ← esy_1295] at hM
  refine ct_cVi (wr := [(qa, .inl (cA, 256, .inl sa)), (qr, .inr (4, f_Registers sr)), (qm, .inr (6, f_Model qp qk sm)), (qp, .inl (cB, 256, .inl sp)), (qk, .inl (cD, 512, .inl sk))]) (w1 := [(qx, .inr (5, f_Desk qc qo qr sx_1292)), (qc, .inr (1, f_Controls qo qhs qgs qy sc)), (qo, .inr (3, f_Outside qa so)), (qhs, .inr (0, f_Bank shs_1293)), (qgs, .inr (0, f_Bank sgs_1294)), (qy, .inr (2, f_Hyper sy_1295))]) (w2 := [(qx, .inr (5, f_Desk qc qo qr sx_1292)), (qc, .inr (1, f_Controls qo qhs qgs qy sc)), (qo, .inr (3, f_Outside qa so)), (qa, .inl (cA, 256, .inl sa)), (qhs, .inr (0, f_Bank shs_1293)), (qgs, .inr (0, f_Bank sgs_1294)), (qy, .inr (2, f_Hyper sy_1295)), (qr, .inr (4, f_Registers sr)), (qm, .inr (6, f_Model qp qk sm)), (qp, .inl (cB, 256, .inl sp)), (qk, .inl (cD, 512, .inl sk))]) (r := r_1291) (As := [.int (xs ((nI i) + 1).toNatClampNeg), .int (xs ((nI i) + 2).toNatClampNeg), .int (bI (bz (xs ((nI i) + 3).toNatClampNeg))), .long ((lsh ((xs ((nI i) + 4).toNatClampNeg).toInt64) 32) ||| ((xs ((nI i) + 5).toNatClampNeg).toInt64 &&& 4294967295)), .int (bI (bz (xs ((nI i) + 6).toNatClampNeg)))]) (rest := []) (ci := 5) (q0 := 0) ⟨hx, hb, hml, hown, hts⟩ hM (cwV 5 hts (gdV gd_gg q_548 q_549 q_550 q_41 q_551) rfl rfl rfl (by decide +kernel) ⟨Nat.le_of_ble_eq_true rfl, Nat.le_of_ble_eq_true rfl⟩) hE hK hP hD hS hA [0, 1, 2, 4, 5, 6] [3, 7, 8, 9, 10] [5, 6, 7, 0, 8, 9, 10, 1, 2, 3, 4] rfl (by decide) rfl (by decide) (by decide) rfl (by decide) rfl rfl rfl hl.1 rfl (Nat.le_of_ble_eq_true rfl) d_Law_law_447 ⟨Nat.le_of_ble_eq_true rfl, Nat.le_of_ble_eq_true rfl⟩ (fun H locs hP hD hS => ?_)
  refine lv_aload_n hx hb d_Law_law_450 rfl (lv_at hl 2 rfl) ?_
  refine lv_aload_n hx hb d_Law_law_451 rfl (lv_at hl 0 rfl) ?_
  refine lv_iload_n hx hb d_Law_law_452 rfl (lv_at hl 3 rfl) ?_
  refine lv_iconst (v := 1) hx hb d_Law_law_453 (by decide) ?_
  refine lv_iadd hx hb d_Law_law_454 ?_
  refine va_sld hx hb hX hbl hbA hS (lw_ix 1 hi (by decide) hL) d_Law_law_455 ?_
  refine lv_aload_n hx hb d_Law_law_456 rfl (lv_at hl 0 rfl) ?_
  refine lv_iload_n hx hb d_Law_law_457 rfl (lv_at hl 3 rfl) ?_
  refine lv_iconst (v := 2) hx hb d_Law_law_458 (by decide) ?_
  refine lv_iadd hx hb d_Law_law_459 ?_
  refine va_sld hx hb hX hbl hbA hS (lw_ix 2 hi (by decide) hL) d_Law_law_460 ?_
  refine lv_aload_n hx hb d_Law_law_461 rfl (lv_at hl 0 rfl) ?_
  refine lv_iload_n hx hb d_Law_law_462 rfl (lv_at hl 3 rfl) ?_
  refine lv_iconst (v := 3) hx hb d_Law_law_463 (by decide) ?_
  refine lv_iadd hx hb d_Law_law_464 ?_
  refine va_sld hx hb hX hbl hbA hS (lw_ix 3 hi (by decide) hL) d_Law_law_465 ?_
  refine lw_nz hx hb d_Law_law_466 d_Law_law_469 d_Law_law_470 d_Law_law_473 ?_
  refine lv_aload_n hx hb d_Law_law_474 rfl (lv_at hl 0 rfl) ?_
  refine lv_iload_n hx hb d_Law_law_475 rfl (lv_at hl 3 rfl) ?_
  refine lv_iconst (v := 4) hx hb d_Law_law_476 (by decide) ?_
  refine lv_iadd hx hb d_Law_law_477 ?_
  refine va_sld hx hb hX hbl hbA hS (lw_ix 4 hi (by decide) hL) d_Law_law_478 ?_
  refine lv_i2l (v := (xs ((nI i) + 4).toNatClampNeg).toInt64) hx hb d_Law_law_479 rfl ?_
  refine lv_bipush (v := 32) hx hb d_Law_law_480 (by decide) ?_
  refine lv_lshl (v := (lsh ((xs ((nI i) + 4).toNatClampNeg).toInt64) 32)) hx hb d_Law_law_482 rfl ?_
  refine lv_aload_n hx hb d_Law_law_483 rfl (lv_at hl 0 rfl) ?_
  refine lv_iload_n hx hb d_Law_law_484 rfl (lv_at hl 3 rfl) ?_
  refine lv_iconst (v := 5) hx hb d_Law_law_485 (by decide) ?_
  refine lv_iadd hx hb d_Law_law_486 ?_
  refine va_sld hx hb hX hbl hbA hS (lw_ix 5 hi (by decide) hL) d_Law_law_487 ?_
  refine lv_i2l (v := (xs ((nI i) + 5).toNatClampNeg).toInt64) hx hb d_Law_law_488 rfl ?_
  refine lv_ldc2 (v := 4294967295) hx hb hown (hts _ q_844) d_Law_law_489 ?_
  refine lv_land hx hb d_Law_law_492 ?_
  refine lv_lor hx hb d_Law_law_493 ?_
  refine lv_aload_n hx hb d_Law_law_494 rfl (lv_at hl 0 rfl) ?_
  refine lv_iload_n hx hb d_Law_law_495 rfl (lv_at hl 3 rfl) ?_
  refine lv_bipush (v := 6) hx hb d_Law_law_496 (by decide) ?_
  refine lv_iadd hx hb d_Law_law_498 ?_
  refine va_sld hx hb hX hbl hbA hS (lw_ix 6 hi (by decide) hL) d_Law_law_499 ?_
  refine lw_nz hx hb d_Law_law_500 d_Law_law_503 d_Law_law_504 d_Law_law_507 ?_
  obtain ⟨r_1296, er_1296⟩ : ∃ z, z = (k_Model_fail sm sk (xs ((nI i) + 1).toNatClampNeg) (xs ((nI i) + 2).toNatClampNeg) (bz (xs ((nI i) + 3).toNatClampNeg)) ((lsh ((xs ((nI i) + 4).toNatClampNeg).toInt64) 32) ||| ((xs ((nI i) + 5).toNatClampNeg).toInt64 &&& 4294967295)) (bz (xs ((nI i) + 6).toNatClampNeg))).1 := ⟨_, rfl⟩
  obtain ⟨sm_1297, esm_1297⟩ : ∃ z, z = (k_Model_fail sm sk (xs ((nI i) + 1).toNatClampNeg) (xs ((nI i) + 2).toNatClampNeg) (bz (xs ((nI i) + 3).toNatClampNeg)) ((lsh ((xs ((nI i) + 4).toNatClampNeg).toInt64) 32) ||| ((xs ((nI i) + 5).toNatClampNeg).toInt64 &&& 4294967295)) (bz (xs ((nI i) + 6).toNatClampNeg))).2.1 := ⟨_, rfl⟩
  obtain ⟨sk_1298, esk_1298⟩ : ∃ z, z = (k_Model_fail sm sk (xs ((nI i) + 1).toNatClampNeg) (xs ((nI i) + 2).toNatClampNeg) (bz (xs ((nI i) + 3).toNatClampNeg)) ((lsh ((xs ((nI i) + 4).toNatClampNeg).toInt64) 32) ||| ((xs ((nI i) + 5).toNatClampNeg).toInt64 &&& 4294967295)) (bz (xs ((nI i) + 6).toNatClampNeg))).2.2 := ⟨_, rfl⟩
  have hM := c_Model_fail l G tys ht2 qm qk qp sm sk (xs ((nI i) + 1).toNatClampNeg) (xs ((nI i) + 2).toNatClampNeg) (bz (xs ((nI i) + 3).toNatClampNeg)) ((lsh ((xs ((nI i) + 4).toNatClampNeg).toInt64) 32) ||| ((xs ((nI i) + 5).toNatClampNeg).toInt64 &&& 4294967295)) (bz (xs ((nI i) + 6).toNatClampNeg))
  rw [← er_1296, ← esm_1297, ← esk_1298] at hM
  refine ct_cVi (wr := [(qx, .inr (5, f_Desk qc qo qr sx_1292)), (qc, .inr (1, f_Controls qo qhs qgs qy sc)), (qo, .inr (3, f_Outside qa so)), (qa, .inl (cA, 256, .inl sa)), (qhs, .inr (0, f_Bank shs_1293)), (qgs, .inr (0, f_Bank sgs_1294)), (qy, .inr (2, f_Hyper sy_1295)), (qr, .inr (4, f_Registers sr)), (qp, .inl (cB, 256, .inl sp))]) (w1 := [(qm, .inr (6, f_Model qp qk sm_1297)), (qk, .inl (cD, 512, .inl sk_1298))]) (w2 := [(qx, .inr (5, f_Desk qc qo qr sx_1292)), (qc, .inr (1, f_Controls qo qhs qgs qy sc)), (qo, .inr (3, f_Outside qa so)), (qa, .inl (cA, 256, .inl sa)), (qhs, .inr (0, f_Bank shs_1293)), (qgs, .inr (0, f_Bank sgs_1294)), (qy, .inr (2, f_Hyper sy_1295)), (qr, .inr (4, f_Registers sr)), (qm, .inr (6, f_Model qp qk sm_1297)), (qp, .inl (cB, 256, .inl sp)), (qk, .inl (cD, 512, .inl sk_1298))]) (r := r_1296) (As := [.int (xs ((nI i) + 1).toNatClampNeg), .int (xs ((nI i) + 2).toNatClampNeg), .int (bI (bz (xs ((nI i) + 3).toNatClampNeg))), .long ((lsh ((xs ((nI i) + 4).toNatClampNeg).toInt64) 32) ||| ((xs ((nI i) + 5).toNatClampNeg).toInt64 &&& 4294967295)), .int (bI (bz (xs ((nI i) + 6).toNatClampNeg)))]) (rest := [.int r_1291]) (ci := 6) (q0 := 0) ⟨hx, hb, hml, hown, hts⟩ hM (cwV 5 hts (gdV gd_gg q_719 q_720 q_721 q_47 q_722) rfl rfl rfl (by decide +kernel) ⟨Nat.le_of_ble_eq_true rfl, Nat.le_of_ble_eq_true rfl⟩) hE hK hP hD hS hA [8, 10] [0, 1, 2, 3, 4, 5, 6, 7, 9] [0, 1, 2, 3, 4, 5, 6, 7, 9, 8, 10] rfl (by decide) rfl (by decide) (by decide) rfl (by decide) rfl rfl rfl hl.1 rfl (Nat.le_of_ble_eq_true rfl) d_Law_law_508 ⟨Nat.le_of_ble_eq_true rfl, Nat.le_of_ble_eq_true rfl⟩ (fun H locs hP hD hS => ?_)
  have hq := rel_fail hR (xs ((nI i) + 1).toNatClampNeg) (xs ((nI i) + 2).toNatClampNeg) (bz (xs ((nI i) + 3).toNatClampNeg)) ((lsh ((xs ((nI i) + 4).toNatClampNeg).toInt64) 32) ||| ((xs ((nI i) + 5).toNatClampNeg).toInt64 &&& 4294967295)) (bz (xs ((nI i) + 6).toNatClampNeg))
  rw [← er_1291, ← esx_1292, ← eshs_1293, ← esgs_1294, ← esy_1295, ← er_1296, ← esm_1297, ← esk_1298] at hq
  refine lv_icmp_eq (tgt := 575) hx hb d_Law_law_511 (by decide) (fun _ => ?_) (fun c9 => absurd hq.1 c9)
  exact hC sx_1292 sc so sa shs_1293 sgs_1294 sy_1295 sr sm_1297 sp sk_1298 H locs ls hq.2 hP hD hS hl
set_option maxHeartbeats 4000000 in
set_option maxRecDepth 100000 in
theorem law_c11 {p : Program} {l : Launch} {e : Env} {s : State} {m : MethodId} {below : List Frame} {meth : Method} {c : Code} {b L : Nat} {xs : Nat → Int32} {G : gx} {tys : List (ClassId × FieldType)} {cA : ClassId} (ht : tys[0]? = some (cA, .byte)) {cB : ClassId} (ht1 : tys[1]? = some (cB, .int)) {cD : ClassId} (ht2 : tys[2]? = some (cD, .int)) (C0 : lw_At p s m meth c b L xs) (hE : ex G (fun q : Nat => s.heap.size ≤ q) s) (hK : va_K G.1 vwCl tys s) {i : Nat} (hi : i + 7 ≤ L) (hL : L ≤ 3584) {qx qc qo qa qhs qgs qy qr qm qp qk : Nat} {sx : ob} {sc : ob} {so : ob} {sa : Nat → Int32} {shs : ob} {sgs : ob} {sy : ob} {sr : ob} {sm : ob} {sp : Nat → Int32} {sk : Nat → Int32} (hR : Rel sx sc so sa shs sgs sy sr sm sp sk)
    (hC : ∀ (sx : ob) (sc : ob) (so : ob) (sa : Nat → Int32) (shs : ob) (sgs : ob) (sy : ob) (sr : ob) (sm : ob) (sp : Nat → Int32) (sk : Nat → Int32) (H : Heap) (locs : List Loc) (ls : Array Slot), Rel sx sc so sa shs sgs sy sr sm sp sk → va_P G.1 vwCl [(qx, .inr (5, f_Desk qc qo qr sx)), (qc, .inr (1, f_Controls qo qhs qgs qy sc)), (qo, .inr (3, f_Outside qa so)), (qa, .inl (cA, 256, .inl sa)), (qhs, .inr (0, f_Bank shs)), (qgs, .inr (0, f_Bank sgs)), (qy, .inr (2, f_Hyper sy)), (qr, .inr (4, f_Registers sr)), (qm, .inr (6, f_Model qp qk sm)), (qp, .inl (cB, 256, .inl sp)), (qk, .inl (cD, 512, .inl sk))] H → va_D (fun q : Nat => s.heap.size ≤ q) [(qx, .inr (5, f_Desk qc qo qr sx)), (qc, .inr (1, f_Controls qo qhs qgs qy sc)), (qo, .inr (3, f_Outside qa so)), (qa, .inl (cA, 256, .inl sa)), (qhs, .inr (0, f_Bank shs)), (qgs, .inr (0, f_Bank sgs)), (qy, .inr (2, f_Hyper sy)), (qr, .inr (4, f_Registers sr)), (qm, .inr (6, f_Model qp qk sm)), (qp, .inl (cB, 256, .inl sp)), (qk, .inl (cD, 512, .inl sk))] → va_S (fun q : Nat => s.heap.size ≤ q) s.heap H locs → lv_has ls 4 [(0, .ref b), (1, .ref qx), (2, .ref qm), (3, .int (nI i))] → W p l e room_1 s m #[Value.ref b] below meth c H locs 11 1092 (lw_Z below #[Value.ref b] s) (F0 m 575 ls []))
    {H : Heap} {locs : List Loc} {ls : Array Slot} (hP : va_P G.1 vwCl [(qx, .inr (5, f_Desk qc qo qr sx)), (qc, .inr (1, f_Controls qo qhs qgs qy sc)), (qo, .inr (3, f_Outside qa so)), (qa, .inl (cA, 256, .inl sa)), (qhs, .inr (0, f_Bank shs)), (qgs, .inr (0, f_Bank sgs)), (qy, .inr (2, f_Hyper sy)), (qr, .inr (4, f_Registers sr)), (qm, .inr (6, f_Model qp qk sm)), (qp, .inl (cB, 256, .inl sp)), (qk, .inl (cD, 512, .inl sk))] H) (hD : va_D (fun q : Nat => s.heap.size ≤ q) [(qx, .inr (5, f_Desk qc qo qr sx)), (qc, .inr (1, f_Controls qo qhs qgs qy sc)), (qo, .inr (3, f_Outside qa so)), (qa, .inl (cA, 256, .inl sa)), (qhs, .inr (0, f_Bank shs)), (qgs, .inr (0, f_Bank sgs)), (qy, .inr (2, f_Hyper sy)), (qr, .inr (4, f_Registers sr)), (qm, .inr (6, f_Model qp qk sm)), (qp, .inl (cB, 256, .inl sp)), (qk, .inl (cD, 512, .inl sk))]) (hS : va_S (fun q : Nat => s.heap.size ≤ q) s.heap H locs) (hl : lv_has ls 4 [(0, .ref b), (1, .ref qx), (2, .ref qm), (3, .int (nI i))]) : W p l e room_1 s m #[Value.ref b] below meth c H locs 11 1092 (lw_Z below #[Value.ref b] s) (F0 m 516 ls []) := by
  obtain ⟨hx, hb, hr, hml, hown, hts, hX, hbl, hlocks, hgv⟩ := id C0
  have hts : ∀ w ∈ gtb, w.before #[Value.ref b] s = true := fun w h => hts w (List.mem_filter.mp h).1
  have hown : s.vm.findClass R_Law = some m.cls := hown
  have hA : ∀ q : Nat, s.heap.size ≤ q → (fun q : Nat => s.heap.size ≤ q) q := fun _ h => h
  have hbA : ¬ (fun q : Nat => s.heap.size ≤ q) b := Nat.not_le.mpr hbl
  have hq9 := hR.2.2.1.2.2.2.2.2.1
  have hq8 := hR.2.2.1.2.2.2.2.2.2
  have hp9 : ¬ so.1 1 < 0 := by rw [hR.2.2.1.1]; exact hR.2.2.1.2.2.2.2.2.1
  refine lv_aload_n hx hb d_Law_law_516 rfl (lv_at hl 1 rfl) ?_
  obtain ⟨r_1299, er_1299⟩ : ∃ z, z = (k_Desk_interrupt sx sc so shs sgs sy).1 := ⟨_, rfl⟩
  obtain ⟨sx_1300, esx_1300⟩ : ∃ z, z = (k_Desk_interrupt sx sc so shs sgs sy).2.1 := ⟨_, rfl⟩
  obtain ⟨shs_1301, eshs_1301⟩ : ∃ z, z = (k_Desk_interrupt sx sc so shs sgs sy).2.2.1 := ⟨_, rfl⟩
  obtain ⟨sgs_1302, esgs_1302⟩ : ∃ z, z = (k_Desk_interrupt sx sc so shs sgs sy).2.2.2.1 := ⟨_, rfl⟩
  obtain ⟨sy_1303, esy_1303⟩ : ∃ z, z = (k_Desk_interrupt sx sc so shs sgs sy).2.2.2.2 := ⟨_, rfl⟩
  have hM := c_Desk_interrupt l G tys qx qc qo qhs qgs qy qr qa sx sc so shs sgs sy
  rw [← er_1299, ← esx_1300, ← eshs_1301, ← esgs_1302, ← esy_1303] at hM
  refine ct_cVi (wr := [(qa, .inl (cA, 256, .inl sa)), (qr, .inr (4, f_Registers sr)), (qm, .inr (6, f_Model qp qk sm)), (qp, .inl (cB, 256, .inl sp)), (qk, .inl (cD, 512, .inl sk))]) (w1 := [(qx, .inr (5, f_Desk qc qo qr sx_1300)), (qc, .inr (1, f_Controls qo qhs qgs qy sc)), (qo, .inr (3, f_Outside qa so)), (qhs, .inr (0, f_Bank shs_1301)), (qgs, .inr (0, f_Bank sgs_1302)), (qy, .inr (2, f_Hyper sy_1303))]) (w2 := [(qx, .inr (5, f_Desk qc qo qr sx_1300)), (qc, .inr (1, f_Controls qo qhs qgs qy sc)), (qo, .inr (3, f_Outside qa so)), (qa, .inl (cA, 256, .inl sa)), (qhs, .inr (0, f_Bank shs_1301)), (qgs, .inr (0, f_Bank sgs_1302)), (qy, .inr (2, f_Hyper sy_1303)), (qr, .inr (4, f_Registers sr)), (qm, .inr (6, f_Model qp qk sm)), (qp, .inl (cB, 256, .inl sp)), (qk, .inl (cD, 512, .inl sk))]) (r := r_1299) (As := []) (rest := []) (ci := 5) (q0 := 0) ⟨hx, hb, hml, hown, hts⟩ hM (cwV 0 hts (gdV gd_gg q_555 q_556 q_557 q_41 q_558) rfl rfl rfl (by decide +kernel) ⟨Nat.le_of_ble_eq_true rfl, Nat.le_of_ble_eq_true rfl⟩) hE hK hP hD hS hA [0, 1, 2, 4, 5, 6] [3, 7, 8, 9, 10] [5, 6, 7, 0, 8, 9, 10, 1, 2, 3, 4] rfl (by decide) rfl (by decide) (by decide) rfl (by decide) rfl rfl rfl hl.1 rfl (Nat.le_of_ble_eq_true rfl) d_Law_law_517 ⟨Nat.le_of_ble_eq_true rfl, Nat.le_of_ble_eq_true rfl⟩ (fun H locs hP hD hS => ?_)
  refine lv_aload_n hx hb d_Law_law_520 rfl (lv_at hl 2 rfl) ?_
  obtain ⟨r_1304, er_1304⟩ : ∃ z, z = (k_Model_interrupt sm sk).1 := ⟨_, rfl⟩
  obtain ⟨sm_1305, esm_1305⟩ : ∃ z, z = (k_Model_interrupt sm sk).2.1 := ⟨_, rfl⟩
  obtain ⟨sk_1306, esk_1306⟩ : ∃ z, z = (k_Model_interrupt sm sk).2.2 := ⟨_, rfl⟩
  have hM := c_Model_interrupt l G tys ht2 qm qk qp sm sk
  rw [← er_1304, ← esm_1305, ← esk_1306] at hM
  refine ct_cVi (wr := [(qx, .inr (5, f_Desk qc qo qr sx_1300)), (qc, .inr (1, f_Controls qo qhs qgs qy sc)), (qo, .inr (3, f_Outside qa so)), (qa, .inl (cA, 256, .inl sa)), (qhs, .inr (0, f_Bank shs_1301)), (qgs, .inr (0, f_Bank sgs_1302)), (qy, .inr (2, f_Hyper sy_1303)), (qr, .inr (4, f_Registers sr)), (qp, .inl (cB, 256, .inl sp))]) (w1 := [(qm, .inr (6, f_Model qp qk sm_1305)), (qk, .inl (cD, 512, .inl sk_1306))]) (w2 := [(qx, .inr (5, f_Desk qc qo qr sx_1300)), (qc, .inr (1, f_Controls qo qhs qgs qy sc)), (qo, .inr (3, f_Outside qa so)), (qa, .inl (cA, 256, .inl sa)), (qhs, .inr (0, f_Bank shs_1301)), (qgs, .inr (0, f_Bank sgs_1302)), (qy, .inr (2, f_Hyper sy_1303)), (qr, .inr (4, f_Registers sr)), (qm, .inr (6, f_Model qp qk sm_1305)), (qp, .inl (cB, 256, .inl sp)), (qk, .inl (cD, 512, .inl sk_1306))]) (r := r_1304) (As := []) (rest := [.int r_1299]) (ci := 6) (q0 := 0) ⟨hx, hb, hml, hown, hts⟩ hM (cwV 0 hts (gdV gd_gg q_748 q_749 q_750 q_47 q_751) rfl rfl rfl (by decide +kernel) ⟨Nat.le_of_ble_eq_true rfl, Nat.le_of_ble_eq_true rfl⟩) hE hK hP hD hS hA [8, 10] [0, 1, 2, 3, 4, 5, 6, 7, 9] [0, 1, 2, 3, 4, 5, 6, 7, 9, 8, 10] rfl (by decide) rfl (by decide) (by decide) rfl (by decide) rfl rfl rfl hl.1 rfl (Nat.le_of_ble_eq_true rfl) d_Law_law_521 ⟨Nat.le_of_ble_eq_true rfl, Nat.le_of_ble_eq_true rfl⟩ (fun H locs hP hD hS => ?_)
  have hq := rel_interrupt hR
  rw [← er_1299, ← esx_1300, ← eshs_1301, ← esgs_1302, ← esy_1303, ← er_1304, ← esm_1305, ← esk_1306] at hq
  refine lv_icmp_eq (tgt := 575) hx hb d_Law_law_524 (by decide) (fun _ => ?_) (fun c9 => absurd hq.1 c9)
  exact hC sx_1300 sc so sa shs_1301 sgs_1302 sy_1303 sr sm_1305 sp sk_1306 H locs ls hq.2 hP hD hS hl
set_option maxHeartbeats 4000000 in
set_option maxRecDepth 100000 in
theorem law_c12 {p : Program} {l : Launch} {e : Env} {s : State} {m : MethodId} {below : List Frame} {meth : Method} {c : Code} {b L : Nat} {xs : Nat → Int32} {G : gx} {tys : List (ClassId × FieldType)} {cA : ClassId} (ht : tys[0]? = some (cA, .byte)) {cB : ClassId} (ht1 : tys[1]? = some (cB, .int)) {cD : ClassId} (ht2 : tys[2]? = some (cD, .int)) (C0 : lw_At p s m meth c b L xs) (hE : ex G (fun q : Nat => s.heap.size ≤ q) s) (hK : va_K G.1 vwCl tys s) {i : Nat} (hi : i + 7 ≤ L) (hL : L ≤ 3584) {qx qc qo qa qhs qgs qy qr qm qp qk : Nat} {sx : ob} {sc : ob} {so : ob} {sa : Nat → Int32} {shs : ob} {sgs : ob} {sy : ob} {sr : ob} {sm : ob} {sp : Nat → Int32} {sk : Nat → Int32} (hR : Rel sx sc so sa shs sgs sy sr sm sp sk)
    (hC : ∀ (sx : ob) (sc : ob) (so : ob) (sa : Nat → Int32) (shs : ob) (sgs : ob) (sy : ob) (sr : ob) (sm : ob) (sp : Nat → Int32) (sk : Nat → Int32) (H : Heap) (locs : List Loc) (ls : Array Slot), Rel sx sc so sa shs sgs sy sr sm sp sk → va_P G.1 vwCl [(qx, .inr (5, f_Desk qc qo qr sx)), (qc, .inr (1, f_Controls qo qhs qgs qy sc)), (qo, .inr (3, f_Outside qa so)), (qa, .inl (cA, 256, .inl sa)), (qhs, .inr (0, f_Bank shs)), (qgs, .inr (0, f_Bank sgs)), (qy, .inr (2, f_Hyper sy)), (qr, .inr (4, f_Registers sr)), (qm, .inr (6, f_Model qp qk sm)), (qp, .inl (cB, 256, .inl sp)), (qk, .inl (cD, 512, .inl sk))] H → va_D (fun q : Nat => s.heap.size ≤ q) [(qx, .inr (5, f_Desk qc qo qr sx)), (qc, .inr (1, f_Controls qo qhs qgs qy sc)), (qo, .inr (3, f_Outside qa so)), (qa, .inl (cA, 256, .inl sa)), (qhs, .inr (0, f_Bank shs)), (qgs, .inr (0, f_Bank sgs)), (qy, .inr (2, f_Hyper sy)), (qr, .inr (4, f_Registers sr)), (qm, .inr (6, f_Model qp qk sm)), (qp, .inl (cB, 256, .inl sp)), (qk, .inl (cD, 512, .inl sk))] → va_S (fun q : Nat => s.heap.size ≤ q) s.heap H locs → lv_has ls 4 [(0, .ref b), (1, .ref qx), (2, .ref qm), (3, .int (nI i))] → W p l e room_1 s m #[Value.ref b] below meth c H locs 11 1092 (lw_Z below #[Value.ref b] s) (F0 m 575 ls []))
    {H : Heap} {locs : List Loc} {ls : Array Slot} (hP : va_P G.1 vwCl [(qx, .inr (5, f_Desk qc qo qr sx)), (qc, .inr (1, f_Controls qo qhs qgs qy sc)), (qo, .inr (3, f_Outside qa so)), (qa, .inl (cA, 256, .inl sa)), (qhs, .inr (0, f_Bank shs)), (qgs, .inr (0, f_Bank sgs)), (qy, .inr (2, f_Hyper sy)), (qr, .inr (4, f_Registers sr)), (qm, .inr (6, f_Model qp qk sm)), (qp, .inl (cB, 256, .inl sp)), (qk, .inl (cD, 512, .inl sk))] H) (hD : va_D (fun q : Nat => s.heap.size ≤ q) [(qx, .inr (5, f_Desk qc qo qr sx)), (qc, .inr (1, f_Controls qo qhs qgs qy sc)), (qo, .inr (3, f_Outside qa so)), (qa, .inl (cA, 256, .inl sa)), (qhs, .inr (0, f_Bank shs)), (qgs, .inr (0, f_Bank sgs)), (qy, .inr (2, f_Hyper sy)), (qr, .inr (4, f_Registers sr)), (qm, .inr (6, f_Model qp qk sm)), (qp, .inl (cB, 256, .inl sp)), (qk, .inl (cD, 512, .inl sk))]) (hS : va_S (fun q : Nat => s.heap.size ≤ q) s.heap H locs) (hl : lv_has ls 4 [(0, .ref b), (1, .ref qx), (2, .ref qm), (3, .int (nI i))]) : W p l e room_1 s m #[Value.ref b] below meth c H locs 11 1092 (lw_Z below #[Value.ref b] s) (F0 m 529 ls []) := by
  obtain ⟨hx, hb, hr, hml, hown, hts, hX, hbl, hlocks, hgv⟩ := id C0
  have hts : ∀ w ∈ gtb, w.before #[Value.ref b] s = true := fun w h => hts w (List.mem_filter.mp h).1
  have hown : s.vm.findClass R_Law = some m.cls := hown
  have hA : ∀ q : Nat, s.heap.size ≤ q → (fun q : Nat => s.heap.size ≤ q) q := fun _ h => h
  have hbA : ¬ (fun q : Nat => s.heap.size ≤ q) b := Nat.not_le.mpr hbl
  have hq9 := hR.2.2.1.2.2.2.2.2.1
  have hq8 := hR.2.2.1.2.2.2.2.2.2
  have hp9 : ¬ so.1 1 < 0 := by rw [hR.2.2.1.1]; exact hR.2.2.1.2.2.2.2.2.1
  refine lv_aload_n hx hb d_Law_law_529 rfl (lv_at hl 1 rfl) ?_
  refine lv_aload_n hx hb d_Law_law_530 rfl (lv_at hl 0 rfl) ?_
  refine lv_iload_n hx hb d_Law_law_531 rfl (lv_at hl 3 rfl) ?_
  refine lv_iconst (v := 1) hx hb d_Law_law_532 (by decide) ?_
  refine lv_iadd hx hb d_Law_law_533 ?_
  refine va_sld hx hb hX hbl hbA hS (lw_ix 1 hi (by decide) hL) d_Law_law_534 ?_
  refine ct_cVi (wr := [(qc, .inr (1, f_Controls qo qhs qgs qy sc)), (qa, .inl (cA, 256, .inl sa)), (qhs, .inr (0, f_Bank shs)), (qgs, .inr (0, f_Bank sgs)), (qy, .inr (2, f_Hyper sy)), (qr, .inr (4, f_Registers sr)), (qm, .inr (6, f_Model qp qk sm)), (qp, .inl (cB, 256, .inl sp)), (qk, .inl (cD, 512, .inl sk))]) (w1 := [(qx, .inr (5, f_Desk qc qo qr sx)), (qo, .inr (3, f_Outside qa so))]) (w2 := [(qx, .inr (5, f_Desk qc qo qr sx)), (qc, .inr (1, f_Controls qo qhs qgs qy sc)), (qo, .inr (3, f_Outside qa so)), (qa, .inl (cA, 256, .inl sa)), (qhs, .inr (0, f_Bank shs)), (qgs, .inr (0, f_Bank sgs)), (qy, .inr (2, f_Hyper sy)), (qr, .inr (4, f_Registers sr)), (qm, .inr (6, f_Model qp qk sm)), (qp, .inl (cB, 256, .inl sp)), (qk, .inl (cD, 512, .inl sk))]) (r := (k_Desk_count sx so (xs ((nI i) + 1).toNatClampNeg))) (As := [.int (xs ((nI i) + 1).toNatClampNeg)]) (rest := []) (ci := 5) (q0 := 0) ⟨hx, hb, hml, hown, hts⟩ (c_Desk_count l G tys qx qo qc qr qa sx so (xs ((nI i) + 1).toNatClampNeg)) (cwV 1 hts (gdV gd_gg q_584 q_585 q_586 q_41 q_587) rfl rfl rfl (by decide +kernel) ⟨Nat.le_of_ble_eq_true rfl, Nat.le_of_ble_eq_true rfl⟩) hE hK hP hD hS hA [0, 2] [1, 3, 4, 5, 6, 7, 8, 9, 10] [9, 0, 10, 1, 2, 3, 4, 5, 6, 7, 8] rfl (by decide) rfl (by decide) (by decide) rfl (by decide) rfl rfl rfl hl.1 rfl (Nat.le_of_ble_eq_true rfl) d_Law_law_535 ⟨Nat.le_of_ble_eq_true rfl, Nat.le_of_ble_eq_true rfl⟩ (fun H locs hP hD hS => ?_)
  refine lv_aload_n hx hb d_Law_law_538 rfl (lv_at hl 2 rfl) ?_
  refine lv_aload_n hx hb d_Law_law_539 rfl (lv_at hl 0 rfl) ?_
  refine lv_iload_n hx hb d_Law_law_540 rfl (lv_at hl 3 rfl) ?_
  refine lv_iconst (v := 1) hx hb d_Law_law_541 (by decide) ?_
  refine lv_iadd hx hb d_Law_law_542 ?_
  refine va_sld hx hb hX hbl hbA hS (lw_ix 1 hi (by decide) hL) d_Law_law_543 ?_
  refine ct_cVi (wr := [(qx, .inr (5, f_Desk qc qo qr sx)), (qc, .inr (1, f_Controls qo qhs qgs qy sc)), (qo, .inr (3, f_Outside qa so)), (qa, .inl (cA, 256, .inl sa)), (qhs, .inr (0, f_Bank shs)), (qgs, .inr (0, f_Bank sgs)), (qy, .inr (2, f_Hyper sy)), (qr, .inr (4, f_Registers sr)), (qp, .inl (cB, 256, .inl sp)), (qk, .inl (cD, 512, .inl sk))]) (w1 := [(qm, .inr (6, f_Model qp qk sm))]) (w2 := [(qx, .inr (5, f_Desk qc qo qr sx)), (qc, .inr (1, f_Controls qo qhs qgs qy sc)), (qo, .inr (3, f_Outside qa so)), (qa, .inl (cA, 256, .inl sa)), (qhs, .inr (0, f_Bank shs)), (qgs, .inr (0, f_Bank sgs)), (qy, .inr (2, f_Hyper sy)), (qr, .inr (4, f_Registers sr)), (qm, .inr (6, f_Model qp qk sm)), (qp, .inl (cB, 256, .inl sp)), (qk, .inl (cD, 512, .inl sk))]) (r := (k_Model_count sm (xs ((nI i) + 1).toNatClampNeg))) (As := [.int (xs ((nI i) + 1).toNatClampNeg)]) (rest := [.int (k_Desk_count sx so (xs ((nI i) + 1).toNatClampNeg))]) (ci := 6) (q0 := 0) ⟨hx, hb, hml, hown, hts⟩ (c_Model_count l G tys qm qp qk sm (xs ((nI i) + 1).toNatClampNeg)) (cwV 1 hts (gdV gd_gg q_836 q_837 q_838 q_47 q_839) rfl rfl rfl (by decide +kernel) ⟨Nat.le_of_ble_eq_true rfl, Nat.le_of_ble_eq_true rfl⟩) hE hK hP hD hS hA [8] [0, 1, 2, 3, 4, 5, 6, 7, 9, 10] [0, 1, 2, 3, 4, 5, 6, 7, 10, 8, 9] rfl (by decide) rfl (by decide) (by decide) rfl (by decide) rfl rfl rfl hl.1 rfl (Nat.le_of_ble_eq_true rfl) d_Law_law_544 ⟨Nat.le_of_ble_eq_true rfl, Nat.le_of_ble_eq_true rfl⟩ (fun H locs hP hD hS => ?_)
  have hq := rel_count hR (xs ((nI i) + 1).toNatClampNeg)
  refine lv_icmp_eq (tgt := 575) hx hb d_Law_law_547 (by decide) (fun _ => ?_) (fun c9 => absurd hq.1 c9)
  exact hC sx sc so sa shs sgs sy sr sm sp sk H locs ls hq.2 hP hD hS hl
set_option maxHeartbeats 4000000 in
set_option maxRecDepth 100000 in
theorem law_c13 {p : Program} {l : Launch} {e : Env} {s : State} {m : MethodId} {below : List Frame} {meth : Method} {c : Code} {b L : Nat} {xs : Nat → Int32} {G : gx} {tys : List (ClassId × FieldType)} {cA : ClassId} (ht : tys[0]? = some (cA, .byte)) {cB : ClassId} (ht1 : tys[1]? = some (cB, .int)) {cD : ClassId} (ht2 : tys[2]? = some (cD, .int)) (C0 : lw_At p s m meth c b L xs) (hE : ex G (fun q : Nat => s.heap.size ≤ q) s) (hK : va_K G.1 vwCl tys s) {i : Nat} (hi : i + 7 ≤ L) (hL : L ≤ 3584) {qx qc qo qa qhs qgs qy qr qm qp qk : Nat} {sx : ob} {sc : ob} {so : ob} {sa : Nat → Int32} {shs : ob} {sgs : ob} {sy : ob} {sr : ob} {sm : ob} {sp : Nat → Int32} {sk : Nat → Int32} (hR : Rel sx sc so sa shs sgs sy sr sm sp sk)
    (hC : ∀ (sx : ob) (sc : ob) (so : ob) (sa : Nat → Int32) (shs : ob) (sgs : ob) (sy : ob) (sr : ob) (sm : ob) (sp : Nat → Int32) (sk : Nat → Int32) (H : Heap) (locs : List Loc) (ls : Array Slot), Rel sx sc so sa shs sgs sy sr sm sp sk → va_P G.1 vwCl [(qx, .inr (5, f_Desk qc qo qr sx)), (qc, .inr (1, f_Controls qo qhs qgs qy sc)), (qo, .inr (3, f_Outside qa so)), (qa, .inl (cA, 256, .inl sa)), (qhs, .inr (0, f_Bank shs)), (qgs, .inr (0, f_Bank sgs)), (qy, .inr (2, f_Hyper sy)), (qr, .inr (4, f_Registers sr)), (qm, .inr (6, f_Model qp qk sm)), (qp, .inl (cB, 256, .inl sp)), (qk, .inl (cD, 512, .inl sk))] H → va_D (fun q : Nat => s.heap.size ≤ q) [(qx, .inr (5, f_Desk qc qo qr sx)), (qc, .inr (1, f_Controls qo qhs qgs qy sc)), (qo, .inr (3, f_Outside qa so)), (qa, .inl (cA, 256, .inl sa)), (qhs, .inr (0, f_Bank shs)), (qgs, .inr (0, f_Bank sgs)), (qy, .inr (2, f_Hyper sy)), (qr, .inr (4, f_Registers sr)), (qm, .inr (6, f_Model qp qk sm)), (qp, .inl (cB, 256, .inl sp)), (qk, .inl (cD, 512, .inl sk))] → va_S (fun q : Nat => s.heap.size ≤ q) s.heap H locs → lv_has ls 4 [(0, .ref b), (1, .ref qx), (2, .ref qm), (3, .int (nI i))] → W p l e room_1 s m #[Value.ref b] below meth c H locs 11 1092 (lw_Z below #[Value.ref b] s) (F0 m 575 ls []))
    {H : Heap} {locs : List Loc} {ls : Array Slot} (hP : va_P G.1 vwCl [(qx, .inr (5, f_Desk qc qo qr sx)), (qc, .inr (1, f_Controls qo qhs qgs qy sc)), (qo, .inr (3, f_Outside qa so)), (qa, .inl (cA, 256, .inl sa)), (qhs, .inr (0, f_Bank shs)), (qgs, .inr (0, f_Bank sgs)), (qy, .inr (2, f_Hyper sy)), (qr, .inr (4, f_Registers sr)), (qm, .inr (6, f_Model qp qk sm)), (qp, .inl (cB, 256, .inl sp)), (qk, .inl (cD, 512, .inl sk))] H) (hD : va_D (fun q : Nat => s.heap.size ≤ q) [(qx, .inr (5, f_Desk qc qo qr sx)), (qc, .inr (1, f_Controls qo qhs qgs qy sc)), (qo, .inr (3, f_Outside qa so)), (qa, .inl (cA, 256, .inl sa)), (qhs, .inr (0, f_Bank shs)), (qgs, .inr (0, f_Bank sgs)), (qy, .inr (2, f_Hyper sy)), (qr, .inr (4, f_Registers sr)), (qm, .inr (6, f_Model qp qk sm)), (qp, .inl (cB, 256, .inl sp)), (qk, .inl (cD, 512, .inl sk))]) (hS : va_S (fun q : Nat => s.heap.size ≤ q) s.heap H locs) (hl : lv_has ls 4 [(0, .ref b), (1, .ref qx), (2, .ref qm), (3, .int (nI i))]) : W p l e room_1 s m #[Value.ref b] below meth c H locs 11 1092 (lw_Z below #[Value.ref b] s) (F0 m 552 ls []) := by
  obtain ⟨hx, hb, hr, hml, hown, hts, hX, hbl, hlocks, hgv⟩ := id C0
  have hts : ∀ w ∈ gtb, w.before #[Value.ref b] s = true := fun w h => hts w (List.mem_filter.mp h).1
  have hown : s.vm.findClass R_Law = some m.cls := hown
  have hA : ∀ q : Nat, s.heap.size ≤ q → (fun q : Nat => s.heap.size ≤ q) q := fun _ h => h
  have hbA : ¬ (fun q : Nat => s.heap.size ≤ q) b := Nat.not_le.mpr hbl
  have hq9 := hR.2.2.1.2.2.2.2.2.1
  have hq8 := hR.2.2.1.2.2.2.2.2.2
  have hp9 : ¬ so.1 1 < 0 := by rw [hR.2.2.1.1]; exact hR.2.2.1.2.2.2.2.2.1
  refine lv_aload_n hx hb d_Law_law_552 rfl (lv_at hl 1 rfl) ?_
  refine lv_aload_n hx hb d_Law_law_553 rfl (lv_at hl 0 rfl) ?_
  refine lv_iload_n hx hb d_Law_law_554 rfl (lv_at hl 3 rfl) ?_
  refine lv_iconst (v := 1) hx hb d_Law_law_555 (by decide) ?_
  refine lv_iadd hx hb d_Law_law_556 ?_
  refine va_sld hx hb hX hbl hbA hS (lw_ix 1 hi (by decide) hL) d_Law_law_557 ?_
  refine ct_cVi (wr := [(qc, .inr (1, f_Controls qo qhs qgs qy sc)), (qhs, .inr (0, f_Bank shs)), (qgs, .inr (0, f_Bank sgs)), (qy, .inr (2, f_Hyper sy)), (qr, .inr (4, f_Registers sr)), (qm, .inr (6, f_Model qp qk sm)), (qp, .inl (cB, 256, .inl sp)), (qk, .inl (cD, 512, .inl sk))]) (w1 := [(qx, .inr (5, f_Desk qc qo qr sx)), (qo, .inr (3, f_Outside qa so)), (qa, .inl (cA, 256, .inl sa))]) (w2 := [(qx, .inr (5, f_Desk qc qo qr sx)), (qc, .inr (1, f_Controls qo qhs qgs qy sc)), (qo, .inr (3, f_Outside qa so)), (qa, .inl (cA, 256, .inl sa)), (qhs, .inr (0, f_Bank shs)), (qgs, .inr (0, f_Bank sgs)), (qy, .inr (2, f_Hyper sy)), (qr, .inr (4, f_Registers sr)), (qm, .inr (6, f_Model qp qk sm)), (qp, .inl (cB, 256, .inl sp)), (qk, .inl (cD, 512, .inl sk))]) (r := (k_Desk_console sx so sa (xs ((nI i) + 1).toNatClampNeg))) (As := [.int (xs ((nI i) + 1).toNatClampNeg)]) (rest := []) (ci := 5) (q0 := 0) ⟨hx, hb, hml, hown, hts⟩ (c_Desk_console l G tys ht qx qo qa qc qr sx so sa (xs ((nI i) + 1).toNatClampNeg)) (cwV 1 hts (gdV gd_gg q_588 q_589 q_590 q_41 q_591) rfl rfl rfl (by decide +kernel) ⟨Nat.le_of_ble_eq_true rfl, Nat.le_of_ble_eq_true rfl⟩) hE hK hP hD hS hA [0, 2, 3] [1, 4, 5, 6, 7, 8, 9, 10] [8, 0, 9, 10, 1, 2, 3, 4, 5, 6, 7] rfl (by decide) rfl (by decide) (by decide) rfl (by decide) rfl rfl rfl hl.1 rfl (Nat.le_of_ble_eq_true rfl) d_Law_law_558 ⟨Nat.le_of_ble_eq_true rfl, Nat.le_of_ble_eq_true rfl⟩ (fun H locs hP hD hS => ?_)
  refine lv_aload_n hx hb d_Law_law_561 rfl (lv_at hl 2 rfl) ?_
  refine lv_aload_n hx hb d_Law_law_562 rfl (lv_at hl 0 rfl) ?_
  refine lv_iload_n hx hb d_Law_law_563 rfl (lv_at hl 3 rfl) ?_
  refine lv_iconst (v := 1) hx hb d_Law_law_564 (by decide) ?_
  refine lv_iadd hx hb d_Law_law_565 ?_
  refine va_sld hx hb hX hbl hbA hS (lw_ix 1 hi (by decide) hL) d_Law_law_566 ?_
  refine ct_cVi (wr := [(qx, .inr (5, f_Desk qc qo qr sx)), (qc, .inr (1, f_Controls qo qhs qgs qy sc)), (qo, .inr (3, f_Outside qa so)), (qa, .inl (cA, 256, .inl sa)), (qhs, .inr (0, f_Bank shs)), (qgs, .inr (0, f_Bank sgs)), (qy, .inr (2, f_Hyper sy)), (qr, .inr (4, f_Registers sr)), (qk, .inl (cD, 512, .inl sk))]) (w1 := [(qm, .inr (6, f_Model qp qk sm)), (qp, .inl (cB, 256, .inl sp))]) (w2 := [(qx, .inr (5, f_Desk qc qo qr sx)), (qc, .inr (1, f_Controls qo qhs qgs qy sc)), (qo, .inr (3, f_Outside qa so)), (qa, .inl (cA, 256, .inl sa)), (qhs, .inr (0, f_Bank shs)), (qgs, .inr (0, f_Bank sgs)), (qy, .inr (2, f_Hyper sy)), (qr, .inr (4, f_Registers sr)), (qm, .inr (6, f_Model qp qk sm)), (qp, .inl (cB, 256, .inl sp)), (qk, .inl (cD, 512, .inl sk))]) (r := (k_Model_console sm sp (xs ((nI i) + 1).toNatClampNeg))) (As := [.int (xs ((nI i) + 1).toNatClampNeg)]) (rest := [.int (k_Desk_console sx so sa (xs ((nI i) + 1).toNatClampNeg))]) (ci := 6) (q0 := 0) ⟨hx, hb, hml, hown, hts⟩ (c_Model_console l G tys ht1 qm qp qk sm sp (xs ((nI i) + 1).toNatClampNeg) hq8) (cwV 1 hts (gdV gd_gg q_840 q_841 q_842 q_47 q_843) rfl rfl rfl (by decide +kernel) ⟨Nat.le_of_ble_eq_true rfl, Nat.le_of_ble_eq_true rfl⟩) hE hK hP hD hS hA [8, 9] [0, 1, 2, 3, 4, 5, 6, 7, 10] [0, 1, 2, 3, 4, 5, 6, 7, 9, 10, 8] rfl (by decide) rfl (by decide) (by decide) rfl (by decide) rfl rfl rfl hl.1 rfl (Nat.le_of_ble_eq_true rfl) d_Law_law_567 ⟨Nat.le_of_ble_eq_true rfl, Nat.le_of_ble_eq_true rfl⟩ (fun H locs hP hD hS => ?_)
  have hq := rel_console hR (xs ((nI i) + 1).toNatClampNeg)
  refine lv_icmp_eq (tgt := 575) hx hb d_Law_law_570 (by decide) (fun _ => ?_) (fun c9 => absurd hq.1 c9)
  exact hC sx sc so sa shs sgs sy sr sm sp sk H locs ls hq.2 hP hD hS hl
