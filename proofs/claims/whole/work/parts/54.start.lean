theorem rel_0 : Rel (oi o0 3 1) o0 oOut (fun _ => 0) o0 o0 o0 o0 (k_Model_begin o0 (fun _ => 0)).1 (fun _ => 0) (k_Model_begin o0 (fun _ => 0)).2 := by
  refine ⟨⟨rfl, rfl, rfl, rfl, rfl, Or.inr (Or.inl rfl)⟩, ⟨rfl, rfl, (show (0 : Int32) &&& 546 = 0 by decide), (show (0 : Int32) &&& 2 = 0 by decide)⟩, ⟨rfl, rfl, rfl, rfl, rfl, (show ¬ (0 : Int32) < 0 by decide), (show (0 : Int32) ≤ 256 by decide)⟩, ⟨rfl, rfl, rfl, rfl, rfl, rfl, rfl⟩, ⟨rfl, rfl, rfl, rfl, rfl, rfl, rfl⟩, ⟨rfl, rfl, rfl, rfl, rfl, rfl, rfl, rfl, (show (0 : Int32) &&& 1092 = 0 by decide), (show (0 : Int32) &&& 1092 = 0 by decide)⟩, ⟨rfl, rfl, rfl⟩, ?_⟩
  intro j hj h2
  exact (show (0 : Int32) &&& 255 = 0 by decide)
set_option maxHeartbeats 4000000 in
set_option maxRecDepth 100000 in
theorem ex_0 {args : Array Value} {s : State} (D : va_G) (hts0 : ∀ w ∈ lw_tbl, w.before args s = true) (hgv : (Jvm.Cond.and given_1 narrow_1).before args s = true) : ∃ t1 t2 : Nat, ex (D, t1, t2) (fun q : Nat => s.heap.size ≤ q) s := by
  have hts : ∀ w ∈ gtb, w.before args s = true := fun w h => hts0 w (List.mem_filter.mp h).1
  have hs := flat_of_before _ hgv
  have hA : ∀ a : Nat, a < s.heap.size → ¬ (fun q : Nat => s.heap.size ≤ q) a := fun a h => Nat.not_le.mpr h
  obtain ⟨t1, v1, hT1⟩ := va_Tof (tm := (.static "TrapDesk" "ORDER_FOR_S" "[I")) (ty := .int) (N := 6) (f := fun j => .int (ordS j)) (A := (fun q : Nat => s.heap.size ≤ q)) (args := args) (s := s) (by decide) (hs (Cond.arrayOf (.static "TrapDesk" "ORDER_FOR_S" "[I") .int) (by decide +kernel)) (va_eqt (hs (Cond.eq (.length (.static "TrapDesk" "ORDER_FOR_S" "[I")) (.int 6)) (by decide +kernel))) (fun j hj => by
    rcases (show j = 0 ∨ j = 1 ∨ j = 2 ∨ j = 3 ∨ j = 4 ∨ j = 5 by omega) with rfl | rfl | rfl | rfl | rfl | rfl
    · exact va_eqt (hs (Cond.eq (.elem (.static "TrapDesk" "ORDER_FOR_S" "[I") (.int 0)) (.int 9)) (by decide +kernel))
    · exact va_eqt (hs (Cond.eq (.elem (.static "TrapDesk" "ORDER_FOR_S" "[I") (.int 1)) (.int 1)) (by decide +kernel))
    · exact va_eqt (hs (Cond.eq (.elem (.static "TrapDesk" "ORDER_FOR_S" "[I") (.int 2)) (.int 5)) (by decide +kernel))
    · exact va_eqt (hs (Cond.eq (.elem (.static "TrapDesk" "ORDER_FOR_S" "[I") (.int 3)) (.int 10)) (by decide +kernel))
    · exact va_eqt (hs (Cond.eq (.elem (.static "TrapDesk" "ORDER_FOR_S" "[I") (.int 4)) (.int 2)) (by decide +kernel))
    · exact va_eqt (hs (Cond.eq (.elem (.static "TrapDesk" "ORDER_FOR_S" "[I") (.int 5)) (.int 6)) (by decide +kernel))) hA
  have hZ1 := va_Zref (A := (fun q : Nat => s.heap.size ≤ q)) (hts0 _ (List.mem_of_getElem? (i := 565) (by decide +kernel))) (hts _ q_41) v1 hA
  obtain ⟨t2, v2, hT2⟩ := va_Tof (tm := (.static "TrapDesk" "ORDER_FOR_VS" "[I")) (ty := .int) (N := 3) (f := fun j => .int (ordV j)) (A := (fun q : Nat => s.heap.size ≤ q)) (args := args) (s := s) (by decide) (hs (Cond.arrayOf (.static "TrapDesk" "ORDER_FOR_VS" "[I") .int) (by decide +kernel)) (va_eqt (hs (Cond.eq (.length (.static "TrapDesk" "ORDER_FOR_VS" "[I")) (.int 3)) (by decide +kernel))) (fun j hj => by
    rcases (show j = 0 ∨ j = 1 ∨ j = 2 by omega) with rfl | rfl | rfl
    · exact va_eqt (hs (Cond.eq (.elem (.static "TrapDesk" "ORDER_FOR_VS" "[I") (.int 0)) (.int 10)) (by decide +kernel))
    · exact va_eqt (hs (Cond.eq (.elem (.static "TrapDesk" "ORDER_FOR_VS" "[I") (.int 1)) (.int 2)) (by decide +kernel))
    · exact va_eqt (hs (Cond.eq (.elem (.static "TrapDesk" "ORDER_FOR_VS" "[I") (.int 2)) (.int 6)) (by decide +kernel))) hA
  have hZ2 := va_Zref (A := (fun q : Nat => s.heap.size ≤ q)) (hts0 _ (List.mem_of_getElem? (i := 579) (by decide +kernel))) (hts _ q_41) v2 hA
  exact ⟨t1, t2, hZ1, hT1, hZ2, hT2, va_Nw.of rfl (hts0 _ (List.mem_of_getElem? (i := 99) (by decide +kernel))), va_Nw.of rfl (hts0 _ (List.mem_of_getElem? (i := 128) (by decide +kernel))), va_Nw.of rfl (hts0 _ (List.mem_of_getElem? (i := 188) (by decide +kernel)))⟩
set_option maxHeartbeats 4000000 in
set_option maxRecDepth 100000 in
theorem whole_start {p : Program} {e : Env} {s : State} {m : MethodId} {below : List Frame} {meth : Method} {c : Code} (l : Launch) {b L : Nat} {xs : Nat → Int32} (hL : L ≤ 3584) (C0 : lw_At p s m meth c b L xs) : W p l e room_1 s m #[Value.ref b] below meth c s.heap [] 0 0 (lw_Z below #[Value.ref b] s) (entryFrame m ([Value.ref b] : List Value).toArray 4) := by
  obtain ⟨hx, hb, hr, hml, hown, hts0, hX, hbl, hlocks, hgv⟩ := id C0
  have hts : ∀ w ∈ gtb, w.before #[Value.ref b] s = true := fun w h => hts0 w (List.mem_filter.mp h).1
  have hown : s.vm.findClass R_Law = some m.cls := hown
  have hA : ∀ q : Nat, s.heap.size ≤ q → (fun q : Nat => s.heap.size ≤ q) q := fun _ h => h
  obtain ⟨c0, iS0, hKn0⟩ := u_known (C := R_Bank) (T := T_Bank) (N := 7) (n := 7) hts iw_Bank (hts _ q_98)
  obtain ⟨c1, iS1, hKn1⟩ := u_known (C := R_Controls) (T := T_Controls) (N := 6) (n := 6) hts iw_Controls (hts _ q_58)
  obtain ⟨c2, iS2, hKn2⟩ := u_known (C := R_Hyper) (T := T_Hyper) (N := 8) (n := 8) hts iw_Hyper (hts _ q_127)
  obtain ⟨c3, iS3, hKn3⟩ := u_known (C := R_Outside) (T := T_Outside) (N := 6) (n := 6) hts iw_Outside (hts _ q_64)
  obtain ⟨c4, iS4, hKn4⟩ := u_known (C := R_Registers) (T := T_Registers) (N := 3) (n := 3) hts iw_Registers (hts _ q_187)
  obtain ⟨c5, iS5, hKn5⟩ := u_known (C := R_Desk) (T := T_Desk) (N := 8) (n := 8) hts iw_Desk (hts _ q_50)
  obtain ⟨c6, iS6, hKn6⟩ := u_known (C := R_Model) (T := T_Model) (N := 23) (n := 23) hts iw_Model (hts _ q_597)
  obtain ⟨dC, dI, hKc⟩ : ∃ (dC : Nat → ClassId) (dI : Nat → Nat → Nat), ∀ (k : Nat) (q : vw_C), vwCl[k]? = some q → u_Kn s q.1 q.2.1 q.2.2 (dC k) (dI k) := by
    refine ⟨fun k => if k = 0 then c0 else if k = 1 then c1 else if k = 2 then c2 else if k = 3 then c3 else if k = 4 then c4 else if k = 5 then c5 else c6, fun k => if k = 0 then iS0 else if k = 1 then iS1 else if k = 2 then iS2 else if k = 3 then iS3 else if k = 4 then iS4 else if k = 5 then iS5 else iS6, ?_⟩
    intro k q hq
    match k, hq with
    | 0, hq => cases hq; exact hKn0
    | 1, hq => cases hq; exact hKn1
    | 2, hq => cases hq; exact hKn2
    | 3, hq => cases hq; exact hKn3
    | 4, hq => cases hq; exact hKn4
    | 5, hq => cases hq; exact hKn5
    | 6, hq => cases hq; exact hKn6
    | k + 7, hq => simp [vwCl] at hq
  obtain ⟨t1, t2, hE⟩ := ex_0 (dC, dI) hts0 hgv
  obtain ⟨G, eG⟩ : ∃ G : gx, G = ((dC, dI), t1, t2) := ⟨_, rfl⟩
  have hE : ex G (fun q : Nat => s.heap.size ≤ q) s := by rw [eG]; exact hE
  have hS : va_S (fun q : Nat => s.heap.size ≤ q) s.heap s.heap [] := va_S.rf
  have hK : va_K G.1 vwCl [] s := by rw [eG]; exact ⟨hKc, fun k q h => by simp at h⟩
  have hP : va_P G.1 vwCl [] s.heap := fun k q h => by simp at h
  have hD : va_D (fun q : Nat => s.heap.size ≤ q) [] := ⟨fun i j p q h => by simp at h, fun k q h => by simp at h⟩
  have hl := lv_entry ([.ref b]) (n := 4) (Nat.le_of_ble_eq_true rfl)
  rw [lg_entry_eq]
  generalize (lg_sl ([.ref b]) ++ List.replicate (4 - (lg_sl ([.ref b])).length) Slot.unset).toArray = ls at hl ⊢
  have hl : lv_has ls 4 [(0, .ref b)] := hl
  refine va_new (ci := 5) (fs := [.null, .null, .null, .int 0, .int 0, .int 0, .int 0, .int 0]) (C := R_Desk) (T := T_Desk) (N := 8) hx hb hts (iw_Desk) ty_Desk tyok_Desk hown (hts _ q_49) (hts _ q_50) (hts _ q_41) hK hP hD hS hA rfl (fun j hj => by rcases (show j = 0 ∨ j = 1 ∨ j = 2 ∨ j = 3 ∨ j = 4 ∨ j = 5 ∨ j = 6 ∨ j = 7 by omega) with rfl | rfl | rfl | rfl | rfl | rfl | rfl | rfl <;> rfl) (Nat.le_of_ble_eq_true rfl) (Nat.le_of_ble_eq_true rfl) d_Law_law_0 (fun qx H hP hD hS => ?_)
  have hP : va_P G.1 vwCl [(qx, .inr (5, [.null, .null, .null, .int 0, .int 0, .int 0, .int 0, .int 0]))] H := hP
  have hD : va_D (fun q : Nat => s.heap.size ≤ q) [(qx, .inr (5, [.null, .null, .null, .int 0, .int 0, .int 0, .int 0, .int 0]))] := hD
  refine lv_dup hx hb d_Law_law_3 rfl ?_
  refine ct_gon (wc := [(qx, .inr (5, [.null, .null, .null, .int 0, .int 0, .int 0, .int 0, .int 0]))]) (wr := []) (va_runI (As := []) (rest := [.ref qx]) (b := qx) ⟨hx, hb, hml, hown, hts⟩ (c_Desk_init l G [] qx H.size) (cwI 0 hts (gd_c gd_gg q_53) rfl rfl rfl (hts _ q_41) (hts _ q_51) (hts _ q_52) rfl (by decide +kernel) ⟨Nat.le_of_ble_eq_true rfl, Nat.le_of_ble_eq_true rfl⟩) (ct_preI hE hK hP hD hS hA [0] (wc := [(qx, .inr (5, [.null, .null, .null, .int 0, .int 0, .int 0, .int 0, .int 0]))]) rfl (by decide)) rfl rfl hl.1 rfl (lv_room (Nat.le_of_ble_eq_true rfl)) d_Law_law_4 ⟨Nat.le_of_ble_eq_true rfl, Nat.le_of_ble_eq_true rfl⟩) hP hD hS hA [0] [] rfl rfl (by decide) (by decide) (fun u H locs hP hD hK hS => ?_)
  obtain ⟨qc, qo, qa, qhs, qgs, qy, qr, cA⟩ := u
  have hP : va_P G.1 vwCl [(qx, .inr (5, f_Desk qc qo qr (oi o0 3 1))), (qc, .inr (1, f_Controls qo qhs qgs qy o0)), (qo, .inr (3, f_Outside qa oOut)), (qa, .inl (cA, 256, .inl (fun _ => 0))), (qhs, .inr (0, f_Bank o0)), (qgs, .inr (0, f_Bank o0)), (qy, .inr (2, f_Hyper o0)), (qr, .inr (4, f_Registers o0))] H := hP
  have hD : va_D (fun q : Nat => s.heap.size ≤ q) [(qx, .inr (5, f_Desk qc qo qr (oi o0 3 1))), (qc, .inr (1, f_Controls qo qhs qgs qy o0)), (qo, .inr (3, f_Outside qa oOut)), (qa, .inl (cA, 256, .inl (fun _ => 0))), (qhs, .inr (0, f_Bank o0)), (qgs, .inr (0, f_Bank o0)), (qy, .inr (2, f_Hyper o0)), (qr, .inr (4, f_Registers o0))] := hD
  have hK : va_K G.1 vwCl [(cA, .byte)] s := hK
  refine lv_astore_n (lv' := [(1, .ref qx), (0, .ref b)]) hx hb d_Law_law_7 rfl hl (by decide) rfl (fun ls hl => ?_)
  refine va_new (ci := 6) (fs := [.int 0, .int 0, .long 0, .long 0, .int 0, .int 0, .int 0, .int 0, .null, .int 0, .int 0, .int 0, .int 0, .int 0, .null, .int 0, .int 0, .int 0, .int 0, .int 0, .int 0, .int 0, .int 0]) (C := R_Model) (T := T_Model) (N := 23) hx hb hts (iw_Model) ty_Model tyok_Model hown (hts _ q_596) (hts _ q_597) (hts _ q_47) hK hP hD hS hA rfl (fun j hj => by rcases (show j = 0 ∨ j = 1 ∨ j = 2 ∨ j = 3 ∨ j = 4 ∨ j = 5 ∨ j = 6 ∨ j = 7 ∨ j = 8 ∨ j = 9 ∨ j = 10 ∨ j = 11 ∨ j = 12 ∨ j = 13 ∨ j = 14 ∨ j = 15 ∨ j = 16 ∨ j = 17 ∨ j = 18 ∨ j = 19 ∨ j = 20 ∨ j = 21 ∨ j = 22 by omega) with rfl | rfl | rfl | rfl | rfl | rfl | rfl | rfl | rfl | rfl | rfl | rfl | rfl | rfl | rfl | rfl | rfl | rfl | rfl | rfl | rfl | rfl | rfl <;> rfl) (Nat.le_of_ble_eq_true rfl) (Nat.le_of_ble_eq_true rfl) d_Law_law_8 (fun qm H hP hD hS => ?_)
  have hP : va_P G.1 vwCl [(qx, .inr (5, f_Desk qc qo qr (oi o0 3 1))), (qc, .inr (1, f_Controls qo qhs qgs qy o0)), (qo, .inr (3, f_Outside qa oOut)), (qa, .inl (cA, 256, .inl (fun _ => 0))), (qhs, .inr (0, f_Bank o0)), (qgs, .inr (0, f_Bank o0)), (qy, .inr (2, f_Hyper o0)), (qr, .inr (4, f_Registers o0)), (qm, .inr (6, [.int 0, .int 0, .long 0, .long 0, .int 0, .int 0, .int 0, .int 0, .null, .int 0, .int 0, .int 0, .int 0, .int 0, .null, .int 0, .int 0, .int 0, .int 0, .int 0, .int 0, .int 0, .int 0]))] H := hP
  have hD : va_D (fun q : Nat => s.heap.size ≤ q) [(qx, .inr (5, f_Desk qc qo qr (oi o0 3 1))), (qc, .inr (1, f_Controls qo qhs qgs qy o0)), (qo, .inr (3, f_Outside qa oOut)), (qa, .inl (cA, 256, .inl (fun _ => 0))), (qhs, .inr (0, f_Bank o0)), (qgs, .inr (0, f_Bank o0)), (qy, .inr (2, f_Hyper o0)), (qr, .inr (4, f_Registers o0)), (qm, .inr (6, [.int 0, .int 0, .long 0, .long 0, .int 0, .int 0, .int 0, .int 0, .null, .int 0, .int 0, .int 0, .int 0, .int 0, .null, .int 0, .int 0, .int 0, .int 0, .int 0, .int 0, .int 0, .int 0]))] := hD
  refine lv_dup hx hb d_Law_law_11 rfl ?_
  refine ct_gon (wc := [(qm, .inr (6, [.int 0, .int 0, .long 0, .long 0, .int 0, .int 0, .int 0, .int 0, .null, .int 0, .int 0, .int 0, .int 0, .int 0, .null, .int 0, .int 0, .int 0, .int 0, .int 0, .int 0, .int 0, .int 0]))]) (wr := [(qx, .inr (5, f_Desk qc qo qr (oi o0 3 1))), (qc, .inr (1, f_Controls qo qhs qgs qy o0)), (qo, .inr (3, f_Outside qa oOut)), (qa, .inl (cA, 256, .inl (fun _ => 0))), (qhs, .inr (0, f_Bank o0)), (qgs, .inr (0, f_Bank o0)), (qy, .inr (2, f_Hyper o0)), (qr, .inr (4, f_Registers o0))]) (va_runI (As := []) (rest := [.ref qm]) (b := qm) ⟨hx, hb, hml, hown, hts⟩ (c_Model_init l G cA qm H.size) (cwI 0 hts (gd_c gd_gg q_600) rfl rfl rfl (hts _ q_47) (hts _ q_598) (hts _ q_599) rfl (by decide +kernel) ⟨Nat.le_of_ble_eq_true rfl, Nat.le_of_ble_eq_true rfl⟩) (ct_preI hE hK hP hD hS hA [8] (wc := [(qm, .inr (6, [.int 0, .int 0, .long 0, .long 0, .int 0, .int 0, .int 0, .int 0, .null, .int 0, .int 0, .int 0, .int 0, .int 0, .null, .int 0, .int 0, .int 0, .int 0, .int 0, .int 0, .int 0, .int 0]))]) rfl (by decide)) rfl rfl hl.1 rfl (lv_room (Nat.le_of_ble_eq_true rfl)) d_Law_law_12 ⟨Nat.le_of_ble_eq_true rfl, Nat.le_of_ble_eq_true rfl⟩) hP hD hS hA [8] [0, 1, 2, 3, 4, 5, 6, 7] rfl rfl (by decide) (by decide) (fun u H locs hP hD hK hS => ?_)
  obtain ⟨qp, qk, cB, cD⟩ := u
  have hP : va_P G.1 vwCl [(qx, .inr (5, f_Desk qc qo qr (oi o0 3 1))), (qc, .inr (1, f_Controls qo qhs qgs qy o0)), (qo, .inr (3, f_Outside qa oOut)), (qa, .inl (cA, 256, .inl (fun _ => 0))), (qhs, .inr (0, f_Bank o0)), (qgs, .inr (0, f_Bank o0)), (qy, .inr (2, f_Hyper o0)), (qr, .inr (4, f_Registers o0)), (qm, .inr (6, f_Model qp qk (k_Model_begin o0 (fun _ => 0)).1)), (qp, .inl (cB, 256, .inl (fun _ => 0))), (qk, .inl (cD, 512, .inl (k_Model_begin o0 (fun _ => 0)).2))] H := hP
  have hD : va_D (fun q : Nat => s.heap.size ≤ q) [(qx, .inr (5, f_Desk qc qo qr (oi o0 3 1))), (qc, .inr (1, f_Controls qo qhs qgs qy o0)), (qo, .inr (3, f_Outside qa oOut)), (qa, .inl (cA, 256, .inl (fun _ => 0))), (qhs, .inr (0, f_Bank o0)), (qgs, .inr (0, f_Bank o0)), (qy, .inr (2, f_Hyper o0)), (qr, .inr (4, f_Registers o0)), (qm, .inr (6, f_Model qp qk (k_Model_begin o0 (fun _ => 0)).1)), (qp, .inl (cB, 256, .inl (fun _ => 0))), (qk, .inl (cD, 512, .inl (k_Model_begin o0 (fun _ => 0)).2))] := hD
  have hK : va_K G.1 vwCl [(cA, .byte), (cB, .int), (cD, .int)] s := hK
  refine lv_astore_n (lv' := [(2, .ref qm), (1, .ref qx), (0, .ref b)]) hx hb d_Law_law_15 rfl hl (by decide) rfl (fun ls hl => ?_)
  refine lv_iconst (v := 0) hx hb d_Law_law_16 (by decide) ?_
  refine lv_istore_n (lv' := [(3, .int 0), (2, .ref qm), (1, .ref qx), (0, .ref b)]) hx hb d_Law_law_17 rfl hl (by decide) rfl (fun ls hl => ?_)
  exact law_loop (tys := [(cA, .byte), (cB, .int), (cD, .int)]) rfl rfl rfl C0 hE hK hL (L + 1) 0 (Nat.zero_le L) (by omega) _ _ _ _ _ _ _ _ _ _ _ _ _ ls rel_0 hP hD hS (lv_sub hl [3, 2, 1, 0] rfl)
