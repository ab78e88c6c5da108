def k_Desk_wordWithoutA (sx : ob) (sc : ob) (so : ob) (sa : Nat → Int32) (shs : ob) (sgs : ob) (sy : ob) (sr : ob) (p1 : Int32) : Int32 × ob × ob × (Nat → Int32) × ob × ob × ob × ob :=
  if (k_Desk_fieldA p1) = 0 then (if (ush p1 20) = 0 then (((k_Desk_environmentCall sx so sa sr).1), ((k_Desk_environmentCall sx so sa sr).2.1), ((k_Desk_environmentCall sx so sa sr).2.2.1), ((k_Desk_environmentCall sx so sa sr).2.2.2.1), shs, sgs, sy, ((k_Desk_environmentCall sx so sa sr).2.2.2.2)) else if (ush p1 20) = 1 then (3, sx, so, sa, shs, sgs, sy, sr) else if (ush p1 20) = 258 then (((k_Desk_supervisorReturn sx sc shs sgs sy).1), ((k_Desk_supervisorReturn sx sc shs sgs sy).2.1), so, sa, ((k_Desk_supervisorReturn sx sc shs sgs sy).2.2.1), ((k_Desk_supervisorReturn sx sc shs sgs sy).2.2.2.1), ((k_Desk_supervisorReturn sx sc shs sgs sy).2.2.2.2), sr) else if (ush p1 20) = 261 then (((k_Desk_nothingUnless sx sc sy 2097152).1), ((k_Desk_nothingUnless sx sc sy 2097152).2), so, sa, shs, sgs, sy, sr) else (2, sx, so, sa, shs, sgs, sy, sr)) else (2, sx, so, sa, shs, sgs, sy, sr)
set_option maxHeartbeats 4000000 in
set_option maxRecDepth 100000 in
theorem c_Desk_wordWithoutA (l : Launch) (G : gx) (tys : List (ClassId × FieldType)) {cA : ClassId} (ht : tys[0]? = some (cA, .byte)) (qx qc qo qa qhs qgs qy qr : Nat) (sx : ob) (sc : ob) (so : ob) (sa : Nat → Int32) (shs : ob) (sgs : ob) (sy : ob) (sr : ob) (p1 : Int32) (hp9 : ¬ so.1 1 < 0) : ct_I l y_Desk_wordWithoutA ws_Desk_wordWithoutA ({ frames := 3, cells := 0, slots := 0, locals := 66 }) G tys [.ref qx, .int p1] [(qx, .inr (5, f_Desk qc qo qr sx)), (qc, .inr (1, f_Controls qo qhs qgs qy sc)), (qo, .inr (3, f_Outside qa so)), (qa, .inl (cA, 256, .inl sa)), (qhs, .inr (0, f_Bank shs)), (qgs, .inr (0, f_Bank sgs)), (qy, .inr (2, f_Hyper sy)), (qr, .inr (4, f_Registers sr))] ((k_Desk_wordWithoutA sx sc so sa shs sgs sy sr p1).1) [(qx, .inr (5, f_Desk qc qo qr ((k_Desk_wordWithoutA sx sc so sa shs sgs sy sr p1).2.1))), (qc, .inr (1, f_Controls qo qhs qgs qy sc)), (qo, .inr (3, f_Outside qa ((k_Desk_wordWithoutA sx sc so sa shs sgs sy sr p1).2.2.1))), (qa, .inl (cA, 256, .inl ((k_Desk_wordWithoutA sx sc so sa shs sgs sy sr p1).2.2.2.1))), (qhs, .inr (0, f_Bank ((k_Desk_wordWithoutA sx sc so sa shs sgs sy sr p1).2.2.2.2.1))), (qgs, .inr (0, f_Bank ((k_Desk_wordWithoutA sx sc so sa shs sgs sy sr p1).2.2.2.2.2.1))), (qy, .inr (2, f_Hyper ((k_Desk_wordWithoutA sx sc so sa shs sgs sy sr p1).2.2.2.2.2.2.1))), (qr, .inr (4, f_Registers ((k_Desk_wordWithoutA sx sc so sa shs sgs sy sr p1).2.2.2.2.2.2.2)))] := by
  refine ct_hI (cc := cc_Desk_wordWithoutA) (maxL := 2) (ret := (some .int)) (by decide) rfl (Nat.le_of_ble_eq_true rfl) ?_
  intro p e s m below meth c A ls hx hb hr hml hts hown hlocks hP hK hD hA hE hS hl
  have hl : lv_has ls 2 [(0, .ref qx), (1, .int p1)] := hl
  have hown : s.vm.findClass R_Desk = some m.cls := hown
  refine lv_iload_n hx hb d_Desk_wordWithoutA_0 rfl (lv_at hl 1 rfl) ?_
  refine ct_cSi (wr := [(qx, .inr (5, f_Desk qc qo qr sx)), (qc, .inr (1, f_Controls qo qhs qgs qy sc)), (qo, .inr (3, f_Outside qa so)), (qa, .inl (cA, 256, .inl sa)), (qhs, .inr (0, f_Bank shs)), (qgs, .inr (0, f_Bank sgs)), (qy, .inr (2, f_Hyper sy)), (qr, .inr (4, f_Registers sr))]) (w1 := []) (w2 := [(qx, .inr (5, f_Desk qc qo qr sx)), (qc, .inr (1, f_Controls qo qhs qgs qy sc)), (qo, .inr (3, f_Outside qa so)), (qa, .inl (cA, 256, .inl sa)), (qhs, .inr (0, f_Bank shs)), (qgs, .inr (0, f_Bank sgs)), (qy, .inr (2, f_Hyper sy)), (qr, .inr (4, f_Registers sr))]) (r := (k_Desk_fieldA p1)) (As := [.int p1]) (rest := []) ⟨hx, hb, hml, hown, hts⟩ (c_Desk_fieldA l G tys p1) (va_cwS 1 hts (gdS gd_gd q_442 q_443 q_41 q_444) rfl rfl rfl (by decide +kernel) ⟨Nat.le_of_ble_eq_true rfl, Nat.le_of_ble_eq_true rfl⟩) hE hK hP hD hS hA [] [0, 1, 2, 3, 4, 5, 6, 7] [0, 1, 2, 3, 4, 5, 6, 7] rfl (by decide) rfl (by decide) (by decide) rfl (by decide) rfl hl.1 rfl (Nat.le_of_ble_eq_true rfl) d_Desk_wordWithoutA_1 ⟨Nat.zero_le _, Nat.zero_le _⟩ (fun H locs hP hD hS => ?_)
  refine lv_if_eq (tgt := 9) hx hb d_Desk_wordWithoutA_4 (by decide) (fun c_441 => ?_) (fun c_441 => ?_)
  · refine lv_iload_n hx hb d_Desk_wordWithoutA_9 rfl (lv_at hl 1 rfl) ?_
    refine lv_bipush (v := 20) hx hb d_Desk_wordWithoutA_10 (by decide) ?_
    refine lv_iushr (v := (ush p1 20)) hx hb d_Desk_wordWithoutA_12 rfl ?_
    by_cases c_442 : (ush p1 20) = 0
    · refine lv_lookup (off := 43) (tgt := 56) hx hb d_Desk_wordWithoutA_13 (by decide) (by rw [c_442]; decide) (by decide) ?_
      refine lv_aload_n hx hb d_Desk_wordWithoutA_56 rfl (lv_at hl 0 rfl) ?_
      obtain ⟨r_443, er_443⟩ : ∃ z, z = (k_Desk_environmentCall sx so sa sr).1 := ⟨_, rfl⟩
      obtain ⟨sx_444, esx_444⟩ : ∃ z, z = (k_Desk_environmentCall sx so sa sr).2.1 := ⟨_, rfl⟩
      obtain ⟨so_445, eso_445⟩ : ∃ z, z = (k_Desk_environmentCall sx so sa sr).2.2.1 := ⟨_, rfl⟩
      obtain ⟨sa_446, esa_446⟩ : ∃ z, z = (k_Desk_environmentCall sx so sa sr).2.2.2.1 := ⟨_, rfl⟩
      obtain ⟨sr_447, esr_447⟩ : ∃ z, z = (k_Desk_environmentCall sx so sa sr).2.2.2.2 := ⟨_, rfl⟩
      have hM := c_Desk_environmentCall l G tys ht qx qo qa qr qc sx so sa sr hp9
      rw [← er_443, ← esx_444, ← eso_445, ← esa_446, ← esr_447] at hM
      refine ct_cVi (wr := [(qc, .inr (1, f_Controls qo qhs qgs qy sc)), (qhs, .inr (0, f_Bank shs)), (qgs, .inr (0, f_Bank sgs)), (qy, .inr (2, f_Hyper sy))]) (w1 := [(qx, .inr (5, f_Desk qc qo qr sx_444)), (qo, .inr (3, f_Outside qa so_445)), (qa, .inl (cA, 256, .inl sa_446)), (qr, .inr (4, f_Registers sr_447))]) (w2 := [(qx, .inr (5, f_Desk qc qo qr sx_444)), (qc, .inr (1, f_Controls qo qhs qgs qy sc)), (qo, .inr (3, f_Outside qa so_445)), (qa, .inl (cA, 256, .inl sa_446)), (qhs, .inr (0, f_Bank shs)), (qgs, .inr (0, f_Bank sgs)), (qy, .inr (2, f_Hyper sy)), (qr, .inr (4, f_Registers sr_447))]) (r := r_443) (As := []) (rest := []) (ci := 5) (q0 := 0) ⟨hx, hb, hml, hown, hts⟩ hM (cwV 0 hts (gdV gd_gd q_445 q_447 q_8 q_41 q_448) rfl rfl rfl (by decide +kernel) ⟨Nat.le_of_ble_eq_true rfl, Nat.le_of_ble_eq_true rfl⟩) hE hK hP hD hS hA [0, 2, 3, 7] [1, 4, 5, 6] [4, 0, 5, 6, 1, 2, 3, 7] rfl (by decide) rfl (by decide) (by decide) rfl (by decide) rfl rfl rfl hl.1 rfl (Nat.le_of_ble_eq_true rfl) d_Desk_wordWithoutA_57 ⟨Nat.zero_le _, Nat.zero_le _⟩ (fun H locs hP hD hS => ?_)
      have hk : k_Desk_wordWithoutA sx sc so sa shs sgs sy sr p1 = (r_443, sx_444, so_445, sa_446, shs, sgs, sy, sr_447) := (by rw [k_Desk_wordWithoutA]; rw [if_pos c_441]; rw [if_pos c_442]; try rw [← er_443]; try rw [← esx_444]; try rw [← eso_445]; try rw [← esa_446]; try rw [← esr_447]; try rfl)
      exact ct_ri hx hb hr hlocks hP hD hK hS d_Desk_wordWithoutA_60 (by rw [hk]; first | done | rfl) (by rw [hk]; first | done | rfl)
    · by_cases c_448 : (ush p1 20) = 1
      · refine lv_lookup (off := 48) (tgt := 61) hx hb d_Desk_wordWithoutA_13 (by decide) (by rw [c_448]; decide) (by decide) ?_
        refine lv_iconst (v := 3) hx hb d_Desk_wordWithoutA_61 (by decide) ?_
        have hk : k_Desk_wordWithoutA sx sc so sa shs sgs sy sr p1 = (3, sx, so, sa, shs, sgs, sy, sr) := (by rw [k_Desk_wordWithoutA]; rw [if_pos c_441]; rw [if_neg c_442]; rw [if_pos c_448]; try rfl)
        exact ct_ri hx hb hr hlocks hP hD hK hS d_Desk_wordWithoutA_62 (by rw [hk]; first | done | rfl) (by rw [hk]; first | done | rfl)
      · by_cases c_449 : (ush p1 20) = 258
        · refine lv_lookup (off := 50) (tgt := 63) hx hb d_Desk_wordWithoutA_13 (by decide) (by rw [c_449]; decide) (by decide) ?_
          refine lv_aload_n hx hb d_Desk_wordWithoutA_63 rfl (lv_at hl 0 rfl) ?_
          obtain ⟨r_450, er_450⟩ : ∃ z, z = (k_Desk_supervisorReturn sx sc shs sgs sy).1 := ⟨_, rfl⟩
          obtain ⟨sx_451, esx_451⟩ : ∃ z, z = (k_Desk_supervisorReturn sx sc shs sgs sy).2.1 := ⟨_, rfl⟩
          obtain ⟨shs_452, eshs_452⟩ : ∃ z, z = (k_Desk_supervisorReturn sx sc shs sgs sy).2.2.1 := ⟨_, rfl⟩
          obtain ⟨sgs_453, esgs_453⟩ : ∃ z, z = (k_Desk_supervisorReturn sx sc shs sgs sy).2.2.2.1 := ⟨_, rfl⟩
          obtain ⟨sy_454, esy_454⟩ : ∃ z, z = (k_Desk_supervisorReturn sx sc shs sgs sy).2.2.2.2 := ⟨_, rfl⟩
          have hM := c_Desk_supervisorReturn l G tys qx qc qhs qgs qy qo qr sx sc shs sgs sy
          rw [← er_450, ← esx_451, ← eshs_452, ← esgs_453, ← esy_454] at hM
          refine ct_cVi (wr := [(qo, .inr (3, f_Outside qa so)), (qa, .inl (cA, 256, .inl sa)), (qr, .inr (4, f_Registers sr))]) (w1 := [(qx, .inr (5, f_Desk qc qo qr sx_451)), (qc, .inr (1, f_Controls qo qhs qgs qy sc)), (qhs, .inr (0, f_Bank shs_452)), (qgs, .inr (0, f_Bank sgs_453)), (qy, .inr (2, f_Hyper sy_454))]) (w2 := [(qx, .inr (5, f_Desk qc qo qr sx_451)), (qc, .inr (1, f_Controls qo qhs qgs qy sc)), (qo, .inr (3, f_Outside qa so)), (qa, .inl (cA, 256, .inl sa)), (qhs, .inr (0, f_Bank shs_452)), (qgs, .inr (0, f_Bank sgs_453)), (qy, .inr (2, f_Hyper sy_454)), (qr, .inr (4, f_Registers sr))]) (r := r_450) (As := []) (rest := []) (ci := 5) (q0 := 0) ⟨hx, hb, hml, hown, hts⟩ hM (cwV 0 hts (gdV gd_gd q_462 q_464 q_9 q_41 q_465) rfl rfl rfl (by decide +kernel) ⟨Nat.le_of_ble_eq_true rfl, Nat.le_of_ble_eq_true rfl⟩) hE hK hP hD hS hA [0, 1, 4, 5, 6] [2, 3, 7] [3, 4, 0, 1, 5, 6, 7, 2] rfl (by decide) rfl (by decide) (by decide) rfl (by decide) rfl rfl rfl hl.1 rfl (Nat.le_of_ble_eq_true rfl) d_Desk_wordWithoutA_64 ⟨Nat.zero_le _, Nat.zero_le _⟩ (fun H locs hP hD hS => ?_)
          have hk : k_Desk_wordWithoutA sx sc so sa shs sgs sy sr p1 = (r_450, sx_451, so, sa, shs_452, sgs_453, sy_454, sr) := (by rw [k_Desk_wordWithoutA]; rw [if_pos c_441]; rw [if_neg c_442]; rw [if_neg c_448]; rw [if_pos c_449]; try rw [← er_450]; try rw [← esx_451]; try rw [← eshs_452]; try rw [← esgs_453]; try rw [← esy_454]; try rfl)
          exact ct_ri hx hb hr hlocks hP hD hK hS d_Desk_wordWithoutA_67 (by rw [hk]; first | done | rfl) (by rw [hk]; first | done | rfl)
        · by_cases c_455 : (ush p1 20) = 261
          · refine lv_lookup (off := 55) (tgt := 68) hx hb d_Desk_wordWithoutA_13 (by decide) (by rw [c_455]; decide) (by decide) ?_
            refine lv_aload_n hx hb d_Desk_wordWithoutA_68 rfl (lv_at hl 0 rfl) ?_
            refine lv_ldc (v := 2097152) hx hb hown (hts _ (gd_sub _ q_476)) d_Desk_wordWithoutA_69 ?_
            obtain ⟨r_456, er_456⟩ : ∃ z, z = (k_Desk_nothingUnless sx sc sy 2097152).1 := ⟨_, rfl⟩
            obtain ⟨sx_457, esx_457⟩ : ∃ z, z = (k_Desk_nothingUnless sx sc sy 2097152).2 := ⟨_, rfl⟩
            have hM := c_Desk_nothingUnless l G tys qx qc qy qo qr qhs qgs sx sc sy 2097152
            rw [← er_456, ← esx_457] at hM
            refine ct_cVi (wr := [(qo, .inr (3, f_Outside qa so)), (qa, .inl (cA, 256, .inl sa)), (qhs, .inr (0, f_Bank shs)), (qgs, .inr (0, f_Bank sgs)), (qr, .inr (4, f_Registers sr))]) (w1 := [(qx, .inr (5, f_Desk qc qo qr sx_457)), (qc, .inr (1, f_Controls qo qhs qgs qy sc)), (qy, .inr (2, f_Hyper sy))]) (w2 := [(qx, .inr (5, f_Desk qc qo qr sx_457)), (qc, .inr (1, f_Controls qo qhs qgs qy sc)), (qo, .inr (3, f_Outside qa so)), (qa, .inl (cA, 256, .inl sa)), (qhs, .inr (0, f_Bank shs)), (qgs, .inr (0, f_Bank sgs)), (qy, .inr (2, f_Hyper sy)), (qr, .inr (4, f_Registers sr))]) (r := r_456) (As := [.int 2097152]) (rest := []) (ci := 5) (q0 := 0) ⟨hx, hb, hml, hown, hts⟩ hM (cwV 1 hts (gdV gd_gd q_414 q_416 q_2 q_41 q_417) rfl rfl rfl (by decide +kernel) ⟨Nat.le_of_ble_eq_true rfl, Nat.le_of_ble_eq_true rfl⟩) hE hK hP hD hS hA [0, 1, 6] [2, 3, 4, 5, 7] [5, 6, 0, 1, 2, 3, 7, 4] rfl (by decide) rfl (by decide) (by decide) rfl (by decide) rfl rfl rfl hl.1 rfl (Nat.le_of_ble_eq_true rfl) d_Desk_wordWithoutA_71 ⟨Nat.zero_le _, Nat.zero_le _⟩ (fun H locs hP hD hS => ?_)
            have hk : k_Desk_wordWithoutA sx sc so sa shs sgs sy sr p1 = (r_456, sx_457, so, sa, shs, sgs, sy, sr) := (by rw [k_Desk_wordWithoutA]; rw [if_pos c_441]; rw [if_neg c_442]; rw [if_neg c_448]; rw [if_neg c_449]; rw [if_pos c_455]; try rw [← er_456]; try rw [← esx_457]; try rfl)
            exact ct_ri hx hb hr hlocks hP hD hK hS d_Desk_wordWithoutA_74 (by rw [hk]; first | done | rfl) (by rw [hk]; first | done | rfl)
          · refine lv_lookup (off := 62) (tgt := 75) hx hb d_Desk_wordWithoutA_13 (by decide) ((lv_osw c_442 (by decide)).trans ((lv_osw c_448 (by decide)).trans ((lv_osw c_449 (by decide)).trans ((lv_osw c_455 (by decide)).trans rfl)))) (by decide) ?_
            refine lv_iconst (v := 2) hx hb d_Desk_wordWithoutA_75 (by decide) ?_
            have hk : k_Desk_wordWithoutA sx sc so sa shs sgs sy sr p1 = (2, sx, so, sa, shs, sgs, sy, sr) := (by rw [k_Desk_wordWithoutA]; rw [if_pos c_441]; rw [if_neg c_442]; rw [if_neg c_448]; rw [if_neg c_449]; rw [if_neg c_455]; try rfl)
            exact ct_ri hx hb hr hlocks hP hD hK hS d_Desk_wordWithoutA_76 (by rw [hk]; first | done | rfl) (by rw [hk]; first | done | rfl)
  · refine lv_iconst (v := 2) hx hb d_Desk_wordWithoutA_7 (by decide) ?_
    have hk : k_Desk_wordWithoutA sx sc so sa shs sgs sy sr p1 = (2, sx, so, sa, shs, sgs, sy, sr) := (by rw [k_Desk_wordWithoutA]; rw [if_neg c_441]; try rfl)
    exact ct_ri hx hb hr hlocks hP hD hK hS d_Desk_wordWithoutA_8 (by rw [hk]; first | done | rfl) (by rw [hk]; first | done | rfl)
def k_Desk_systemWord (sx : ob) (sc : ob) (so : ob) (sa : Nat → Int32) (shs : ob) (sgs : ob) (sy : ob) (sr : ob) (p1 : Int32) : Int32 × ob × ob × (Nat → Int32) × ob × ob × ob × ob :=
  if (k_Desk_fieldD p1) = 0 then (if (k_Desk_fieldG p1) = 9 then (((k_Desk_nothingUnless sx sc sy 1048576).1), ((k_Desk_nothingUnless sx sc sy 1048576).2), so, sa, shs, sgs, sy, sr) else if (k_Desk_fieldG p1) = 17 then (((k_Desk_hypervisorFence sx).1), ((k_Desk_hypervisorFence sx).2), so, sa, shs, sgs, sy, sr) else if (k_Desk_fieldG p1) = 49 then (((k_Desk_hypervisorFence sx).1), ((k_Desk_hypervisorFence sx).2), so, sa, shs, sgs, sy, sr) else (((k_Desk_wordWithoutA sx sc so sa shs sgs sy sr p1).1), ((k_Desk_wordWithoutA sx sc so sa shs sgs sy sr p1).2.1), ((k_Desk_wordWithoutA sx sc so sa shs sgs sy sr p1).2.2.1), ((k_Desk_wordWithoutA sx sc so sa shs sgs sy sr p1).2.2.2.1), ((k_Desk_wordWithoutA sx sc so sa shs sgs sy sr p1).2.2.2.2.1), ((k_Desk_wordWithoutA sx sc so sa shs sgs sy sr p1).2.2.2.2.2.1), ((k_Desk_wordWithoutA sx sc so sa shs sgs sy sr p1).2.2.2.2.2.2.1), ((k_Desk_wordWithoutA sx sc so sa shs sgs sy sr p1).2.2.2.2.2.2.2))) else (2, sx, so, sa, shs, sgs, sy, sr)
set_option maxHeartbeats 4000000 in
set_option maxRecDepth 100000 in
theorem c_Desk_systemWord (l : Launch) (G : gx) (tys : List (ClassId × FieldType)) {cA : ClassId} (ht : tys[0]? = some (cA, .byte)) (qx qc qo qa qhs qgs qy qr : Nat) (sx : ob) (sc : ob) (so : ob) (sa : Nat → Int32) (shs : ob) (sgs : ob) (sy : ob) (sr : ob) (p1 : Int32) (hp9 : ¬ so.1 1 < 0) : ct_I l y_Desk_systemWord ws_Desk_systemWord ({ frames := 4, cells := 0, slots := 0, locals := 87 }) G tys [.ref qx, .int p1] [(qx, .inr (5, f_Desk qc qo qr sx)), (qc, .inr (1, f_Controls qo qhs qgs qy sc)), (qo, .inr (3, f_Outside qa so)), (qa, .inl (cA, 256, .inl sa)), (qhs, .inr (0, f_Bank shs)), (qgs, .inr (0, f_Bank sgs)), (qy, .inr (2, f_Hyper sy)), (qr, .inr (4, f_Registers sr))] ((k_Desk_systemWord sx sc so sa shs sgs sy sr p1).1) [(qx, .inr (5, f_Desk qc qo qr ((k_Desk_systemWord sx sc so sa shs sgs sy sr p1).2.1))), (qc, .inr (1, f_Controls qo qhs qgs qy sc)), (qo, .inr (3, f_Outside qa ((k_Desk_systemWord sx sc so sa shs sgs sy sr p1).2.2.1))), (qa, .inl (cA, 256, .inl ((k_Desk_systemWord sx sc so sa shs sgs sy sr p1).2.2.2.1))), (qhs, .inr (0, f_Bank ((k_Desk_systemWord sx sc so sa shs sgs sy sr p1).2.2.2.2.1))), (qgs, .inr (0, f_Bank ((k_Desk_systemWord sx sc so sa shs sgs sy sr p1).2.2.2.2.2.1))), (qy, .inr (2, f_Hyper ((k_Desk_systemWord sx sc so sa shs sgs sy sr p1).2.2.2.2.2.2.1))), (qr, .inr (4, f_Registers ((k_Desk_systemWord sx sc so sa shs sgs sy sr p1).2.2.2.2.2.2.2)))] := by
  refine ct_hI (cc := cc_Desk_systemWord) (maxL := 2) (ret := (some .int)) (by decide) rfl (Nat.le_of_ble_eq_true rfl) ?_
  intro p e s m below meth c A ls hx hb hr hml hts hown hlocks hP hK hD hA hE hS hl
  have hl : lv_has ls 2 [(0, .ref qx), (1, .int p1)] := hl
  have hown : s.vm.findClass R_Desk = some m.cls := hown
  refine lv_iload_n hx hb d_Desk_systemWord_0 rfl (lv_at hl 1 rfl) ?_
  refine ct_cSi (wr := [(qx, .inr (5, f_Desk qc qo qr sx)), (qc, .inr (1, f_Controls qo qhs qgs qy sc)), (qo, .inr (3, f_Outside qa so)), (qa, .inl (cA, 256, .inl sa)), (qhs, .inr (0, f_Bank shs)), (qgs, .inr (0, f_Bank sgs)), (qy, .inr (2, f_Hyper sy)), (qr, .inr (4, f_Registers sr))]) (w1 := []) (w2 := [(qx, .inr (5, f_Desk qc qo qr sx)), (qc, .inr (1, f_Controls qo qhs qgs qy sc)), (qo, .inr (3, f_Outside qa so)), (qa, .inl (cA, 256, .inl sa)), (qhs, .inr (0, f_Bank shs)), (qgs, .inr (0, f_Bank sgs)), (qy, .inr (2, f_Hyper sy)), (qr, .inr (4, f_Registers sr))]) (r := (k_Desk_fieldD p1)) (As := [.int p1]) (rest := []) ⟨hx, hb, hml, hown, hts⟩ (c_Desk_fieldD l G tys p1) (va_cwS 1 hts (gdS gd_gd q_407 q_408 q_41 q_409) rfl rfl rfl (by decide +kernel) ⟨Nat.le_of_ble_eq_true rfl, Nat.le_of_ble_eq_true rfl⟩) hE hK hP hD hS hA [] [0, 1, 2, 3, 4, 5, 6, 7] [0, 1, 2, 3, 4, 5, 6, 7] rfl (by decide) rfl (by decide) (by decide) rfl (by decide) rfl hl.1 rfl (Nat.le_of_ble_eq_true rfl) d_Desk_systemWord_1 ⟨Nat.zero_le _, Nat.zero_le _⟩ (fun H locs hP hD hS => ?_)
  refine lv_if_eq (tgt := 9) hx hb d_Desk_systemWord_4 (by decide) (fun c_466 => ?_) (fun c_466 => ?_)
  · refine lv_iload_n hx hb d_Desk_systemWord_9 rfl (lv_at hl 1 rfl) ?_
    refine ct_cSi (wr := [(qx, .inr (5, f_Desk qc qo qr sx)), (qc, .inr (1, f_Controls qo qhs qgs qy sc)), (qo, .inr (3, f_Outside qa so)), (qa, .inl (cA, 256, .inl sa)), (qhs, .inr (0, f_Bank shs)), (qgs, .inr (0, f_Bank sgs)), (qy, .inr (2, f_Hyper sy)), (qr, .inr (4, f_Registers sr))]) (w1 := []) (w2 := [(qx, .inr (5, f_Desk qc qo qr sx)), (qc, .inr (1, f_Controls qo qhs qgs qy sc)), (qo, .inr (3, f_Outside qa so)), (qa, .inl (cA, 256, .inl sa)), (qhs, .inr (0, f_Bank shs)), (qgs, .inr (0, f_Bank sgs)), (qy, .inr (2, f_Hyper sy)), (qr, .inr (4, f_Registers sr))]) (r := (k_Desk_fieldG p1)) (As := [.int p1]) (rest := []) ⟨hx, hb, hml, hown, hts⟩ (c_Desk_fieldG l G tys p1) (va_cwS 1 hts (gdS gd_gd q_410 q_411 q_41 q_412) rfl rfl rfl (by decide +kernel) ⟨Nat.le_of_ble_eq_true rfl, Nat.le_of_ble_eq_true rfl⟩) hE hK hP hD hS hA [] [0, 1, 2, 3, 4, 5, 6, 7] [0, 1, 2, 3, 4, 5, 6, 7] rfl (by decide) rfl (by decide) (by decide) rfl (by decide) rfl hl.1 rfl (Nat.le_of_ble_eq_true rfl) d_Desk_systemWord_10 ⟨Nat.zero_le _, Nat.zero_le _⟩ (fun H locs hP hD hS => ?_)
    by_cases c_467 : (k_Desk_fieldG p1) = 9
    · refine lv_lookup (off := 35) (tgt := 48) hx hb d_Desk_systemWord_13 (by decide) (by rw [c_467]; decide) (by decide) ?_
      refine lv_aload_n hx hb d_Desk_systemWord_48 rfl (lv_at hl 0 rfl) ?_
      refine lv_ldc (v := 1048576) hx hb hown (hts _ (gd_sub _ q_413)) d_Desk_systemWord_49 ?_
      obtain ⟨r_468, er_468⟩ : ∃ z, z = (k_Desk_nothingUnless sx sc sy 1048576).1 := ⟨_, rfl⟩
      obtain ⟨sx_469, esx_469⟩ : ∃ z, z = (k_Desk_nothingUnless sx sc sy 1048576).2 := ⟨_, rfl⟩
      have hM := c_Desk_nothingUnless l G tys qx qc qy qo qr qhs qgs sx sc sy 1048576
      rw [← er_468, ← esx_469] at hM
      refine ct_cVi (wr := [(qo, .inr (3, f_Outside qa so)), (qa, .inl (cA, 256, .inl sa)), (qhs, .inr (0, f_Bank shs)), (qgs, .inr (0, f_Bank sgs)), (qr, .inr (4, f_Registers sr))]) (w1 := [(qx, .inr (5, f_Desk qc qo qr sx_469)), (qc, .inr (1, f_Controls qo qhs qgs qy sc)), (qy, .inr (2, f_Hyper sy))]) (w2 := [(qx, .inr (5, f_Desk qc qo qr sx_469)), (qc, .inr (1, f_Controls qo qhs qgs qy sc)), (qo, .inr (3, f_Outside qa so)), (qa, .inl (cA, 256, .inl sa)), (qhs, .inr (0, f_Bank shs)), (qgs, .inr (0, f_Bank sgs)), (qy, .inr (2, f_Hyper sy)), (qr, .inr (4, f_Registers sr))]) (r := r_468) (As := [.int 1048576]) (rest := []) (ci := 5) (q0 := 0) ⟨hx, hb, hml, hown, hts⟩ hM (cwV 1 hts (gdV gd_gd q_414 q_416 q_2 q_41 q_417) rfl rfl rfl (by decide +kernel) ⟨Nat.le_of_ble_eq_true rfl, Nat.le_of_ble_eq_true rfl⟩) hE hK hP hD hS hA [0, 1, 6] [2, 3, 4, 5, 7] [5, 6, 0, 1, 2, 3, 7, 4] rfl (by decide) rfl (by decide) (by decide) rfl (by decide) rfl rfl rfl hl.1 rfl (Nat.le_of_ble_eq_true rfl) d_Desk_systemWord_51 ⟨Nat.zero_le _, Nat.zero_le _⟩ (fun H locs hP hD hS => ?_)
      have hk : k_Desk_systemWord sx sc so sa shs sgs sy sr p1 = (r_468, sx_469, so, sa, shs, sgs, sy, sr) := (by rw [k_Desk_systemWord]; rw [if_pos c_466]; rw [if_pos c_467]; try rw [← er_468]; try rw [← esx_469]; try rfl)
      exact ct_ri hx hb hr hlocks hP hD hK hS d_Desk_systemWord_54 (by rw [hk]; first | done | rfl) (by rw [hk]; first | done | rfl)
    · by_cases c_470 : (k_Desk_fieldG p1) = 17
      · refine lv_lookup (off := 42) (tgt := 55) hx hb d_Desk_systemWord_13 (by decide) (by rw [c_470]; decide) (by decide) ?_
        refine lv_aload_n hx hb d_Desk_systemWord_55 rfl (lv_at hl 0 rfl) ?_
        obtain ⟨r_471, er_471⟩ : ∃ z, z = (k_Desk_hypervisorFence sx).1 := ⟨_, rfl⟩
        obtain ⟨sx_472, esx_472⟩ : ∃ z, z = (k_Desk_hypervisorFence sx).2 := ⟨_, rfl⟩
        have hM := c_Desk_hypervisorFence l G tys qx qc qo qr sx
        rw [← er_471, ← esx_472] at hM
        refine ct_cVi (wr := [(qc, .inr (1, f_Controls qo qhs qgs qy sc)), (qo, .inr (3, f_Outside qa so)), (qa, .inl (cA, 256, .inl sa)), (qhs, .inr (0, f_Bank shs)), (qgs, .inr (0, f_Bank sgs)), (qy, .inr (2, f_Hyper sy)), (qr, .inr (4, f_Registers sr))]) (w1 := [(qx, .inr (5, f_Desk qc qo qr sx_472))]) (w2 := [(qx, .inr (5, f_Desk qc qo qr sx_472)), (qc, .inr (1, f_Controls qo qhs qgs qy sc)), (qo, .inr (3, f_Outside qa so)), (qa, .inl (cA, 256, .inl sa)), (qhs, .inr (0, f_Bank shs)), (qgs, .inr (0, f_Bank sgs)), (qy, .inr (2, f_Hyper sy)), (qr, .inr (4, f_Registers sr))]) (r := r_471) (As := []) (rest := []) (ci := 5) (q0 := 0) ⟨hx, hb, hml, hown, hts⟩ hM (cwV 0 hts (gdV gd_gd q_430 q_432 q_5 q_41 q_433) rfl rfl rfl (by decide +kernel) ⟨Nat.le_of_ble_eq_true rfl, Nat.le_of_ble_eq_true rfl⟩) hE hK hP hD hS hA [0] [1, 2, 3, 4, 5, 6, 7] [7, 0, 1, 2, 3, 4, 5, 6] rfl (by decide) rfl (by decide) (by decide) rfl (by decide) rfl rfl rfl hl.1 rfl (Nat.le_of_ble_eq_true rfl) d_Desk_systemWord_56 ⟨Nat.zero_le _, Nat.zero_le _⟩ (fun H locs hP hD hS => ?_)
        have hk : k_Desk_systemWord sx sc so sa shs sgs sy sr p1 = (r_471, sx_472, so, sa, shs, sgs, sy, sr) := (by rw [k_Desk_systemWord]; rw [if_pos c_466]; rw [if_neg c_467]; rw [if_pos c_470]; try rw [← er_471]; try rw [← esx_472]; try rfl)
        exact ct_ri hx hb hr hlocks hP hD hK hS d_Desk_systemWord_59 (by rw [hk]; first | done | rfl) (by rw [hk]; first | done | rfl)
      · by_cases c_473 : (k_Desk_fieldG p1) = 49
        · refine lv_lookup (off := 42) (tgt := 55) hx hb d_Desk_systemWord_13 (by decide) (by rw [c_473]; decide) (by decide) ?_
          refine lv_aload_n hx hb d_Desk_systemWord_55 rfl (lv_at hl 0 rfl) ?_
          obtain ⟨r_474, er_474⟩ : ∃ z, z = (k_Desk_hypervisorFence sx).1 := ⟨_, rfl⟩
          obtain ⟨sx_475, esx_475⟩ : ∃ z, z = (k_Desk_hypervisorFence sx).2 := ⟨_, rfl⟩
          have hM := c_Desk_hypervisorFence l G tys qx qc qo qr sx
          rw [← er_474, ← esx_475] at hM
          refine ct_cVi (wr := [(qc, .inr (1, f_Controls qo qhs qgs qy sc)), (qo, .inr (3, f_Outside qa so)), (qa, .inl (cA, 256, .inl sa)), (qhs, .inr (0, f_Bank shs)), (qgs, .inr (0, f_Bank sgs)), (qy, .inr (2, f_Hyper sy)), (qr, .inr (4, f_Registers sr))]) (w1 := [(qx, .inr (5, f_Desk qc qo qr sx_475))]) (w2 := [(qx, .inr (5, f_Desk qc qo qr sx_475)), (qc, .inr (1, f_Controls qo qhs qgs qy sc)), (qo, .inr (3, f_Outside qa so)), (qa, .inl (cA, 256, .inl sa)), (qhs, .inr (0, f_Bank shs)), (qgs, .inr (0, f_Bank sgs)), (qy, .inr (2, f_Hyper sy)), (qr, .inr (4, f_Registers sr))]) (r := r_474) (As := []) (rest := []) (ci := 5) (q0 := 0) ⟨hx, hb, hml, hown, hts⟩ hM (cwV 0 hts (gdV gd_gd q_430 q_432 q_5 q_41 q_433) rfl rfl rfl (by decide +kernel) ⟨Nat.le_of_ble_eq_true rfl, Nat.le_of_ble_eq_true rfl⟩) hE hK hP hD hS hA [0] [1, 2, 3, 4, 5, 6, 7] [7, 0, 1, 2, 3, 4, 5, 6] rfl (by decide) rfl (by decide) (by decide) rfl (by decide) rfl rfl rfl hl.1 rfl (Nat.le_of_ble_eq_true rfl) d_Desk_systemWord_56 ⟨Nat.zero_le _, Nat.zero_le _⟩ (fun H locs hP hD hS => ?_)
          have hk : k_Desk_systemWord sx sc so sa shs sgs sy sr p1 = (r_474, sx_475, so, sa, shs, sgs, sy, sr) := (by rw [k_Desk_systemWord]; rw [if_pos c_466]; rw [if_neg c_467]; rw [if_neg c_470]; rw [if_pos c_473]; try rw [← er_474]; try rw [← esx_475]; try rfl)
          exact ct_ri hx hb hr hlocks hP hD hK hS d_Desk_systemWord_59 (by rw [hk]; first | done | rfl) (by rw [hk]; first | done | rfl)
        · refine lv_lookup (off := 47) (tgt := 60) hx hb d_Desk_systemWord_13 (by decide) ((lv_osw c_467 (by decide)).trans ((lv_osw c_470 (by decide)).trans ((lv_osw c_473 (by decide)).trans rfl))) (by decide) ?_
          refine lv_aload_n hx hb d_Desk_systemWord_60 rfl (lv_at hl 0 rfl) ?_
          refine lv_iload_n hx hb d_Desk_systemWord_61 rfl (lv_at hl 1 rfl) ?_
          obtain ⟨r_476, er_476⟩ : ∃ z, z = (k_Desk_wordWithoutA sx sc so sa shs sgs sy sr p1).1 := ⟨_, rfl⟩
          obtain ⟨sx_477, esx_477⟩ : ∃ z, z = (k_Desk_wordWithoutA sx sc so sa shs sgs sy sr p1).2.1 := ⟨_, rfl⟩
          obtain ⟨so_478, eso_478⟩ : ∃ z, z = (k_Desk_wordWithoutA sx sc so sa shs sgs sy sr p1).2.2.1 := ⟨_, rfl⟩
          obtain ⟨sa_479, esa_479⟩ : ∃ z, z = (k_Desk_wordWithoutA sx sc so sa shs sgs sy sr p1).2.2.2.1 := ⟨_, rfl⟩
          obtain ⟨shs_480, eshs_480⟩ : ∃ z, z = (k_Desk_wordWithoutA sx sc so sa shs sgs sy sr p1).2.2.2.2.1 := ⟨_, rfl⟩
          obtain ⟨sgs_481, esgs_481⟩ : ∃ z, z = (k_Desk_wordWithoutA sx sc so sa shs sgs sy sr p1).2.2.2.2.2.1 := ⟨_, rfl⟩
          obtain ⟨sy_482, esy_482⟩ : ∃ z, z = (k_Desk_wordWithoutA sx sc so sa shs sgs sy sr p1).2.2.2.2.2.2.1 := ⟨_, rfl⟩
          obtain ⟨sr_483, esr_483⟩ : ∃ z, z = (k_Desk_wordWithoutA sx sc so sa shs sgs sy sr p1).2.2.2.2.2.2.2 := ⟨_, rfl⟩
          have hM := c_Desk_wordWithoutA l G tys ht qx qc qo qa qhs qgs qy qr sx sc so sa shs sgs sy sr p1 hp9
          rw [← er_476, ← esx_477, ← eso_478, ← esa_479, ← eshs_480, ← esgs_481, ← esy_482, ← esr_483] at hM
          refine ct_cVi (wr := []) (w1 := [(qx, .inr (5, f_Desk qc qo qr sx_477)), (qc, .inr (1, f_Controls qo qhs qgs qy sc)), (qo, .inr (3, f_Outside qa so_478)), (qa, .inl (cA, 256, .inl sa_479)), (qhs, .inr (0, f_Bank shs_480)), (qgs, .inr (0, f_Bank sgs_481)), (qy, .inr (2, f_Hyper sy_482)), (qr, .inr (4, f_Registers sr_483))]) (w2 := [(qx, .inr (5, f_Desk qc qo qr sx_477)), (qc, .inr (1, f_Controls qo qhs qgs qy sc)), (qo, .inr (3, f_Outside qa so_478)), (qa, .inl (cA, 256, .inl sa_479)), (qhs, .inr (0, f_Bank shs_480)), (qgs, .inr (0, f_Bank sgs_481)), (qy, .inr (2, f_Hyper sy_482)), (qr, .inr (4, f_Registers sr_483))]) (r := r_476) (As := [.int p1]) (rest := []) (ci := 5) (q0 := 0) ⟨hx, hb, hml, hown, hts⟩ hM (cwV 1 hts (gdV gd_gd q_438 q_440 q_7 q_41 q_441) rfl rfl rfl (by decide +kernel) ⟨Nat.le_of_ble_eq_true rfl, Nat.le_of_ble_eq_true rfl⟩) hE hK hP hD hS hA [0, 1, 2, 3, 4, 5, 6, 7] [] [0, 1, 2, 3, 4, 5, 6, 7] rfl (by decide) rfl (by decide) (by decide) rfl (by decide) rfl rfl rfl hl.1 rfl (Nat.le_of_ble_eq_true rfl) d_Desk_systemWord_62 ⟨Nat.zero_le _, Nat.zero_le _⟩ (fun H locs hP hD hS => ?_)
          have hk : k_Desk_systemWord sx sc so sa shs sgs sy sr p1 = (r_476, sx_477, so_478, sa_479, shs_480, sgs_481, sy_482, sr_483) := (by rw [k_Desk_systemWord]; rw [if_pos c_466]; rw [if_neg c_467]; rw [if_neg c_470]; rw [if_neg c_473]; try rw [← er_476]; try rw [← esx_477]; try rw [← eso_478]; try rw [← esa_479]; try rw [← eshs_480]; try rw [← esgs_481]; try rw [← esy_482]; try rw [← esr_483]; try rfl)
          exact ct_ri hx hb hr hlocks hP hD hK hS d_Desk_systemWord_65 (by rw [hk]; first | done | rfl) (by rw [hk]; first | done | rfl)
  · refine lv_iconst (v := 2) hx hb d_Desk_systemWord_7 (by decide) ?_
    have hk : k_Desk_systemWord sx sc so sa shs sgs sy sr p1 = (2, sx, so, sa, shs, sgs, sy, sr) := (by rw [k_Desk_systemWord]; rw [if_neg c_466]; try rfl)
    exact ct_ri hx hb hr hlocks hP hD hK hS d_Desk_systemWord_8 (by rw [hk]; first | done | rfl) (by rw [hk]; first | done | rfl)
def k_Desk_perform (sx : ob) (sc : ob) (so : ob) (sa : Nat → Int32) (shs : ob) (sgs : ob) (sy : ob) (sr : ob) (p1 : Int32) : Int32 × ob × ob × ob × (Nat → Int32) × ob × ob × ob × ob :=
  if (p1 &&& 127) = 115 then (if ((ush p1 12) &&& 7) = 0 then (((k_Desk_systemWord sx sc so sa shs sgs sy sr p1).1), ((k_Desk_systemWord sx sc so sa shs sgs sy sr p1).2.1), sc, ((k_Desk_systemWord sx sc so sa shs sgs sy sr p1).2.2.1), ((k_Desk_systemWord sx sc so sa shs sgs sy sr p1).2.2.2.1), ((k_Desk_systemWord sx sc so sa shs sgs sy sr p1).2.2.2.2.1), ((k_Desk_systemWord sx sc so sa shs sgs sy sr p1).2.2.2.2.2.1), ((k_Desk_systemWord sx sc so sa shs sgs sy sr p1).2.2.2.2.2.2.1), ((k_Desk_systemWord sx sc so sa shs sgs sy sr p1).2.2.2.2.2.2.2)) else (if ((ush p1 12) &&& 7) = 4 then ((k_Desk_farAccessWord sx sc sy p1), sx, sc, so, sa, shs, sgs, sy, sr) else (((k_Desk_controlWord sx sc so shs sgs sy sr p1 ((ush p1 12) &&& 7)).1), ((k_Desk_controlWord sx sc so shs sgs sy sr p1 ((ush p1 12) &&& 7)).2.1), ((k_Desk_controlWord sx sc so shs sgs sy sr p1 ((ush p1 12) &&& 7)).2.2.1), so, sa, ((k_Desk_controlWord sx sc so shs sgs sy sr p1 ((ush p1 12) &&& 7)).2.2.2.1), ((k_Desk_controlWord sx sc so shs sgs sy sr p1 ((ush p1 12) &&& 7)).2.2.2.2.1), ((k_Desk_controlWord sx sc so shs sgs sy sr p1 ((ush p1 12) &&& 7)).2.2.2.2.2.1), ((k_Desk_controlWord sx sc so shs sgs sy sr p1 ((ush p1 12) &&& 7)).2.2.2.2.2.2)))) else (2, sx, sc, so, sa, shs, sgs, sy, sr)
set_option maxHeartbeats 4000000 in
set_option maxRecDepth 100000 in
theorem c_Desk_perform (l : Launch) (G : gx) (tys : List (ClassId × FieldType)) {cA : ClassId} (ht : tys[0]? = some (cA, .byte)) (qx qc qo qa qhs qgs qy qr : Nat) (sx : ob) (sc : ob) (so : ob) (sa : Nat → Int32) (shs : ob) (sgs : ob) (sy : ob) (sr : ob) (p1 : Int32) (hp9 : ¬ so.1 1 < 0) : ct_I l y_Desk_perform ws_Desk_perform ({ frames := 6, cells := 0, slots := 0, locals := 134 }) G tys [.ref qx, .int p1] [(qx, .inr (5, f_Desk qc qo qr sx)), (qc, .inr (1, f_Controls qo qhs qgs qy sc)), (qo, .inr (3, f_Outside qa so)), (qa, .inl (cA, 256, .inl sa)), (qhs, .inr (0, f_Bank shs)), (qgs, .inr (0, f_Bank sgs)), (qy, .inr (2, f_Hyper sy)), (qr, .inr (4, f_Registers sr))] ((k_Desk_perform sx sc so sa shs sgs sy sr p1).1) [(qx, .inr (5, f_Desk qc qo qr ((k_Desk_perform sx sc so sa shs sgs sy sr p1).2.1))), (qc, .inr (1, f_Controls qo qhs qgs qy ((k_Desk_perform sx sc so sa shs sgs sy sr p1).2.2.1))), (qo, .inr (3, f_Outside qa ((k_Desk_perform sx sc so sa shs sgs sy sr p1).2.2.2.1))), (qa, .inl (cA, 256, .inl ((k_Desk_perform sx sc so sa shs sgs sy sr p1).2.2.2.2.1))), (qhs, .inr (0, f_Bank ((k_Desk_perform sx sc so sa shs sgs sy sr p1).2.2.2.2.2.1))), (qgs, .inr (0, f_Bank ((k_Desk_perform sx sc so sa shs sgs sy sr p1).2.2.2.2.2.2.1))), (qy, .inr (2, f_Hyper ((k_Desk_perform sx sc so sa shs sgs sy sr p1).2.2.2.2.2.2.2.1))), (qr, .inr (4, f_Registers ((k_Desk_perform sx sc so sa shs sgs sy sr p1).2.2.2.2.2.2.2.2)))] := by
  refine ct_hI (cc := cc_Desk_perform) (maxL := 3) (ret := (some .int)) (by decide) rfl (Nat.le_of_ble_eq_true rfl) ?_
  intro p e s m below meth c A ls hx hb hr hml hts hown hlocks hP hK hD hA hE hS hl
  have hl : lv_has ls 3 [(0, .ref qx), (1, .int p1)] := hl
  have hown : s.vm.findClass R_Desk = some m.cls := hown
  refine lv_iload_n hx hb d_Desk_perform_0 rfl (lv_at hl 1 rfl) ?_
  refine lv_bipush (v := 127) hx hb d_Desk_perform_1 (by decide) ?_
  refine lv_iand hx hb d_Desk_perform_3 ?_
  refine lv_bipush (v := 115) hx hb d_Desk_perform_4 (by decide) ?_
  refine lv_icmp_eq (tgt := 11) hx hb d_Desk_perform_6 (by decide) (fun c_492 => ?_) (fun c_492 => ?_)
  · refine lv_iload_n hx hb d_Desk_perform_11 rfl (lv_at hl 1 rfl) ?_
    refine lv_bipush (v := 12) hx hb d_Desk_perform_12 (by decide) ?_
    refine lv_iushr (v := (ush p1 12)) hx hb d_Desk_perform_14 rfl ?_
    refine lv_bipush (v := 7) hx hb d_Desk_perform_15 (by decide) ?_
    refine lv_iand hx hb d_Desk_perform_17 ?_
    refine lv_istore_n (lv' := [(2, .int ((ush p1 12) &&& 7)), (0, .ref qx), (1, .int p1)]) hx hb d_Desk_perform_18 rfl hl (by decide) rfl (fun ls hl => ?_)
    refine lv_iload_n hx hb d_Desk_perform_19 rfl (lv_at hl 0 rfl) ?_
    refine lv_if_ne (tgt := 29) hx hb d_Desk_perform_20 (by decide) (fun c_493 => ?_) (fun c_493 => ?_)
    · refine lv_iload_n hx hb d_Desk_perform_29 rfl (lv_at hl 0 rfl) ?_
      refine lv_iconst (v := 4) hx hb d_Desk_perform_30 (by decide) ?_
      refine lv_icmp_ne (tgt := 40) hx hb d_Desk_perform_31 (by decide) (fun c_494 => ?_) (fun c_494 => ?_)
      · refine lv_aload_n hx hb d_Desk_perform_40 rfl (lv_at hl 1 rfl) ?_
        refine lv_iload_n hx hb d_Desk_perform_41 rfl (lv_at hl 2 rfl) ?_
        refine lv_iload_n hx hb d_Desk_perform_42 rfl (lv_at hl 0 rfl) ?_
        obtain ⟨r_495, er_495⟩ : ∃ z, z = (k_Desk_controlWord sx sc so shs sgs sy sr p1 ((ush p1 12) &&& 7)).1 := ⟨_, rfl⟩
        obtain ⟨sx_496, esx_496⟩ : ∃ z, z = (k_Desk_controlWord sx sc so shs sgs sy sr p1 ((ush p1 12) &&& 7)).2.1 := ⟨_, rfl⟩
        obtain ⟨sc_497, esc_497⟩ : ∃ z, z = (k_Desk_controlWord sx sc so shs sgs sy sr p1 ((ush p1 12) &&& 7)).2.2.1 := ⟨_, rfl⟩
        obtain ⟨shs_498, eshs_498⟩ : ∃ z, z = (k_Desk_controlWord sx sc so shs sgs sy sr p1 ((ush p1 12) &&& 7)).2.2.2.1 := ⟨_, rfl⟩
        obtain ⟨sgs_499, esgs_499⟩ : ∃ z, z = (k_Desk_controlWord sx sc so shs sgs sy sr p1 ((ush p1 12) &&& 7)).2.2.2.2.1 := ⟨_, rfl⟩
        obtain ⟨sy_500, esy_500⟩ : ∃ z, z = (k_Desk_controlWord sx sc so shs sgs sy sr p1 ((ush p1 12) &&& 7)).2.2.2.2.2.1 := ⟨_, rfl⟩
        obtain ⟨sr_501, esr_501⟩ : ∃ z, z = (k_Desk_controlWord sx sc so shs sgs sy sr p1 ((ush p1 12) &&& 7)).2.2.2.2.2.2 := ⟨_, rfl⟩
        have hM := c_Desk_controlWord l G tys qx qc qo qhs qgs qy qr qa sx sc so shs sgs sy sr p1 ((ush p1 12) &&& 7)
        rw [← er_495, ← esx_496, ← esc_497, ← eshs_498, ← esgs_499, ← esy_500, ← esr_501] at hM
        refine ct_cVi (wr := [(qa, .inl (cA, 256, .inl sa))]) (w1 := [(qx, .inr (5, f_Desk qc qo qr sx_496)), (qc, .inr (1, f_Controls qo qhs qgs qy sc_497)), (qo, .inr (3, f_Outside qa so)), (qhs, .inr (0, f_Bank shs_498)), (qgs, .inr (0, f_Bank sgs_499)), (qy, .inr (2, f_Hyper sy_500)), (qr, .inr (4, f_Registers sr_501))]) (w2 := [(qx, .inr (5, f_Desk qc qo qr sx_496)), (qc, .inr (1, f_Controls qo qhs qgs qy sc_497)), (qo, .inr (3, f_Outside qa so)), (qa, .inl (cA, 256, .inl sa)), (qhs, .inr (0, f_Bank shs_498)), (qgs, .inr (0, f_Bank sgs_499)), (qy, .inr (2, f_Hyper sy_500)), (qr, .inr (4, f_Registers sr_501))]) (r := r_495) (As := [.int p1, .int ((ush p1 12) &&& 7)]) (rest := []) (ci := 5) (q0 := 0) ⟨hx, hb, hml, hown, hts⟩ hM (cwV 2 hts (gdV gd_gd q_487 q_489 q_11 q_41 q_490) rfl rfl rfl (by decide +kernel) ⟨Nat.le_of_ble_eq_true rfl, Nat.le_of_ble_eq_true rfl⟩) hE hK hP hD hS hA [0, 1, 2, 4, 5, 6, 7] [3] [1, 2, 3, 0, 4, 5, 6, 7] rfl (by decide) rfl (by decide) (by decide) rfl (by decide) rfl rfl rfl hl.1 rfl (Nat.le_of_ble_eq_true rfl) d_Desk_perform_43 ⟨Nat.zero_le _, Nat.zero_le _⟩ (fun H locs hP hD hS => ?_)
        have hk : k_Desk_perform sx sc so sa shs sgs sy sr p1 = (r_495, sx_496, sc_497, so, sa, shs_498, sgs_499, sy_500, sr_501) := (by rw [k_Desk_perform]; rw [if_pos c_492]; rw [if_neg c_493]; rw [if_neg c_494]; try rw [← er_495]; try rw [← esx_496]; try rw [← esc_497]; try rw [← eshs_498]; try rw [← esgs_499]; try rw [← esy_500]; try rw [← esr_501]; try rfl)
        exact ct_ri hx hb hr hlocks hP hD hK hS d_Desk_perform_46 (by rw [hk]; first | done | rfl) (by rw [hk]; first | done | rfl)
      · refine lv_aload_n hx hb d_Desk_perform_34 rfl (lv_at hl 1 rfl) ?_
        refine lv_iload_n hx hb d_Desk_perform_35 rfl (lv_at hl 2 rfl) ?_
        refine ct_cVi (wr := [(qo, .inr (3, f_Outside qa so)), (qa, .inl (cA, 256, .inl sa)), (qhs, .inr (0, f_Bank shs)), (qgs, .inr (0, f_Bank sgs)), (qr, .inr (4, f_Registers sr))]) (w1 := [(qx, .inr (5, f_Desk qc qo qr sx)), (qc, .inr (1, f_Controls qo qhs qgs qy sc)), (qy, .inr (2, f_Hyper sy))]) (w2 := [(qx, .inr (5, f_Desk qc qo qr sx)), (qc, .inr (1, f_Controls qo qhs qgs qy sc)), (qo, .inr (3, f_Outside qa so)), (qa, .inl (cA, 256, .inl sa)), (qhs, .inr (0, f_Bank shs)), (qgs, .inr (0, f_Bank sgs)), (qy, .inr (2, f_Hyper sy)), (qr, .inr (4, f_Registers sr))]) (r := (k_Desk_farAccessWord sx sc sy p1)) (As := [.int p1]) (rest := []) (ci := 5) (q0 := 0) ⟨hx, hb, hml, hown, hts⟩ (c_Desk_farAccessWord l G tys qx qc qy qo qr qhs qgs sx sc sy p1) (cwV 1 hts (gdV gd_gd q_477 q_479 q_10 q_41 q_480) rfl rfl rfl (by decide +kernel) ⟨Nat.le_of_ble_eq_true rfl, Nat.le_of_ble_eq_true rfl⟩) hE hK hP hD hS hA [0, 1, 6] [2, 3, 4, 5, 7] [5, 6, 0, 1, 2, 3, 7, 4] rfl (by decide) rfl (by decide) (by decide) rfl (by decide) rfl rfl rfl hl.1 rfl (Nat.le_of_ble_eq_true rfl) d_Desk_perform_36 ⟨Nat.zero_le _, Nat.zero_le _⟩ (fun H locs hP hD hS => ?_)
        have hk : k_Desk_perform sx sc so sa shs sgs sy sr p1 = ((k_Desk_farAccessWord sx sc sy p1), sx, sc, so, sa, shs, sgs, sy, sr) := (by rw [k_Desk_perform]; rw [if_pos c_492]; rw [if_neg c_493]; rw [if_pos c_494]; try rfl)
        exact ct_ri hx hb hr hlocks hP hD hK hS d_Desk_perform_39 (by rw [hk]; first | done | rfl) (by rw [hk]; first | done | rfl)
    · refine lv_aload_n hx hb d_Desk_perform_23 rfl (lv_at hl 1 rfl) ?_
      refine lv_iload_n hx hb d_Desk_perform_24 rfl (lv_at hl 2 rfl) ?_
      obtain ⟨r_502, er_502⟩ : ∃ z, z = (k_Desk_systemWord sx sc so sa shs sgs sy sr p1).1 := ⟨_, rfl⟩
      obtain ⟨sx_503, esx_503⟩ : ∃ z, z = (k_Desk_systemWord sx sc so sa shs sgs sy sr p1).2.1 := ⟨_, rfl⟩
      obtain ⟨so_504, eso_504⟩ : ∃ z, z = (k_Desk_systemWord sx sc so sa shs sgs sy sr p1).2.2.1 := ⟨_, rfl⟩
      obtain ⟨sa_505, esa_505⟩ : ∃ z, z = (k_Desk_systemWord sx sc so sa shs sgs sy sr p1).2.2.2.1 := ⟨_, rfl⟩
      obtain ⟨shs_506, eshs_506⟩ : ∃ z, z = (k_Desk_systemWord sx sc so sa shs sgs sy sr p1).2.2.2.2.1 := ⟨_, rfl⟩
      obtain ⟨sgs_507, esgs_507⟩ : ∃ z, z = (k_Desk_systemWord sx sc so sa shs sgs sy sr p1).2.2.2.2.2.1 := ⟨_, rfl⟩
      obtain ⟨sy_508, esy_508⟩ : ∃ z, z = (k_Desk_systemWord sx sc so sa shs sgs sy sr p1).2.2.2.2.2.2.1 := ⟨_, rfl⟩
      obtain ⟨sr_509, esr_509⟩ : ∃ z, z = (k_Desk_systemWord sx sc so sa shs sgs sy sr p1).2.2.2.2.2.2.2 := ⟨_, rfl⟩
      have hM := c_Desk_systemWord l G tys ht qx qc qo qa qhs qgs qy qr sx sc so sa shs sgs sy sr p1 hp9
      rw [← er_502, ← esx_503, ← eso_504, ← esa_505, ← eshs_506, ← esgs_507, ← esy_508, ← esr_509] at hM
      refine ct_cVi (wr := []) (w1 := [(qx, .inr (5, f_Desk qc qo qr sx_503)), (qc, .inr (1, f_Controls qo qhs qgs qy sc)), (qo, .inr (3, f_Outside qa so_504)), (qa, .inl (cA, 256, .inl sa_505)), (qhs, .inr (0, f_Bank shs_506)), (qgs, .inr (0, f_Bank sgs_507)), (qy, .inr (2, f_Hyper sy_508)), (qr, .inr (4, f_Registers sr_509))]) (w2 := [(qx, .inr (5, f_Desk qc qo qr sx_503)), (qc, .inr (1, f_Controls qo qhs qgs qy sc)), (qo, .inr (3, f_Outside qa so_504)), (qa, .inl (cA, 256, .inl sa_505)), (qhs, .inr (0, f_Bank shs_506)), (qgs, .inr (0, f_Bank sgs_507)), (qy, .inr (2, f_Hyper sy_508)), (qr, .inr (4, f_Registers sr_509))]) (r := r_502) (As := [.int p1]) (rest := []) (ci := 5) (q0 := 0) ⟨hx, hb, hml, hown, hts⟩ hM (cwV 1 hts (gdV gd_gd q_403 q_405 q_1 q_41 q_406) rfl rfl rfl (by decide +kernel) ⟨Nat.le_of_ble_eq_true rfl, Nat.le_of_ble_eq_true rfl⟩) hE hK hP hD hS hA [0, 1, 2, 3, 4, 5, 6, 7] [] [0, 1, 2, 3, 4, 5, 6, 7] rfl (by decide) rfl (by decide) (by decide) rfl (by decide) rfl rfl rfl hl.1 rfl (Nat.le_of_ble_eq_true rfl) d_Desk_perform_25 ⟨Nat.zero_le _, Nat.zero_le _⟩ (fun H locs hP hD hS => ?_)
      have hk : k_Desk_perform sx sc so sa shs sgs sy sr p1 = (r_502, sx_503, sc, so_504, sa_505, shs_506, sgs_507, sy_508, sr_509) := (by rw [k_Desk_perform]; rw [if_pos c_492]; rw [if_pos c_493]; try rw [← er_502]; try rw [← esx_503]; try rw [← eso_504]; try rw [← esa_505]; try rw [← eshs_506]; try rw [← esgs_507]; try rw [← esy_508]; try rw [← esr_509]; try rfl)
      exact ct_ri hx hb hr hlocks hP hD hK hS d_Desk_perform_28 (by rw [hk]; first | done | rfl) (by rw [hk]; first | done | rfl)
  · refine lv_iconst (v := 2) hx hb d_Desk_perform_9 (by decide) ?_
    have hk : k_Desk_perform sx sc so sa shs sgs sy sr p1 = (2, sx, sc, so, sa, shs, sgs, sy, sr) := (by rw [k_Desk_perform]; rw [if_neg c_492]; try rfl)
    exact ct_ri hx hb hr hlocks hP hD hK hS d_Desk_perform_10 (by rw [hk]; first | done | rfl) (by rw [hk]; first | done | rfl)
def k_Desk_trapValue (sx : ob) (p1 : Int32) (p2 : Int32) : Int32 :=
  if p1 = 2 then p2 else if p1 = 3 then (sx.1 4) else if p1 = 22 then p2 else 0
set_option maxHeartbeats 4000000 in
set_option maxRecDepth 100000 in
theorem c_Desk_trapValue (l : Launch) (G : gx) (tys : List (ClassId × FieldType)) (qx qc qo qr : Nat) (sx : ob) (p1 : Int32) (p2 : Int32) : ct_I l y_Desk_trapValue ws_Desk_trapValue ({ frames := 0, cells := 0, slots := 0, locals := 0 }) G tys [.ref qx, .int p1, .int p2] [(qx, .inr (5, f_Desk qc qo qr sx))] (k_Desk_trapValue sx p1 p2) [(qx, .inr (5, f_Desk qc qo qr sx))] := by
  refine ct_hI (cc := cc_Desk_trapValue) (maxL := 3) (ret := (some .int)) (by decide) rfl (Nat.le_of_ble_eq_true rfl) ?_
  intro p e s m below meth c A ls hx hb hr hml hts hown hlocks hP hK hD hA hE hS hl
  have hl : lv_has ls 3 [(0, .ref qx), (1, .int p1), (2, .int p2)] := hl
  have hown : s.vm.findClass R_Desk = some m.cls := hown
  refine lv_iload_n hx hb d_Desk_trapValue_0 rfl (lv_at hl 1 rfl) ?_
  by_cases c_523 : p1 = 2
  · refine lv_lookup (off := 35) (tgt := 36) hx hb d_Desk_trapValue_1 (by decide) (by rw [c_523]; decide) (by decide) ?_
    refine lv_iload_n hx hb d_Desk_trapValue_36 rfl (lv_at hl 2 rfl) ?_
    have hk : k_Desk_trapValue sx p1 p2 = p2 := (by rw [k_Desk_trapValue]; rw [if_pos c_523]; try rfl)
    exact ct_ri hx hb hr hlocks hP hD hK hS d_Desk_trapValue_37 (by rw [hk]; first | done | rfl) rfl
  · by_cases c_524 : p1 = 3
    · refine lv_lookup (off := 37) (tgt := 38) hx hb d_Desk_trapValue_1 (by decide) (by rw [c_524]; decide) (by decide) ?_
      refine lv_aload_n hx hb d_Desk_trapValue_38 rfl (lv_at hl 0 rfl) ?_
      refine va_get (D := G.1) (ci := 5) (v := .int (sx.1 4)) (C := R_Desk) (T := T_Desk) (N := 8) hx hb hts (fun w h => gd_sub _ (iw_Desk w h)) hown hK hP 0 rfl rfl 4 (by decide) (hts _ (gd_sub _ q_209)) (fun _ h9 => h9) rfl d_Desk_trapValue_39 ?_
      have hk : k_Desk_trapValue sx p1 p2 = (sx.1 4) := (by rw [k_Desk_trapValue]; rw [if_neg c_523]; rw [if_pos c_524]; try rfl)
      exact ct_ri hx hb hr hlocks hP hD hK hS d_Desk_trapValue_42 (by rw [hk]; first | done | rfl) rfl
    · by_cases c_525 : p1 = 22
      · refine lv_lookup (off := 35) (tgt := 36) hx hb d_Desk_trapValue_1 (by decide) (by rw [c_525]; decide) (by decide) ?_
        refine lv_iload_n hx hb d_Desk_trapValue_36 rfl (lv_at hl 2 rfl) ?_
        have hk : k_Desk_trapValue sx p1 p2 = p2 := (by rw [k_Desk_trapValue]; rw [if_neg c_523]; rw [if_neg c_524]; rw [if_pos c_525]; try rfl)
        exact ct_ri hx hb hr hlocks hP hD hK hS d_Desk_trapValue_37 (by rw [hk]; first | done | rfl) rfl
      · refine lv_lookup (off := 42) (tgt := 43) hx hb d_Desk_trapValue_1 (by decide) ((lv_osw c_523 (by decide)).trans ((lv_osw c_524 (by decide)).trans ((lv_osw c_525 (by decide)).trans rfl))) (by decide) ?_
        refine lv_iconst (v := 0) hx hb d_Desk_trapValue_43 (by decide) ?_
        have hk : k_Desk_trapValue sx p1 p2 = 0 := (by rw [k_Desk_trapValue]; rw [if_neg c_523]; rw [if_neg c_524]; rw [if_neg c_525]; try rfl)
        exact ct_ri hx hb hr hlocks hP hD hK hS d_Desk_trapValue_44 (by rw [hk]; first | done | rfl) rfl
def k_Desk_isIn (p1 : Int32) (p2 : Int32) : Bool :=
  if p2 < 0 then false else (if 32 ≤ p2 then false else (if ((ush p1 p2) &&& 1) = 0 then false else true))
set_option maxHeartbeats 4000000 in
set_option maxRecDepth 100000 in
theorem c_Desk_isIn (l : Launch) (G : gx) (tys : List (ClassId × FieldType)) (p1 : Int32) (p2 : Int32) : ct_I l y_Desk_isIn ws_Desk_isIn ({ frames := 0, cells := 0, slots := 0, locals := 0 }) G tys [.int p1, .int p2] [] (bI (k_Desk_isIn p1 p2)) [] := by
  refine ct_hI (cc := cc_Desk_isIn) (maxL := 2) (ret := (some .boolean)) (by decide) rfl (Nat.le_of_ble_eq_true rfl) ?_
  intro p e s m below meth c A ls hx hb hr hml hts hown hlocks hP hK hD hA hE hS hl
  have hl : lv_has ls 2 [(0, .int p1), (1, .int p2)] := hl
  have hown : s.vm.findClass R_Desk = some m.cls := hown
  refine lv_iload_n hx hb d_Desk_isIn_0 rfl (lv_at hl 1 rfl) ?_
  refine lv_if_lt (tgt := 22) hx hb d_Desk_isIn_1 (by decide) (fun c_530 => ?_) (fun c_530 => ?_)
  · refine lv_iconst (v := 0) hx hb d_Desk_isIn_22 (by decide) ?_
    have hk : k_Desk_isIn p1 p2 = false := (by rw [k_Desk_isIn]; rw [if_pos c_530]; try rfl)
    exact ct_rz hx hb hr hlocks hP hD hK hS d_Desk_isIn_23 rfl (by rw [hk]; first | done | rfl) rfl
  · refine lv_iload_n hx hb d_Desk_isIn_4 rfl (lv_at hl 1 rfl) ?_
    refine lv_bipush (v := 32) hx hb d_Desk_isIn_5 (by decide) ?_
    refine lv_icmp_ge (tgt := 22) hx hb d_Desk_isIn_7 (by decide) (fun c_531 => ?_) (fun c_531 => ?_)
    · refine lv_iconst (v := 0) hx hb d_Desk_isIn_22 (by decide) ?_
      have hk : k_Desk_isIn p1 p2 = false := (by rw [k_Desk_isIn]; rw [if_neg c_530]; rw [if_pos c_531]; try rfl)
      exact ct_rz hx hb hr hlocks hP hD hK hS d_Desk_isIn_23 rfl (by rw [hk]; first | done | rfl) rfl
    · refine lv_iload_n hx hb d_Desk_isIn_10 rfl (lv_at hl 0 rfl) ?_
      refine lv_iload_n hx hb d_Desk_isIn_11 rfl (lv_at hl 1 rfl) ?_
      refine lv_iushr (v := (ush p1 p2)) hx hb d_Desk_isIn_12 rfl ?_
      refine lv_iconst (v := 1) hx hb d_Desk_isIn_13 (by decide) ?_
      refine lv_iand hx hb d_Desk_isIn_14 ?_
      refine lv_if_eq (tgt := 22) hx hb d_Desk_isIn_15 (by decide) (fun c_532 => ?_) (fun c_532 => ?_)
      · refine lv_iconst (v := 0) hx hb d_Desk_isIn_22 (by decide) ?_
        have hk : k_Desk_isIn p1 p2 = false := (by rw [k_Desk_isIn]; rw [if_neg c_530]; rw [if_neg c_531]; rw [if_pos c_532]; try rfl)
        exact ct_rz hx hb hr hlocks hP hD hK hS d_Desk_isIn_23 rfl (by rw [hk]; first | done | rfl) rfl
      · refine lv_iconst (v := 1) hx hb d_Desk_isIn_18 (by decide) ?_
        refine lv_goto (tgt := 23) hx hb d_Desk_isIn_19 (by decide) ?_
        have hk : k_Desk_isIn p1 p2 = true := (by rw [k_Desk_isIn]; rw [if_neg c_530]; rw [if_neg c_531]; rw [if_neg c_532]; try rfl)
        exact ct_rz hx hb hr hlocks hP hD hK hS d_Desk_isIn_23 rfl (by rw [hk]; first | done | rfl) rfl
def k_Desk_isSupervisor (sx : ob) : Bool :=
  if (sx.1 3) = 1 then true else (if (sx.1 3) = 3 then true else false)
set_option maxHeartbeats 4000000 in
set_option maxRecDepth 100000 in
theorem c_Desk_isSupervisor (l : Launch) (G : gx) (tys : List (ClassId × FieldType)) (qx qc qo qr : Nat) (sx : ob) : ct_I l y_Desk_isSupervisor ws_Desk_isSupervisor ({ frames := 0, cells := 0, slots := 0, locals := 0 }) G tys [.ref qx] [(qx, .inr (5, f_Desk qc qo qr sx))] (bI (k_Desk_isSupervisor sx)) [(qx, .inr (5, f_Desk qc qo qr sx))] := by
  refine ct_hI (cc := cc_Desk_isSupervisor) (maxL := 1) (ret := (some .boolean)) (by decide) rfl (Nat.le_of_ble_eq_true rfl) ?_
  intro p e s m below meth c A ls hx hb hr hml hts hown hlocks hP hK hD hA hE hS hl
  have hl : lv_has ls 1 [(0, .ref qx)] := hl
  have hown : s.vm.findClass R_Desk = some m.cls := hown
  refine lv_aload_n hx hb d_Desk_isSupervisor_0 rfl (lv_at hl 0 rfl) ?_
  refine va_get (D := G.1) (ci := 5) (v := .int (sx.1 3)) (C := R_Desk) (T := T_Desk) (N := 8) hx hb hts (fun w h => gd_sub _ (iw_Desk w h)) hown hK hP 0 rfl rfl 3 (by decide) (hts _ (gd_sub _ q_208)) (fun _ h9 => h9) rfl d_Desk_isSupervisor_1 ?_
  refine lv_iconst (v := 1) hx hb d_Desk_isSupervisor_4 (by decide) ?_
  refine lv_icmp_eq (tgt := 16) hx hb d_Desk_isSupervisor_5 (by decide) (fun c_536 => ?_) (fun c_536 => ?_)
  · refine lv_iconst (v := 1) hx hb d_Desk_isSupervisor_16 (by decide) ?_
    refine lv_goto (tgt := 21) hx hb d_Desk_isSupervisor_17 (by decide) ?_
    have hk : k_Desk_isSupervisor sx = true := (by rw [k_Desk_isSupervisor]; rw [if_pos c_536]; try rfl)
    exact ct_rz hx hb hr hlocks hP hD hK hS d_Desk_isSupervisor_21 rfl (by rw [hk]; first | done | rfl) rfl
  · refine lv_aload_n hx hb d_Desk_isSupervisor_8 rfl (lv_at hl 0 rfl) ?_
    refine va_get (D := G.1) (ci := 5) (v := .int (sx.1 3)) (C := R_Desk) (T := T_Desk) (N := 8) hx hb hts (fun w h => gd_sub _ (iw_Desk w h)) hown hK hP 0 rfl rfl 3 (by decide) (hts _ (gd_sub _ q_208)) (fun _ h9 => h9) rfl d_Desk_isSupervisor_9 ?_
    refine lv_iconst (v := 3) hx hb d_Desk_isSupervisor_12 (by decide) ?_
    refine lv_icmp_ne (tgt := 20) hx hb d_Desk_isSupervisor_13 (by decide) (fun c_537 => ?_) (fun c_537 => ?_)
    · refine lv_iconst (v := 0) hx hb d_Desk_isSupervisor_20 (by decide) ?_
      have hk : k_Desk_isSupervisor sx = false := (by rw [k_Desk_isSupervisor]; rw [if_neg c_536]; rw [if_neg c_537]; try rfl)
      exact ct_rz hx hb hr hlocks hP hD hK hS d_Desk_isSupervisor_21 rfl (by rw [hk]; first | done | rfl) rfl
    · refine lv_iconst (v := 1) hx hb d_Desk_isSupervisor_16 (by decide) ?_
      refine lv_goto (tgt := 21) hx hb d_Desk_isSupervisor_17 (by decide) ?_
      have hk : k_Desk_isSupervisor sx = true := (by rw [k_Desk_isSupervisor]; rw [if_neg c_536]; rw [if_pos c_537]; try rfl)
      exact ct_rz hx hb hr hlocks hP hD hK hS d_Desk_isSupervisor_21 rfl (by rw [hk]; first | done | rfl) rfl
def k_Bank_hasInterruptsOn (sb : ob) : Bool :=
  if ((sb.1 0) &&& 2) = 0 then false else true
set_option maxHeartbeats 4000000 in
set_option maxRecDepth 100000 in
theorem c_Bank_hasInterruptsOn (l : Launch) (G : gx) (tys : List (ClassId × FieldType)) (qb : Nat) (sb : ob) : ct_I l y_Bank_hasInterruptsOn ws_Bank_hasInterruptsOn ({ frames := 0, cells := 0, slots := 0, locals := 0 }) G tys [.ref qb] [(qb, .inr (0, f_Bank sb))] (bI (k_Bank_hasInterruptsOn sb)) [(qb, .inr (0, f_Bank sb))] := by
  refine ct_hI (cc := cc_Bank_hasInterruptsOn) (maxL := 1) (ret := (some .boolean)) (by decide) rfl (Nat.le_of_ble_eq_true rfl) ?_
  intro p e s m below meth c A ls hx hb hr hml hts hown hlocks hP hK hD hA hE hS hl
  have hl : lv_has ls 1 [(0, .ref qb)] := hl
  have hown : s.vm.findClass R_Bank = some m.cls := hown
  refine lv_aload_n hx hb d_Bank_hasInterruptsOn_0 rfl (lv_at hl 0 rfl) ?_
  refine va_get (D := G.1) (ci := 0) (v := .int (sb.1 0)) (C := R_Bank) (T := T_Bank) (N := 7) hx hb hts (fun w h => gd_sub _ (iw_Bank w h)) hown hK hP 0 rfl rfl 0 (by decide) (hts _ (gd_sub _ q_103)) (fun _ h9 => h9) rfl d_Bank_hasInterruptsOn_1 ?_
  refine lv_iconst (v := 2) hx hb d_Bank_hasInterruptsOn_4 (by decide) ?_
  refine lv_iand hx hb d_Bank_hasInterruptsOn_5 ?_
  refine lv_if_eq (tgt := 13) hx hb d_Bank_hasInterruptsOn_6 (by decide) (fun c_539 => ?_) (fun c_539 => ?_)
  · refine lv_iconst (v := 0) hx hb d_Bank_hasInterruptsOn_13 (by decide) ?_
    have hk : k_Bank_hasInterruptsOn sb = false := (by rw [k_Bank_hasInterruptsOn]; rw [if_pos c_539]; try rfl)
    exact ct_rz hx hb hr hlocks hP hD hK hS d_Bank_hasInterruptsOn_14 rfl (by rw [hk]; first | done | rfl) rfl
  · refine lv_iconst (v := 1) hx hb d_Bank_hasInterruptsOn_9 (by decide) ?_
    refine lv_goto (tgt := 14) hx hb d_Bank_hasInterruptsOn_10 (by decide) ?_
    have hk : k_Bank_hasInterruptsOn sb = true := (by rw [k_Bank_hasInterruptsOn]; rw [if_neg c_539]; try rfl)
    exact ct_rz hx hb hr hlocks hP hD hK hS d_Bank_hasInterruptsOn_14 rfl (by rw [hk]; first | done | rfl) rfl
def k_Bank_handlerOf_j29 (sb : ob) (p1 : Int32) (v2 : Int32) (t0 : Bool) : Int32 :=
  if (bI t0) = 0 then v2 else (v2 + (4 * (p1 &&& 2147483647)))
def k_Bank_handlerOf_j28 (sb : ob) (p1 : Int32) (v2 : Int32) : Int32 :=
  k_Bank_handlerOf_j29 sb p1 v2 false
def k_Bank_handlerOf (sb : ob) (p1 : Int32) : Int32 :=
  if (p1 &&& (-2147483648)) = 0 then (k_Bank_handlerOf_j28 sb p1 ((sb.1 1) &&& (-4))) else (if ((sb.1 1) &&& 1) = 0 then (k_Bank_handlerOf_j28 sb p1 ((sb.1 1) &&& (-4))) else (k_Bank_handlerOf_j29 sb p1 ((sb.1 1) &&& (-4)) true))
set_option maxHeartbeats 4000000 in
set_option maxRecDepth 100000 in
theorem c_Bank_handlerOf (l : Launch) (G : gx) (tys : List (ClassId × FieldType)) (qb : Nat) (sb : ob) (p1 : Int32) : ct_I l y_Bank_handlerOf ws_Bank_handlerOf ({ frames := 0, cells := 0, slots := 0, locals := 0 }) G tys [.ref qb, .int p1] [(qb, .inr (0, f_Bank sb))] (k_Bank_handlerOf sb p1) [(qb, .inr (0, f_Bank sb))] := by
  refine ct_hI (cc := cc_Bank_handlerOf) (maxL := 4) (ret := (some .int)) (by decide) rfl (Nat.le_of_ble_eq_true rfl) ?_
  intro p e s m below meth c A ls hx hb hr hml hts hown hlocks hP hK hD hA hE hS hl
  have hl : lv_has ls 4 [(0, .ref qb), (1, .int p1)] := hl
  have hown : s.vm.findClass R_Bank = some m.cls := hown
  have J29 : ∀ (v2 : Int32) (t0 : Bool) (H : Heap) (locs : List Loc) (ls : Array Slot), k_Bank_handlerOf sb p1 = k_Bank_handlerOf_j29 sb p1 v2 t0 → va_P G.1 vwCl [(qb, .inr (0, f_Bank sb))] H → va_D A [(qb, .inr (0, f_Bank sb))] → va_S A s.heap H locs → lv_has ls 4 [(0, .ref qb), (1, .int p1), (2, .int v2)] → W p l e ({ frames := 0, cells := 0, slots := 0, locals := 0 }) s m ([.ref qb, .int p1] : List Value).toArray below meth c H locs 0 0 (MQ below (ct_qi G tys A (k_Bank_handlerOf sb p1) [(qb, .inr (0, f_Bank sb))]) ([.ref qb, .int p1] : List Value).toArray s 0 0 A) (F0 m 29 ls [.int (bI t0)]) := by
    intro v2 t0 H locs ls hj hP hD hS hl
    refine lv_istore_n (lv' := [(3, .int (bI t0)), (0, .ref qb), (1, .int p1), (2, .int v2)]) hx hb d_Bank_handlerOf_29 rfl hl (by decide) rfl (fun ls hl => ?_)
    refine lv_iload_n hx hb d_Bank_handlerOf_30 rfl (lv_at hl 0 rfl) ?_
    refine lv_if_eq (tgt := 45) hx hb d_Bank_handlerOf_31 (by decide) (fun c_545 => ?_) (fun c_545 => ?_)
    · refine lv_iload_n hx hb d_Bank_handlerOf_45 rfl (lv_at hl 3 rfl) ?_
      have hk : k_Bank_handlerOf sb p1 = v2 := (hj.trans (by rw [k_Bank_handlerOf_j29]; rw [if_pos c_545]; try rfl))
      exact ct_ri hx hb hr hlocks hP hD hK hS d_Bank_handlerOf_46 (by rw [hk]; first | done | rfl) rfl
    · refine lv_iload_n hx hb d_Bank_handlerOf_34 rfl (lv_at hl 3 rfl) ?_
      refine lv_iconst (v := 4) hx hb d_Bank_handlerOf_35 (by decide) ?_
      refine lv_iload_n hx hb d_Bank_handlerOf_36 rfl (lv_at hl 2 rfl) ?_
      refine lv_ldc (v := 2147483647) hx hb hown (hts _ (gd_sub _ q_538)) d_Bank_handlerOf_37 ?_
      refine lv_iand hx hb d_Bank_handlerOf_39 ?_
      refine lv_imul hx hb d_Bank_handlerOf_40 ?_
      refine lv_iadd hx hb d_Bank_handlerOf_41 ?_
      refine lv_goto (tgt := 46) hx hb d_Bank_handlerOf_42 (by decide) ?_
      have hk : k_Bank_handlerOf sb p1 = (v2 + (4 * (p1 &&& 2147483647))) := (hj.trans (by rw [k_Bank_handlerOf_j29]; rw [if_neg c_545]; try rfl))
      exact ct_ri hx hb hr hlocks hP hD hK hS d_Bank_handlerOf_46 (by rw [hk]; first | done | rfl) rfl
  have J28 : ∀ (v2 : Int32) (H : Heap) (locs : List Loc) (ls : Array Slot), k_Bank_handlerOf sb p1 = k_Bank_handlerOf_j28 sb p1 v2 → va_P G.1 vwCl [(qb, .inr (0, f_Bank sb))] H → va_D A [(qb, .inr (0, f_Bank sb))] → va_S A s.heap H locs → lv_has ls 4 [(0, .ref qb), (1, .int p1), (2, .int v2)] → W p l e ({ frames := 0, cells := 0, slots := 0, locals := 0 }) s m ([.ref qb, .int p1] : List Value).toArray below meth c H locs 0 0 (MQ below (ct_qi G tys A (k_Bank_handlerOf sb p1) [(qb, .inr (0, f_Bank sb))]) ([.ref qb, .int p1] : List Value).toArray s 0 0 A) (F0 m 28 ls []) := by
    intro v2 H locs ls hj hP hD hS hl
    refine lv_iconst (v := 0) hx hb d_Bank_handlerOf_28 (by decide) ?_
    exact J29 v2 false H locs ls (hj.trans (by rw [k_Bank_handlerOf_j28]; try rfl)) hP hD hS (lv_sub hl [0, 1, 2] rfl)
  obtain ⟨H, eH⟩ : ∃ z, z = s.heap := ⟨_, rfl⟩
  obtain ⟨locs, eL⟩ : ∃ z, z = ([] : List Loc) := ⟨_, rfl⟩
  have hP : va_P G.1 vwCl [(qb, .inr (0, f_Bank sb))] H := by rw [eH]; exact hP
  have hS : va_S A s.heap H locs := by rw [eH, eL]; exact hS
  suffices hW : W p l e ({ frames := 0, cells := 0, slots := 0, locals := 0 }) s m ([.ref qb, .int p1] : List Value).toArray below meth c H locs 0 0 (MQ below (ct_qi G tys A (k_Bank_handlerOf sb p1) [(qb, .inr (0, f_Bank sb))]) ([.ref qb, .int p1] : List Value).toArray s 0 0 A) (F0 m 0 ls []) by rw [eH, eL] at hW; exact hW
  refine lv_aload_n hx hb d_Bank_handlerOf_0 rfl (lv_at hl 0 rfl) ?_
  refine va_get (D := G.1) (ci := 0) (v := .int (sb.1 1)) (C := R_Bank) (T := T_Bank) (N := 7) hx hb hts (fun w h => gd_sub _ (iw_Bank w h)) hown hK hP 0 rfl rfl 1 (by decide) (hts _ (gd_sub _ q_104)) (fun _ h9 => h9) rfl d_Bank_handlerOf_1 ?_
  refine lv_bipush (v := (-4)) hx hb d_Bank_handlerOf_4 (by decide) ?_
  refine lv_iand hx hb d_Bank_handlerOf_6 ?_
  refine lv_istore_n (lv' := [(2, .int ((sb.1 1) &&& (-4))), (0, .ref qb), (1, .int p1)]) hx hb d_Bank_handlerOf_7 rfl hl (by decide) rfl (fun ls hl => ?_)
  refine lv_iload_n hx hb d_Bank_handlerOf_8 rfl (lv_at hl 2 rfl) ?_
  refine lv_ldc (v := (-2147483648)) hx hb hown (hts _ (gd_sub _ q_537)) d_Bank_handlerOf_9 ?_
  refine lv_iand hx hb d_Bank_handlerOf_11 ?_
  refine lv_if_eq (tgt := 28) hx hb d_Bank_handlerOf_12 (by decide) (fun c_546 => ?_) (fun c_546 => ?_)
  · exact J28 ((sb.1 1) &&& (-4)) H locs ls (by rw [k_Bank_handlerOf]; rw [if_pos c_546]; try rfl) hP hD hS (lv_sub hl [1, 2, 0] rfl)
  · refine lv_aload_n hx hb d_Bank_handlerOf_15 rfl (lv_at hl 1 rfl) ?_
    refine va_get (D := G.1) (ci := 0) (v := .int (sb.1 1)) (C := R_Bank) (T := T_Bank) (N := 7) hx hb hts (fun w h => gd_sub _ (iw_Bank w h)) hown hK hP 0 rfl rfl 1 (by decide) (hts _ (gd_sub _ q_104)) (fun _ h9 => h9) rfl d_Bank_handlerOf_16 ?_
    refine lv_iconst (v := 1) hx hb d_Bank_handlerOf_19 (by decide) ?_
    refine lv_iand hx hb d_Bank_handlerOf_20 ?_
    refine lv_if_eq (tgt := 28) hx hb d_Bank_handlerOf_21 (by decide) (fun c_547 => ?_) (fun c_547 => ?_)
    · exact J28 ((sb.1 1) &&& (-4)) H locs ls (by rw [k_Bank_handlerOf]; rw [if_neg c_546]; rw [if_pos c_547]; try rfl) hP hD hS (lv_sub hl [1, 2, 0] rfl)
    · refine lv_iconst (v := 1) hx hb d_Bank_handlerOf_24 (by decide) ?_
      refine lv_goto (tgt := 29) hx hb d_Bank_handlerOf_25 (by decide) ?_
      exact J29 ((sb.1 1) &&& (-4)) true H locs ls (by rw [k_Bank_handlerOf]; rw [if_neg c_546]; rw [if_neg c_547]; try rfl) hP hD hS (lv_sub hl [1, 2, 0] rfl)
def k_Bank_enter_j58 (sb : ob) (p1 : Int32) (p2 : Int32) (p3 : Int32) (p4 : Bool) (v5 : Int32) (v6 : Int32) (t0 : Int32) (t1 : Int32) (ub : ob) : Int32 × ob :=
  ((k_Bank_handlerOf (oi ub 0 (t1 ||| t0)) p2), (oi ub 0 (t1 ||| t0)))
def k_Bank_enter_j38 (sb : ob) (p1 : Int32) (p2 : Int32) (p3 : Int32) (p4 : Bool) (v5 : Int32) (t0 : Int32) (ub : ob) : Int32 × ob :=
  if (bI p4) = 0 then (k_Bank_enter_j58 sb p1 p2 p3 p4 v5 t0 0 (v5 ||| t0) ub) else (k_Bank_enter_j58 sb p1 p2 p3 p4 v5 t0 256 (v5 ||| t0) ub)
def k_Bank_enter (sb : ob) (p1 : Int32) (p2 : Int32) (p3 : Int32) (p4 : Bool) : Int32 × ob :=
  if (bI (k_Bank_hasInterruptsOn (oi (oi (oi sb 3 p1) 4 p2) 5 p3))) = 0 then (k_Bank_enter_j38 sb p1 p2 p3 p4 ((sb.1 0) &&& (-291)) 0 (oi (oi (oi sb 3 p1) 4 p2) 5 p3)) else (k_Bank_enter_j38 sb p1 p2 p3 p4 ((sb.1 0) &&& (-291)) 32 (oi (oi (oi sb 3 p1) 4 p2) 5 p3))
set_option maxHeartbeats 4000000 in
set_option maxRecDepth 100000 in
theorem c_Bank_enter (l : Launch) (G : gx) (tys : List (ClassId × FieldType)) (qb : Nat) (sb : ob) (p1 : Int32) (p2 : Int32) (p3 : Int32) (p4 : Bool) : ct_I l y_Bank_enter ws_Bank_enter ({ frames := 1, cells := 0, slots := 0, locals := 23 }) G tys [.ref qb, .int p1, .int p2, .int p3, .int (bI p4)] [(qb, .inr (0, f_Bank sb))] ((k_Bank_enter sb p1 p2 p3 p4).1) [(qb, .inr (0, f_Bank ((k_Bank_enter sb p1 p2 p3 p4).2)))] := by
  refine ct_hI (cc := cc_Bank_enter) (maxL := 7) (ret := (some .int)) (by decide) rfl (Nat.le_of_ble_eq_true rfl) ?_
  intro p e s m below meth c A ls hx hb hr hml hts hown hlocks hP hK hD hA hE hS hl
  have hl : lv_has ls 7 [(0, .ref qb), (1, .int p1), (2, .int p2), (3, .int p3), (4, .int (bI p4))] := hl
  have hown : s.vm.findClass R_Bank = some m.cls := hown
  have J58 : ∀ (v5 : Int32) (v6 : Int32) (t0 : Int32) (t1 : Int32) (ub : ob) (H : Heap) (locs : List Loc) (ls : Array Slot), k_Bank_enter sb p1 p2 p3 p4 = k_Bank_enter_j58 sb p1 p2 p3 p4 v5 v6 t0 t1 ub → va_P G.1 vwCl [(qb, .inr (0, f_Bank ub))] H → va_D A [(qb, .inr (0, f_Bank ub))] → va_S A s.heap H locs → lv_has ls 7 [(0, .ref qb), (1, .int p1), (2, .int p2), (3, .int p3), (4, .int (bI p4)), (5, .int v5), (6, .int v6)] → W p l e ({ frames := 1, cells := 0, slots := 0, locals := 23 }) s m ([.ref qb, .int p1, .int p2, .int p3, .int (bI p4)] : List Value).toArray below meth c H locs 0 0 (MQ below (ct_qi G tys A ((k_Bank_enter sb p1 p2 p3 p4).1) [(qb, .inr (0, f_Bank ((k_Bank_enter sb p1 p2 p3 p4).2)))]) ([.ref qb, .int p1, .int p2, .int p3, .int (bI p4)] : List Value).toArray s 0 0 A) (F0 m 58 ls [.int t0, .int t1, .ref qb]) := by
    intro v5 v6 t0 t1 ub H locs ls hj hP hD hS hl
    refine lv_ior hx hb d_Bank_enter_58 ?_
    refine va_put (D := G.1) (ci := 0) (v := .int (t1 ||| t0)) (ty := .int) (C := R_Bank) (T := T_Bank) (N := 7) hx hb hts (fun w h => gd_sub _ (iw_Bank w h)) ty_Bank tyok_Bank nm_Bank hown hK hP hD hS 0 rfl rfl 0 (by decide) (hts _ (gd_sub _ q_103)) (fun _ h9 => h9) rfl (by decide +kernel) rfl rfl (Nat.le_of_ble_eq_true rfl) d_Bank_enter_59 (fun H locs hP hD hS => ?_)
    have hP : va_P G.1 vwCl [(qb, .inr (0, f_Bank (oi ub 0 (t1 ||| t0))))] H := hP
    have hD : va_D A [(qb, .inr (0, f_Bank (oi ub 0 (t1 ||| t0))))] := hD
    refine lv_aload_n hx hb d_Bank_enter_62 rfl (lv_at hl 0 rfl) ?_
    refine lv_iload_n hx hb d_Bank_enter_63 rfl (lv_at hl 2 rfl) ?_
    refine ct_cVi (wr := []) (w1 := [(qb, .inr (0, f_Bank (oi ub 0 (t1 ||| t0))))]) (w2 := [(qb, .inr (0, f_Bank (oi ub 0 (t1 ||| t0))))]) (r := (k_Bank_handlerOf (oi ub 0 (t1 ||| t0)) p2)) (As := [.int p2]) (rest := []) (ci := 0) (q0 := 0) ⟨hx, hb, hml, hown, hts⟩ (c_Bank_handlerOf l G tys qb (oi ub 0 (t1 ||| t0)) p2) (cwV 1 hts (gdV gd_gd q_533 q_534 q_535 q_44 q_536) rfl rfl rfl (by decide +kernel) ⟨Nat.le_of_ble_eq_true rfl, Nat.le_of_ble_eq_true rfl⟩) hE hK hP hD hS hA [0] [] [0] rfl (by decide) rfl (by decide) (by decide) rfl (by decide) rfl rfl rfl hl.1 rfl (Nat.le_of_ble_eq_true rfl) d_Bank_enter_64 ⟨Nat.zero_le _, Nat.zero_le _⟩ (fun H locs hP hD hS => ?_)
    have hk : k_Bank_enter sb p1 p2 p3 p4 = ((k_Bank_handlerOf (oi ub 0 (t1 ||| t0)) p2), (oi ub 0 (t1 ||| t0))) := (hj.trans (by rw [k_Bank_enter_j58]; try rfl))
    exact ct_ri hx hb hr hlocks hP hD hK hS d_Bank_enter_67 (by rw [hk]; first | done | rfl) (by rw [hk]; first | done | rfl)
  have J38 : ∀ (v5 : Int32) (t0 : Int32) (ub : ob) (H : Heap) (locs : List Loc) (ls : Array Slot), k_Bank_enter sb p1 p2 p3 p4 = k_Bank_enter_j38 sb p1 p2 p3 p4 v5 t0 ub → va_P G.1 vwCl [(qb, .inr (0, f_Bank ub))] H → va_D A [(qb, .inr (0, f_Bank ub))] → va_S A s.heap H locs → lv_has ls 7 [(0, .ref qb), (1, .int p1), (2, .int p2), (3, .int p3), (4, .int (bI p4)), (5, .int v5)] → W p l e ({ frames := 1, cells := 0, slots := 0, locals := 23 }) s m ([.ref qb, .int p1, .int p2, .int p3, .int (bI p4)] : List Value).toArray below meth c H locs 0 0 (MQ below (ct_qi G tys A ((k_Bank_enter sb p1 p2 p3 p4).1) [(qb, .inr (0, f_Bank ((k_Bank_enter sb p1 p2 p3 p4).2)))]) ([.ref qb, .int p1, .int p2, .int p3, .int (bI p4)] : List Value).toArray s 0 0 A) (F0 m 38 ls [.int t0]) := by
    intro v5 t0 ub H locs ls hj hP hD hS hl
    refine lv_istore (lv' := [(6, .int t0), (0, .ref qb), (1, .int p1), (2, .int p2), (3, .int p3), (4, .int (bI p4)), (5, .int v5)]) hx hb d_Bank_enter_38 hl (by decide) rfl (fun ls hl => ?_)
    refine lv_aload_n hx hb d_Bank_enter_40 rfl (lv_at hl 1 rfl) ?_
    refine lv_iload hx hb d_Bank_enter_41 (lv_at hl 6 rfl) ?_
    refine lv_iload hx hb d_Bank_enter_43 (lv_at hl 0 rfl) ?_
    refine lv_ior hx hb d_Bank_enter_45 ?_
    refine lv_iload hx hb d_Bank_enter_46 (lv_at hl 5 rfl) ?_
    refine lv_if_eq (tgt := 57) hx hb d_Bank_enter_48 (by decide) (fun c_548 => ?_) (fun c_548 => ?_)
    · refine lv_iconst (v := 0) hx hb d_Bank_enter_57 (by decide) ?_
      exact J58 v5 t0 0 (v5 ||| t0) ub H locs ls (hj.trans (by rw [k_Bank_enter_j38]; rw [if_pos c_548]; try rfl)) hP hD hS (lv_sub hl [1, 2, 3, 4, 5, 6, 0] rfl)
    · refine lv_sipush (v := 256) hx hb d_Bank_enter_51 (by decide) ?_
      refine lv_goto (tgt := 58) hx hb d_Bank_enter_54 (by decide) ?_
      exact J58 v5 t0 256 (v5 ||| t0) ub H locs ls (hj.trans (by rw [k_Bank_enter_j38]; rw [if_neg c_548]; try rfl)) hP hD hS (lv_sub hl [1, 2, 3, 4, 5, 6, 0] rfl)
  obtain ⟨H, eH⟩ : ∃ z, z = s.heap := ⟨_, rfl⟩
  obtain ⟨locs, eL⟩ : ∃ z, z = ([] : List Loc) := ⟨_, rfl⟩
  have hP : va_P G.1 vwCl [(qb, .inr (0, f_Bank sb))] H := by rw [eH]; exact hP
  have hS : va_S A s.heap H locs := by rw [eH, eL]; exact hS
  suffices hW : W p l e ({ frames := 1, cells := 0, slots := 0, locals := 23 }) s m ([.ref qb, .int p1, .int p2, .int p3, .int (bI p4)] : List Value).toArray below meth c H locs 0 0 (MQ below (ct_qi G tys A ((k_Bank_enter sb p1 p2 p3 p4).1) [(qb, .inr (0, f_Bank ((k_Bank_enter sb p1 p2 p3 p4).2)))]) ([.ref qb, .int p1, .int p2, .int p3, .int (bI p4)] : List Value).toArray s 0 0 A) (F0 m 0 ls []) by rw [eH, eL] at hW; exact hW
  refine lv_aload_n hx hb d_Bank_enter_0 rfl (lv_at hl 0 rfl) ?_
  refine lv_iload_n hx hb d_Bank_enter_1 rfl (lv_at hl 1 rfl) ?_
  refine va_put (D := G.1) (ci := 0) (v := .int p1) (ty := .int) (C := R_Bank) (T := T_Bank) (N := 7) hx hb hts (fun w h => gd_sub _ (iw_Bank w h)) ty_Bank tyok_Bank nm_Bank hown hK hP hD hS 0 rfl rfl 3 (by decide) (hts _ (gd_sub _ q_106)) (fun _ h9 => h9) rfl (by decide +kernel) rfl rfl (Nat.le_of_ble_eq_true rfl) d_Bank_enter_2 (fun H locs hP hD hS => ?_)
  have hP : va_P G.1 vwCl [(qb, .inr (0, f_Bank (oi sb 3 p1)))] H := hP
  have hD : va_D A [(qb, .inr (0, f_Bank (oi sb 3 p1)))] := hD
  refine lv_aload_n hx hb d_Bank_enter_5 rfl (lv_at hl 0 rfl) ?_
  refine lv_iload_n hx hb d_Bank_enter_6 rfl (lv_at hl 2 rfl) ?_
  refine va_put (D := G.1) (ci := 0) (v := .int p2) (ty := .int) (C := R_Bank) (T := T_Bank) (N := 7) hx hb hts (fun w h => gd_sub _ (iw_Bank w h)) ty_Bank tyok_Bank nm_Bank hown hK hP hD hS 0 rfl rfl 4 (by decide) (hts _ (gd_sub _ q_108)) (fun _ h9 => h9) rfl (by decide +kernel) rfl rfl (Nat.le_of_ble_eq_true rfl) d_Bank_enter_7 (fun H locs hP hD hS => ?_)
  have hP : va_P G.1 vwCl [(qb, .inr (0, f_Bank (oi (oi sb 3 p1) 4 p2)))] H := hP
  have hD : va_D A [(qb, .inr (0, f_Bank (oi (oi sb 3 p1) 4 p2)))] := hD
  refine lv_aload_n hx hb d_Bank_enter_10 rfl (lv_at hl 0 rfl) ?_
  refine lv_iload_n hx hb d_Bank_enter_11 rfl (lv_at hl 3 rfl) ?_
  refine va_put (D := G.1) (ci := 0) (v := .int p3) (ty := .int) (C := R_Bank) (T := T_Bank) (N := 7) hx hb hts (fun w h => gd_sub _ (iw_Bank w h)) ty_Bank tyok_Bank nm_Bank hown hK hP hD hS 0 rfl rfl 5 (by decide) (hts _ (gd_sub _ q_109)) (fun _ h9 => h9) rfl (by decide +kernel) rfl rfl (Nat.le_of_ble_eq_true rfl) d_Bank_enter_12 (fun H locs hP hD hS => ?_)
  have hP : va_P G.1 vwCl [(qb, .inr (0, f_Bank (oi (oi (oi sb 3 p1) 4 p2) 5 p3)))] H := hP
  have hD : va_D A [(qb, .inr (0, f_Bank (oi (oi (oi sb 3 p1) 4 p2) 5 p3)))] := hD
  refine lv_aload_n hx hb d_Bank_enter_15 rfl (lv_at hl 0 rfl) ?_
  refine va_get (D := G.1) (ci := 0) (v := .int (sb.1 0)) (C := R_Bank) (T := T_Bank) (N := 7) hx hb hts (fun w h => gd_sub _ (iw_Bank w h)) hown hK hP 0 rfl rfl 0 (by decide) (hts _ (gd_sub _ q_103)) (fun _ h9 => h9) rfl d_Bank_enter_16 ?_
  refine lv_sipush (v := (-291)) hx hb d_Bank_enter_19 (by decide) ?_
  refine lv_iand hx hb d_Bank_enter_22 ?_
  refine lv_istore (lv' := [(5, .int ((sb.1 0) &&& (-291))), (0, .ref qb), (1, .int p1), (2, .int p2), (3, .int p3), (4, .int (bI p4))]) hx hb d_Bank_enter_23 hl (by decide) rfl (fun ls hl => ?_)
  refine lv_aload_n hx hb d_Bank_enter_25 rfl (lv_at hl 1 rfl) ?_
  refine ct_cVi (wr := []) (w1 := [(qb, .inr (0, f_Bank (oi (oi (oi sb 3 p1) 4 p2) 5 p3)))]) (w2 := [(qb, .inr (0, f_Bank (oi (oi (oi sb 3 p1) 4 p2) 5 p3)))]) (r := (bI (k_Bank_hasInterruptsOn (oi (oi (oi sb 3 p1) 4 p2) 5 p3)))) (As := []) (rest := []) (ci := 0) (q0 := 0) ⟨hx, hb, hml, hown, hts⟩ (c_Bank_hasInterruptsOn l G tys qb (oi (oi (oi sb 3 p1) 4 p2) 5 p3)) (cwV 0 hts (gdV gd_gd q_529 q_530 q_531 q_44 q_532) rfl rfl rfl (by decide +kernel) ⟨Nat.le_of_ble_eq_true rfl, Nat.le_of_ble_eq_true rfl⟩) hE hK hP hD hS hA [0] [] [0] rfl (by decide) rfl (by decide) (by decide) rfl (by decide) rfl rfl rfl hl.1 rfl (Nat.le_of_ble_eq_true rfl) d_Bank_enter_26 ⟨Nat.zero_le _, Nat.zero_le _⟩ (fun H locs hP hD hS => ?_)
  refine lv_if_eq (tgt := 37) hx hb d_Bank_enter_29 (by decide) (fun c_549 => ?_) (fun c_549 => ?_)
  · refine lv_iconst (v := 0) hx hb d_Bank_enter_37 (by decide) ?_
    exact J38 ((sb.1 0) &&& (-291)) 0 (oi (oi (oi sb 3 p1) 4 p2) 5 p3) H locs ls (by rw [k_Bank_enter]; rw [if_pos c_549]; try rfl) hP hD hS (lv_sub hl [1, 2, 3, 4, 5, 0] rfl)
  · refine lv_bipush (v := 32) hx hb d_Bank_enter_32 (by decide) ?_
    refine lv_goto (tgt := 38) hx hb d_Bank_enter_34 (by decide) ?_
    exact J38 ((sb.1 0) &&& (-291)) 32 (oi (oi (oi sb 3 p1) 4 p2) 5 p3) H locs ls (by rw [k_Bank_enter]; rw [if_neg c_549]; try rfl) hP hD hS (lv_sub hl [1, 2, 3, 4, 5, 0] rfl)
