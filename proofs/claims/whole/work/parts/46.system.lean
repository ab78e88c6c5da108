/-! words of the system -/
theorem fld (p : Int32) (n : Nat) (c : Int32) (hn : n < 32) (hc : ∀ i, i < 32 → bt c i = true → n + i < 32) : (p >>> (nI n &&& 31)) &&& c = (ush p (nI n)) &&& c := by
  apply b_ext
  intro i hi
  rw [b_and, b_and]
  cases hb : bt c i with
  | false => rw [Bool.and_false, Bool.and_false]
  | true => rw [b_sshr n hn p hi, if_pos (hc i hi hb), show bt (ush p (nI n)) i = bt p (n + i) from b_ushr n hn p i]
theorem fD (p : Int32) : (p >>> ((7 : Int32) &&& 31)) &&& 31 = k_Desk_fieldD p := fld p 7 31 (by decide) (by decide +kernel)
theorem fA (p : Int32) : (p >>> ((15 : Int32) &&& 31)) &&& 31 = k_Desk_fieldA p := fld p 15 31 (by decide) (by decide +kernel)
theorem fB (p : Int32) : (p >>> ((20 : Int32) &&& 31)) &&& 31 = k_Desk_fieldB p := fld p 20 31 (by decide) (by decide +kernel)
theorem fF (p : Int32) : (p >>> ((12 : Int32) &&& 31)) &&& 7 = (ush p 12) &&& 7 := fld p 12 7 (by decide) (by decide +kernel)
def stL (x : Int32) : Int32 := ((x &&& (-259)) ||| 32) ||| (if x &&& 32 = 0 then 0 else 2)
theorem stL_eq (x : Int32) : ((x &&& (-259)) ||| ((x >>> ((4 : Int32) &&& 31)) &&& 2)) ||| 32 = stL x := by
  rw [sr42, stL]
  apply b_ext
  intro i hi
  rw [b_or, b_or, b_or, b_or]
  cases bt (x &&& (-259)) i <;> cases bt (if x &&& 32 = 0 then 0 else 2) i <;> cases bt 32 i <;> rfl
theorem bleave_eq (sb : ob) : k_Bank_leave sb = ((if sb.1 0 &&& 256 = 0 then false else true), oi sb 0 (stL (sb.1 0))) := by
  rw [k_Bank_leave, k_Bank_leave_j16, k_Bank_leave_j16, stL]
  by_cases h1 : sb.1 0 &&& 256 = 0
  · rw [if_pos h1, if_pos h1]
    by_cases h2 : sb.1 0 &&& 32 = 0
    · rw [if_pos h2, if_pos h2]
    · rw [if_neg h2, if_neg h2]
  · rw [if_neg h1, if_neg h1]
    by_cases h2 : sb.1 0 &&& 32 = 0
    · rw [if_pos h2, if_pos h2]
    · rw [if_neg h2, if_neg h2]
section SYS
variable {sx sc so : ob} {sa : Nat → Int32} {shs sgs sy sr sm : ob} {sp sk : Nat → Int32}
def RelS (sx sc so : ob) (sa : Nat → Int32) (shs sgs sy sr sm : ob) (sp sk : Nat → Int32) (u : Int32 × ob × ob × (Nat → Int32) × ob × ob × ob × ob) (w : Int32 × ob × (Nat → Int32) × (Nat → Int32)) : Prop :=
  ((w.1 = 2 ∨ w.1 = 3 ∨ w.1 = 8 ∨ w.1 = 10 ∨ w.1 = 22) ∧ u = (w.1, sx, so, sa, shs, sgs, sy, sr) ∧ w.2 = (sm, sp, sk)) ∨ (w.1 = 0 ∧ u.1 = -1 ∧ Rel u.2.1 sc u.2.2.1 u.2.2.2.1 u.2.2.2.2.1 u.2.2.2.2.2.1 u.2.2.2.2.2.2.1 u.2.2.2.2.2.2.2 (oi w.2.1 1 (w.2.1.1 1 + 4)) w.2.2.1 w.2.2.2)
theorem has_eq (hH : RH sy sm) (c : Int32) : k_Hyper_hasStatus sy c = k_Model_has sm c := by rw [k_Hyper_hasStatus, k_Model_has, hH.1]
theorem go4 (h : Rel sx sc so sa shs sgs sy sr sm sp sk) : Rel (k_Desk_goOn sx).2 sc so sa shs sgs sy sr (oi sm 1 (sm.1 1 + 4)) sp sk := by
  obtain ⟨⟨a1, a2, a3, a4, a5, a6⟩, hC, hO, hB, hG, hH, hR, hA⟩ := h
  exact ⟨⟨a1, congrArg (fun z => z + 4) a2, a3, a4, a5, a6⟩, hC, hO, hB, hG, hH, hR, hA⟩
theorem refuse (h : Rel sx sc so sa shs sgs sy sr sm sp sk) (c : Int32) : (k_Model_allowed sm c = 0 ∧ k_Desk_refusalOfSupervisorWord sx sc sy c = -1) ∨ ((k_Model_allowed sm c = 2 ∨ k_Model_allowed sm c = 22) ∧ k_Desk_refusalOfSupervisorWord sx sc sy c = k_Model_allowed sm c) := by
  have a1 := h.1.1
  have eh := has_eq h.2.2.2.2.2.1 c
  rcases h.1.2.2.2.2.2 with e | e | e | e
  · have e1 : k_Desk_refusalOfSupervisorWord sx sc sy c = 2 := by rw [k_Desk_refusalOfSupervisorWord, a1, e, if_neg (by decide), if_neg (by decide), if_neg (by decide)]
    have e2 : k_Model_allowed sm c = 2 := by rw [k_Model_allowed, e, if_pos rfl]
    exact Or.inr ⟨Or.inl e2, e1.trans e2.symm⟩
  · have e1 : k_Desk_refusalOfSupervisorWord sx sc sy c = -1 := by rw [k_Desk_refusalOfSupervisorWord, a1, e, if_pos rfl]
    have e2 : k_Model_allowed sm c = 0 := by rw [k_Model_allowed, e, if_neg (by decide), if_pos rfl]
    exact Or.inl ⟨e2, e1⟩
  · have e1 : k_Desk_refusalOfSupervisorWord sx sc sy c = 22 := by rw [k_Desk_refusalOfSupervisorWord, a1, e, if_neg (by decide), if_pos rfl]
    have e2 : k_Model_allowed sm c = 22 := by rw [k_Model_allowed, e, if_neg (by decide), if_neg (by decide), if_neg (by decide)]
    exact Or.inr ⟨Or.inr e2, e1.trans e2.symm⟩
  · cases hb : k_Model_has sm c with
    | false =>
      have e1 : k_Desk_refusalOfSupervisorWord sx sc sy c = -1 := by rw [k_Desk_refusalOfSupervisorWord, a1, e, if_neg (by decide), if_neg (by decide), if_pos rfl, eh, hb, if_pos (by decide)]
      have e2 : k_Model_allowed sm c = 0 := by rw [k_Model_allowed, e, if_neg (by decide), if_neg (by decide), if_pos rfl, hb, if_pos (by decide)]
      exact Or.inl ⟨e2, e1⟩
    | true =>
      have e1 : k_Desk_refusalOfSupervisorWord sx sc sy c = 22 := by rw [k_Desk_refusalOfSupervisorWord, a1, e, if_neg (by decide), if_neg (by decide), if_pos rfl, eh, hb, if_neg (by decide)]
      have e2 : k_Model_allowed sm c = 22 := by rw [k_Model_allowed, e, if_neg (by decide), if_neg (by decide), if_pos rfl, hb, if_neg (by decide)]
      exact Or.inr ⟨Or.inr e2, e1.trans e2.symm⟩
theorem nothing_rel (h : Rel sx sc so sa shs sgs sy sr sm sp sk) (c : Int32) : RelS sx sc so sa shs sgs sy sr sm sp sk ((k_Desk_nothingUnless sx sc sy c).1, (k_Desk_nothingUnless sx sc sy c).2, so, sa, shs, sgs, sy, sr) (k_Model_allowed sm c, sm, sp, sk) := by
  rcases refuse h c with ⟨e1, e2⟩ | ⟨e1, e2⟩
  · have e3 : k_Desk_nothingUnless sx sc sy c = (-1, (k_Desk_goOn sx).2) := by rw [k_Desk_nothingUnless, e2, if_pos rfl]; rfl
    rw [e3]
    exact Or.inr ⟨e1, rfl, go4 h⟩
  · have e4 : ¬ k_Model_allowed sm c = -1 := by rcases e1 with q | q <;> rw [q] <;> decide
    have e3 : k_Desk_nothingUnless sx sc sy c = (k_Model_allowed sm c, sx) := by rw [k_Desk_nothingUnless, e2, if_neg e4]
    rw [e3]
    refine Or.inl ⟨?_, rfl, rfl⟩
    rcases e1 with q | q
    · exact Or.inl q
    · exact Or.inr (Or.inr (Or.inr (Or.inr q)))
theorem fence_rel (h : Rel sx sc so sa shs sgs sy sr sm sp sk) (p1 p2 p3 : Int32) : RelS sx sc so sa shs sgs sy sr sm sp sk ((k_Desk_hypervisorFence sx).1, (k_Desk_hypervisorFence sx).2, so, sa, shs, sgs, sy, sr) (k_Model_system_j25 sm sp sk p1 p2 p3) := by
  have a1 := h.1.1
  obtain ⟨v1, v2, v3⟩ := virtM h.1
  rcases h.1.2.2.2.2.2 with e | e | e | e
  · have e1 : k_Desk_hypervisorFence sx = (2, sx) := by rw [k_Desk_hypervisorFence, v2, a1, e, if_pos (by decide), if_pos rfl]
    have e2 : k_Model_system_j25 sm sp sk p1 p2 p3 = (2, sm, sp, sk) := by rw [k_Model_system_j25, e, if_pos rfl]
    rw [e1, e2]
    exact Or.inl ⟨Or.inl rfl, rfl, rfl⟩
  · have e1 : k_Desk_hypervisorFence sx = (-1, (k_Desk_goOn sx).2) := by rw [k_Desk_hypervisorFence, v2, a1, e, if_pos (by decide), if_neg (by decide)]; rfl
    have e2 : k_Model_system_j25 sm sp sk p1 p2 p3 = (0, sm, sp, sk) := by rw [k_Model_system_j25, e, if_neg (by decide), if_pos rfl]
    rw [e1, e2]
    exact Or.inr ⟨rfl, rfl, go4 h⟩
  · have e1 : k_Desk_hypervisorFence sx = (22, sx) := by rw [k_Desk_hypervisorFence, v2, e, if_neg (by decide)]
    have e2 : k_Model_system_j25 sm sp sk p1 p2 p3 = (22, sm, sp, sk) := by rw [k_Model_system_j25, e, if_neg (by decide), if_neg (by decide)]
    rw [e1, e2]
    exact Or.inl ⟨Or.inr (Or.inr (Or.inr (Or.inr rfl))), rfl, rfl⟩
  · have e1 : k_Desk_hypervisorFence sx = (22, sx) := by rw [k_Desk_hypervisorFence, v2, e, if_neg (by decide)]
    have e2 : k_Model_system_j25 sm sp sk p1 p2 p3 = (22, sm, sp, sk) := by rw [k_Model_system_j25, e, if_neg (by decide), if_neg (by decide)]
    rw [e1, e2]
    exact Or.inl ⟨Or.inr (Or.inr (Or.inr (Or.inr rfl))), rfl, rfl⟩
theorem firm_rel (h : Rel sx sc so sa shs sgs sy sr sm sp sk) : Rel (k_Desk_goOn sx).2 sc (k_Outside_serve so sa (sr.1 2) (sr.1 0) (sr.1 1)).2.1 (k_Outside_serve so sa (sr.1 2) (sr.1 0) (sr.1 1)).2.2 shs sgs sy (oi sr 0 (k_Outside_serve so sa (sr.1 2) (sr.1 0) (sr.1 1)).1) (oi (k_Model_firmware sm sp).1 1 ((k_Model_firmware sm sp).1.1 1 + 4)) (k_Model_firmware sm sp).2 sk := by
  obtain ⟨⟨a1, a2, a3, a4, a5, a6⟩, hC, ⟨o1, o2, o3, o4, o5, o6, o7⟩, hB, hG, hH, ⟨r1, r2, r3⟩, hA⟩ := h
  rw [r1, r2, r3]
  have hX : ∀ m2 : ob, m2.1 0 = sm.1 0 → m2.1 1 = sm.1 1 + 4 → m2.1 11 = sm.1 11 → m2.1 12 = sm.1 12 → m2.1 13 = sm.1 13 → RX (k_Desk_goOn sx).2 m2 := by
    intro m2 q0 q1 q2 q3 q4
    refine ⟨?_, ?_, ?_, ?_, ?_, ?_⟩
    · rw [q0]; exact a1
    · rw [q1]; exact congrArg (fun z => z + 4) a2
    · rw [q2]; exact a3
    · rw [q3]; exact a4
    · rw [q4]; exact a5
    · rw [q0]; exact a6
  by_cases x0 : sm.1 7 = 0
  · have e1 : k_Outside_serve so sa (sm.1 7) (sm.1 5) (sm.1 6) = (0, k_Outside_setAlarm so (sm.1 5) (sm.1 6), sa) := by rw [k_Outside_serve, if_pos x0]
    rw [e1]
    by_cases hi : 0 ≤ sm.1 6
    · have hl : 0 ≤ lg_cmp (((sm.1 5).toInt64 &&& 4294967295) ||| (lsh ((sm.1 6).toInt64) 32)) 0 := by
        rw [lg_cmp_ge, ← Int64.not_lt, al_sg, Int32.not_lt]
        exact hi
      have e2 : k_Model_firmware sm sp = (oi (ol sm 3 (((sm.1 5).toInt64 &&& 4294967295) ||| (lsh ((sm.1 6).toInt64) 32))) 5 0, sp) := by rw [k_Model_firmware, if_pos x0, if_pos hl, k_Model_firmware_j73]
      have e3 : k_Outside_setAlarm so (sm.1 5) (sm.1 6) = ol so 3 (((sm.1 5).toInt64 &&& 4294967295) ||| (lsh ((sm.1 6).toInt64) 32)) := by rw [k_Outside_setAlarm, if_pos hi, Int64.or_comm]
      rw [e2, e3]
      exact ⟨hX _ rfl rfl rfl rfl rfl, hC, ⟨o1, o2, rfl, o4, o5, o6, o7⟩, hB, hG, hH, ⟨rfl, r2, r3⟩, hA⟩
    · have hl : ¬ 0 ≤ lg_cmp (((sm.1 5).toInt64 &&& 4294967295) ||| (lsh ((sm.1 6).toInt64) 32)) 0 := by
        rw [lg_cmp_ge, ← Int64.not_lt, al_sg, Int32.not_lt]
        exact hi
      have e2 : k_Model_firmware sm sp = (oi (ol sm 3 9223372036854775807) 5 0, sp) := by rw [k_Model_firmware, if_pos x0, if_neg hl, k_Model_firmware_j73]
      have e3 : k_Outside_setAlarm so (sm.1 5) (sm.1 6) = ol so 3 9223372036854775807 := by rw [k_Outside_setAlarm, if_neg hi]
      rw [e2, e3]
      exact ⟨hX _ rfl rfl rfl rfl rfl, hC, ⟨o1, o2, rfl, o4, o5, o6, o7⟩, hB, hG, hH, ⟨rfl, r2, r3⟩, hA⟩
  · by_cases x1 : sm.1 7 = 1
    · have e1 : k_Outside_serve so sa (sm.1 7) (sm.1 5) (sm.1 6) = (0, k_Outside_print so sa (sm.1 5)) := by rw [k_Outside_serve, if_neg x0, if_pos x1]
      rw [e1]
      by_cases hf : 256 ≤ sm.1 9
      · have e2 : k_Model_firmware sm sp = (oi sm 5 0, sp) := by rw [k_Model_firmware, if_neg x0, if_pos x1, if_pos hf, k_Model_firmware_j121]
        have e3 : k_Outside_print so sa (sm.1 5) = (so, sa) := by rw [k_Outside_print, o1, if_pos hf]
        rw [e2, e3]
        exact ⟨hX _ rfl rfl rfl rfl rfl, hC, ⟨o1, o2, o3, o4, o5, o6, o7⟩, hB, hG, hH, ⟨rfl, r2, r3⟩, hA⟩
      · have e2 : k_Model_firmware sm sp = (oi (oi sm 9 ((sm.1 9) + 1)) 5 0, upd sp (sm.1 9).toNatClampNeg ((sm.1 5) &&& 255)) := by rw [k_Model_firmware, if_neg x0, if_pos x1, if_neg hf, k_Model_firmware_j121]
        have e3 : k_Outside_print so sa (sm.1 5) = (oi so 1 ((sm.1 9) + 1), upd sa (sm.1 9).toNatClampNeg (vp_nar .byte (sm.1 5).toInt8.toInt32)) := by rw [k_Outside_print, o1, if_neg hf]
        rw [e2, e3]
        obtain ⟨c, hc, ec⟩ := vp_in_of (in256 o6 hf) (by decide)
        have ec1 : sm.1 9 + 1 = nI (c + 1) := by rw [ec, nI_1]
        refine ⟨hX _ rfl rfl rfl rfl rfl, hC, ⟨rfl, o2, o3, o4, o5, ?_, ?_⟩, hB, hG, hH, ⟨rfl, r2, r3⟩, ?_⟩
        · show ¬ sm.1 9 + 1 < 0
          rw [ec1]
          exact nI_pos (by omega)
        · show sm.1 9 + 1 ≤ 256
          rw [ec1]
          exact nI_le (a := c + 1) (b := 256) (by omega) (by decide)
        · intro j hj hlt
          have hlt : (j : Int) < (sm.1 9 + 1).toInt := hlt
          rw [ec1, nI_toInt (by omega)] at hlt
          show upd sa (sm.1 9).toNatClampNeg (vp_nar .byte (sm.1 5).toInt8.toInt32) j &&& 255 = upd sp (sm.1 9).toNatClampNeg ((sm.1 5) &&& 255) j
          rw [ec, nI_clamp (by omega)]
          unfold upd
          by_cases hjc : j = c
          · rw [if_pos hjc, if_pos hjc, pk_vb, bp_b]
          · rw [if_neg hjc, if_neg hjc]
            refine hA j hj ?_
            rw [ec, nI_toInt (by omega)]
            omega
    · by_cases x8 : sm.1 7 = 8
      · have e1 : k_Outside_serve so sa (sm.1 7) (sm.1 5) (sm.1 6) = (0, oz so 5 true, sa) := by rw [k_Outside_serve, if_neg x0, if_neg x1, if_pos x8]
        have e2 : k_Model_firmware sm sp = (oi (oz sm 10 true) 5 0, sp) := by rw [k_Model_firmware, if_neg x0, if_neg x1, if_pos x8]
        rw [e1, e2]
        exact ⟨hX _ rfl rfl rfl rfl rfl, hC, ⟨o1, o2, o3, o4, rfl, o6, o7⟩, hB, hG, hH, ⟨rfl, r2, r3⟩, hA⟩
      · have e1 : k_Outside_serve so sa (sm.1 7) (sm.1 5) (sm.1 6) = (-2, so, sa) := by rw [k_Outside_serve, if_neg x0, if_neg x1, if_neg x8]
        have e2 : k_Model_firmware sm sp = (oi sm 5 (-2), sp) := by rw [k_Model_firmware, if_neg x0, if_neg x1, if_neg x8]
        rw [e1, e2]
        exact ⟨hX _ rfl rfl rfl rfl rfl, hC, ⟨o1, o2, o3, o4, o5, o6, o7⟩, hB, hG, hH, ⟨rfl, r2, r3⟩, hA⟩
theorem call_rel (h : Rel sx sc so sa shs sgs sy sr sm sp sk) : RelS sx sc so sa shs sgs sy sr sm sp sk (((k_Desk_environmentCall sx so sa sr).1), ((k_Desk_environmentCall sx so sa sr).2.1), ((k_Desk_environmentCall sx so sa sr).2.2.1), ((k_Desk_environmentCall sx so sa sr).2.2.2.1), shs, sgs, sy, ((k_Desk_environmentCall sx so sa sr).2.2.2.2)) (((k_Model_call sm sp).1), ((k_Model_call sm sp).2.1), ((k_Model_call sm sp).2.2), sk) := by
  have a1 := h.1.1
  have h8 : ∀ m : Int32, sm.1 0 = m → ¬ m = 1 → ¬ m = 3 → RelS sx sc so sa shs sgs sy sr sm sp sk (((k_Desk_environmentCall sx so sa sr).1), ((k_Desk_environmentCall sx so sa sr).2.1), ((k_Desk_environmentCall sx so sa sr).2.2.1), ((k_Desk_environmentCall sx so sa sr).2.2.2.1), shs, sgs, sy, ((k_Desk_environmentCall sx so sa sr).2.2.2.2)) (((k_Model_call sm sp).1), ((k_Model_call sm sp).2.1), ((k_Model_call sm sp).2.2), sk) := by
    intro m e q1 q3
    have e1 : k_Desk_environmentCall sx so sa sr = (8, sx, so, sa, sr) := by rw [k_Desk_environmentCall, a1, e, if_neg q3, if_neg q1]
    have e2 : k_Model_call sm sp = (8, sm, sp) := by rw [k_Model_call, e, if_neg q1, if_neg q3]
    rw [e1, e2]
    exact Or.inl ⟨Or.inr (Or.inr (Or.inl rfl)), rfl, rfl⟩
  rcases h.1.2.2.2.2.2 with e | e | e | e
  · exact h8 0 e (by decide) (by decide)
  · have e1 : k_Desk_environmentCall sx so sa sr = (((k_Desk_goOn sx).1), ((k_Desk_goOn sx).2), ((k_Outside_serve so sa (sr.1 2) (sr.1 0) (sr.1 1)).2.1), ((k_Outside_serve so sa (sr.1 2) (sr.1 0) (sr.1 1)).2.2), (oi sr 0 ((k_Outside_serve so sa (sr.1 2) (sr.1 0) (sr.1 1)).1))) := by rw [k_Desk_environmentCall, a1, e, if_neg (by decide), if_pos rfl]
    have e2 : k_Model_call sm sp = (0, (k_Model_firmware sm sp).1, (k_Model_firmware sm sp).2) := by rw [k_Model_call, e, if_pos rfl]
    rw [e1, e2]
    exact Or.inr ⟨rfl, rfl, firm_rel h⟩
  · exact h8 2 e (by decide) (by decide)
  · have e1 : k_Desk_environmentCall sx so sa sr = (10, sx, so, sa, sr) := by rw [k_Desk_environmentCall, a1, e, if_pos rfl]
    have e2 : k_Model_call sm sp = (10, sm, sp) := by rw [k_Model_call, e, if_neg (by decide), if_pos rfl]
    rw [e1, e2]
    exact Or.inl ⟨Or.inr (Or.inr (Or.inr (Or.inl rfl))), rfl, rfl⟩
theorem md4 (x : Int32) (b : Bool) : ((if x &&& 256 = 0 then 0 else 1) + (if bI b = 0 then 0 else 2) : Int32) = 0 ∨ ((if x &&& 256 = 0 then 0 else 1) + (if bI b = 0 then 0 else 2) : Int32) = 1 ∨ ((if x &&& 256 = 0 then 0 else 1) + (if bI b = 0 then 0 else 2) : Int32) = 2 ∨ ((if x &&& 256 = 0 then 0 else 1) + (if bI b = 0 then 0 else 2) : Int32) = 3 := by
  by_cases q : x &&& 256 = 0
  · rw [if_pos q]
    cases b <;> decide
  · rw [if_neg q]
    cases b <;> decide
theorem md2 (x : Int32) : ((if x &&& 256 = 0 then 0 else 1) + 2 : Int32) = 0 ∨ ((if x &&& 256 = 0 then 0 else 1) + 2 : Int32) = 1 ∨ ((if x &&& 256 = 0 then 0 else 1) + 2 : Int32) = 2 ∨ ((if x &&& 256 = 0 then 0 else 1) + 2 : Int32) = 3 := by
  by_cases q : x &&& 256 = 0
  · rw [if_pos q]
    decide
  · rw [if_neg q]
    decide
theorem s44 (x : Int32) : x - 4 + 4 = x := Int32.sub_add_cancel x 4
theorem sret_rel (h : Rel sx sc so sa shs sgs sy sr sm sp sk) : RelS sx sc so sa shs sgs sy sr sm sp sk (((k_Desk_supervisorReturn sx sc shs sgs sy).1), ((k_Desk_supervisorReturn sx sc shs sgs sy).2.1), so, sa, ((k_Desk_supervisorReturn sx sc shs sgs sy).2.2.1), ((k_Desk_supervisorReturn sx sc shs sgs sy).2.2.2.1), ((k_Desk_supervisorReturn sx sc shs sgs sy).2.2.2.2), sr) (((k_Model_sret sm sk).1), ((k_Model_sret sm sk).2.1), sp, ((k_Model_sret sm sk).2.2)) := by
  have a1 := h.1.1
  have eh := has_eq h.2.2.2.2.2.1
  rcases refuse h 4194304 with ⟨r1, r2⟩ | ⟨r1, r2⟩
  · obtain ⟨⟨a1, a2, a3, a4, a5, a6⟩, hC, hO, ⟨b1, b2, b3, b4, b5, b6, b7⟩, ⟨g1, g2, g3, g4, g5, g6, g7⟩, ⟨y1, y2, y3, y4, y5, y6, y7, y8, y9, y10⟩, hR, hA⟩ := h
    rcases a6 with e | e | e | e
    · rw [k_Model_allowed, e, if_pos rfl] at r1
      exact absurd r1 (by decide)
    · have e2 : k_Model_sret sm sk = (0, oi (k_Model_back_0 sm sk (k_Model_has sm 128)).1 15 ((k_Model_back_0 sm sk (k_Model_has sm 128)).1.1 15 &&& (-129)), (k_Model_back_0 sm sk (k_Model_has sm 128)).2) := by rw [k_Model_sret, k_Model_sret_j37, e, if_neg (by decide), if_neg (by decide), if_neg (by decide), if_pos rfl]
      have e3 : ∀ v : Bool, k_Model_back_0 sm sk v = (oi (oi sm 1 ((sk 65) - 4)) 0 ((if sk 0 &&& 256 = 0 then 0 else 1) + (if bI v = 0 then 0 else 2)), upd sk 0 (stL (sk 0))) := by
        intro v
        rw [k_Model_back_0, k_Model_back_0_j40, k_Model_back_0_j40, stL_eq, sr81]
        cases v <;> rfl
      have e1 : k_Desk_supervisorReturn sx sc shs sgs sy = (-1, oi (oi sx 4 (shs.1 3)) 3 ((if sk 0 &&& 256 = 0 then 0 else 1) + (if bI (k_Model_has sm 128) = 0 then 0 else 2)), oi shs 0 (stL (shs.1 0)), sgs, oi sy 0 ((sy.1 0) &&& (-129))) := by
        rw [k_Desk_supervisorReturn, r2, if_pos rfl, a1, e, if_neg (by decide), bleave_eq, k_Hyper_leave, eh, b1]
        by_cases q : sk 0 &&& 256 = 0
        · rw [if_pos q, if_pos q]
          cases k_Model_has sm 128 <;> rfl
        · rw [if_neg q, if_neg q]
          cases k_Model_has sm 128 <;> rfl
      rw [e1, e2, e3]
      refine Or.inr ⟨rfl, rfl, ⟨rfl, ?_, a3, a4, a5, ?_⟩, hC, hO, ⟨congrArg stL b1, b2, b3, b4, b5, b6, b7⟩, ⟨g1, g2, g3, g4, g5, g6, g7⟩, ⟨congrArg (fun z => z &&& (-129)) y1, y2, y3, y4, y5, y6, y7, y8, y9, y10⟩, hR, hA⟩
      · show shs.1 3 = sk 65 - 4 + 4
        rw [s44]
        exact b4
      · exact md4 (sk 0) (k_Model_has sm 128)
    · rw [k_Model_allowed, e, if_neg (by decide), if_neg (by decide), if_neg (by decide)] at r1
      exact absurd r1 (by decide)
    · have hh : k_Model_has sm 4194304 = false := by
        cases hb : k_Model_has sm 4194304 with
        | false => rfl
        | true =>
          rw [k_Model_allowed, e, if_neg (by decide), if_neg (by decide), if_pos rfl, hb, if_neg (by decide)] at r1
          exact absurd r1 (by decide)
      have e2 : k_Model_sret sm sk = (0, k_Model_back_256 sm sk true) := by rw [k_Model_sret, k_Model_sret_j37, e, if_neg (by decide), if_neg (by decide), if_pos rfl, hh, if_pos (by decide), if_neg (by decide)]
      have e3 : k_Model_back_256 sm sk true = (oi (oi sm 1 ((sk 321) - 4)) 0 ((if sk 256 &&& 256 = 0 then 0 else 1) + 2), upd sk 256 (stL (sk 256))) := by
        rw [k_Model_back_256, if_neg (by decide), k_Model_back_256_j40, stL_eq, sr81]
      have e1 : k_Desk_supervisorReturn sx sc shs sgs sy = (-1, oi (oi sx 4 (sgs.1 3)) 3 ((if sk 256 &&& 256 = 0 then 0 else 1) + 2), shs, oi sgs 0 (stL (sgs.1 0)), sy) := by
        rw [k_Desk_supervisorReturn, r2, if_pos rfl, a1, e, if_pos rfl, bleave_eq, g1]
        by_cases q : sk 256 &&& 256 = 0
        · rw [if_pos q, if_pos q]
          rfl
        · rw [if_neg q, if_neg q]
          rfl
      rw [e1, e2, e3]
      refine Or.inr ⟨rfl, rfl, ⟨rfl, ?_, a3, a4, a5, ?_⟩, hC, hO, ⟨b1, b2, b3, b4, b5, b6, b7⟩, ⟨congrArg stL g1, g2, g3, g4, g5, g6, g7⟩, ⟨y1, y2, y3, y4, y5, y6, y7, y8, y9, y10⟩, hR, hA⟩
      · show sgs.1 3 = sk 321 - 4 + 4
        rw [s44]
        exact g4
      · exact md2 (sk 256)
  · have e4 : ¬ k_Model_allowed sm 4194304 = -1 := by rcases r1 with q | q <;> rw [q] <;> decide
    have e1 : k_Desk_supervisorReturn sx sc shs sgs sy = (k_Model_allowed sm 4194304, sx, shs, sgs, sy) := by rw [k_Desk_supervisorReturn, r2, if_neg e4]
    have e2 : k_Model_sret sm sk = (k_Model_allowed sm 4194304, sm, sk) := by
      rcases h.1.2.2.2.2.2 with e | e | e | e
      · rw [k_Model_sret, k_Model_allowed, e, if_pos rfl, if_pos rfl]
      · rw [k_Model_allowed, e, if_neg (by decide), if_pos rfl] at r1
        exact absurd r1 (by decide)
      · rw [k_Model_sret, k_Model_allowed, e, if_neg (by decide), if_pos rfl, if_neg (by decide), if_neg (by decide), if_neg (by decide)]
      · cases hb : k_Model_has sm 4194304 with
        | true => rw [k_Model_sret, k_Model_allowed, e, hb, if_neg (by decide), if_neg (by decide), if_pos rfl, if_neg (by decide), if_neg (by decide), if_neg (by decide), if_pos rfl, if_neg (by decide)]
        | false =>
          rw [k_Model_allowed, e, if_neg (by decide), if_neg (by decide), if_pos rfl, hb, if_pos (by decide)] at r1
          exact absurd r1 (by decide)
    rw [e1, e2]
    refine Or.inl ⟨?_, rfl, rfl⟩
    rcases r1 with q | q
    · exact Or.inl q
    · exact Or.inr (Or.inr (Or.inr (Or.inr q)))
theorem sys_rel (h : Rel sx sc so sa shs sgs sy sr sm sp sk) (p : Int32) (hd : k_Desk_fieldD p = 0) : RelS sx sc so sa shs sgs sy sr sm sp sk (k_Desk_systemWord sx sc so sa shs sgs sy sr p) (k_Model_system sm sp sk (k_Desk_fieldA p) (ush p 25) (ush p 20)) := by
  have hg : k_Desk_fieldG p = ush p 25 := rfl
  by_cases g9 : ush p 25 = 9
  · rw [k_Desk_systemWord, if_pos hd, hg, if_pos g9, k_Model_system, if_pos g9]
    exact nothing_rel h _
  · by_cases g17 : ush p 25 = 17
    · rw [k_Desk_systemWord, if_pos hd, hg, if_neg g9, if_pos g17, k_Model_system, if_neg g9, if_pos g17]
      exact fence_rel h _ _ _
    · by_cases g49 : ush p 25 = 49
      · rw [k_Desk_systemWord, if_pos hd, hg, if_neg g9, if_neg g17, if_pos g49, k_Model_system, if_neg g9, if_neg g17, if_pos g49]
        exact fence_rel h _ _ _
      · rw [k_Desk_systemWord, if_pos hd, hg, if_neg g9, if_neg g17, if_neg g49, k_Model_system, if_neg g9, if_neg g17, if_neg g49]
        show RelS sx sc so sa shs sgs sy sr sm sp sk (k_Desk_wordWithoutA sx sc so sa shs sgs sy sr p) _
        by_cases ha : k_Desk_fieldA p = 0
        · rw [k_Desk_wordWithoutA, if_pos ha, if_pos ha]
          by_cases i0 : ush p 20 = 0
          · rw [if_pos i0, if_pos i0]
            exact call_rel h
          · rw [if_neg i0, if_neg i0]
            by_cases i1 : ush p 20 = 1
            · rw [if_pos i1, if_pos i1]
              exact Or.inl ⟨Or.inr (Or.inl rfl), rfl, rfl⟩
            · rw [if_neg i1, if_neg i1]
              by_cases i2 : ush p 20 = 258
              · rw [if_pos i2, if_pos i2]
                exact sret_rel h
              · rw [if_neg i2, if_neg i2]
                by_cases i3 : ush p 20 = 261
                · rw [if_pos i3, if_pos i3]
                  exact nothing_rel h _
                · rw [if_neg i3, if_neg i3]
                  exact Or.inl ⟨Or.inl rfl, rfl, rfl⟩
        · rw [k_Desk_wordWithoutA, if_neg ha, if_neg ha]
          exact Or.inl ⟨Or.inl rfl, rfl, rfl⟩
end SYS
