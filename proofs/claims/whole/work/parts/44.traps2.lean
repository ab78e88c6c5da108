def m3 (m : Int32) : Bool := if m = 3 then true else false
def stgB (c : Int32) : Bool := if c = 20 then true else (if c = 21 then true else (if c = 23 then true else false))
def tvF (st : Bool) (p4 : Int32) : Int32 := if bI st = 0 then 0 else p4
def tiF (st e : Bool) : Int32 := if bI st = 0 then 0 else (if bI e = 0 then 0 else 8192)
def adF (c : Int32) : Bool := if c < 0 then false else k_Model_isAddress c
def gvF (c : Int32) (v far : Bool) : Bool := if bI (adF c) = 0 then false else (if bI v = 0 then far else true)
section TR2
variable (sm : ob) (sk : Nat → Int32) (p1 p2 : Int32) (p3 : Bool) (p4 : Int32) (p5 : Bool) (v6 v7 v8 : Bool) (um : ob) (uk : Nat → Int32)
theorem j136_eq : k_Model_toS_j136 sm sk p1 p2 p3 p4 p5 v6 v7 v8 um uk = (oi (oi (oi (oi um 19 (tvF v8 p4)) 21 (tiF v8 p5)) 0 1) 11 (um.1 11 + 1), uk) := by
  cases v8 <;> cases p5 <;> rfl
theorem j93_eq (t0 t1 : Int32) : k_Model_toS_j93 sm sk p1 p2 p3 p4 p5 v6 v7 v8 t0 t1 um uk = k_Model_toS_j136 sm sk p1 p2 p3 p4 p5 v6 v7 v8 (oi um 15 (if bI (k_Model_isVirtual um) = 0 then t1 ||| t0 else ((((t1 ||| t0) &&& (-257)) ||| 128) ||| (if bI (m3 (um.1 0)) = 0 then 0 else 256)))) uk := by
  rw [k_Model_toS_j93, show k_Model_isVirtual (oi um 15 (t1 ||| t0)) = k_Model_isVirtual um from rfl, k_Model_toS_j132, k_Model_toS_j132, oi_oi, oi_oi, m3]
  by_cases h1 : bI (k_Model_isVirtual um) = 0
  · rw [if_pos h1, if_pos h1]
  · rw [if_neg h1, if_neg h1]
    by_cases h2 : um.1 0 = 3
    · rw [if_pos h2, if_pos h2, if_neg (by decide)]
    · rw [if_neg h2, if_neg h2, if_pos (by decide)]
theorem j64_eq (st : Bool) : k_Model_toS_j64 sm sk p1 p2 p3 p4 p5 v6 v7 st = (oi (oi (oi (oi (oi (oi sm 1 (hdl (sk 5) p1)) 15 (hsM (sm.1 15) (k_Model_isVirtual sm) (m3 (sm.1 0)) v7)) 19 (tvF st p4)) 21 (tiF st p5)) 0 1) 11 (sm.1 11 + 1), upd (upd (upd (upd sk 65 (sm.1 1)) 66 p1) 67 p2) 0 (stE (sk 0) (supv (sm.1 0)))) := by
  rw [k_Model_toS_j64, leave0_eq, j93_eq, j93_eq, j136_eq, j136_eq, hsM]
  cases v7 <;> rfl
theorem toS_eq : k_Model_toS sm sk p1 p2 p3 p4 p5 = k_Model_toS_j64 sm sk p1 p2 p3 p4 p5 (adF p1) (gvF p1 (k_Model_isVirtual sm) p3) (stgB p1) := by
  have e39 : ∀ a g : Bool, k_Model_toS_j39 sm sk p1 p2 p3 p4 p5 a g = k_Model_toS_j64 sm sk p1 p2 p3 p4 p5 a g (stgB p1) := by
    intro a g
    rw [k_Model_toS_j39, k_Model_toS_j59, stgB]
    by_cases h1 : p1 = 20
    · rw [if_pos h1, if_pos h1]
    · rw [if_neg h1, if_neg h1]
      by_cases h2 : p1 = 21
      · rw [if_pos h2, if_pos h2]
      · rw [if_neg h2, if_neg h2]
        by_cases h3 : p1 = 23
        · rw [if_pos h3, if_pos h3]
        · rw [if_neg h3, if_neg h3]
  have e16 : ∀ a : Bool, k_Model_toS_j16 sm sk p1 p2 p3 p4 p5 a = k_Model_toS_j64 sm sk p1 p2 p3 p4 p5 a (if bI a = 0 then false else (if bI (k_Model_isVirtual sm) = 0 then p3 else true)) (stgB p1) := by
    intro a
    rw [k_Model_toS_j16, k_Model_toS_j38, k_Model_toS_j34, e39, e39]
    by_cases ha : bI a = 0
    · rw [if_pos ha, if_pos ha]
    · rw [if_neg ha, if_neg ha]
      by_cases hv : bI (k_Model_isVirtual sm) = 0
      · rw [if_pos hv, if_pos hv]
        by_cases h3 : bI p3 = 0
        · rw [if_pos h3, bI_e h3]
        · rw [if_neg h3, bI_t h3]
      · rw [if_neg hv, if_neg hv]
  rw [k_Model_toS, k_Model_toS_j15, e16, e16, gvF, adF]
  by_cases h1 : p1 < 0
  · rw [if_pos h1, if_pos h1]
  · rw [if_neg h1, if_neg h1]
    by_cases hA : bI (k_Model_isAddress p1) = 0
    · rw [if_pos hA, bI_e hA]
    · rw [if_neg hA, bI_t hA]
end TR2
section TR3
variable {sx sc so : ob} {sa : Nat → Int32} {shs sgs sy sr sm : ob} {sp sk : Nat → Int32}
theorem virtM (h : RX sx sm) : k_Model_isVirtual sm = virt (sm.1 0) ∧ k_Desk_isVirtual sx = virt (sm.1 0) ∧ k_Desk_isSupervisor sx = supv (sm.1 0) := by
  obtain ⟨a1, a2, a3, a4, a5, a6⟩ := h
  refine ⟨?_, by rw [k_Desk_isVirtual, virt, a1], by rw [k_Desk_isSupervisor, supv, a1]⟩
  rw [k_Model_isVirtual, virt]
  rcases a6 with e | e | e | e <;> rw [e] <;> decide
theorem hs3 (x : Int32) (m : Int32) (g : Bool) (h : m = 0 ∨ m = 1 ∨ m = 2 ∨ m = 3) : hsM x (virt m) (supv m) g = hsM x (virt m) (m3 m) g := by
  rcases h with e | e | e | e <;> rw [e] <;> rfl
theorem rel_toVs (h : Rel sx sc so sa shs sgs sy sr sm sp sk) (c v : Int32) : Rel (k_Desk_enterVs sx sc sgs c v).1 sc so sa shs (k_Desk_enterVs sx sc sgs c v).2 sy sr (k_Model_toVs sm sk c v).1 sp (k_Model_toVs sm sk c v).2 := by
  obtain ⟨hX, hC, hO, hB, ⟨g1, g2, g3, g4, g5, g6, g7⟩, hH, hR, hA⟩ := h
  obtain ⟨e1, e2, e3⟩ := virtM hX
  obtain ⟨a1, a2, a3, a4, a5, a6⟩ := hX
  rw [k_Desk_enterVs, enter_eq, e3, k_Model_toVs, leave256_eq]
  exact ⟨⟨rfl, congrArg (fun z => hdl z c) g2, a3, congrArg (fun z => z + 1) a4, a5, Or.inr (Or.inr (Or.inr rfl))⟩, hC, hO, hB, ⟨congrArg (fun z => stE z (supv (sm.1 0))) g1, g2, g3, a2, rfl, rfl, g7⟩, hH, hR, hA⟩
theorem rel_toS (h : Rel sx sc so sa shs sgs sy sr sm sp sk) (c v : Int32) (far : Bool) (second : Int32) (entry g : Bool) (tv ti : Int32) (hg : g = gvF c (k_Model_isVirtual sm) far) (htv : tv = tvF (stgB c) second) (hti : ti = tiF (stgB c) entry) : Rel (k_Desk_enterS sx sc shs sy c v g tv ti).1 sc so sa (k_Desk_enterS sx sc shs sy c v g tv ti).2.1 sgs (k_Desk_enterS sx sc shs sy c v g tv ti).2.2 sr (k_Model_toS sm sk c v far second entry).1 sp (k_Model_toS sm sk c v far second entry).2 := by
  obtain ⟨hX, hC, hO, ⟨b1, b2, b3, b4, b5, b6, b7⟩, hG, ⟨y1, y2, y3, y4, y5, y6, y7, y8, y9, y10⟩, hR, hA⟩ := h
  obtain ⟨e1, e2, e3⟩ := virtM hX
  obtain ⟨a1, a2, a3, a4, a5, a6⟩ := hX
  subst hg
  subst htv
  subst hti
  rw [k_Desk_enterS, enter_eq, hyper_eq, e2, e3, toS_eq, j64_eq, hs3 _ _ _ a6, e1, y1]
  exact ⟨⟨rfl, congrArg (fun z => hdl z c) b2, congrArg (fun z => z + 1) a3, a4, a5, Or.inr (Or.inl rfl)⟩, hC, hO, ⟨congrArg (fun z => stE z (supv (sm.1 0))) b1, b2, b3, a2, rfl, rfl, b7⟩, hG, ⟨rfl, y2, y3, y4, rfl, y6, rfl, y8, y9, y10⟩, hR, hA⟩
theorem adr : ∀ n, n < 32 → k_Desk_isIn 11579643 (nI n) = adF (nI n) := by decide +kernel
theorem rel_trap (h : Rel sx sc so sa shs sgs sy sr sm sp sk) {n : Nat} (hn : n < 32) (v : Int32) (far : Bool) (second : Int32) (entry : Bool) (tv ti : Int32) (htv : tv = tvF (stgB (nI n)) second) (hti : ti = tiF (stgB (nI n)) entry) : Rel (k_Desk_raise sx sc shs sgs sy (nI n) v far tv ti).1 sc so sa (k_Desk_raise sx sc shs sgs sy (nI n) v far tv ti).2.1 (k_Desk_raise sx sc shs sgs sy (nI n) v far tv ti).2.2.1 (k_Desk_raise sx sc shs sgs sy (nI n) v far tv ti).2.2.2 sr (k_Model_trap sm sk (nI n) v far second entry).1 sp (k_Model_trap sm sk (nI n) v far second entry).2 := by
  obtain ⟨e1, e2, e3⟩ := virtM h.1
  have y2 := h.2.2.2.2.2.1.2.1
  have e31 : k_Desk_raise_j31 sx sc shs sgs sy (nI n) v far tv ti = k_Desk_raise_j56 sx sc shs sgs sy (nI n) v far tv ti (gvF (nI n) (virt (sm.1 0)) far) := by
    rw [k_Desk_raise_j31, k_Desk_raise_j55, k_Desk_raise_j51, adr n hn, e2, gvF]
    cases adF (nI n)
    · rfl
    · cases far
      · cases virt (sm.1 0) <;> rfl
      · cases virt (sm.1 0) <;> rfl
  have hS : Rel (k_Desk_raise_j56 sx sc shs sgs sy (nI n) v far tv ti (gvF (nI n) (virt (sm.1 0)) far)).1 sc so sa (k_Desk_raise_j56 sx sc shs sgs sy (nI n) v far tv ti (gvF (nI n) (virt (sm.1 0)) far)).2.1 (k_Desk_raise_j56 sx sc shs sgs sy (nI n) v far tv ti (gvF (nI n) (virt (sm.1 0)) far)).2.2.1 (k_Desk_raise_j56 sx sc shs sgs sy (nI n) v far tv ti (gvF (nI n) (virt (sm.1 0)) far)).2.2.2 sr (k_Model_trap_j28 sm sk (nI n) v far second entry).1 sp (k_Model_trap_j28 sm sk (nI n) v far second entry).2 :=
    rel_toS h (nI n) v far second entry _ tv ti (by rw [e1]) htv hti
  rw [k_Desk_raise, e2, e31, k_Model_trap, e1, isIn_b _ n hn, y2]
  by_cases hv : bI (virt (sm.1 0)) = 0
  · rw [if_pos hv, if_pos hv]
    exact hS
  · rw [if_neg hv, if_neg hv]
    by_cases hb : bt (sm.1 16) n = true
    · rw [hb, if_neg (by decide), if_pos ((ush_b _ n hn).mpr hb)]
      exact rel_toVs h (nI n) v
    · have hb2 : bt (sm.1 16) n = false := by
        cases h9 : bt (sm.1 16) n with
        | true => exact absurd h9 hb
        | false => rfl
      rw [hb2, if_pos (by decide), if_neg (fun q => hb ((ush_b _ n hn).mp q))]
      exact hS
theorem adx (p : Int32) : (if bI (k_Model_isAddress p) = 0 then false else (if p = 3 then false else true)) = k_Desk_isIn 11579635 p := by
  have hm : ∀ x : Int32, (x < 0 ∨ nI 32 ≤ x) → k_Model_isAddress x = false := by
    intro x hx
    have d : ∀ c : Nat, c < 32 → ¬ x = nI c := by
      intro c hc e
      rw [e] at hx
      rcases hx with q | q
      · exact nI_pos (by omega) q
      · exact nI_ge hc (by decide) q
    have e20 : k_Model_isAddress_j20 x = false := by
      rw [k_Model_isAddress_j20, if_neg (show ¬ x = 12 from d 12 (by decide)), if_neg (show ¬ x = 13 from d 13 (by decide)), if_neg (show ¬ x = 15 from d 15 (by decide)), if_neg (show ¬ x = 20 from d 20 (by decide)), if_neg (show ¬ x = 21 from d 21 (by decide)), if_neg (show ¬ x = 23 from d 23 (by decide))]
    rw [k_Model_isAddress, if_neg (show ¬ x = 0 from d 0 (by decide)), if_neg (show ¬ x = 1 from d 1 (by decide)), e20]
    by_cases h1 : x < 3
    · rw [if_pos h1]
    · rw [if_neg h1]
      by_cases h2 : x ≤ 7
      · exfalso
        rcases hx with q | q
        · rw [Int32.lt_iff_toInt_lt] at h1 q
          have : (0 : Int32).toInt = 0 := by decide
          have : (3 : Int32).toInt = 3 := by decide
          omega
        · rw [Int32.le_iff_toInt_le] at h2 q
          have : (nI 32).toInt = 32 := by decide
          have : (7 : Int32).toInt = 7 := by decide
          omega
      · rw [if_neg h2]
  rcases pk_ix p (n := 32) (by decide) with h1 | h1 | ⟨j, hj, rfl⟩
  · rw [hm p (Or.inl h1), if_pos (by decide), k_Desk_isIn, if_pos h1]
  · rw [hm p (Or.inr h1), if_pos (by decide), k_Desk_isIn]
    by_cases h2 : p < 0
    · rw [if_pos h2]
    · rw [if_neg h2, if_pos (show (32 : Int32) ≤ p from h1)]
  · exact (by decide +kernel : ∀ j, j < 32 → (if bI (k_Model_isAddress (nI j)) = 0 then false else (if nI j = 3 then false else true)) = k_Desk_isIn 11579635 (nI j)) j hj
theorem stg : ∀ n, n < 32 → k_Desk_isIn 11534336 (nI n) = stgB (nI n) := by decide +kernel
theorem sec2 (a : Int64) : (lush a 2).toInt32 = (lshr a 2).toInt32 := l32 (n := 2) (by decide +kernel) (by decide +kernel) (by decide)
theorem rel_fail (h : Rel sx sc so sa shs sgs sy sr sm sp sk) (p1 p2 : Int32) (p3 : Bool) (p4 : Int64) (p5 : Bool) : (k_Desk_fail sx sc so shs sgs sy p1 p2 p3 p4 p5).1 = (k_Model_fail sm sk p1 p2 p3 p4 p5).1 ∧ Rel (k_Desk_fail sx sc so shs sgs sy p1 p2 p3 p4 p5).2.1 sc so sa (k_Desk_fail sx sc so shs sgs sy p1 p2 p3 p4 p5).2.2.1 (k_Desk_fail sx sc so shs sgs sy p1 p2 p3 p4 p5).2.2.2.1 (k_Desk_fail sx sc so shs sgs sy p1 p2 p3 p4 p5).2.2.2.2 sr (k_Model_fail sm sk p1 p2 p3 p4 p5).2.1 sp (k_Model_fail sm sk p1 p2 p3 p4 p5).2.2 := by
  have em : k_Model_fail sm sk p1 p2 p3 p4 p5 = k_Model_fail_j17 sm sk p1 p2 p3 p4 p5 (k_Desk_isIn 11579635 p1) := by
    rw [← adx, k_Model_fail, k_Model_fail_j16]
    by_cases hA : bI (k_Model_isAddress p1) = 0
    · rw [if_pos hA, if_pos hA]
    · rw [if_neg hA, if_neg hA]
      by_cases h3 : p1 = 3
      · rw [if_pos h3, if_pos h3]
      · rw [if_neg h3, if_neg h3]
  have o5 := h.2.2.1.2.2.2.2.1
  rw [em]
  cases hi : k_Desk_isIn 11579635 p1 with
  | false =>
    have e1 : k_Desk_fail sx sc so shs sgs sy p1 p2 p3 p4 p5 = (-1, sx, shs, sgs, sy) := by rw [k_Desk_fail, hi, if_pos (by decide)]
    have e2 : k_Model_fail_j17 sm sk p1 p2 p3 p4 p5 false = (-1, sm, sk) := by rw [k_Model_fail_j17, if_pos (by decide)]
    rw [e1, e2]
    exact ⟨rfl, h⟩
  | true =>
    have hp : ∃ n : Nat, n < 32 ∧ p1 = nI n := by
      rcases pk_ix p1 (n := 32) (by decide) with h1 | h1 | h1
      · rw [k_Desk_isIn, if_pos h1] at hi
        cases hi
      · rw [k_Desk_isIn] at hi
        by_cases h2 : p1 < 0
        · rw [if_pos h2] at hi
          cases hi
        · rw [if_neg h2, if_pos (show (32 : Int32) ≤ p1 from h1)] at hi
          cases hi
      · exact h1
    obtain ⟨n, hn, rfl⟩ := hp
    by_cases l1 : lg_cmp p4 0 < 0
    · have e1 : k_Desk_fail sx sc so shs sgs sy (nI n) p2 p3 p4 p5 = (-1, sx, shs, sgs, sy) := by rw [k_Desk_fail, hi, if_neg (by decide), if_pos l1]
      have e2 : k_Model_fail_j17 sm sk (nI n) p2 p3 p4 p5 true = (-1, sm, sk) := by rw [k_Model_fail_j17, if_neg (by decide), if_pos l1]
      rw [e1, e2]
      exact ⟨rfl, h⟩
    · by_cases l2 : lg_cmp p4 17179869184 < 0
      · cases ho : sm.2.2 10 with
        | true =>
          have e1 : k_Desk_fail sx sc so shs sgs sy (nI n) p2 p3 p4 p5 = (-3, sx, shs, sgs, sy) := by rw [k_Desk_fail, hi, if_neg (by decide), if_neg l1, if_pos l2, o5, ho, if_neg (by decide)]
          have e2 : k_Model_fail_j17 sm sk (nI n) p2 p3 p4 p5 true = (-3, sm, sk) := by rw [k_Model_fail_j17, if_neg (by decide), if_neg l1, if_pos l2, ho, if_neg (by decide)]
          rw [e1, e2]
          exact ⟨rfl, h⟩
        | false =>
          have e2 : k_Model_fail_j17 sm sk (nI n) p2 p3 p4 p5 true = ((k_Model_trap sm sk (nI n) p2 p3 ((lshr p4 2).toInt32) p5).1.1 0, k_Model_trap sm sk (nI n) p2 p3 ((lshr p4 2).toInt32) p5) := by rw [k_Model_fail_j17, if_neg (by decide), if_neg l1, if_pos l2, ho, if_pos (by decide)]
          rw [e2]
          cases hs : stgB (nI n) with
          | false =>
            have e1 : k_Desk_fail sx sc so shs sgs sy (nI n) p2 p3 p4 p5 = ((k_Desk_raise sx sc shs sgs sy (nI n) p2 p3 0 0).1.1 3, k_Desk_raise sx sc shs sgs sy (nI n) p2 p3 0 0) := by rw [k_Desk_fail, hi, if_neg (by decide), if_neg l1, if_pos l2, o5, ho, if_pos (by decide), stg n hn, hs, if_pos (by decide)]
            have r := rel_trap h hn p2 p3 ((lshr p4 2).toInt32) p5 0 0 (by rw [hs]; rfl) (by rw [hs]; rfl)
            rw [e1]
            exact ⟨r.1.1, r⟩
          | true =>
            cases p5 with
            | false =>
              have e1 : k_Desk_fail sx sc so shs sgs sy (nI n) p2 p3 p4 false = ((k_Desk_raise sx sc shs sgs sy (nI n) p2 p3 ((lshr p4 2).toInt32) 0).1.1 3, k_Desk_raise sx sc shs sgs sy (nI n) p2 p3 ((lshr p4 2).toInt32) 0) := by rw [k_Desk_fail, hi, if_neg (by decide), if_neg l1, if_pos l2, o5, ho, if_pos (by decide), stg n hn, hs, if_neg (by decide), if_pos (by decide), sec2, k_Desk_fail_j70]
              have r := rel_trap h hn p2 p3 ((lshr p4 2).toInt32) false ((lshr p4 2).toInt32) 0 (by rw [hs]; rfl) (by rw [hs]; rfl)
              rw [e1]
              exact ⟨r.1.1, r⟩
            | true =>
              have e1 : k_Desk_fail sx sc so shs sgs sy (nI n) p2 p3 p4 true = ((k_Desk_raise sx sc shs sgs sy (nI n) p2 p3 ((lshr p4 2).toInt32) 8192).1.1 3, k_Desk_raise sx sc shs sgs sy (nI n) p2 p3 ((lshr p4 2).toInt32) 8192) := by rw [k_Desk_fail, hi, if_neg (by decide), if_neg l1, if_pos l2, o5, ho, if_pos (by decide), stg n hn, hs, if_neg (by decide), if_neg (by decide), sec2, k_Desk_fail_j70]
              have r := rel_trap h hn p2 p3 ((lshr p4 2).toInt32) true ((lshr p4 2).toInt32) 8192 (by rw [hs]; rfl) (by rw [hs]; rfl)
              rw [e1]
              exact ⟨r.1.1, r⟩
      · have e1 : k_Desk_fail sx sc so shs sgs sy (nI n) p2 p3 p4 p5 = (-1, sx, shs, sgs, sy) := by rw [k_Desk_fail, hi, if_neg (by decide), if_neg l1, if_neg l2]
        have e2 : k_Model_fail_j17 sm sk (nI n) p2 p3 p4 p5 true = (-1, sm, sk) := by rw [k_Model_fail_j17, if_neg (by decide), if_neg l1, if_neg l2]
        rw [e1, e2]
        exact ⟨rfl, h⟩
end TR3
