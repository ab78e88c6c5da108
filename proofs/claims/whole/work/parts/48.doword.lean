theorem far_eq (g b d : Int32) : k_Desk_isFarAccess g b d = k_Model_isFar d b g := by
  have e61 : ∀ t : Bool, k_Model_isFar_j61 d b g t = if bI t = 0 then (if d = 0 then (if g = 49 then true else (if g = 51 then true else (if g = 53 then true else false))) else false) else true := fun t => by rw [k_Model_isFar_j61]
  rw [k_Desk_isFarAccess, k_Model_isFar, k_Model_isFar_j22, k_Model_isFar_j39, k_Model_isFar_j56, k_Model_isFar_j60, e61, e61]
  by_cases h48 : g = 48
  · subst h48
    by_cases b0 : b = 0
    · subst b0; simp (decide := true)
    · by_cases b1 : b = 1
      · subst b1; simp (decide := true)
      · simp (decide := true) [b0, b1]
  · by_cases h49 : g = 49
    · subst h49
      simp (decide := true)
    · by_cases h50 : g = 50
      · subst h50
        by_cases b0 : b = 0
        · subst b0; simp (decide := true)
        · by_cases b1 : b = 1
          · subst b1; simp (decide := true)
          · by_cases b3 : b = 3
            · subst b3; simp (decide := true)
            · simp (decide := true) [b0, b1, b3]
      · by_cases h51 : g = 51
        · subst h51
          simp (decide := true)
        · by_cases h52 : g = 52
          · subst h52
            by_cases b0 : b = 0
            · subst b0; simp (decide := true)
            · by_cases b3 : b = 3
              · subst b3; simp (decide := true)
              · simp (decide := true) [b0, b3]
          · by_cases h53 : g = 53
            · subst h53
              simp (decide := true)
            · simp (decide := true) [h48, h49, h50, h51, h52, h53]
section DOW
variable {sx sc so : ob} {sa : Nat → Int32} {shs sgs sy sr sm : ob} {sp sk : Nat → Int32}
abbrev T9 : Type := Int32 × ob × ob × ob × (Nat → Int32) × ob × ob × ob × ob
abbrev T4 : Type := Int32 × ob × (Nat → Int32) × (Nat → Int32)
def RelD (u : T9) (w : T4) : Prop := u.1 = w.1 ∧ Rel u.2.1 u.2.2.1 u.2.2.2.1 u.2.2.2.2.1 u.2.2.2.2.2.1 u.2.2.2.2.2.2.1 u.2.2.2.2.2.2.2.1 u.2.2.2.2.2.2.2.2 w.2.1 w.2.2.1 w.2.2.2
def RelP (sx sc so : ob) (sa : Nat → Int32) (shs sgs sy sr sm : ob) (sp sk : Nat → Int32) (u : T9) (w : T4) : Prop :=
  ((w.1 = 2 ∨ w.1 = 3 ∨ w.1 = 8 ∨ w.1 = 10 ∨ w.1 = 22) ∧ u = (w.1, sx, sc, so, sa, shs, sgs, sy, sr) ∧ w.2 = (sm, sp, sk)) ∨ (w.1 = 0 ∧ u.1 = -1 ∧ Rel u.2.1 u.2.2.1 u.2.2.2.1 u.2.2.2.2.1 u.2.2.2.2.2.1 u.2.2.2.2.2.2.1 u.2.2.2.2.2.2.2.1 u.2.2.2.2.2.2.2.2 (oi w.2.1 1 (w.2.1.1 1 + 4)) w.2.2.1 w.2.2.2)
def DW (p1 : Int32) (u : T9) : T9 := if u.1 < 0 then u else (u.1, (k_Desk_raise u.2.1 u.2.2.1 u.2.2.2.2.2.1 u.2.2.2.2.2.2.1 u.2.2.2.2.2.2.2.1 u.1 (k_Desk_trapValue u.2.1 u.1 p1) false 0 0).1, u.2.2.1, u.2.2.2.1, u.2.2.2.2.1, (k_Desk_raise u.2.1 u.2.2.1 u.2.2.2.2.2.1 u.2.2.2.2.2.2.1 u.2.2.2.2.2.2.2.1 u.1 (k_Desk_trapValue u.2.1 u.1 p1) false 0 0).2.1, (k_Desk_raise u.2.1 u.2.2.1 u.2.2.2.2.2.1 u.2.2.2.2.2.2.1 u.2.2.2.2.2.2.2.1 u.1 (k_Desk_trapValue u.2.1 u.1 p1) false 0 0).2.2.1, (k_Desk_raise u.2.1 u.2.2.1 u.2.2.2.2.2.1 u.2.2.2.2.2.2.1 u.2.2.2.2.2.2.2.1 u.1 (k_Desk_trapValue u.2.1 u.1 p1) false 0 0).2.2.2, u.2.2.2.2.2.2.2.2)
theorem dw_eq (p1 : Int32) : k_Desk_doWord sx sc so sa shs sgs sy sr p1 = if bI (so.2.2 5) = 0 then DW p1 (k_Desk_perform sx sc so sa shs sgs sy sr p1) else (-3, sx, sc, so, sa, shs, sgs, sy, sr) := by
  rw [k_Desk_doWord, DW]
theorem tv0 (c : Int32) : (0 : Int32) = tvF (stgB c) 0 := by cases h : stgB c <;> rfl
theorem ti0 (c : Int32) : (0 : Int32) = tiF (stgB c) false := by cases h : stgB c <;> rfl
theorem fin_rel (h : Rel sx sc so sa shs sgs sy sr sm sp sk) (p1 v2 v3 v4 v5 v6 v7 : Int32) (u : T9) (w : T4) (hw : RelP sx sc so sa shs sgs sy sr sm sp sk u w) : RelD (DW p1 u) (k_Model_doWord_j170 sm sp sk p1 v2 v3 v4 v5 v6 v7 w.1 w.2.1 w.2.2.1 w.2.2.2) := by
  obtain ⟨we, wm, wp, wk⟩ := w
  rcases hw with ⟨h1, h2, h3⟩ | ⟨h1, h2, h3⟩
  · have h2 : u = (we, sx, sc, so, sa, shs, sgs, sy, sr) := h2
    have h3 : (wm, wp, wk) = (sm, sp, sk) := h3
    obtain ⟨rfl, h4⟩ := Prod.mk.inj h3
    obtain ⟨rfl, rfl⟩ := Prod.mk.inj h4
    subst h2
    have a2 := h.1.2.1
    have h1 : we = 2 ∨ we = 3 ∨ we = 8 ∨ we = 10 ∨ we = 22 := h1
    rcases h1 with rfl | rfl | rfl | rfl | rfl
    · have e1 : k_Desk_trapValue sx 2 p1 = p1 := by rw [k_Desk_trapValue, if_pos rfl]
      rw [DW, if_neg (show ¬ (2 : Int32) < 0 by decide), k_Model_doWord_j170, if_neg (show ¬ (2 : Int32) ≤ 0 by decide), if_pos (show (2 : Int32) = 2 from rfl), k_Model_doWord_j191, k_Model_doWord_j209]
      show RelD (_, (k_Desk_raise sx sc shs sgs sy 2 (k_Desk_trapValue sx 2 p1) false 0 0).1, _, _, _, (k_Desk_raise sx sc shs sgs sy 2 (k_Desk_trapValue sx 2 p1) false 0 0).2.1, (k_Desk_raise sx sc shs sgs sy 2 (k_Desk_trapValue sx 2 p1) false 0 0).2.2.1, (k_Desk_raise sx sc shs sgs sy 2 (k_Desk_trapValue sx 2 p1) false 0 0).2.2.2, _) _
      rw [e1]
      exact ⟨rfl, rel_trap (n := 2) h (by decide) p1 false 0 false 0 0 (tv0 _) (ti0 _)⟩
    · have e1 : k_Desk_trapValue sx 3 p1 = wm.1 1 := by rw [k_Desk_trapValue, if_neg (by decide), if_pos rfl]; exact a2
      rw [DW, if_neg (show ¬ (3 : Int32) < 0 by decide), k_Model_doWord_j170, if_neg (show ¬ (3 : Int32) ≤ 0 by decide), if_neg (show ¬ (3 : Int32) = 2 by decide), if_neg (show ¬ (3 : Int32) = 22 by decide), if_pos (show (3 : Int32) = 3 from rfl), k_Model_doWord_j209]
      show RelD (_, (k_Desk_raise sx sc shs sgs sy 3 (k_Desk_trapValue sx 3 p1) false 0 0).1, _, _, _, (k_Desk_raise sx sc shs sgs sy 3 (k_Desk_trapValue sx 3 p1) false 0 0).2.1, (k_Desk_raise sx sc shs sgs sy 3 (k_Desk_trapValue sx 3 p1) false 0 0).2.2.1, (k_Desk_raise sx sc shs sgs sy 3 (k_Desk_trapValue sx 3 p1) false 0 0).2.2.2, _) _
      rw [e1]
      exact ⟨rfl, rel_trap (n := 3) h (by decide) _ false 0 false 0 0 (tv0 _) (ti0 _)⟩
    · have e1 : k_Desk_trapValue sx 8 p1 = 0 := by rw [k_Desk_trapValue, if_neg (by decide), if_neg (by decide), if_neg (by decide)]
      rw [DW, if_neg (show ¬ (8 : Int32) < 0 by decide), k_Model_doWord_j170, if_neg (show ¬ (8 : Int32) ≤ 0 by decide), if_neg (show ¬ (8 : Int32) = 2 by decide), if_neg (show ¬ (8 : Int32) = 22 by decide), if_neg (show ¬ (8 : Int32) = 3 by decide), k_Model_doWord_j209]
      show RelD (_, (k_Desk_raise sx sc shs sgs sy 8 (k_Desk_trapValue sx 8 p1) false 0 0).1, _, _, _, (k_Desk_raise sx sc shs sgs sy 8 (k_Desk_trapValue sx 8 p1) false 0 0).2.1, (k_Desk_raise sx sc shs sgs sy 8 (k_Desk_trapValue sx 8 p1) false 0 0).2.2.1, (k_Desk_raise sx sc shs sgs sy 8 (k_Desk_trapValue sx 8 p1) false 0 0).2.2.2, _) _
      rw [e1]
      exact ⟨rfl, rel_trap (n := 8) h (by decide) _ false 0 false 0 0 (tv0 _) (ti0 _)⟩
    · have e1 : k_Desk_trapValue sx 10 p1 = 0 := by rw [k_Desk_trapValue, if_neg (by decide), if_neg (by decide), if_neg (by decide)]
      rw [DW, if_neg (show ¬ (10 : Int32) < 0 by decide), k_Model_doWord_j170, if_neg (show ¬ (10 : Int32) ≤ 0 by decide), if_neg (show ¬ (10 : Int32) = 2 by decide), if_neg (show ¬ (10 : Int32) = 22 by decide), if_neg (show ¬ (10 : Int32) = 3 by decide), k_Model_doWord_j209]
      show RelD (_, (k_Desk_raise sx sc shs sgs sy 10 (k_Desk_trapValue sx 10 p1) false 0 0).1, _, _, _, (k_Desk_raise sx sc shs sgs sy 10 (k_Desk_trapValue sx 10 p1) false 0 0).2.1, (k_Desk_raise sx sc shs sgs sy 10 (k_Desk_trapValue sx 10 p1) false 0 0).2.2.1, (k_Desk_raise sx sc shs sgs sy 10 (k_Desk_trapValue sx 10 p1) false 0 0).2.2.2, _) _
      rw [e1]
      exact ⟨rfl, rel_trap (n := 10) h (by decide) _ false 0 false 0 0 (tv0 _) (ti0 _)⟩
    · have e1 : k_Desk_trapValue sx 22 p1 = p1 := by rw [k_Desk_trapValue, if_neg (by decide), if_neg (by decide), if_pos rfl]
      rw [DW, if_neg (show ¬ (22 : Int32) < 0 by decide), k_Model_doWord_j170, if_neg (show ¬ (22 : Int32) ≤ 0 by decide), if_neg (show ¬ (22 : Int32) = 2 by decide), if_pos (show (22 : Int32) = 22 from rfl), k_Model_doWord_j191, k_Model_doWord_j209]
      show RelD (_, (k_Desk_raise sx sc shs sgs sy 22 (k_Desk_trapValue sx 22 p1) false 0 0).1, _, _, _, (k_Desk_raise sx sc shs sgs sy 22 (k_Desk_trapValue sx 22 p1) false 0 0).2.1, (k_Desk_raise sx sc shs sgs sy 22 (k_Desk_trapValue sx 22 p1) false 0 0).2.2.1, (k_Desk_raise sx sc shs sgs sy 22 (k_Desk_trapValue sx 22 p1) false 0 0).2.2.2, _) _
      rw [e1]
      exact ⟨rfl, rel_trap (n := 22) h (by decide) p1 false 0 false 0 0 (tv0 _) (ti0 _)⟩
  · have h1 : we = 0 := h1
    subst h1
    rw [DW, if_pos (by rw [h2]; decide), k_Model_doWord_j170, if_pos (show (0 : Int32) ≤ 0 by decide)]
    exact ⟨h2, h3⟩
theorem ill_rel : RelP sx sc so sa shs sgs sy sr sm sp sk (2, sx, sc, so, sa, shs, sgs, sy, sr) (2, sm, sp, sk) := Or.inl ⟨Or.inl rfl, rfl, rfl⟩
theorem rel_doWord (h : Rel sx sc so sa shs sgs sy sr sm sp sk) (p : Int32) : (k_Desk_doWord sx sc so sa shs sgs sy sr p).1 = (k_Model_doWord sm sp sk p).1 ∧ Rel (k_Desk_doWord sx sc so sa shs sgs sy sr p).2.1 (k_Desk_doWord sx sc so sa shs sgs sy sr p).2.2.1 (k_Desk_doWord sx sc so sa shs sgs sy sr p).2.2.2.1 (k_Desk_doWord sx sc so sa shs sgs sy sr p).2.2.2.2.1 (k_Desk_doWord sx sc so sa shs sgs sy sr p).2.2.2.2.2.1 (k_Desk_doWord sx sc so sa shs sgs sy sr p).2.2.2.2.2.2.1 (k_Desk_doWord sx sc so sa shs sgs sy sr p).2.2.2.2.2.2.2.1 (k_Desk_doWord sx sc so sa shs sgs sy sr p).2.2.2.2.2.2.2.2 (k_Model_doWord sm sp sk p).2.1 (k_Model_doWord sm sp sk p).2.2.1 (k_Model_doWord sm sp sk p).2.2.2 := by
  show RelD (k_Desk_doWord sx sc so sa shs sgs sy sr p) (k_Model_doWord sm sp sk p)
  have o5 := h.2.2.1.2.2.2.2.1
  rw [dw_eq, o5, k_Model_doWord, fD, fF, fA, fB]
  cases ho : sm.2.2 10 with
  | true => exact ⟨rfl, h⟩
  | false =>
    rw [if_pos (show bI false = 0 by decide), if_pos (show bI false = 0 by decide)]
    by_cases op : p &&& 127 = 115
    · rw [if_pos op]
      have hF : ∃ j : Nat, j < 2 ^ 3 ∧ (ush p 12) &&& 7 = nI j := pk_andE (ush p 12) 3 (by decide)
      obtain ⟨j, hj, ej⟩ := hF
      have hj8 : j = 0 ∨ j = 4 ∨ (j = 1 ∨ j = 2 ∨ j = 3 ∨ j = 5 ∨ j = 6 ∨ j = 7) := by omega
      rcases hj8 with rfl | rfl | hj6
      · have e0 : (ush p 12) &&& 7 = 0 := ej
        have ep : k_Desk_perform sx sc so sa shs sgs sy sr p = ((k_Desk_systemWord sx sc so sa shs sgs sy sr p).1, (k_Desk_systemWord sx sc so sa shs sgs sy sr p).2.1, sc, (k_Desk_systemWord sx sc so sa shs sgs sy sr p).2.2) := by rw [k_Desk_perform, if_pos op, if_pos e0]
        rw [ep, e0, if_neg (show ¬ (0 : Int32) = 4 by decide), k_Model_doWord_j129, if_pos (show (0 : Int32) = 0 from rfl)]
        by_cases hd : k_Desk_fieldD p = 0
        · rw [if_pos hd]
          refine fin_rel h p _ _ _ _ _ _ _ (k_Model_system sm sp sk (k_Desk_fieldA p) (ush p 25) (ush p 20)) ?_
          rcases sys_rel h p hd with ⟨s1, s2, s3⟩ | ⟨s1, s2, s3⟩
          · rw [s2]
            exact Or.inl ⟨s1, rfl, s3⟩
          · exact Or.inr ⟨s1, s2, s3⟩
        · have es : k_Desk_systemWord sx sc so sa shs sgs sy sr p = (2, sx, so, sa, shs, sgs, sy, sr) := by rw [k_Desk_systemWord, if_neg hd]
          rw [es, if_neg hd, k_Model_doWord_j152, if_pos (show (0 : Int32) - 0 / 4 * 4 = 0 by decide)]
          exact fin_rel h p _ _ _ _ _ _ _ (2, sm, sp, sk) ill_rel
      · have e4 : (ush p 12) &&& 7 = 4 := ej
        have ep : k_Desk_perform sx sc so sa shs sgs sy sr p = (k_Desk_farAccessWord sx sc sy p, sx, sc, so, sa, shs, sgs, sy, sr) := by rw [k_Desk_perform, if_pos op, e4, if_neg (by decide), if_pos rfl]
        rw [ep, e4, if_pos (show (4 : Int32) = 4 from rfl), ← far_eq, show ush p 25 = k_Desk_fieldG p from rfl]
        cases hf : k_Desk_isFarAccess (k_Desk_fieldG p) (k_Desk_fieldB p) (k_Desk_fieldD p) with
        | false =>
          have ef : k_Desk_farAccessWord sx sc sy p = 2 := by rw [k_Desk_farAccessWord, hf, if_pos (by decide)]
          rw [ef, if_pos (show bI false = 0 by decide), k_Model_doWord_j129, if_neg (show ¬ (4 : Int32) = 0 by decide), k_Model_doWord_j152, if_pos (show (4 : Int32) - 4 / 4 * 4 = 0 by decide)]
          exact fin_rel h p _ _ _ _ _ _ _ (2, sm, sp, sk) ill_rel
        | true =>
          rw [if_neg (show ¬ bI true = 0 by decide), k_Model_doWord_j118]
          have e119 : ∀ v2 v3 v4 v5 v6 v7 : Int32, k_Model_doWord_j119 sm sp sk p v2 v3 v4 v5 v6 v7 0 = (-2, sm, sp, sk) := fun v2 v3 v4 v5 v6 v7 => by rw [k_Model_doWord_j119, if_pos rfl]
          have oth : RelD (DW p (-2, sx, sc, so, sa, shs, sgs, sy, sr)) (-2, sm, sp, sk) := by
            rw [DW, if_pos (show (-2 : Int32) < 0 by decide)]
            exact ⟨rfl, h⟩
          obtain ⟨v1, v2, v3⟩ := virtM h.1
          have a1 := h.1.1
          have eh := has_eq h.2.2.2.2.2.1 512
          rw [e119]
          rcases h.1.2.2.2.2.2 with e | e | e | e
          · cases hb : k_Model_has sm 512 with
            | false =>
              have ef : k_Desk_farAccessWord sx sc sy p = 2 := by rw [k_Desk_farAccessWord, hf, v2, a1, e, eh, hb, if_neg (by decide), if_pos (by decide), if_pos rfl, if_pos (by decide)]
              rw [ef, e, if_pos (show (0 : Int32) < 2 by decide), if_pos (show (0 : Int32) = 0 from rfl), if_pos (show bI false = 0 by decide), k_Model_doWord_j119, if_neg (by decide)]
              exact fin_rel h p _ _ _ _ _ _ _ (2, sm, sp, sk) ill_rel
            | true =>
              have ef : k_Desk_farAccessWord sx sc sy p = -2 := by rw [k_Desk_farAccessWord, hf, v2, a1, e, eh, hb, if_neg (by decide), if_pos (by decide), if_pos rfl, if_neg (by decide)]
              rw [ef, e, if_pos (show (0 : Int32) < 2 by decide), if_pos (show (0 : Int32) = 0 from rfl), if_neg (show ¬ bI true = 0 by decide)]
              exact oth
          · have ef : k_Desk_farAccessWord sx sc sy p = -2 := by rw [k_Desk_farAccessWord, hf, v2, a1, e, if_neg (by decide), if_pos (by decide), if_neg (by decide)]
            rw [ef, e, if_pos (show (1 : Int32) < 2 by decide), if_neg (show ¬ (1 : Int32) = 0 by decide)]
            exact oth
          · have ef : k_Desk_farAccessWord sx sc sy p = 22 := by rw [k_Desk_farAccessWord, hf, v2, e, if_neg (by decide), if_neg (by decide)]
            rw [ef, e, if_neg (show ¬ (2 : Int32) < 2 by decide), k_Model_doWord_j119, if_neg (by decide)]
            exact fin_rel h p _ _ _ _ _ _ _ (22, sm, sp, sk) (Or.inl ⟨Or.inr (Or.inr (Or.inr (Or.inr rfl))), rfl, rfl⟩)
          · have ef : k_Desk_farAccessWord sx sc sy p = 22 := by rw [k_Desk_farAccessWord, hf, v2, e, if_neg (by decide), if_neg (by decide)]
            rw [ef, e, if_neg (show ¬ (3 : Int32) < 2 by decide), k_Model_doWord_j119, if_neg (by decide)]
            exact fin_rel h p _ _ _ _ _ _ _ (22, sm, sp, sk) (Or.inl ⟨Or.inr (Or.inr (Or.inr (Or.inr rfl))), rfl, rfl⟩)
      · generalize hfe : (ush p 12) &&& 7 = f at ej
        have hf : f = 1 ∨ f = 2 ∨ f = 3 ∨ f = 5 ∨ f = 6 ∨ f = 7 := by
          rw [ej]
          rcases hj6 with rfl | rfl | rfl | rfl | rfl | rfl
          · exact Or.inl rfl
          · exact Or.inr (Or.inl rfl)
          · exact Or.inr (Or.inr (Or.inl rfl))
          · exact Or.inr (Or.inr (Or.inr (Or.inl rfl)))
          · exact Or.inr (Or.inr (Or.inr (Or.inr (Or.inl rfl))))
          · exact Or.inr (Or.inr (Or.inr (Or.inr (Or.inr rfl))))
        have f0 : ¬ f = 0 := by rcases hf with rfl | rfl | rfl | rfl | rfl | rfl <;> decide
        have f4 : ¬ f = 4 := by rcases hf with rfl | rfl | rfl | rfl | rfl | rfl <;> decide
        have fr : ¬ f - f / 4 * 4 = 0 := by rcases hf with rfl | rfl | rfl | rfl | rfl | rfl <;> decide
        have ep : k_Desk_perform sx sc so sa shs sgs sy sr p = ((k_Desk_controlWord sx sc so shs sgs sy sr p f).1, (k_Desk_controlWord sx sc so shs sgs sy sr p f).2.1, (k_Desk_controlWord sx sc so shs sgs sy sr p f).2.2.1, so, sa, (k_Desk_controlWord sx sc so shs sgs sy sr p f).2.2.2) := by rw [k_Desk_perform, if_pos op, hfe, if_neg f0, if_neg f4]
        rw [ep, if_neg f4, k_Model_doWord_j129, if_neg f0, k_Model_doWord_j152, if_neg fr]
        refine fin_rel h p _ _ _ _ _ _ _ ((k_Model_control sm sk f (k_Desk_fieldD p) (k_Desk_fieldA p) (ush p 20)).1, (k_Model_control sm sk f (k_Desk_fieldD p) (k_Desk_fieldA p) (ush p 20)).2.1, sp, (k_Model_control sm sk f (k_Desk_fieldD p) (k_Desk_fieldA p) (ush p 20)).2.2) ?_
        rcases ctl_rel h p f hf with ⟨s1, s2, s3⟩ | ⟨s1, s2, s3⟩
        · rw [s2]
          have s4 : (k_Model_control sm sk f (k_Desk_fieldD p) (k_Desk_fieldA p) (ush p 20)).2.1 = sm := by rw [s3]
          have s5 : (k_Model_control sm sk f (k_Desk_fieldD p) (k_Desk_fieldA p) (ush p 20)).2.2 = sk := by rw [s3]
          refine Or.inl ⟨?_, rfl, ?_⟩
          · rcases s1 with q | q
            · exact Or.inl q
            · exact Or.inr (Or.inr (Or.inr (Or.inr q)))
          · show (_, sp, _) = (sm, sp, sk)
            rw [s4, s5]
        · exact Or.inr ⟨s1, s2, s3⟩
    · have ep : k_Desk_perform sx sc so sa shs sgs sy sr p = (2, sx, sc, so, sa, shs, sgs, sy, sr) := by rw [k_Desk_perform, if_neg op]
      rw [ep, if_neg op]
      exact fin_rel h p _ _ _ _ _ _ _ (2, sm, sp, sk) ill_rel
end DOW
