/-! words of control registers, and all words -/
theorem sh_iff {p : Int32} (hk : k_Numbers_isKnown p = true) : (p >>> ((8 : Int32) &&& 31) = 1) ↔ k_Numbers_isOfS p = true := by
  rcases known_c hk with (rfl | rfl | rfl | rfl | rfl | rfl | rfl | rfl | rfl) | (rfl | rfl | rfl | rfl | rfl | rfl | rfl | rfl | rfl) | (rfl | rfl | rfl | rfl | rfl | rfl | rfl | rfl | rfl) | (rfl | rfl) <;> decide
theorem place_eq {p : Int32} (hk : k_Numbers_isKnown p = true) : k_Numbers_inVs p = if p >>> ((8 : Int32) &&& 31) = 1 then p + 256 else p := by
  rcases known_c hk with (rfl | rfl | rfl | rfl | rfl | rfl | rfl | rfl | rfl) | (rfl | rfl | rfl | rfl | rfl | rfl | rfl | rfl | rfl) | (rfl | rfl | rfl | rfl | rfl | rfl | rfl | rfl | rfl) | (rfl | rfl) <;> decide
theorem place_k {p : Int32} (hk : k_Numbers_isKnown p = true) : k_Numbers_isKnown (k_Numbers_inVs p) = true ∧ k_Numbers_isTime (k_Numbers_inVs p) = k_Numbers_isTime p := by
  rcases known_c hk with (rfl | rfl | rfl | rfl | rfl | rfl | rfl | rfl | rfl) | (rfl | rfl | rfl | rfl | rfl | rfl | rfl | rfl | rfl) | (rfl | rfl | rfl | rfl | rfl | rfl | rfl | rfl | rfl) | (rfl | rfl) <;> decide
def wrF (f a : Int32) : Bool := if f = 1 then true else (if f = 5 then true else (if a = 0 then false else true))
section CTL
variable {sx sc so : ob} {sa : Nat → Int32} {shs sgs sy sr sm : ob} {sp sk : Nat → Int32}
def RelK (sx sc so : ob) (sa : Nat → Int32) (shs sgs sy sr sm : ob) (sp sk : Nat → Int32) (u : Int32 × ob × ob × ob × ob × ob × ob) (w : Int32 × ob × (Nat → Int32)) : Prop :=
  ((w.1 = 2 ∨ w.1 = 22) ∧ u = (w.1, sx, sc, shs, sgs, sy, sr) ∧ w.2 = (sm, sk)) ∨ (w.1 = 0 ∧ u.1 = -1 ∧ Rel u.2.1 u.2.2.1 so sa u.2.2.2.1 u.2.2.2.2.1 u.2.2.2.2.2.1 u.2.2.2.2.2.2 (oi w.2.1 1 (w.2.1.1 1 + 4)) sp w.2.2)
theorem acc_rel (h : Rel sx sc so sa shs sgs sy sr sm sp sk) (p : Int32) (w : Bool) : (k_Model_access sm p w = 0 ∧ k_Desk_refusalOfAccess sx sc sy p w = -1 ∧ k_Numbers_isKnown p = true ∧ (w = true → k_Numbers_isTime p = false)) ∨ ((k_Model_access sm p w = 2 ∨ k_Model_access sm p w = 22) ∧ k_Desk_refusalOfAccess sx sc sy p w = k_Model_access sm p w) := by
  have a1 := h.1.1
  have eh := has_eq h.2.2.2.2.2.1 1048576
  cases hk : k_Numbers_isKnown p with
  | false =>
    have e1 : k_Desk_refusalOfAccess sx sc sy p w = 2 := by rw [k_Desk_refusalOfAccess, hk, if_pos (by decide)]
    have e2 : k_Model_access sm p w = 2 := by rw [k_Model_access, one_eq, hk, if_pos (by decide)]
    exact Or.inr ⟨Or.inl e2, e1.trans e2.symm⟩
  | true =>
    cases ht : k_Numbers_isTime p with
    | true =>
      cases w with
      | true =>
        have e1 : k_Desk_refusalOfAccess sx sc sy p true = 2 := by rw [k_Desk_refusalOfAccess, hk, ht, if_neg (by decide), if_neg (by decide), if_neg (by decide)]
        have e2 : k_Model_access sm p true = 2 := by rw [k_Model_access, one_eq, time_eq, hk, ht, if_neg (by decide), if_neg (by decide), if_neg (by decide)]
        exact Or.inr ⟨Or.inl e2, e1.trans e2.symm⟩
      | false =>
        have e1 : k_Desk_refusalOfAccess sx sc sy p false = -1 := by rw [k_Desk_refusalOfAccess, hk, ht, if_neg (by decide), if_neg (by decide), if_pos (by decide)]
        have e2 : k_Model_access sm p false = 0 := by
          rw [k_Model_access, one_eq, hk, if_neg (by decide), if_pos (by decide), k_Model_access_j20, time_eq, ht]
          by_cases q : sm.1 0 = 1
          · rw [if_pos q]
          · rw [if_neg q, if_neg (by decide)]
        exact Or.inl ⟨e2, e1, rfl, fun q => by cases q⟩
    | false =>
      have e20 : k_Model_access sm p w = k_Model_access_j20 sm p w := by
        rw [k_Model_access, one_eq, time_eq, hk, ht, if_neg (by decide), if_pos (show bI false = 0 by decide)]
        cases w <;> rfl
      rw [e20]
      rcases h.1.2.2.2.2.2 with e | e | e | e
      · have e1 : k_Desk_refusalOfAccess sx sc sy p w = 2 := by rw [k_Desk_refusalOfAccess, hk, ht, a1, e, if_neg (by decide), if_pos (by decide), if_pos rfl]
        have e2 : k_Model_access_j20 sm p w = 2 := by rw [k_Model_access_j20, time_eq, ht, e, if_neg (by decide), if_pos (by decide), if_pos rfl]
        exact Or.inr ⟨Or.inl e2, e1.trans e2.symm⟩
      · have e1 : k_Desk_refusalOfAccess sx sc sy p w = -1 := by rw [k_Desk_refusalOfAccess, hk, ht, a1, e, if_neg (by decide), if_pos (by decide), if_neg (by decide), if_pos rfl]
        have e2 : k_Model_access_j20 sm p w = 0 := by rw [k_Model_access_j20, e, if_pos rfl]
        exact Or.inl ⟨e2, e1, rfl, fun _ => rfl⟩
      · have e1 : k_Desk_refusalOfAccess sx sc sy p w = 22 := by rw [k_Desk_refusalOfAccess, hk, ht, a1, e, if_neg (by decide), if_pos (by decide), if_neg (by decide), if_neg (by decide), if_pos rfl]
        have e75 : ∀ b : Bool, k_Model_access_j75 sm p w b = 22 := fun b => by rw [k_Model_access_j75, e, if_neg (by decide)]
        have e2 : k_Model_access_j20 sm p w = 22 := by
          rw [k_Model_access_j20, k_Model_access_j70, k_Model_access_j74, e75, e75, time_eq, ht, e, if_neg (by decide), if_pos (by decide), if_neg (by decide)]
          split
          · split
            · split <;> rfl
            · rfl
          · rfl
        exact Or.inr ⟨Or.inr e2, e1.trans e2.symm⟩
      · have e75 : ∀ b : Bool, k_Model_access_j75 sm p w b = if bI b = 0 then 22 else 0 := fun b => by rw [k_Model_access_j75, e, if_pos rfl]
        have e1 : k_Desk_refusalOfAccess sx sc sy p w = if bI (k_Desk_isOpenToVs sx sc sy p) = 0 then 22 else -1 := by rw [k_Desk_refusalOfAccess, hk, ht, a1, e, if_neg (by decide), if_pos (by decide), if_neg (by decide), if_neg (by decide), if_neg (by decide), if_pos rfl]
        have e2 : k_Model_access_j20 sm p w = if bI (k_Desk_isOpenToVs sx sc sy p) = 0 then 22 else 0 := by
          rw [k_Model_access_j20, k_Model_access_j70, k_Model_access_j74, e75, e75, time_eq, ht, e, if_neg (by decide), if_pos (by decide), if_neg (by decide), k_Desk_isOpenToVs, eh]
          cases hs : k_Numbers_isOfS p with
          | true =>
            rw [if_pos ((sh_iff hk).mpr hs), if_neg (show ¬ bI true = 0 by decide)]
            by_cases q : p = 384
            · rw [if_pos q, if_pos q]
              cases k_Model_has sm 1048576 <;> rfl
            · rw [if_neg q, if_neg q]
              rfl
          | false =>
            have hn : ¬ p >>> ((8 : Int32) &&& 31) = 1 := fun q => by
              have := (sh_iff hk).mp q
              rw [hs] at this
              cases this
            rw [if_neg hn]
            rfl
        rw [e1, e2]
        cases k_Desk_isOpenToVs sx sc sy p with
        | true => exact Or.inl ⟨rfl, rfl, rfl, fun _ => rfl⟩
        | false => exact Or.inr ⟨Or.inr rfl, rfl⟩
theorem ctl83 (h : Rel sx sc so sa shs sgs sy sr sm sp sk) (p f : Int32) (hf : f = 1 ∨ f = 2 ∨ f = 3 ∨ f = 5 ∨ f = 6 ∨ f = 7) (v3 v4 v7 v6' P V a i : Int32) (w : Bool) (hk : k_Numbers_isKnown P = true) (ht : w = true → k_Numbers_isTime P = false) : RelK sx sc so sa shs sgs sy sr sm sp sk (k_Desk_controlWord_j89 sx sc so shs sgs sy sr p f v3 v4 (f &&& 3) w v7 P V) (k_Model_control_j83 sm sk f (k_Desk_fieldD p) a i w v6' P V) := by
  have er := rd h hk
  cases w with
  | false =>
    rw [k_Desk_controlWord_j89, if_pos (by decide), k_Desk_controlWord_j125, k_Model_control_j83, if_pos (by decide), k_Model_control_j141, er]
    exact Or.inr ⟨rfl, rfl, go4 (setX_rel h _ _)⟩
  | true =>
    have em : ∀ x, k_Model_control_j83 sm sk f (k_Desk_fieldD p) a i true v6' P x = (0, k_Model_setX (k_Model_write sm sk P (k_Desk_combined (f &&& 3) (k_Model_tells sm sk P) x)).1 (k_Desk_fieldD p) (k_Model_tells sm sk P), (k_Model_write sm sk P (k_Desk_combined (f &&& 3) (k_Model_tells sm sk P) x)).2) := by
      intro x
      rw [k_Model_control_j83, if_neg (by decide), k_Model_control_j138, k_Model_control_j138, k_Model_control_j138, k_Model_control_j141, k_Model_control_j141, k_Model_control_j141, k_Desk_combined]
      rcases hf with rfl | rfl | rfl | rfl | rfl | rfl
      · rw [if_pos (show (1 : Int32) - 1 / 4 * 4 = 1 by decide), if_pos (show (1 : Int32) &&& 3 = 1 by decide)]
      · rw [if_neg (show ¬ (2 : Int32) - 2 / 4 * 4 = 1 by decide), if_neg (show ¬ (2 : Int32) &&& 3 = 1 by decide), if_pos (show (2 : Int32) - 2 / 4 * 4 = 2 by decide), if_pos (show (2 : Int32) &&& 3 = 2 by decide)]
      · rw [if_neg (show ¬ (3 : Int32) - 3 / 4 * 4 = 1 by decide), if_neg (show ¬ (3 : Int32) &&& 3 = 1 by decide), if_neg (show ¬ (3 : Int32) - 3 / 4 * 4 = 2 by decide), if_neg (show ¬ (3 : Int32) &&& 3 = 2 by decide)]
      · rw [if_pos (show (5 : Int32) - 5 / 4 * 4 = 1 by decide), if_pos (show (5 : Int32) &&& 3 = 1 by decide)]
      · rw [if_neg (show ¬ (6 : Int32) - 6 / 4 * 4 = 1 by decide), if_neg (show ¬ (6 : Int32) &&& 3 = 1 by decide), if_pos (show (6 : Int32) - 6 / 4 * 4 = 2 by decide), if_pos (show (6 : Int32) &&& 3 = 2 by decide)]
      · rw [if_neg (show ¬ (7 : Int32) - 7 / 4 * 4 = 1 by decide), if_neg (show ¬ (7 : Int32) &&& 3 = 1 by decide), if_neg (show ¬ (7 : Int32) - 7 / 4 * 4 = 2 by decide), if_neg (show ¬ (7 : Int32) &&& 3 = 2 by decide)]
    rw [k_Desk_controlWord_j89, if_neg (by decide), k_Desk_controlWord_j125, em, er]
    exact Or.inr ⟨rfl, rfl, go4 (setX_rel (wr _ h hk (ht rfl)) _ _)⟩
theorem ctl67 (h : Rel sx sc so sa shs sgs sy sr sm sp sk) (p f : Int32) (hf : f = 1 ∨ f = 2 ∨ f = 3 ∨ f = 5 ∨ f = 6 ∨ f = 7) (v3 v7 v6' P i : Int32) (w : Bool) (hk : k_Numbers_isKnown P = true) (ht : w = true → k_Numbers_isTime P = false) : RelK sx sc so sa shs sgs sy sr sm sp sk (k_Desk_controlWord_j68 sx sc so shs sgs sy sr p f v3 (k_Desk_fieldA p) (f &&& 3) w v7 P) (k_Model_control_j67 sm sk f (k_Desk_fieldD p) (k_Desk_fieldA p) i w v6' P) := by
  rw [k_Desk_controlWord_j68, k_Model_control_j67, x_eq h.2.2.2.2.2.2.1]
  by_cases q : f ≤ 4
  · rw [if_pos q, if_pos q]
    exact ctl83 h p f hf _ _ _ _ _ _ _ _ w hk ht
  · rw [if_neg q, if_neg q]
    exact ctl83 h p f hf _ _ _ _ _ _ _ _ w hk ht
theorem ctl_rel (h : Rel sx sc so sa shs sgs sy sr sm sp sk) (p f : Int32) (hf : f = 1 ∨ f = 2 ∨ f = 3 ∨ f = 5 ∨ f = 6 ∨ f = 7) : RelK sx sc so sa shs sgs sy sr sm sp sk (k_Desk_controlWord sx sc so shs sgs sy sr p f) (k_Model_control sm sk f (k_Desk_fieldD p) (k_Desk_fieldA p) (ush p 20)) := by
  have e1 : k_Desk_controlWord sx sc so shs sgs sy sr p f = k_Desk_controlWord_j32 sx sc so shs sgs sy sr p f (ush p 20) (k_Desk_fieldA p) (f &&& 3) (wrF f (k_Desk_fieldA p)) := by
    rw [k_Desk_controlWord, k_Desk_controlWord_j27, wrF]
    rcases hf with rfl | rfl | rfl | rfl | rfl | rfl
    · rw [if_pos (show (1 : Int32) &&& 3 = 1 by decide), if_pos (show (1 : Int32) = 1 from rfl)]
    · rw [if_neg (show ¬ (2 : Int32) &&& 3 = 1 by decide), if_neg (show ¬ (2 : Int32) = 1 by decide), if_neg (show ¬ (2 : Int32) = 5 by decide)]
      by_cases q : k_Desk_fieldA p = 0
      · rw [if_pos q, if_pos q]
      · rw [if_neg q, if_neg q]
    · rw [if_neg (show ¬ (3 : Int32) &&& 3 = 1 by decide), if_neg (show ¬ (3 : Int32) = 1 by decide), if_neg (show ¬ (3 : Int32) = 5 by decide)]
      by_cases q : k_Desk_fieldA p = 0
      · rw [if_pos q, if_pos q]
      · rw [if_neg q, if_neg q]
    · rw [if_pos (show (5 : Int32) &&& 3 = 1 by decide), if_neg (show ¬ (5 : Int32) = 1 by decide), if_pos (show (5 : Int32) = 5 from rfl)]
    · rw [if_neg (show ¬ (6 : Int32) &&& 3 = 1 by decide), if_neg (show ¬ (6 : Int32) = 1 by decide), if_neg (show ¬ (6 : Int32) = 5 by decide)]
      by_cases q : k_Desk_fieldA p = 0
      · rw [if_pos q, if_pos q]
      · rw [if_neg q, if_neg q]
    · rw [if_neg (show ¬ (7 : Int32) &&& 3 = 1 by decide), if_neg (show ¬ (7 : Int32) = 1 by decide), if_neg (show ¬ (7 : Int32) = 5 by decide)]
      by_cases q : k_Desk_fieldA p = 0
      · rw [if_pos q, if_pos q]
      · rw [if_neg q, if_neg q]
  have e2 : k_Model_control sm sk f (k_Desk_fieldD p) (k_Desk_fieldA p) (ush p 20) = k_Model_control_j19 sm sk f (k_Desk_fieldD p) (k_Desk_fieldA p) (ush p 20) (wrF f (k_Desk_fieldA p)) := by
    rw [k_Model_control, k_Model_control_j14, wrF]
    by_cases q1 : f = 1
    · rw [if_pos q1, if_pos q1]
    · rw [if_neg q1, if_neg q1]
      by_cases q5 : f = 5
      · rw [if_pos q5, if_pos q5]
      · rw [if_neg q5, if_neg q5]
        by_cases q : k_Desk_fieldA p = 0
        · rw [if_pos q, if_pos q]
        · rw [if_neg q, if_neg q]
  rw [e1, e2]
  generalize wrF f (k_Desk_fieldA p) = w
  rw [k_Desk_controlWord_j32, k_Model_control_j19, k_Model_control_j65]
  rcases acc_rel h (ush p 20) w with ⟨c1, c2, c3, c4⟩ | ⟨c1, c2⟩
  · rw [c2, c1, if_pos rfl, if_pos (show (0 : Int32) ≤ 0 by decide), h.1.1]
    by_cases q : sm.1 0 = 3
    · rw [if_pos q, if_pos q, place_eq c3]
      obtain ⟨k1, k2⟩ := place_k c3
      rw [place_eq c3] at k1 k2
      by_cases q8 : ush p 20 >>> ((8 : Int32) &&& 31) = 1
      · rw [if_pos q8] at k1 k2
        rw [if_pos q8, if_pos q8]
        exact ctl67 h p f hf _ _ _ _ _ w k1 (fun z => k2.trans (c4 z))
      · rw [if_neg q8, if_neg q8]
        exact ctl67 h p f hf _ _ _ _ _ w c3 c4
    · rw [if_neg q, if_neg q]
      exact ctl67 h p f hf _ _ _ _ _ w c3 c4
  · have n1 : ¬ k_Model_access sm (ush p 20) w = -1 := by rcases c1 with q | q <;> rw [q] <;> decide
    have n2 : ¬ k_Model_access sm (ush p 20) w ≤ 0 := by rcases c1 with q | q <;> rw [q] <;> decide
    rw [c2, if_neg n1, if_neg n2]
    exact Or.inl ⟨c1, rfl, rfl⟩
end CTL
