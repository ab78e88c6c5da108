/-! the relation of the class's state and the reference's -/
def RX (sx sm : ob) : Prop := sx.1 3 = sm.1 0 ∧ sx.1 4 = sm.1 1 ∧ sx.1 5 = sm.1 11 ∧ sx.1 6 = sm.1 12 ∧ sx.1 7 = sm.1 13 ∧ (sm.1 0 = 0 ∨ sm.1 0 = 1 ∨ sm.1 0 = 2 ∨ sm.1 0 = 3)
def RC (sc : ob) (sk : Nat → Int32) : Prop := sc.1 4 = sk 4 ∧ sc.1 5 = sk 68 ∧ sk 4 &&& 546 = sk 4 ∧ sk 68 &&& 2 = sk 68
def RO (so sm : ob) : Prop := so.1 1 = sm.1 9 ∧ so.2.1 2 = sm.2.1 2 ∧ so.2.1 3 = sm.2.1 3 ∧ so.2.2 4 = sm.2.2 4 ∧ so.2.2 5 = sm.2.2 10 ∧ ¬ sm.1 9 < 0 ∧ sm.1 9 ≤ 256
def RB (sb : ob) (sk : Nat → Int32) (b : Nat) : Prop := sb.1 0 = sk b ∧ sb.1 1 = sk (b + 5) ∧ sb.1 2 = sk (b + 64) ∧ sb.1 3 = sk (b + 65) ∧ sb.1 4 = sk (b + 66) ∧ sb.1 5 = sk (b + 67) ∧ sb.1 6 = sk (b + 128)
def RH (sy sm : ob) : Prop := sy.1 0 = sm.1 15 ∧ sy.1 1 = sm.1 16 ∧ sy.1 2 = sm.1 17 ∧ sy.1 3 = sm.1 18 ∧ sy.1 4 = sm.1 19 ∧ sy.1 5 = sm.1 20 ∧ sy.1 6 = sm.1 21 ∧ sy.1 7 = sm.1 22 ∧ sm.1 17 &&& 1092 = sm.1 17 ∧ sm.1 20 &&& 1092 = sm.1 20
def RR (sr sm : ob) : Prop := sr.1 0 = sm.1 5 ∧ sr.1 1 = sm.1 6 ∧ sr.1 2 = sm.1 7
def RA (sa sp : Nat → Int32) (sm : ob) : Prop := ∀ j : Nat, j < 256 → (j : Int) < (sm.1 9).toInt → sa j &&& 255 = sp j
def Rel (sx sc so : ob) (sa : Nat → Int32) (shs sgs sy sr sm : ob) (sp sk : Nat → Int32) : Prop :=
  RX sx sm ∧ RC sc sk ∧ RO so sm ∧ RB shs sk 0 ∧ RB sgs sk 256 ∧ RH sy sm ∧ RR sr sm ∧ RA sa sp sm
section REL
variable {sx sc so : ob} {sa : Nat → Int32} {shs sgs sy sr sm : ob} {sp sk : Nat → Int32}
theorem rel_mode (h : Rel sx sc so sa shs sgs sy sr sm sp sk) (p1 : Int32) : (k_Desk_mode sx p1).1 = (k_Model_mode sm p1).1 ∧ Rel (k_Desk_mode sx p1).2 sc so sa shs sgs sy sr (k_Model_mode sm p1).2 sp sk := by
  by_cases h1 : p1 < 0
  · have e1 : k_Desk_mode sx p1 = (-1, sx) := by rw [k_Desk_mode, if_pos h1]
    have e2 : k_Model_mode sm p1 = (-1, sm) := by rw [k_Model_mode, if_pos h1]
    rw [e1, e2]
    exact ⟨rfl, h⟩
  · by_cases h2 : p1 ≤ 3
    · have e1 : k_Desk_mode sx p1 = (sx.1 3, oi sx 3 p1) := by rw [k_Desk_mode, if_neg h1, if_pos h2]
      have e2 : k_Model_mode sm p1 = (sm.1 0, oi sm 0 p1) := by rw [k_Model_mode, if_neg h1, if_pos h2]
      rw [e1, e2]
      obtain ⟨⟨a1, a2, a3, a4, a5, a6⟩, hC, hO, hB, hG, hH, hR, hA⟩ := h
      have h3 : p1 = 0 ∨ p1 = 1 ∨ p1 = 2 ∨ p1 = 3 := by
        obtain ⟨j, hj, rfl⟩ := nI_of2 (M := 3) (n := 3) (by decide) h1 h2
        have : j = 0 ∨ j = 1 ∨ j = 2 ∨ j = 3 := by omega
        rcases this with rfl | rfl | rfl | rfl
        · exact Or.inl rfl
        · exact Or.inr (Or.inl rfl)
        · exact Or.inr (Or.inr (Or.inl rfl))
        · exact Or.inr (Or.inr (Or.inr rfl))
      exact ⟨a1, ⟨rfl, a2, a3, a4, a5, h3⟩, hC, hO, hB, hG, hH, hR, hA⟩
    · have e1 : k_Desk_mode sx p1 = (-1, sx) := by rw [k_Desk_mode, if_neg h1, if_neg h2]
      have e2 : k_Model_mode sm p1 = (-1, sm) := by rw [k_Model_mode, if_neg h1, if_neg h2]
      rw [e1, e2]
      exact ⟨rfl, h⟩
theorem rem4 (x : Int32) : x - x / 4 * 4 = 0 ↔ x &&& 3 = 0 := by
  have hx := Int32.le_toInt x
  have hx2 := Int32.toInt_lt x
  have h4 : (4 : Int32).toInt = 4 := by decide
  have hq : x.toInt.tdiv 4 = if 0 ≤ x.toInt then x.toInt / 4 else -((-x.toInt) / 4) := by
    split
    · rename_i h
      exact Int.tdiv_eq_ediv_of_nonneg h
    · rename_i h
      have h2 : (-x.toInt).tdiv 4 = (-x.toInt) / 4 := Int.tdiv_eq_ediv_of_nonneg (by omega)
      rw [Int.neg_tdiv] at h2
      omega
  have hd : (x / 4).toInt = x.toInt.tdiv 4 := by
    rw [Int32.toInt_div, h4]
    split at hq <;> (apply Int.bmod_eq_of_le <;> omega)
  have hm : (x / 4 * 4).toInt = x.toInt.tdiv 4 * 4 := by
    rw [Int32.toInt_mul, hd, h4]
    split at hq <;> (apply Int.bmod_eq_of_le <;> omega)
  have hs : (x - x / 4 * 4).toInt = x.toInt - x.toInt.tdiv 4 * 4 := by
    rw [Int32.toInt_sub, hm]
    split at hq <;> (apply Int.bmod_eq_of_le <;> omega)
  have ht : (x.toInt : Int) = if 2 * x.toBitVec.toNat < 2 ^ 32 then (x.toBitVec.toNat : Int) else (x.toBitVec.toNat : Int) - 2 ^ 32 := BitVec.toInt_eq_toNat_cond x.toBitVec
  have hl := x.toBitVec.isLt
  rw [← Int32.toInt_inj, hs, pk_and x 2 (by decide), show ((0 : Int32) = nI 0) from rfl, nI_toInt (by decide), nI_eq (by omega) (by decide)]
  constructor
  · intro q
    split at ht <;> split at hq <;> omega
  · intro q
    split at ht <;> split at hq <;> omega
theorem rel_go (h : Rel sx sc so sa shs sgs sy sr sm sp sk) (p1 : Int32) : (k_Desk_go sx p1).1 = (k_Model_go sm p1).1 ∧ Rel (k_Desk_go sx p1).2 sc so sa shs sgs sy sr (k_Model_go sm p1).2 sp sk := by
  by_cases h1 : p1 &&& 3 = 0
  · have e1 : k_Desk_go sx p1 = (0, oi sx 4 p1) := by rw [k_Desk_go, if_pos h1]
    have e2 : k_Model_go sm p1 = (0, oi sm 1 p1) := by rw [k_Model_go, if_pos ((rem4 p1).mpr h1)]
    rw [e1, e2]
    obtain ⟨⟨a1, a2, a3, a4, a5, a6⟩, hC, hO, hB, hG, hH, hR, hA⟩ := h
    exact ⟨rfl, ⟨a1, rfl, a3, a4, a5, a6⟩, hC, hO, hB, hG, hH, hR, hA⟩
  · have e1 : k_Desk_go sx p1 = (-1, sx) := by rw [k_Desk_go, if_neg h1]
    have e2 : k_Model_go sm p1 = (-1, sm) := by rw [k_Model_go, if_neg (fun q => h1 ((rem4 p1).mp q))]
    rw [e1, e2]
    exact ⟨rfl, h⟩
theorem rel_time (h : Rel sx sc so sa shs sgs sy sr sm sp sk) (p1 : Int64) : (k_Desk_time sx so p1).1 = (k_Model_time sm p1).1 ∧ Rel sx sc (k_Desk_time sx so p1).2 sa shs sgs sy sr (k_Model_time sm p1).2 sp sk := by
  by_cases h1 : 0 ≤ lg_cmp p1 0
  · have e1 : k_Desk_time sx so p1 = (so.2.1 2, ol so 2 p1) := by rw [k_Desk_time, if_pos h1]
    have e2 : k_Model_time sm p1 = (sm.2.1 2, ol sm 2 p1) := by rw [k_Model_time, if_pos h1]
    rw [e1, e2]
    obtain ⟨hX, hC, ⟨a1, a2, a3, a4, a5, a6, a7⟩, hB, hG, hH, hR, hA⟩ := h
    exact ⟨a2, hX, hC, ⟨a1, rfl, a3, a4, a5, a6, a7⟩, hB, hG, hH, hR, hA⟩
  · have e1 : k_Desk_time sx so p1 = (-1, so) := by rw [k_Desk_time, if_neg h1]
    have e2 : k_Model_time sm p1 = (-1, sm) := by rw [k_Model_time, if_neg h1]
    rw [e1, e2]
    exact ⟨rfl, h⟩
theorem rel_line (h : Rel sx sc so sa shs sgs sy sr sm sp sk) (p1 : Bool) : bI (k_Desk_line sx so p1).1 = bI (k_Model_line sm p1).1 ∧ Rel sx sc (k_Desk_line sx so p1).2 sa shs sgs sy sr (k_Model_line sm p1).2 sp sk := by
  rw [k_Desk_line, k_Model_line]
  obtain ⟨hX, hC, ⟨a1, a2, a3, a4, a5, a6, a7⟩, hB, hG, hH, hR, hA⟩ := h
  exact ⟨congrArg bI a4, hX, hC, ⟨a1, a2, a3, rfl, a5, a6, a7⟩, hB, hG, hH, hR, hA⟩
theorem x_eq (h : RR sr sm) (p1 : Int32) : k_Registers_read sr p1 = k_Model_x sm p1 := by
  obtain ⟨a1, a2, a3⟩ := h
  by_cases h1 : p1 = 10
  · rw [k_Registers_read, k_Model_x, if_pos h1, if_pos h1]; exact a1
  · by_cases h2 : p1 = 11
    · rw [k_Registers_read, k_Model_x, if_neg h1, if_neg h1, if_pos h2, if_pos h2]; exact a2
    · by_cases h3 : p1 = 17
      · rw [k_Registers_read, k_Model_x, if_neg h1, if_neg h1, if_neg h2, if_neg h2, if_pos h3, if_pos h3]; exact a3
      · rw [k_Registers_read, k_Model_x, if_neg h1, if_neg h1, if_neg h2, if_neg h2, if_neg h3, if_neg h3]
theorem setX_rel (h : Rel sx sc so sa shs sgs sy sr sm sp sk) (p1 p2 : Int32) : Rel sx sc so sa shs sgs sy (k_Registers_write sr p1 p2) (k_Model_setX sm p1 p2) sp sk := by
  obtain ⟨hX, hC, hO, hB, hG, hH, ⟨a1, a2, a3⟩, hA⟩ := h
  by_cases h1 : p1 = 10
  · have h2 : ¬ p1 = 11 := by rw [h1]; decide
    have h3 : ¬ p1 = 17 := by rw [h1]; decide
    rw [k_Registers_write, if_pos h1, k_Model_setX, if_pos h1, k_Model_setX_j15, if_neg h2, k_Model_setX_j33, if_neg h3]
    exact ⟨hX, hC, hO, hB, hG, hH, ⟨rfl, a2, a3⟩, hA⟩
  · by_cases h2 : p1 = 11
    · have h3 : ¬ p1 = 17 := by rw [h2]; decide
      rw [k_Registers_write, if_neg h1, if_pos h2, k_Model_setX, if_neg h1, k_Model_setX_j15, if_pos h2, k_Model_setX_j33, if_neg h3]
      exact ⟨hX, hC, hO, hB, hG, hH, ⟨a1, rfl, a3⟩, hA⟩
    · by_cases h3 : p1 = 17
      · rw [k_Registers_write, if_neg h1, if_neg h2, if_pos h3, k_Model_setX, if_neg h1, k_Model_setX_j15, if_neg h2, k_Model_setX_j33, if_pos h3]
        exact ⟨hX, hC, hO, hB, hG, hH, ⟨a1, a2, rfl⟩, hA⟩
      · rw [k_Registers_write, if_neg h1, if_neg h2, if_neg h3, k_Model_setX, if_neg h1, k_Model_setX_j15, if_neg h2, k_Model_setX_j33, if_neg h3]
        exact ⟨hX, hC, hO, hB, hG, hH, ⟨a1, a2, a3⟩, hA⟩
theorem rel_set (h : Rel sx sc so sa shs sgs sy sr sm sp sk) (p1 p2 : Int32) : (k_Desk_set sx sr p1 p2).1 = (k_Model_set sm p1 p2).1 ∧ Rel sx sc so sa shs sgs sy (k_Desk_set sx sr p1 p2).2 (k_Model_set sm p1 p2).2 sp sk := by
  rw [k_Desk_set, k_Model_set]
  exact ⟨x_eq h.2.2.2.2.2.2.1 p1, setX_rel h p1 p2⟩
theorem rel_register (h : Rel sx sc so sa shs sgs sy sr sm sp sk) (p1 : Int32) : k_Desk_register sx sr p1 = k_Model_register sm p1 ∧ Rel sx sc so sa shs sgs sy sr sm sp sk := by
  rw [k_Desk_register, k_Model_register]
  exact ⟨x_eq h.2.2.2.2.2.2.1 p1, h⟩
theorem hi32 (a : Int64) : (lush a 32).toInt32 = (lshr a 32).toInt32 := l32 (n := 32) (by decide +kernel) (by decide +kernel) (by decide)
theorem rel_count (h : Rel sx sc so sa shs sgs sy sr sm sp sk) (p1 : Int32) : k_Desk_count sx so p1 = k_Model_count sm p1 ∧ Rel sx sc so sa shs sgs sy sr sm sp sk := by
  refine ⟨?_, h⟩
  obtain ⟨⟨a1, a2, a3, a4, a5, a6⟩, hC, ⟨b1, b2, b3, b4, b5, b6, b7⟩, hB, hG, hH, hR, hA⟩ := h
  rw [k_Desk_count, k_Model_count, a1, a2, a3, a4, a5, b1, b3, b5, hi32]
theorem rel_console (h : Rel sx sc so sa shs sgs sy sr sm sp sk) (p1 : Int32) : k_Desk_console sx so sa p1 = k_Model_console sm sp p1 ∧ Rel sx sc so sa shs sgs sy sr sm sp sk := by
  refine ⟨?_, h⟩
  obtain ⟨hX, hC, ⟨b1, b2, b3, b4, b5, b6, b7⟩, hB, hG, hH, hR, hA⟩ := h
  rw [k_Desk_console, k_Outside_printedByte, k_Model_console, b1]
  by_cases h1 : p1 < 0
  · rw [if_pos h1, if_pos h1]
  · rw [if_neg h1, if_neg h1]
    by_cases h2 : sm.1 9 ≤ p1
    · rw [if_pos h2, if_pos h2]
    · have hin := in256b h1 h2 b7
      have h3 : p1 < 256 := by
        rw [Int32.le_iff_toInt_le] at h2 b7
        rw [Int32.lt_iff_toInt_lt]
        omega
      rw [if_neg h2, if_neg h2, if_pos h3]
      obtain ⟨j, hj, rfl⟩ := vp_in_of hin (by decide)
      rw [nI_clamp (by omega)]
      refine hA j hj ?_
      rw [Int32.le_iff_toInt_le, nI_toInt (by omega)] at h2
      omega
theorem rel_begin (h : Rel sx sc so sa shs sgs sy sr sm sp sk) : Rel (k_Desk_begin sx sc so shs sgs sy sr).1 (k_Desk_begin sx sc so shs sgs sy sr).2.1 (k_Desk_begin sx sc so shs sgs sy sr).2.2.1 sa (k_Desk_begin sx sc so shs sgs sy sr).2.2.2.1 (k_Desk_begin sx sc so shs sgs sy sr).2.2.2.2.1 (k_Desk_begin sx sc so shs sgs sy sr).2.2.2.2.2.1 (k_Desk_begin sx sc so shs sgs sy sr).2.2.2.2.2.2 (k_Model_begin sm sk).1 sp (k_Model_begin sm sk).2 := by
  refine ⟨⟨rfl, rfl, rfl, rfl, rfl, Or.inr (Or.inl rfl)⟩, ⟨rfl, rfl, (show (0 : Int32) &&& 546 = 0 by decide), (show (0 : Int32) &&& 2 = 0 by decide)⟩, ⟨rfl, rfl, rfl, rfl, rfl, (show ¬ (0 : Int32) < 0 by decide), (show (0 : Int32) ≤ 256 by decide)⟩, ⟨rfl, rfl, rfl, rfl, rfl, rfl, rfl⟩, ⟨rfl, rfl, rfl, rfl, rfl, rfl, rfl⟩, ⟨rfl, rfl, rfl, rfl, rfl, rfl, rfl, rfl, (show (0 : Int32) &&& 1092 = 0 by decide), (show (0 : Int32) &&& 1092 = 0 by decide)⟩, ⟨rfl, rfl, rfl⟩, ?_⟩
  intro j hj h2
  exact absurd h2 (Int.not_lt.mpr (Int.natCast_nonneg j))
end REL
