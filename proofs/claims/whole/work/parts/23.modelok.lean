/-! where the reference's cells are asked: places in range -/
theorem bI_t {b : Bool} (h : ¬ bI b = 0) : b = true := by
  cases b with
  | true => rfl
  | false => exact absurd rfl h
theorem bI_e {b : Bool} (h : bI b = 0) : b = false := by
  cases b with
  | true => exact absurd h (by decide)
  | false => rfl
theorem in256b {x n : Int32} (h0 : ¬ x < 0) (h : ¬ n ≤ x) (hn : n ≤ 256) : vp_in x 256 := by
  refine in256 h0 (fun q => h ?_)
  rw [Int32.le_iff_toInt_le] at hn q ⊢
  omega
theorem shr8 {p : Int32} {k : Nat} (h : p >>> (8 &&& 31) = nI k) (hk : k < 1048576) : ∃ n : Nat, p = nI n ∧ 256 * k ≤ n ∧ n < 256 * k + 256 := by
  have h1 := pk_shr p (8 &&& 31) 8 (by decide)
  rw [h, nI_toInt (by omega), Int.shiftRight_eq_div_pow] at h1
  have h2 : ¬ p < 0 := by
    rw [Int32.lt_iff_toInt_lt]
    have : (0 : Int32).toInt = 0 := by decide
    omega
  obtain ⟨j, hj, rfl⟩ := nI_of h2
  rw [nI_toInt hj] at h1
  exact ⟨j, rfl, by omega, by omega⟩
theorem rng1 {p : Int32} (h : p >>> (8 &&& 31) = 1) : vp_in (p - 256) 512 := by
  obtain ⟨n, rfl, h1, h2⟩ := shr8 (k := 1) h (by decide)
  rw [show (256 : Int32) = nI 256 from rfl, pk_sub (by omega)]
  exact vp_in_nI (by omega) (by decide)
theorem rng2 {p : Int32} (h : p >>> (8 &&& 31) = 2) : vp_in (p - 256) 512 := by
  obtain ⟨n, rfl, h1, h2⟩ := shr8 (k := 2) h (by decide)
  rw [show (256 : Int32) = nI 256 from rfl, pk_sub (by omega)]
  exact vp_in_nI (by omega) (by decide)
theorem rngs {p : Int32} (h : p >>> (8 &&& 31) = 1) : vp_in (p + 256 - 256) 512 := by
  obtain ⟨n, rfl, h1, h2⟩ := shr8 (k := 1) h (by decide)
  rw [show (256 : Int32) = nI 256 from rfl, nI_add, pk_sub (by omega)]
  exact vp_in_nI (by omega) (by decide)
def okT (p : Int32) : Prop := ¬ p = 1536 → ¬ p = 1538 → ¬ p = 1539 → ¬ p = 1540 → ¬ p = 1603 → ¬ p = 1604 → ¬ p = 1605 → ¬ p = 1610 → ¬ p = 1664 → ¬ p = 3073 → ¬ p = 3201 → vp_in (p - 256) 512
def okW (p : Int32) : Prop := ¬ p = 1536 → ¬ p = 1538 → ¬ p = 1539 → ¬ p = 1540 → ¬ p = 1603 → ¬ p = 1604 → ¬ p = 1605 → ¬ p = 1610 → ¬ p = 1664 → vp_in (p - 256) 512
theorem isOne_cases {p : Int32} (h : ¬ bI (k_Model_isOne p) = 0) : (p >>> (8 &&& 31) = 1 ∨ p >>> (8 &&& 31) = 2) ∨ k_Model_isH p = true ∨ k_Model_isTime p = true := by
  by_cases h1 : p >>> (8 &&& 31) = 1
  · exact Or.inl (Or.inl h1)
  · by_cases h2 : p >>> (8 &&& 31) = 2
    · exact Or.inl (Or.inr h2)
    · right
      rw [k_Model_isOne, if_neg h1, if_neg h2, k_Model_isOne_j26] at h
      cases hH : k_Model_isH p with
      | true => exact Or.inl rfl
      | false =>
        cases hT : k_Model_isTime p with
        | true => exact Or.inr rfl
        | false =>
          rw [hH, hT] at h
          exact absurd (by decide) h
theorem isH_no {p : Int32} (c1 : ¬ p = 1536) (c2 : ¬ p = 1538) (c3 : ¬ p = 1539) (c4 : ¬ p = 1540) (c5 : ¬ p = 1603) (c6 : ¬ p = 1604) (c7 : ¬ p = 1605) (c8 : ¬ p = 1610) (c9 : ¬ p = 1664) : k_Model_isH p = false := by
  rw [k_Model_isH, if_neg c1, if_neg c2, if_neg c3, if_neg c4, if_neg c5, if_neg c6, if_neg c7, if_neg c8, if_neg c9]
theorem okT_of {p : Int32} (h : ¬ bI (k_Model_isOne p) = 0) : okT p := by
  intro c1 c2 c3 c4 c5 c6 c7 c8 c9 c10 c11
  rcases isOne_cases h with (h1 | h1) | h1 | h1
  · exact rng1 h1
  · exact rng2 h1
  · rw [isH_no c1 c2 c3 c4 c5 c6 c7 c8 c9] at h1
    cases h1
  · rw [k_Model_isTime, if_neg c10, if_neg c11] at h1
    cases h1
theorem okW_of {p : Int32} (h : ¬ bI (k_Model_isOne p) = 0) (ht : bI (k_Model_isTime p) = 0) : okW p := by
  intro c1 c2 c3 c4 c5 c6 c7 c8 c9
  rcases isOne_cases h with (h1 | h1) | h1 | h1
  · exact rng1 h1
  · exact rng2 h1
  · rw [isH_no c1 c2 c3 c4 c5 c6 c7 c8 c9] at h1
    cases h1
  · rw [h1] at ht
    exact absurd ht (by decide)
theorem okT_acc {sm : ob} {p : Int32} {w : Bool} (c : k_Model_access sm p w ≤ 0) : okT p := by
  by_cases h : bI (k_Model_isOne p) = 0
  · rw [k_Model_access, if_pos h] at c
    exact absurd c (by decide)
  · exact okT_of h
theorem okW_acc {sm : ob} {p : Int32} {w : Bool} (c : k_Model_access sm p w ≤ 0) : w = true → okW p := by
  intro hw
  subst hw
  by_cases h : bI (k_Model_isOne p) = 0
  · rw [k_Model_access, if_pos h] at c
    exact absurd c (by decide)
  · by_cases ht : bI (k_Model_isTime p) = 0
    · exact okW_of h ht
    · rw [k_Model_access, if_neg h, if_neg (by decide), if_neg ht] at c
      exact absurd c (by decide)
theorem okT_sh {p : Int32} (h : p >>> (8 &&& 31) = 1) : okT (p + 256) := fun _ _ _ _ _ _ _ _ _ _ _ => rngs h
theorem okW_sh {p : Int32} (h : p >>> (8 &&& 31) = 1) : okW (p + 256) := fun _ _ _ _ _ _ _ _ _ => rngs h
