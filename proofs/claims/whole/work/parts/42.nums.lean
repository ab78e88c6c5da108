/-! the numbers of control registers; reading and writing them -/
theorem sp8 (p : Int32) : (p &&& (-256)) ||| (p &&& 255) = p := by
  apply b_ext
  intro i hi
  rw [b_or, b_and, b_and]
  exact (by decide +kernel : ∀ i, i < 32 → ∀ b : Bool, (b && bt (-256) i || b && bt 255 i) = b) i hi (bt p i)
theorem aa (x c : Int32) : x &&& c &&& c = x &&& c := by
  apply b_ext
  intro i hi
  rw [b_and, b_and]
  cases bt x i <;> cases bt c i <;> rfl
theorem aa4 (x : Int32) : x &&& 4 &&& 1092 = x &&& 4 := by
  apply b_ext
  intro i hi
  rw [b_and, b_and]
  exact (by decide +kernel : ∀ i, i < 32 → ∀ b : Bool, (b && bt 4 i && bt 1092 i) = (b && bt 4 i)) i hi (bt x i)
theorem vk {x : Int32} (u : Int32) (hx : x &&& 1092 = x) (hu : u &&& 1092 = u) : ((x &&& (-5)) ||| u) &&& 1092 = (x &&& (-5)) ||| u := by
  apply b_ext
  intro i hi
  have h1 : bt x i = (bt x i && bt 1092 i) := by rw [← b_and, hx]
  have h2 : bt u i = (bt u i && bt 1092 i) := by rw [← b_and, hu]
  rw [b_and, b_or, b_and]
  revert h1 h2
  cases bt x i <;> cases bt u i <;> cases bt 1092 i <;> cases bt (-5) i <;> decide
theorem isOf_eq (b p : Int32) : k_Numbers_isOf b p = (decide (p &&& (-256) = b) && k_Numbers_isKind (p &&& 255)) := by
  rw [k_Numbers_isOf, k_Numbers_kindOf]
  by_cases h : p &&& (-256) = b
  · rw [if_pos h, decide_eq_true h, Bool.true_and]
    cases k_Numbers_isKind (p &&& 255) <;> rfl
  · rw [if_neg h, decide_eq_false h, Bool.false_and]
theorem known_eq (p : Int32) : k_Numbers_isKnown p = (k_Numbers_isOfS p || k_Numbers_isOfVs p || k_Numbers_isOfH p || k_Numbers_isTime p) := by
  rw [k_Numbers_isKnown]
  cases k_Numbers_isOfS p <;> cases k_Numbers_isOfVs p <;> cases k_Numbers_isOfH p <;> cases k_Numbers_isTime p <;> rfl
theorem hi1 (p : Int32) : p >>> ((8 : Int32) &&& 31) = 1 ↔ p &&& (-256) = 256 := by
  constructor
  · intro h
    obtain ⟨n, rfl, h1, h2⟩ := shr8 (k := 1) h (by decide)
    exact (by decide +kernel : ∀ n, n < 512 → 256 * 1 ≤ n → nI n &&& (-256) = 256) n (by omega) h1
  · intro h
    obtain ⟨j, hj, ej⟩ := pk_andE p (m := 255) 8 (by decide)
    rw [← sp8 p, h, ej]
    exact (by decide +kernel : ∀ j, j < 2 ^ 8 → ((256 : Int32) ||| nI j) >>> ((8 : Int32) &&& 31) = 1) j hj
theorem hi2 (p : Int32) : p >>> ((8 : Int32) &&& 31) = 2 ↔ p &&& (-256) = 512 := by
  constructor
  · intro h
    obtain ⟨n, rfl, h1, h2⟩ := shr8 (k := 2) h (by decide)
    exact (by decide +kernel : ∀ n, n < 768 → 256 * 2 ≤ n → nI n &&& (-256) = 512) n (by omega) h1
  · intro h
    obtain ⟨j, hj, ej⟩ := pk_andE p (m := 255) 8 (by decide)
    rw [← sp8 p, h, ej]
    exact (by decide +kernel : ∀ j, j < 2 ^ 8 → ((512 : Int32) ||| nI j) >>> ((8 : Int32) &&& 31) = 2) j hj
theorem kind_eq (p : Int32) : k_Model_isKind (p &&& 255) = k_Numbers_isKind (p &&& 255) := by
  obtain ⟨j, hj, ej⟩ := pk_andE p (m := 255) 8 (by decide)
  rw [ej]
  exact (by decide +kernel : ∀ j, j < 2 ^ 8 → k_Model_isKind (nI j) = k_Numbers_isKind (nI j)) j hj
theorem time_eq (p : Int32) : k_Model_isTime p = k_Numbers_isTime p := by rw [k_Model_isTime, k_Numbers_isTime]
theorem one_eq (p : Int32) : k_Model_isOne p = k_Numbers_isKnown p := by
  rw [known_eq, k_Numbers_isOfS, k_Numbers_isOfVs, isOf_eq, isOf_eq, ← kind_eq, ← time_eq, show k_Numbers_isOfH p = k_Model_isH p by rw [k_Model_isH, k_Numbers_isOfH], k_Model_isOne]
  by_cases h1 : p >>> ((8 : Int32) &&& 31) = 1
  · have h2 : ¬ p &&& (-256) = 512 := by rw [(hi1 p).mp h1]; decide
    rw [if_pos h1, decide_eq_true ((hi1 p).mp h1), decide_eq_false h2, k_Model_isOne_j15, k_Model_isOne_j26]
    cases k_Model_isKind (p &&& 255) <;> cases k_Model_isH p <;> cases k_Model_isTime p <;> rfl
  · rw [if_neg h1, decide_eq_false (mt (hi1 p).mpr h1)]
    by_cases h2 : p >>> ((8 : Int32) &&& 31) = 2
    · rw [if_pos h2, decide_eq_true ((hi2 p).mp h2), k_Model_isOne_j15, k_Model_isOne_j26]
      cases k_Model_isKind (p &&& 255) <;> cases k_Model_isH p <;> cases k_Model_isTime p <;> rfl
    · rw [if_neg h2, decide_eq_false (mt (hi2 p).mpr h2), k_Model_isOne_j26]
      cases k_Model_isKind (p &&& 255) <;> cases k_Model_isH p <;> cases k_Model_isTime p <;> rfl
theorem kind_c {k : Int32} (h : k_Numbers_isKind k = true) : k = 0 ∨ k = 4 ∨ k = 5 ∨ k = 64 ∨ k = 65 ∨ k = 66 ∨ k = 67 ∨ k = 68 ∨ k = 128 := by
  by_cases h0 : k = 0
  · exact Or.inl h0
  by_cases h1 : k = 4
  · exact Or.inr (Or.inl h1)
  by_cases h2 : k = 5
  · exact Or.inr (Or.inr (Or.inl h2))
  by_cases h3 : k = 64
  · exact Or.inr (Or.inr (Or.inr (Or.inl h3)))
  by_cases h4 : k = 65
  · exact Or.inr (Or.inr (Or.inr (Or.inr (Or.inl h4))))
  by_cases h5 : k = 66
  · exact Or.inr (Or.inr (Or.inr (Or.inr (Or.inr (Or.inl h5)))))
  by_cases h6 : k = 67
  · exact Or.inr (Or.inr (Or.inr (Or.inr (Or.inr (Or.inr (Or.inl h6))))))
  by_cases h7 : k = 68
  · exact Or.inr (Or.inr (Or.inr (Or.inr (Or.inr (Or.inr (Or.inr (Or.inl h7)))))))
  by_cases h8 : k = 128
  · exact Or.inr (Or.inr (Or.inr (Or.inr (Or.inr (Or.inr (Or.inr (Or.inr (h8))))))))
  rw [k_Numbers_isKind, if_neg h0, if_neg h1, if_neg h2, if_neg h3, if_neg h4, if_neg h5, if_neg h6, if_neg h7, if_neg h8] at h
  cases h
theorem isH_c {p : Int32} (h : k_Numbers_isOfH p = true) : p = 1536 ∨ p = 1538 ∨ p = 1539 ∨ p = 1540 ∨ p = 1603 ∨ p = 1604 ∨ p = 1605 ∨ p = 1610 ∨ p = 1664 := by
  by_cases h0 : p = 1536
  · exact Or.inl h0
  by_cases h1 : p = 1538
  · exact Or.inr (Or.inl h1)
  by_cases h2 : p = 1539
  · exact Or.inr (Or.inr (Or.inl h2))
  by_cases h3 : p = 1540
  · exact Or.inr (Or.inr (Or.inr (Or.inl h3)))
  by_cases h4 : p = 1603
  · exact Or.inr (Or.inr (Or.inr (Or.inr (Or.inl h4))))
  by_cases h5 : p = 1604
  · exact Or.inr (Or.inr (Or.inr (Or.inr (Or.inr (Or.inl h5)))))
  by_cases h6 : p = 1605
  · exact Or.inr (Or.inr (Or.inr (Or.inr (Or.inr (Or.inr (Or.inl h6))))))
  by_cases h7 : p = 1610
  · exact Or.inr (Or.inr (Or.inr (Or.inr (Or.inr (Or.inr (Or.inr (Or.inl h7)))))))
  by_cases h8 : p = 1664
  · exact Or.inr (Or.inr (Or.inr (Or.inr (Or.inr (Or.inr (Or.inr (Or.inr (h8))))))))
  rw [k_Numbers_isOfH, if_neg h0, if_neg h1, if_neg h2, if_neg h3, if_neg h4, if_neg h5, if_neg h6, if_neg h7, if_neg h8] at h
  cases h
theorem isT_c {p : Int32} (h : k_Numbers_isTime p = true) : p = 3073 ∨ p = 3201 := by
  by_cases h0 : p = 3073
  · exact Or.inl h0
  by_cases h1 : p = 3201
  · exact Or.inr (h1)
  rw [k_Numbers_isTime, if_neg h0, if_neg h1] at h
  cases h
theorem isS_c {p : Int32} (h : k_Numbers_isOf 256 p = true) : p = 256 ∨ p = 260 ∨ p = 261 ∨ p = 320 ∨ p = 321 ∨ p = 322 ∨ p = 323 ∨ p = 324 ∨ p = 384 := by
  rw [isOf_eq, Bool.and_eq_true, decide_eq_true_eq] at h
  obtain ⟨h1, h2⟩ := h
  rw [← sp8 p, h1]
  rcases kind_c h2 with e | e | e | e | e | e | e | e | e <;> rw [e] <;> decide
theorem isV_c {p : Int32} (h : k_Numbers_isOf 512 p = true) : p = 512 ∨ p = 516 ∨ p = 517 ∨ p = 576 ∨ p = 577 ∨ p = 578 ∨ p = 579 ∨ p = 580 ∨ p = 640 := by
  rw [isOf_eq, Bool.and_eq_true, decide_eq_true_eq] at h
  obtain ⟨h1, h2⟩ := h
  rw [← sp8 p, h1]
  rcases kind_c h2 with e | e | e | e | e | e | e | e | e <;> rw [e] <;> decide
theorem known_c {p : Int32} (h : k_Numbers_isKnown p = true) : (p = 256 ∨ p = 260 ∨ p = 261 ∨ p = 320 ∨ p = 321 ∨ p = 322 ∨ p = 323 ∨ p = 324 ∨ p = 384) ∨ (p = 512 ∨ p = 516 ∨ p = 517 ∨ p = 576 ∨ p = 577 ∨ p = 578 ∨ p = 579 ∨ p = 580 ∨ p = 640) ∨ (p = 1536 ∨ p = 1538 ∨ p = 1539 ∨ p = 1540 ∨ p = 1603 ∨ p = 1604 ∨ p = 1605 ∨ p = 1610 ∨ p = 1664) ∨ (p = 3073 ∨ p = 3201) := by
  rw [known_eq, Bool.or_eq_true, Bool.or_eq_true, Bool.or_eq_true] at h
  rcases h with ((h | h) | h) | h
  · exact Or.inl (isS_c h)
  · exact Or.inr (Or.inl (isV_c h))
  · exact Or.inr (Or.inr (Or.inl (isH_c h)))
  · exact Or.inr (Or.inr (Or.inr (isT_c h)))
section NUM
variable {sx sc so : ob} {sa : Nat → Int32} {shs sgs sy sr sm : ob} {sp sk : Nat → Int32}
theorem sip_eq (hC : RC sc sk) (hO : RO so sm) : k_Controls_hostIp sc so = k_Model_sip sm sk := by
  obtain ⟨c1, c2, c3, c4⟩ := hC
  obtain ⟨o1, o2, o3, o4, o5, o6, o7⟩ := hO
  have e : k_Outside_alarmRings so = if lg_cmp (sm.2.1 2) (sm.2.1 3) < 0 then false else true := by rw [k_Outside_alarmRings, o2, o3]
  by_cases h1 : lg_cmp (sm.2.1 2) (sm.2.1 3) < 0
  · rw [if_pos h1] at e
    rw [k_Controls_hostIp, e, if_pos (by decide), k_Model_sip, if_pos h1, k_Controls_hostIp_j16, k_Model_sip_j27, o4, k_Controls_hostIp_j34, k_Controls_hostIp_j34, c2, c4]
  · rw [if_neg h1] at e
    rw [k_Controls_hostIp, e, if_neg (by decide), k_Model_sip, if_neg h1, k_Controls_hostIp_j16, k_Model_sip_j27, o4, k_Controls_hostIp_j34, k_Controls_hostIp_j34, c2, c4]
set_option maxHeartbeats 4000000 in
theorem rd {p : Int32} (h : Rel sx sc so sa shs sgs sy sr sm sp sk) (hk : k_Numbers_isKnown p = true) : k_Controls_read sc so shs sgs sy p = k_Model_tells sm sk p := by
  obtain ⟨hX, ⟨c1, c2, c3, c4⟩, hO, ⟨b1, b2, b3, b4, b5, b6, b7⟩, ⟨g1, g2, g3, g4, g5, g6, g7⟩, ⟨y1, y2, y3, y4, y5, y6, y7, y8, y9, y10⟩, hR, hA⟩ := h
  have o2 := hO.2.1
  rcases known_c hk with (rfl | rfl | rfl | rfl | rfl | rfl | rfl | rfl | rfl) | (rfl | rfl | rfl | rfl | rfl | rfl | rfl | rfl | rfl) | (rfl | rfl | rfl | rfl | rfl | rfl | rfl | rfl | rfl) | (rfl | rfl)
  · rw [k_Controls_read, if_neg (by decide), k_Controls_readHost, if_neg (by decide), if_neg (by decide), k_Bank_read, if_pos (by decide)]
    rw [k_Model_tells, if_neg (by decide), if_neg (by decide), if_neg (by decide), if_neg (by decide), if_neg (by decide), if_neg (by decide), if_neg (by decide), if_neg (by decide), if_neg (by decide), if_neg (by decide), if_neg (by decide), if_neg (by decide), if_neg (by decide), if_neg (by decide), show ((256 : Int32) - 256).toNatClampNeg = 0 from by decide]
    exact b1
  · rw [k_Controls_read, if_neg (by decide), k_Controls_readHost, if_pos (by decide)]
    rw [k_Model_tells, if_neg (by decide), if_neg (by decide), if_neg (by decide), if_neg (by decide), if_neg (by decide), if_neg (by decide), if_neg (by decide), if_neg (by decide), if_neg (by decide), if_neg (by decide), if_neg (by decide), if_neg (by decide), if_neg (by decide), if_neg (by decide), show ((260 : Int32) - 256).toNatClampNeg = 4 from by decide]
    exact c1
  · rw [k_Controls_read, if_neg (by decide), k_Controls_readHost, if_neg (by decide), if_neg (by decide), k_Bank_read, if_neg (by decide), if_pos (by decide)]
    rw [k_Model_tells, if_neg (by decide), if_neg (by decide), if_neg (by decide), if_neg (by decide), if_neg (by decide), if_neg (by decide), if_neg (by decide), if_neg (by decide), if_neg (by decide), if_neg (by decide), if_neg (by decide), if_neg (by decide), if_neg (by decide), if_neg (by decide), show ((261 : Int32) - 256).toNatClampNeg = 5 from by decide]
    exact b2
  · rw [k_Controls_read, if_neg (by decide), k_Controls_readHost, if_neg (by decide), if_neg (by decide), k_Bank_read, if_neg (by decide), if_neg (by decide), if_pos (by decide)]
    rw [k_Model_tells, if_neg (by decide), if_neg (by decide), if_neg (by decide), if_neg (by decide), if_neg (by decide), if_neg (by decide), if_neg (by decide), if_neg (by decide), if_neg (by decide), if_neg (by decide), if_neg (by decide), if_neg (by decide), if_neg (by decide), if_neg (by decide), show ((320 : Int32) - 256).toNatClampNeg = 64 from by decide]
    exact b3
  · rw [k_Controls_read, if_neg (by decide), k_Controls_readHost, if_neg (by decide), if_neg (by decide), k_Bank_read, if_neg (by decide), if_neg (by decide), if_neg (by decide), if_pos (by decide)]
    rw [k_Model_tells, if_neg (by decide), if_neg (by decide), if_neg (by decide), if_neg (by decide), if_neg (by decide), if_neg (by decide), if_neg (by decide), if_neg (by decide), if_neg (by decide), if_neg (by decide), if_neg (by decide), if_neg (by decide), if_neg (by decide), if_neg (by decide), show ((321 : Int32) - 256).toNatClampNeg = 65 from by decide]
    exact b4
  · rw [k_Controls_read, if_neg (by decide), k_Controls_readHost, if_neg (by decide), if_neg (by decide), k_Bank_read, if_neg (by decide), if_neg (by decide), if_neg (by decide), if_neg (by decide), if_pos (by decide)]
    rw [k_Model_tells, if_neg (by decide), if_neg (by decide), if_neg (by decide), if_neg (by decide), if_neg (by decide), if_neg (by decide), if_neg (by decide), if_neg (by decide), if_neg (by decide), if_neg (by decide), if_neg (by decide), if_neg (by decide), if_neg (by decide), if_neg (by decide), show ((322 : Int32) - 256).toNatClampNeg = 66 from by decide]
    exact b5
  · rw [k_Controls_read, if_neg (by decide), k_Controls_readHost, if_neg (by decide), if_neg (by decide), k_Bank_read, if_neg (by decide), if_neg (by decide), if_neg (by decide), if_neg (by decide), if_neg (by decide), if_pos (by decide)]
    rw [k_Model_tells, if_neg (by decide), if_neg (by decide), if_neg (by decide), if_neg (by decide), if_neg (by decide), if_neg (by decide), if_neg (by decide), if_neg (by decide), if_neg (by decide), if_neg (by decide), if_neg (by decide), if_neg (by decide), if_neg (by decide), if_neg (by decide), show ((323 : Int32) - 256).toNatClampNeg = 67 from by decide]
    exact b6
  · rw [k_Controls_read, if_neg (by decide), k_Controls_readHost, if_neg (by decide), if_pos (by decide)]
    rw [k_Model_tells, if_pos (by decide)]
    exact sip_eq ⟨c1, c2, c3, c4⟩ hO
  · rw [k_Controls_read, if_neg (by decide), k_Controls_readHost, if_neg (by decide), if_neg (by decide), k_Bank_read, if_neg (by decide), if_neg (by decide), if_neg (by decide), if_neg (by decide), if_neg (by decide), if_neg (by decide), if_pos (by decide)]
    rw [k_Model_tells, if_neg (by decide), if_neg (by decide), if_neg (by decide), if_neg (by decide), if_neg (by decide), if_neg (by decide), if_neg (by decide), if_neg (by decide), if_neg (by decide), if_neg (by decide), if_neg (by decide), if_neg (by decide), if_neg (by decide), if_neg (by decide), show ((384 : Int32) - 256).toNatClampNeg = 128 from by decide]
    exact b7
  · rw [k_Controls_read, if_pos (by decide), if_neg (by decide), k_Controls_readGuest, if_neg (by decide), if_neg (by decide), k_Bank_read, if_pos (by decide)]
    rw [k_Model_tells, if_neg (by decide), if_neg (by decide), if_neg (by decide), if_neg (by decide), if_neg (by decide), if_neg (by decide), if_neg (by decide), if_neg (by decide), if_neg (by decide), if_neg (by decide), if_neg (by decide), if_neg (by decide), if_neg (by decide), if_neg (by decide), show ((512 : Int32) - 256).toNatClampNeg = 256 from by decide]
    exact g1
  · rw [k_Controls_read, if_pos (by decide), if_neg (by decide), k_Controls_readGuest, if_pos (by decide), k_Hyper_guestIe]
    rw [k_Model_tells, if_neg (by decide), if_pos (by decide)]
    rw [y4, y3]
  · rw [k_Controls_read, if_pos (by decide), if_neg (by decide), k_Controls_readGuest, if_neg (by decide), if_neg (by decide), k_Bank_read, if_neg (by decide), if_pos (by decide)]
    rw [k_Model_tells, if_neg (by decide), if_neg (by decide), if_neg (by decide), if_neg (by decide), if_neg (by decide), if_neg (by decide), if_neg (by decide), if_neg (by decide), if_neg (by decide), if_neg (by decide), if_neg (by decide), if_neg (by decide), if_neg (by decide), if_neg (by decide), show ((517 : Int32) - 256).toNatClampNeg = 261 from by decide]
    exact g2
  · rw [k_Controls_read, if_pos (by decide), if_neg (by decide), k_Controls_readGuest, if_neg (by decide), if_neg (by decide), k_Bank_read, if_neg (by decide), if_neg (by decide), if_pos (by decide)]
    rw [k_Model_tells, if_neg (by decide), if_neg (by decide), if_neg (by decide), if_neg (by decide), if_neg (by decide), if_neg (by decide), if_neg (by decide), if_neg (by decide), if_neg (by decide), if_neg (by decide), if_neg (by decide), if_neg (by decide), if_neg (by decide), if_neg (by decide), show ((576 : Int32) - 256).toNatClampNeg = 320 from by decide]
    exact g3
  · rw [k_Controls_read, if_pos (by decide), if_neg (by decide), k_Controls_readGuest, if_neg (by decide), if_neg (by decide), k_Bank_read, if_neg (by decide), if_neg (by decide), if_neg (by decide), if_pos (by decide)]
    rw [k_Model_tells, if_neg (by decide), if_neg (by decide), if_neg (by decide), if_neg (by decide), if_neg (by decide), if_neg (by decide), if_neg (by decide), if_neg (by decide), if_neg (by decide), if_neg (by decide), if_neg (by decide), if_neg (by decide), if_neg (by decide), if_neg (by decide), show ((577 : Int32) - 256).toNatClampNeg = 321 from by decide]
    exact g4
  · rw [k_Controls_read, if_pos (by decide), if_neg (by decide), k_Controls_readGuest, if_neg (by decide), if_neg (by decide), k_Bank_read, if_neg (by decide), if_neg (by decide), if_neg (by decide), if_neg (by decide), if_pos (by decide)]
    rw [k_Model_tells, if_neg (by decide), if_neg (by decide), if_neg (by decide), if_neg (by decide), if_neg (by decide), if_neg (by decide), if_neg (by decide), if_neg (by decide), if_neg (by decide), if_neg (by decide), if_neg (by decide), if_neg (by decide), if_neg (by decide), if_neg (by decide), show ((578 : Int32) - 256).toNatClampNeg = 322 from by decide]
    exact g5
  · rw [k_Controls_read, if_pos (by decide), if_neg (by decide), k_Controls_readGuest, if_neg (by decide), if_neg (by decide), k_Bank_read, if_neg (by decide), if_neg (by decide), if_neg (by decide), if_neg (by decide), if_neg (by decide), if_pos (by decide)]
    rw [k_Model_tells, if_neg (by decide), if_neg (by decide), if_neg (by decide), if_neg (by decide), if_neg (by decide), if_neg (by decide), if_neg (by decide), if_neg (by decide), if_neg (by decide), if_neg (by decide), if_neg (by decide), if_neg (by decide), if_neg (by decide), if_neg (by decide), show ((579 : Int32) - 256).toNatClampNeg = 323 from by decide]
    exact g6
  · rw [k_Controls_read, if_pos (by decide), if_neg (by decide), k_Controls_readGuest, if_neg (by decide), if_pos (by decide), k_Hyper_guestIp]
    rw [k_Model_tells, if_neg (by decide), if_neg (by decide), if_pos (by decide)]
    rw [y6, y3]
  · rw [k_Controls_read, if_pos (by decide), if_neg (by decide), k_Controls_readGuest, if_neg (by decide), if_neg (by decide), k_Bank_read, if_neg (by decide), if_neg (by decide), if_neg (by decide), if_neg (by decide), if_neg (by decide), if_neg (by decide), if_pos (by decide)]
    rw [k_Model_tells, if_neg (by decide), if_neg (by decide), if_neg (by decide), if_neg (by decide), if_neg (by decide), if_neg (by decide), if_neg (by decide), if_neg (by decide), if_neg (by decide), if_neg (by decide), if_neg (by decide), if_neg (by decide), if_neg (by decide), if_neg (by decide), show ((640 : Int32) - 256).toNatClampNeg = 384 from by decide]
    exact g7
  · rw [k_Controls_read, if_pos (by decide), if_pos (by decide), if_neg (by decide), if_neg (by decide), k_Hyper_read, if_pos (by decide)]
    rw [k_Model_tells, if_neg (by decide), if_neg (by decide), if_neg (by decide), if_pos (by decide)]
    exact y1
  · rw [k_Controls_read, if_pos (by decide), if_pos (by decide), if_neg (by decide), if_neg (by decide), k_Hyper_read, if_neg (by decide), if_pos (by decide)]
    rw [k_Model_tells, if_neg (by decide), if_neg (by decide), if_neg (by decide), if_neg (by decide), if_pos (by decide)]
    exact y2
  · rw [k_Controls_read, if_pos (by decide), if_pos (by decide), if_neg (by decide), if_neg (by decide), k_Hyper_read, if_neg (by decide), if_neg (by decide), if_pos (by decide)]
    rw [k_Model_tells, if_neg (by decide), if_neg (by decide), if_neg (by decide), if_neg (by decide), if_neg (by decide), if_pos (by decide)]
    exact y3
  · rw [k_Controls_read, if_pos (by decide), if_pos (by decide), if_neg (by decide), if_neg (by decide), k_Hyper_read, if_neg (by decide), if_neg (by decide), if_neg (by decide), if_pos (by decide)]
    rw [k_Model_tells, if_neg (by decide), if_neg (by decide), if_neg (by decide), if_neg (by decide), if_neg (by decide), if_neg (by decide), if_pos (by decide)]
    exact y4
  · rw [k_Controls_read, if_pos (by decide), if_pos (by decide), if_neg (by decide), if_neg (by decide), k_Hyper_read, if_neg (by decide), if_neg (by decide), if_neg (by decide), if_neg (by decide), if_pos (by decide)]
    rw [k_Model_tells, if_neg (by decide), if_neg (by decide), if_neg (by decide), if_neg (by decide), if_neg (by decide), if_neg (by decide), if_neg (by decide), if_pos (by decide)]
    exact y5
  · rw [k_Controls_read, if_pos (by decide), if_pos (by decide), if_neg (by decide), if_neg (by decide), k_Hyper_read, if_neg (by decide), if_neg (by decide), if_neg (by decide), if_neg (by decide), if_neg (by decide), if_pos (by decide)]
    rw [k_Model_tells, if_neg (by decide), if_neg (by decide), if_neg (by decide), if_neg (by decide), if_neg (by decide), if_neg (by decide), if_neg (by decide), if_neg (by decide), if_pos (by decide)]
    exact y6
  · rw [k_Controls_read, if_pos (by decide), if_pos (by decide), if_neg (by decide), if_neg (by decide), k_Hyper_read, if_neg (by decide), if_neg (by decide), if_neg (by decide), if_neg (by decide), if_neg (by decide), if_neg (by decide), if_pos (by decide)]
    rw [k_Model_tells, if_neg (by decide), if_neg (by decide), if_neg (by decide), if_neg (by decide), if_neg (by decide), if_neg (by decide), if_neg (by decide), if_neg (by decide), if_neg (by decide), if_pos (by decide)]
    exact y6
  · rw [k_Controls_read, if_pos (by decide), if_pos (by decide), if_neg (by decide), if_neg (by decide), k_Hyper_read, if_neg (by decide), if_neg (by decide), if_neg (by decide), if_neg (by decide), if_neg (by decide), if_neg (by decide), if_neg (by decide), if_pos (by decide)]
    rw [k_Model_tells, if_neg (by decide), if_neg (by decide), if_neg (by decide), if_neg (by decide), if_neg (by decide), if_neg (by decide), if_neg (by decide), if_neg (by decide), if_neg (by decide), if_neg (by decide), if_pos (by decide)]
    exact y7
  · rw [k_Controls_read, if_pos (by decide), if_pos (by decide), if_neg (by decide), if_neg (by decide), k_Hyper_read, if_neg (by decide), if_neg (by decide), if_neg (by decide), if_neg (by decide), if_neg (by decide), if_neg (by decide), if_neg (by decide), if_neg (by decide), if_pos (by decide)]
    rw [k_Model_tells, if_neg (by decide), if_neg (by decide), if_neg (by decide), if_neg (by decide), if_neg (by decide), if_neg (by decide), if_neg (by decide), if_neg (by decide), if_neg (by decide), if_neg (by decide), if_neg (by decide), if_pos (by decide)]
    exact y8
  · rw [k_Controls_read, if_pos (by decide), if_pos (by decide), if_pos (by decide)]
    rw [k_Model_tells, if_neg (by decide), if_neg (by decide), if_neg (by decide), if_neg (by decide), if_neg (by decide), if_neg (by decide), if_neg (by decide), if_neg (by decide), if_neg (by decide), if_neg (by decide), if_neg (by decide), if_neg (by decide), if_pos (by decide)]
    rw [o2]
  · rw [k_Controls_read, if_pos (by decide), if_pos (by decide), if_neg (by decide), if_pos (by decide)]
    rw [k_Model_tells, if_neg (by decide), if_neg (by decide), if_neg (by decide), if_neg (by decide), if_neg (by decide), if_neg (by decide), if_neg (by decide), if_neg (by decide), if_neg (by decide), if_neg (by decide), if_neg (by decide), if_neg (by decide), if_neg (by decide), if_pos (by decide)]
    rw [o2, hi32]
set_option maxHeartbeats 4000000 in
theorem wr {p : Int32} (v : Int32) (h : Rel sx sc so sa shs sgs sy sr sm sp sk) (hk : k_Numbers_isKnown p = true) (ht : k_Numbers_isTime p = false) : Rel sx (k_Controls_write sc shs sgs sy p v).1 so sa (k_Controls_write sc shs sgs sy p v).2.1 (k_Controls_write sc shs sgs sy p v).2.2.1 (k_Controls_write sc shs sgs sy p v).2.2.2 sr (k_Model_write sm sk p v).1 sp (k_Model_write sm sk p v).2 := by
  obtain ⟨hX, ⟨c1, c2, c3, c4⟩, hO, ⟨b1, b2, b3, b4, b5, b6, b7⟩, ⟨g1, g2, g3, g4, g5, g6, g7⟩, ⟨y1, y2, y3, y4, y5, y6, y7, y8, y9, y10⟩, hR, hA⟩ := h
  rcases known_c hk with (rfl | rfl | rfl | rfl | rfl | rfl | rfl | rfl | rfl) | (rfl | rfl | rfl | rfl | rfl | rfl | rfl | rfl | rfl) | (rfl | rfl | rfl | rfl | rfl | rfl | rfl | rfl | rfl) | (rfl | rfl)
  · have e1 : k_Controls_write sc shs sgs sy 256 v = (sc, oi shs 0 (v &&& 786722), sgs, sy) := by rw [k_Controls_write, if_neg (by decide), k_Controls_writeHost, if_neg (by decide), if_neg (by decide), k_Bank_write, if_pos (by decide)]
    have e2 : k_Model_write sm sk 256 v = (sm, upd sk 0 (v &&& 786722)) := by rw [k_Model_write, if_neg (by decide), if_neg (by decide), if_neg (by decide), if_neg (by decide), if_neg (by decide), if_neg (by decide), if_neg (by decide), if_neg (by decide), if_neg (by decide), if_neg (by decide), if_neg (by decide), k_Model_keeps, if_pos (by decide), show ((256 : Int32) - 256).toNatClampNeg = 0 from by decide]
    rw [e1, e2]
    exact ⟨hX, ⟨c1, c2, c3, c4⟩, hO, ⟨rfl, b2, b3, b4, b5, b6, b7⟩, ⟨g1, g2, g3, g4, g5, g6, g7⟩, ⟨y1, y2, y3, y4, y5, y6, y7, y8, y9, y10⟩, hR, hA⟩
  · have e1 : k_Controls_write sc shs sgs sy 260 v = (oi sc 4 (v &&& 546), shs, sgs, sy) := by rw [k_Controls_write, if_neg (by decide), k_Controls_writeHost, if_pos (by decide)]
    have e2 : k_Model_write sm sk 260 v = (sm, upd sk 4 (v &&& 546)) := by rw [k_Model_write, if_neg (by decide), if_neg (by decide), if_neg (by decide), if_neg (by decide), if_neg (by decide), if_neg (by decide), if_neg (by decide), if_neg (by decide), if_neg (by decide), if_neg (by decide), if_neg (by decide), k_Model_keeps, if_neg (by decide), if_pos (by decide), show ((260 : Int32) - 256).toNatClampNeg = 4 from by decide]
    rw [e1, e2]
    exact ⟨hX, ⟨rfl, c2, (aa v 546), c4⟩, hO, ⟨b1, b2, b3, b4, b5, b6, b7⟩, ⟨g1, g2, g3, g4, g5, g6, g7⟩, ⟨y1, y2, y3, y4, y5, y6, y7, y8, y9, y10⟩, hR, hA⟩
  · have e1 : k_Controls_write sc shs sgs sy 261 v = (sc, oi shs 1 (v &&& (-3)), sgs, sy) := by rw [k_Controls_write, if_neg (by decide), k_Controls_writeHost, if_neg (by decide), if_neg (by decide), k_Bank_write, if_neg (by decide), if_pos (by decide)]
    have e2 : k_Model_write sm sk 261 v = (sm, upd sk 5 (v &&& (-3))) := by rw [k_Model_write, if_neg (by decide), if_neg (by decide), if_neg (by decide), if_neg (by decide), if_neg (by decide), if_neg (by decide), if_neg (by decide), if_neg (by decide), if_neg (by decide), if_neg (by decide), if_neg (by decide), k_Model_keeps, if_neg (by decide), if_neg (by decide), if_pos (by decide), show ((261 : Int32) - 256).toNatClampNeg = 5 from by decide]
    rw [e1, e2]
    exact ⟨hX, ⟨c1, c2, c3, c4⟩, hO, ⟨b1, rfl, b3, b4, b5, b6, b7⟩, ⟨g1, g2, g3, g4, g5, g6, g7⟩, ⟨y1, y2, y3, y4, y5, y6, y7, y8, y9, y10⟩, hR, hA⟩
  · have e1 : k_Controls_write sc shs sgs sy 320 v = (sc, oi shs 2 v, sgs, sy) := by rw [k_Controls_write, if_neg (by decide), k_Controls_writeHost, if_neg (by decide), if_neg (by decide), k_Bank_write, if_neg (by decide), if_neg (by decide), if_pos (by decide)]
    have e2 : k_Model_write sm sk 320 v = (sm, upd sk 64 v) := by rw [k_Model_write, if_neg (by decide), if_neg (by decide), if_neg (by decide), if_neg (by decide), if_neg (by decide), if_neg (by decide), if_neg (by decide), if_neg (by decide), if_neg (by decide), if_neg (by decide), if_neg (by decide), k_Model_keeps, if_neg (by decide), if_neg (by decide), if_neg (by decide), if_neg (by decide), if_neg (by decide), if_neg (by decide), show ((320 : Int32) - 256).toNatClampNeg = 64 from by decide]
    rw [e1, e2]
    exact ⟨hX, ⟨c1, c2, c3, c4⟩, hO, ⟨b1, b2, rfl, b4, b5, b6, b7⟩, ⟨g1, g2, g3, g4, g5, g6, g7⟩, ⟨y1, y2, y3, y4, y5, y6, y7, y8, y9, y10⟩, hR, hA⟩
  · have e1 : k_Controls_write sc shs sgs sy 321 v = (sc, oi shs 3 (v &&& (-4)), sgs, sy) := by rw [k_Controls_write, if_neg (by decide), k_Controls_writeHost, if_neg (by decide), if_neg (by decide), k_Bank_write, if_neg (by decide), if_neg (by decide), if_neg (by decide), if_pos (by decide)]
    have e2 : k_Model_write sm sk 321 v = (sm, upd sk 65 (v &&& (-4))) := by rw [k_Model_write, if_neg (by decide), if_neg (by decide), if_neg (by decide), if_neg (by decide), if_neg (by decide), if_neg (by decide), if_neg (by decide), if_neg (by decide), if_neg (by decide), if_neg (by decide), if_neg (by decide), k_Model_keeps, if_neg (by decide), if_neg (by decide), if_neg (by decide), if_pos (by decide), show ((321 : Int32) - 256).toNatClampNeg = 65 from by decide]
    rw [e1, e2]
    exact ⟨hX, ⟨c1, c2, c3, c4⟩, hO, ⟨b1, b2, b3, rfl, b5, b6, b7⟩, ⟨g1, g2, g3, g4, g5, g6, g7⟩, ⟨y1, y2, y3, y4, y5, y6, y7, y8, y9, y10⟩, hR, hA⟩
  · have e1 : k_Controls_write sc shs sgs sy 322 v = (sc, oi shs 4 v, sgs, sy) := by rw [k_Controls_write, if_neg (by decide), k_Controls_writeHost, if_neg (by decide), if_neg (by decide), k_Bank_write, if_neg (by decide), if_neg (by decide), if_neg (by decide), if_neg (by decide), if_pos (by decide)]
    have e2 : k_Model_write sm sk 322 v = (sm, upd sk 66 v) := by rw [k_Model_write, if_neg (by decide), if_neg (by decide), if_neg (by decide), if_neg (by decide), if_neg (by decide), if_neg (by decide), if_neg (by decide), if_neg (by decide), if_neg (by decide), if_neg (by decide), if_neg (by decide), k_Model_keeps, if_neg (by decide), if_neg (by decide), if_neg (by decide), if_neg (by decide), if_neg (by decide), if_neg (by decide), show ((322 : Int32) - 256).toNatClampNeg = 66 from by decide]
    rw [e1, e2]
    exact ⟨hX, ⟨c1, c2, c3, c4⟩, hO, ⟨b1, b2, b3, b4, rfl, b6, b7⟩, ⟨g1, g2, g3, g4, g5, g6, g7⟩, ⟨y1, y2, y3, y4, y5, y6, y7, y8, y9, y10⟩, hR, hA⟩
  · have e1 : k_Controls_write sc shs sgs sy 323 v = (sc, oi shs 5 v, sgs, sy) := by rw [k_Controls_write, if_neg (by decide), k_Controls_writeHost, if_neg (by decide), if_neg (by decide), k_Bank_write, if_neg (by decide), if_neg (by decide), if_neg (by decide), if_neg (by decide), if_neg (by decide), if_pos (by decide)]
    have e2 : k_Model_write sm sk 323 v = (sm, upd sk 67 v) := by rw [k_Model_write, if_neg (by decide), if_neg (by decide), if_neg (by decide), if_neg (by decide), if_neg (by decide), if_neg (by decide), if_neg (by decide), if_neg (by decide), if_neg (by decide), if_neg (by decide), if_neg (by decide), k_Model_keeps, if_neg (by decide), if_neg (by decide), if_neg (by decide), if_neg (by decide), if_neg (by decide), if_neg (by decide), show ((323 : Int32) - 256).toNatClampNeg = 67 from by decide]
    rw [e1, e2]
    exact ⟨hX, ⟨c1, c2, c3, c4⟩, hO, ⟨b1, b2, b3, b4, b5, rfl, b7⟩, ⟨g1, g2, g3, g4, g5, g6, g7⟩, ⟨y1, y2, y3, y4, y5, y6, y7, y8, y9, y10⟩, hR, hA⟩
  · have e1 : k_Controls_write sc shs sgs sy 324 v = (oi sc 5 (v &&& 2), shs, sgs, sy) := by rw [k_Controls_write, if_neg (by decide), k_Controls_writeHost, if_neg (by decide), if_pos (by decide)]
    have e2 : k_Model_write sm sk 324 v = (sm, upd sk 68 (v &&& 2)) := by rw [k_Model_write, if_neg (by decide), if_neg (by decide), if_neg (by decide), if_neg (by decide), if_neg (by decide), if_neg (by decide), if_neg (by decide), if_neg (by decide), if_neg (by decide), if_neg (by decide), if_neg (by decide), k_Model_keeps, if_neg (by decide), if_neg (by decide), if_neg (by decide), if_neg (by decide), if_pos (by decide), show ((324 : Int32) - 256).toNatClampNeg = 68 from by decide]
    rw [e1, e2]
    exact ⟨hX, ⟨c1, rfl, c3, (aa v 2)⟩, hO, ⟨b1, b2, b3, b4, b5, b6, b7⟩, ⟨g1, g2, g3, g4, g5, g6, g7⟩, ⟨y1, y2, y3, y4, y5, y6, y7, y8, y9, y10⟩, hR, hA⟩
  · have e1 : k_Controls_write sc shs sgs sy 384 v = (sc, oi shs 6 (v &&& (-2143289345)), sgs, sy) := by rw [k_Controls_write, if_neg (by decide), k_Controls_writeHost, if_neg (by decide), if_neg (by decide), k_Bank_write, if_neg (by decide), if_neg (by decide), if_neg (by decide), if_neg (by decide), if_neg (by decide), if_neg (by decide), if_pos (by decide)]
    have e2 : k_Model_write sm sk 384 v = (sm, upd sk 128 (v &&& (-2143289345))) := by rw [k_Model_write, if_neg (by decide), if_neg (by decide), if_neg (by decide), if_neg (by decide), if_neg (by decide), if_neg (by decide), if_neg (by decide), if_neg (by decide), if_neg (by decide), if_neg (by decide), if_neg (by decide), k_Model_keeps, if_neg (by decide), if_neg (by decide), if_neg (by decide), if_neg (by decide), if_neg (by decide), if_pos (by decide), show ((384 : Int32) - 256).toNatClampNeg = 128 from by decide]
    rw [e1, e2]
    exact ⟨hX, ⟨c1, c2, c3, c4⟩, hO, ⟨b1, b2, b3, b4, b5, b6, rfl⟩, ⟨g1, g2, g3, g4, g5, g6, g7⟩, ⟨y1, y2, y3, y4, y5, y6, y7, y8, y9, y10⟩, hR, hA⟩
  · have e1 : k_Controls_write sc shs sgs sy 512 v = (sc, shs, oi sgs 0 (v &&& 786722), sy) := by rw [k_Controls_write, if_pos (by decide), if_neg (by decide), k_Controls_writeGuest, if_neg (by decide), if_neg (by decide), k_Bank_write, if_pos (by decide)]
    have e2 : k_Model_write sm sk 512 v = (sm, upd sk 256 (v &&& 786722)) := by rw [k_Model_write, if_neg (by decide), if_neg (by decide), if_neg (by decide), if_neg (by decide), if_neg (by decide), if_neg (by decide), if_neg (by decide), if_neg (by decide), if_neg (by decide), if_neg (by decide), if_neg (by decide), k_Model_keeps, if_pos (by decide), show ((512 : Int32) - 256).toNatClampNeg = 256 from by decide]
    rw [e1, e2]
    exact ⟨hX, ⟨c1, c2, c3, c4⟩, hO, ⟨b1, b2, b3, b4, b5, b6, b7⟩, ⟨rfl, g2, g3, g4, g5, g6, g7⟩, ⟨y1, y2, y3, y4, y5, y6, y7, y8, y9, y10⟩, hR, hA⟩
  · have e1 : k_Controls_write sc shs sgs sy 516 v = (sc, shs, sgs, k_Hyper_writeGuestIe sy v) := by rw [k_Controls_write, if_pos (by decide), if_neg (by decide), k_Controls_writeGuest, if_pos (by decide)]
    have e2 : k_Model_write sm sk 516 v = (oi sm 18 ((sm.1 18 &&& (sm.1 17 ^^^ (-1))) ||| ((v <<< ((1 : Int32) &&& 31)) &&& sm.1 17)), sk) := by rw [k_Model_write, if_pos (by decide), y9]
    rw [e1, e2]
    exact ⟨hX, ⟨c1, c2, c3, c4⟩, hO, ⟨b1, b2, b3, b4, b5, b6, b7⟩, ⟨g1, g2, g3, g4, g5, g6, g7⟩, ⟨y1, y2, y3, (show k_Hyper_replaced (sy.1 3) (sy.1 2) (v <<< ((1 : Int32) &&& 31)) = _ by rw [k_Hyper_replaced, y4, y3]; rfl), y5, y6, y7, y8, y9, y10⟩, hR, hA⟩
  · have e1 : k_Controls_write sc shs sgs sy 517 v = (sc, shs, oi sgs 1 (v &&& (-3)), sy) := by rw [k_Controls_write, if_pos (by decide), if_neg (by decide), k_Controls_writeGuest, if_neg (by decide), if_neg (by decide), k_Bank_write, if_neg (by decide), if_pos (by decide)]
    have e2 : k_Model_write sm sk 517 v = (sm, upd sk 261 (v &&& (-3))) := by rw [k_Model_write, if_neg (by decide), if_neg (by decide), if_neg (by decide), if_neg (by decide), if_neg (by decide), if_neg (by decide), if_neg (by decide), if_neg (by decide), if_neg (by decide), if_neg (by decide), if_neg (by decide), k_Model_keeps, if_neg (by decide), if_neg (by decide), if_pos (by decide), show ((517 : Int32) - 256).toNatClampNeg = 261 from by decide]
    rw [e1, e2]
    exact ⟨hX, ⟨c1, c2, c3, c4⟩, hO, ⟨b1, b2, b3, b4, b5, b6, b7⟩, ⟨g1, rfl, g3, g4, g5, g6, g7⟩, ⟨y1, y2, y3, y4, y5, y6, y7, y8, y9, y10⟩, hR, hA⟩
  · have e1 : k_Controls_write sc shs sgs sy 576 v = (sc, shs, oi sgs 2 v, sy) := by rw [k_Controls_write, if_pos (by decide), if_neg (by decide), k_Controls_writeGuest, if_neg (by decide), if_neg (by decide), k_Bank_write, if_neg (by decide), if_neg (by decide), if_pos (by decide)]
    have e2 : k_Model_write sm sk 576 v = (sm, upd sk 320 v) := by rw [k_Model_write, if_neg (by decide), if_neg (by decide), if_neg (by decide), if_neg (by decide), if_neg (by decide), if_neg (by decide), if_neg (by decide), if_neg (by decide), if_neg (by decide), if_neg (by decide), if_neg (by decide), k_Model_keeps, if_neg (by decide), if_neg (by decide), if_neg (by decide), if_neg (by decide), if_neg (by decide), if_neg (by decide), show ((576 : Int32) - 256).toNatClampNeg = 320 from by decide]
    rw [e1, e2]
    exact ⟨hX, ⟨c1, c2, c3, c4⟩, hO, ⟨b1, b2, b3, b4, b5, b6, b7⟩, ⟨g1, g2, rfl, g4, g5, g6, g7⟩, ⟨y1, y2, y3, y4, y5, y6, y7, y8, y9, y10⟩, hR, hA⟩
  · have e1 : k_Controls_write sc shs sgs sy 577 v = (sc, shs, oi sgs 3 (v &&& (-4)), sy) := by rw [k_Controls_write, if_pos (by decide), if_neg (by decide), k_Controls_writeGuest, if_neg (by decide), if_neg (by decide), k_Bank_write, if_neg (by decide), if_neg (by decide), if_neg (by decide), if_pos (by decide)]
    have e2 : k_Model_write sm sk 577 v = (sm, upd sk 321 (v &&& (-4))) := by rw [k_Model_write, if_neg (by decide), if_neg (by decide), if_neg (by decide), if_neg (by decide), if_neg (by decide), if_neg (by decide), if_neg (by decide), if_neg (by decide), if_neg (by decide), if_neg (by decide), if_neg (by decide), k_Model_keeps, if_neg (by decide), if_neg (by decide), if_neg (by decide), if_pos (by decide), show ((577 : Int32) - 256).toNatClampNeg = 321 from by decide]
    rw [e1, e2]
    exact ⟨hX, ⟨c1, c2, c3, c4⟩, hO, ⟨b1, b2, b3, b4, b5, b6, b7⟩, ⟨g1, g2, g3, rfl, g5, g6, g7⟩, ⟨y1, y2, y3, y4, y5, y6, y7, y8, y9, y10⟩, hR, hA⟩
  · have e1 : k_Controls_write sc shs sgs sy 578 v = (sc, shs, oi sgs 4 v, sy) := by rw [k_Controls_write, if_pos (by decide), if_neg (by decide), k_Controls_writeGuest, if_neg (by decide), if_neg (by decide), k_Bank_write, if_neg (by decide), if_neg (by decide), if_neg (by decide), if_neg (by decide), if_pos (by decide)]
    have e2 : k_Model_write sm sk 578 v = (sm, upd sk 322 v) := by rw [k_Model_write, if_neg (by decide), if_neg (by decide), if_neg (by decide), if_neg (by decide), if_neg (by decide), if_neg (by decide), if_neg (by decide), if_neg (by decide), if_neg (by decide), if_neg (by decide), if_neg (by decide), k_Model_keeps, if_neg (by decide), if_neg (by decide), if_neg (by decide), if_neg (by decide), if_neg (by decide), if_neg (by decide), show ((578 : Int32) - 256).toNatClampNeg = 322 from by decide]
    rw [e1, e2]
    exact ⟨hX, ⟨c1, c2, c3, c4⟩, hO, ⟨b1, b2, b3, b4, b5, b6, b7⟩, ⟨g1, g2, g3, g4, rfl, g6, g7⟩, ⟨y1, y2, y3, y4, y5, y6, y7, y8, y9, y10⟩, hR, hA⟩
  · have e1 : k_Controls_write sc shs sgs sy 579 v = (sc, shs, oi sgs 5 v, sy) := by rw [k_Controls_write, if_pos (by decide), if_neg (by decide), k_Controls_writeGuest, if_neg (by decide), if_neg (by decide), k_Bank_write, if_neg (by decide), if_neg (by decide), if_neg (by decide), if_neg (by decide), if_neg (by decide), if_pos (by decide)]
    have e2 : k_Model_write sm sk 579 v = (sm, upd sk 323 v) := by rw [k_Model_write, if_neg (by decide), if_neg (by decide), if_neg (by decide), if_neg (by decide), if_neg (by decide), if_neg (by decide), if_neg (by decide), if_neg (by decide), if_neg (by decide), if_neg (by decide), if_neg (by decide), k_Model_keeps, if_neg (by decide), if_neg (by decide), if_neg (by decide), if_neg (by decide), if_neg (by decide), if_neg (by decide), show ((579 : Int32) - 256).toNatClampNeg = 323 from by decide]
    rw [e1, e2]
    exact ⟨hX, ⟨c1, c2, c3, c4⟩, hO, ⟨b1, b2, b3, b4, b5, b6, b7⟩, ⟨g1, g2, g3, g4, g5, rfl, g7⟩, ⟨y1, y2, y3, y4, y5, y6, y7, y8, y9, y10⟩, hR, hA⟩
  · have e1 : k_Controls_write sc shs sgs sy 580 v = (sc, shs, sgs, k_Hyper_writeGuestIp sy v) := by rw [k_Controls_write, if_pos (by decide), if_neg (by decide), k_Controls_writeGuest, if_neg (by decide), if_pos (by decide)]
    rw [e1]
    by_cases h4 : sm.1 17 &&& 4 = 0
    · have e2 : k_Model_write sm sk 580 v = (sm, sk) := by rw [k_Model_write, if_neg (by decide), if_pos (by decide), if_pos h4]
      have e3 : k_Hyper_replaced (sy.1 5) (sy.1 2 &&& 4) (v <<< ((1 : Int32) &&& 31)) = sy.1 5 := by
        rw [y3, h4, k_Hyper_replaced]
        apply b_ext
        intro i hi
        rw [b_or, b_and, b_and, b_0, Bool.and_false, Bool.or_false, show ((0 : Int32) ^^^ (-1)) = -1 by decide, b_m1 i hi, Bool.and_true]
      rw [e2]
      exact ⟨hX, ⟨c1, c2, c3, c4⟩, hO, ⟨b1, b2, b3, b4, b5, b6, b7⟩, ⟨g1, g2, g3, g4, g5, g6, g7⟩, ⟨y1, y2, y3, y4, y5, (e3.trans y6), y7, y8, y9, y10⟩, hR, hA⟩
    · have h5 := (and4 _).mp h4
      have e2 : k_Model_write sm sk 580 v = (oi sm 20 ((sm.1 20 &&& (-5)) ||| ((v <<< ((1 : Int32) &&& 31)) &&& 4)), sk) := by rw [k_Model_write, if_neg (by decide), if_pos (by decide), if_neg h4]
      have e3 : k_Hyper_replaced (sy.1 5) (sy.1 2 &&& 4) (v <<< ((1 : Int32) &&& 31)) = (sm.1 20 &&& (-5)) ||| ((v <<< ((1 : Int32) &&& 31)) &&& 4) := by
        rw [y3, h5, k_Hyper_replaced, y6]; rfl
      rw [e2]
      exact ⟨hX, ⟨c1, c2, c3, c4⟩, hO, ⟨b1, b2, b3, b4, b5, b6, b7⟩, ⟨g1, g2, g3, g4, g5, g6, g7⟩, ⟨y1, y2, y3, y4, y5, e3, y7, y8, y9, (vk _ y10 (aa4 _))⟩, hR, hA⟩
  · have e1 : k_Controls_write sc shs sgs sy 640 v = (sc, shs, oi sgs 6 (v &&& (-2143289345)), sy) := by rw [k_Controls_write, if_pos (by decide), if_neg (by decide), k_Controls_writeGuest, if_neg (by decide), if_neg (by decide), k_Bank_write, if_neg (by decide), if_neg (by decide), if_neg (by decide), if_neg (by decide), if_neg (by decide), if_neg (by decide), if_pos (by decide)]
    have e2 : k_Model_write sm sk 640 v = (sm, upd sk 384 (v &&& (-2143289345))) := by rw [k_Model_write, if_neg (by decide), if_neg (by decide), if_neg (by decide), if_neg (by decide), if_neg (by decide), if_neg (by decide), if_neg (by decide), if_neg (by decide), if_neg (by decide), if_neg (by decide), if_neg (by decide), k_Model_keeps, if_neg (by decide), if_neg (by decide), if_neg (by decide), if_neg (by decide), if_neg (by decide), if_pos (by decide), show ((640 : Int32) - 256).toNatClampNeg = 384 from by decide]
    rw [e1, e2]
    exact ⟨hX, ⟨c1, c2, c3, c4⟩, hO, ⟨b1, b2, b3, b4, b5, b6, b7⟩, ⟨g1, g2, g3, g4, g5, g6, rfl⟩, ⟨y1, y2, y3, y4, y5, y6, y7, y8, y9, y10⟩, hR, hA⟩
  · have e1 : k_Controls_write sc shs sgs sy 1536 v = (sc, shs, sgs, oi sy 0 (v &&& 7340992)) := by rw [k_Controls_write, if_pos (by decide), if_pos (by decide), k_Hyper_write, if_pos (by decide)]
    have e2 : k_Model_write sm sk 1536 v = (oi sm 15 (v &&& 7340992), sk) := by rw [k_Model_write, if_neg (by decide), if_neg (by decide), if_pos (by decide)]
    rw [e1, e2]
    exact ⟨hX, ⟨c1, c2, c3, c4⟩, hO, ⟨b1, b2, b3, b4, b5, b6, b7⟩, ⟨g1, g2, g3, g4, g5, g6, g7⟩, ⟨rfl, y2, y3, y4, y5, y6, y7, y8, y9, y10⟩, hR, hA⟩
  · have e1 : k_Controls_write sc shs sgs sy 1538 v = (sc, shs, sgs, oi sy 1 (v &&& 45567)) := by rw [k_Controls_write, if_pos (by decide), if_pos (by decide), k_Hyper_write, if_neg (by decide), if_pos (by decide)]
    have e2 : k_Model_write sm sk 1538 v = (oi sm 16 (v &&& 45567), sk) := by rw [k_Model_write, if_neg (by decide), if_neg (by decide), if_neg (by decide), if_pos (by decide)]
    rw [e1, e2]
    exact ⟨hX, ⟨c1, c2, c3, c4⟩, hO, ⟨b1, b2, b3, b4, b5, b6, b7⟩, ⟨g1, g2, g3, g4, g5, g6, g7⟩, ⟨y1, rfl, y3, y4, y5, y6, y7, y8, y9, y10⟩, hR, hA⟩
  · have e1 : k_Controls_write sc shs sgs sy 1539 v = (sc, shs, sgs, oi sy 2 (v &&& 1092)) := by rw [k_Controls_write, if_pos (by decide), if_pos (by decide), k_Hyper_write, if_neg (by decide), if_neg (by decide), if_pos (by decide)]
    have e2 : k_Model_write sm sk 1539 v = (oi sm 17 (v &&& 1092), sk) := by rw [k_Model_write, if_neg (by decide), if_neg (by decide), if_neg (by decide), if_neg (by decide), if_pos (by decide)]
    rw [e1, e2]
    exact ⟨hX, ⟨c1, c2, c3, c4⟩, hO, ⟨b1, b2, b3, b4, b5, b6, b7⟩, ⟨g1, g2, g3, g4, g5, g6, g7⟩, ⟨y1, y2, rfl, y4, y5, y6, y7, y8, (aa v 1092), y10⟩, hR, hA⟩
  · have e1 : k_Controls_write sc shs sgs sy 1540 v = (sc, shs, sgs, oi sy 3 (v &&& 1092)) := by rw [k_Controls_write, if_pos (by decide), if_pos (by decide), k_Hyper_write, if_neg (by decide), if_neg (by decide), if_neg (by decide), if_pos (by decide)]
    have e2 : k_Model_write sm sk 1540 v = (oi sm 18 (v &&& 1092), sk) := by rw [k_Model_write, if_neg (by decide), if_neg (by decide), if_neg (by decide), if_neg (by decide), if_neg (by decide), if_pos (by decide)]
    rw [e1, e2]
    exact ⟨hX, ⟨c1, c2, c3, c4⟩, hO, ⟨b1, b2, b3, b4, b5, b6, b7⟩, ⟨g1, g2, g3, g4, g5, g6, g7⟩, ⟨y1, y2, y3, rfl, y5, y6, y7, y8, y9, y10⟩, hR, hA⟩
  · have e1 : k_Controls_write sc shs sgs sy 1603 v = (sc, shs, sgs, oi sy 4 v) := by rw [k_Controls_write, if_pos (by decide), if_pos (by decide), k_Hyper_write, if_neg (by decide), if_neg (by decide), if_neg (by decide), if_neg (by decide), if_pos (by decide)]
    have e2 : k_Model_write sm sk 1603 v = (oi sm 19 v, sk) := by rw [k_Model_write, if_neg (by decide), if_neg (by decide), if_neg (by decide), if_neg (by decide), if_neg (by decide), if_neg (by decide), if_pos (by decide)]
    rw [e1, e2]
    exact ⟨hX, ⟨c1, c2, c3, c4⟩, hO, ⟨b1, b2, b3, b4, b5, b6, b7⟩, ⟨g1, g2, g3, g4, g5, g6, g7⟩, ⟨y1, y2, y3, y4, rfl, y6, y7, y8, y9, y10⟩, hR, hA⟩
  · have e1 : k_Controls_write sc shs sgs sy 1604 v = (sc, shs, sgs, oi sy 5 (k_Hyper_replaced (sy.1 5) 4 v)) := by rw [k_Controls_write, if_pos (by decide), if_pos (by decide), k_Hyper_write, if_neg (by decide), if_neg (by decide), if_neg (by decide), if_neg (by decide), if_neg (by decide), if_pos (by decide)]
    have e2 : k_Model_write sm sk 1604 v = (oi sm 20 ((sm.1 20 &&& (-5)) ||| (v &&& 4)), sk) := by rw [k_Model_write, if_neg (by decide), if_neg (by decide), if_neg (by decide), if_neg (by decide), if_neg (by decide), if_neg (by decide), if_neg (by decide), if_pos (by decide)]
    rw [e1, e2]
    exact ⟨hX, ⟨c1, c2, c3, c4⟩, hO, ⟨b1, b2, b3, b4, b5, b6, b7⟩, ⟨g1, g2, g3, g4, g5, g6, g7⟩, ⟨y1, y2, y3, y4, y5, (show k_Hyper_replaced (sy.1 5) 4 v = _ by rw [k_Hyper_replaced, y6]; rfl), y7, y8, y9, (vk (v &&& 4) y10 (aa4 v))⟩, hR, hA⟩
  · have e1 : k_Controls_write sc shs sgs sy 1605 v = (sc, shs, sgs, oi sy 5 (v &&& 1092)) := by rw [k_Controls_write, if_pos (by decide), if_pos (by decide), k_Hyper_write, if_neg (by decide), if_neg (by decide), if_neg (by decide), if_neg (by decide), if_neg (by decide), if_neg (by decide), if_pos (by decide)]
    have e2 : k_Model_write sm sk 1605 v = (oi sm 20 (v &&& 1092), sk) := by rw [k_Model_write, if_neg (by decide), if_neg (by decide), if_neg (by decide), if_neg (by decide), if_neg (by decide), if_neg (by decide), if_neg (by decide), if_neg (by decide), if_pos (by decide)]
    rw [e1, e2]
    exact ⟨hX, ⟨c1, c2, c3, c4⟩, hO, ⟨b1, b2, b3, b4, b5, b6, b7⟩, ⟨g1, g2, g3, g4, g5, g6, g7⟩, ⟨y1, y2, y3, y4, y5, rfl, y7, y8, y9, (aa v 1092)⟩, hR, hA⟩
  · have e1 : k_Controls_write sc shs sgs sy 1610 v = (sc, shs, sgs, oi sy 6 v) := by rw [k_Controls_write, if_pos (by decide), if_pos (by decide), k_Hyper_write, if_neg (by decide), if_neg (by decide), if_neg (by decide), if_neg (by decide), if_neg (by decide), if_neg (by decide), if_neg (by decide), if_pos (by decide)]
    have e2 : k_Model_write sm sk 1610 v = (oi sm 21 v, sk) := by rw [k_Model_write, if_neg (by decide), if_neg (by decide), if_neg (by decide), if_neg (by decide), if_neg (by decide), if_neg (by decide), if_neg (by decide), if_neg (by decide), if_neg (by decide), if_pos (by decide)]
    rw [e1, e2]
    exact ⟨hX, ⟨c1, c2, c3, c4⟩, hO, ⟨b1, b2, b3, b4, b5, b6, b7⟩, ⟨g1, g2, g3, g4, g5, g6, g7⟩, ⟨y1, y2, y3, y4, y5, y6, rfl, y8, y9, y10⟩, hR, hA⟩
  · have e1 : k_Controls_write sc shs sgs sy 1664 v = (sc, shs, sgs, oi sy 7 (v &&& (-2143289348))) := by rw [k_Controls_write, if_pos (by decide), if_pos (by decide), k_Hyper_write, if_neg (by decide), if_neg (by decide), if_neg (by decide), if_neg (by decide), if_neg (by decide), if_neg (by decide), if_neg (by decide), if_neg (by decide), if_pos (by decide)]
    have e2 : k_Model_write sm sk 1664 v = (oi sm 22 (v &&& (-2143289348)), sk) := by rw [k_Model_write, if_neg (by decide), if_neg (by decide), if_neg (by decide), if_neg (by decide), if_neg (by decide), if_neg (by decide), if_neg (by decide), if_neg (by decide), if_neg (by decide), if_neg (by decide), if_pos (by decide)]
    rw [e1, e2]
    exact ⟨hX, ⟨c1, c2, c3, c4⟩, hO, ⟨b1, b2, b3, b4, b5, b6, b7⟩, ⟨g1, g2, g3, g4, g5, g6, g7⟩, ⟨y1, y2, y3, y4, y5, y6, y7, rfl, y9, y10⟩, hR, hA⟩
  · exact absurd ht (by decide)
  · exact absurd ht (by decide)
theorem rel_get (h : Rel sx sc so sa shs sgs sy sr sm sp sk) (p1 : Int32) : k_Desk_get sx sc so shs sgs sy p1 = k_Model_get sm sk p1 ∧ Rel sx sc so sa shs sgs sy sr sm sp sk := by
  refine ⟨?_, h⟩
  rw [k_Desk_get, k_Model_get, one_eq]
  cases hk : k_Numbers_isKnown p1 with
  | true => rw [if_neg (by decide)]; exact rd h hk
  | false =>
    rw [if_pos (by decide)]
    rw [known_eq, Bool.or_eq_false_iff, Bool.or_eq_false_iff, Bool.or_eq_false_iff] at hk
    obtain ⟨⟨⟨k1, k2⟩, k3⟩, k4⟩ := hk
    have t1 : ¬ p1 = 3073 := fun e => by rw [e] at k4; exact absurd k4 (by decide)
    have t2 : ¬ p1 = 3201 := fun e => by rw [e] at k4; exact absurd k4 (by decide)
    rw [k_Controls_read, k1, k2, if_pos (by decide), if_pos (by decide), if_neg t1, if_neg t2]
    have u0 : ¬ p1 = 1536 := fun e => by rw [e] at k3; exact absurd k3 (by decide)
    have u1 : ¬ p1 = 1538 := fun e => by rw [e] at k3; exact absurd k3 (by decide)
    have u2 : ¬ p1 = 1539 := fun e => by rw [e] at k3; exact absurd k3 (by decide)
    have u3 : ¬ p1 = 1540 := fun e => by rw [e] at k3; exact absurd k3 (by decide)
    have u4 : ¬ p1 = 1603 := fun e => by rw [e] at k3; exact absurd k3 (by decide)
    have u5 : ¬ p1 = 1604 := fun e => by rw [e] at k3; exact absurd k3 (by decide)
    have u6 : ¬ p1 = 1605 := fun e => by rw [e] at k3; exact absurd k3 (by decide)
    have u7 : ¬ p1 = 1610 := fun e => by rw [e] at k3; exact absurd k3 (by decide)
    have u8 : ¬ p1 = 1664 := fun e => by rw [e] at k3; exact absurd k3 (by decide)
    rw [k_Hyper_read, if_neg u0, if_neg u1, if_neg u2, if_neg u3, if_neg u4, if_neg u5, if_neg u6, if_neg u7, if_neg u8]
theorem rel_put (h : Rel sx sc so sa shs sgs sy sr sm sp sk) (p1 p2 : Int32) : (k_Desk_put sx sc shs sgs sy p1 p2).1 = (k_Model_put sm sk p1 p2).1 ∧ Rel sx (k_Desk_put sx sc shs sgs sy p1 p2).2.1 so sa (k_Desk_put sx sc shs sgs sy p1 p2).2.2.1 (k_Desk_put sx sc shs sgs sy p1 p2).2.2.2.1 (k_Desk_put sx sc shs sgs sy p1 p2).2.2.2.2 sr (k_Model_put sm sk p1 p2).2.1 sp (k_Model_put sm sk p1 p2).2.2 := by
  cases hk : k_Numbers_isKnown p1 with
  | false =>
    have e1 : k_Desk_put sx sc shs sgs sy p1 p2 = (-1, sc, shs, sgs, sy) := by rw [k_Desk_put, hk, if_pos (by decide)]
    have e2 : k_Model_put sm sk p1 p2 = (-1, sm, sk) := by rw [k_Model_put, one_eq, hk, if_pos (by decide)]
    rw [e1, e2]
    exact ⟨rfl, h⟩
  | true =>
    cases ht : k_Numbers_isTime p1 with
    | true =>
      have e1 : k_Desk_put sx sc shs sgs sy p1 p2 = (-1, sc, shs, sgs, sy) := by rw [k_Desk_put, hk, ht, if_neg (by decide), if_neg (by decide)]
      have e2 : k_Model_put sm sk p1 p2 = (-1, sm, sk) := by rw [k_Model_put, one_eq, time_eq, hk, ht, if_neg (by decide), if_neg (by decide)]
      rw [e1, e2]
      exact ⟨rfl, h⟩
    | false =>
      have e1 : k_Desk_put sx sc shs sgs sy p1 p2 = (0, k_Controls_write sc shs sgs sy p1 p2) := by rw [k_Desk_put, hk, ht, if_neg (by decide), if_pos (by decide)]
      have e2 : k_Model_put sm sk p1 p2 = (0, k_Model_write sm sk p1 p2) := by rw [k_Model_put, one_eq, time_eq, hk, ht, if_neg (by decide), if_pos (by decide)]
      rw [e1, e2]
      exact ⟨rfl, wr p2 h hk ht⟩
end NUM
