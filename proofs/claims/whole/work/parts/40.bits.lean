def bt (x : Int32) (i : Nat) : Bool := x.toBitVec.getLsbD i
theorem b_ext {x y : Int32} (h : ∀ i, i < 32 → bt x i = bt y i) : x = y := Int32.toBitVec_inj.mp (BitVec.eq_of_getLsbD_eq (fun i hi => h i hi))
theorem b_or (x y : Int32) (i : Nat) : bt (x ||| y) i = (bt x i || bt y i) := by unfold bt; rw [Int32.toBitVec_or, BitVec.getLsbD_or]
theorem b_and (x y : Int32) (i : Nat) : bt (x &&& y) i = (bt x i && bt y i) := by unfold bt; rw [Int32.toBitVec_and, BitVec.getLsbD_and]
theorem b_xor (x y : Int32) (i : Nat) : bt (x ^^^ y) i = (bt x i ^^ bt y i) := by unfold bt; rw [Int32.toBitVec_xor, BitVec.getLsbD_xor]
theorem b_big {x : Int32} {i : Nat} (h : 32 ≤ i) : bt x i = false := BitVec.getLsbD_of_ge _ _ h
theorem b_255 (i : Nat) : bt 255 i = decide (i < 8) := by
  rcases Nat.lt_or_ge i 32 with h | h
  · exact (by decide +kernel : ∀ i, i < 32 → bt 255 i = decide (i < 8)) i h
  · rw [b_big h, decide_eq_false (by omega)]
theorem b_65535 (i : Nat) : bt 65535 i = decide (i < 16) := by
  rcases Nat.lt_or_ge i 32 with h | h
  · exact (by decide +kernel : ∀ i, i < 32 → bt 65535 i = decide (i < 16)) i h
  · rw [b_big h, decide_eq_false (by omega)]
theorem b_m1 : ∀ i, i < 32 → bt (-1) i = true := by decide +kernel
theorem b_0 (i : Nat) : bt 0 i = false := BitVec.getLsbD_zero
theorem s_l : ∀ n, n < 32 → ((nI n &&& 31).toBitVec.smod 32).toNat = n := by decide +kernel
theorem s_u : ∀ n, n < 32 → (((nI n).toUInt32 &&& Int32.toUInt32 31).toBitVec % 32).toNat = n := by decide +kernel
theorem b_shl (n : Nat) (hn : n < 32) (x : Int32) {i : Nat} (hi : i < 32) : bt (x <<< (nI n &&& 31)) i = (decide (n ≤ i) && bt x (i - n)) := by
  unfold bt
  rw [Int32.toBitVec_shiftLeft]
  show (x.toBitVec <<< ((nI n &&& 31).toBitVec.smod 32).toNat).getLsbD i = _
  rw [s_l n hn, BitVec.getLsbD_shiftLeft]
  rcases Nat.lt_or_ge i n with h | h
  · simp [h, Nat.not_le.mpr h]
  · simp [hi, h, Nat.not_lt.mpr h]
theorem b_ushr (n : Nat) (hn : n < 32) (x : Int32) (i : Nat) : bt ((x.toUInt32 >>> ((nI n).toUInt32 &&& Int32.toUInt32 31)).toInt32) i = bt x (n + i) := by
  show (x.toUInt32 >>> ((nI n).toUInt32 &&& Int32.toUInt32 31)).toBitVec.getLsbD i = x.toUInt32.toBitVec.getLsbD (n + i)
  rw [UInt32.toBitVec_shiftRight]
  show (x.toUInt32.toBitVec >>> (((nI n).toUInt32 &&& Int32.toUInt32 31).toBitVec % 32).toNat).getLsbD i = _
  rw [s_u n hn, BitVec.getLsbD_ushiftRight]
theorem b_sshr (n : Nat) (hn : n < 32) (x : Int32) {i : Nat} (hi : i < 32) : bt (x >>> (nI n &&& 31)) i = if n + i < 32 then bt x (n + i) else bt x 31 := by
  unfold bt
  rw [Int32.toBitVec_shiftRight]
  show (x.toBitVec.sshiftRight ((nI n &&& 31).toBitVec.smod 32).toNat).getLsbD i = _
  rw [s_l n hn, BitVec.getLsbD_sshiftRight, BitVec.msb_eq_getLsbD_last]
  simp [hi]
theorem bp_b (x : Int32) : x.toInt8.toInt32 &&& 255 = x &&& 255 := by
  apply Int32.toBitVec_inj.mp
  rw [Int32.toBitVec_and, Int32.toBitVec_and, Int8.toBitVec_toInt32, Int32.toBitVec_toInt8]
  apply BitVec.eq_of_getLsbD_eq
  intro i hi
  rw [BitVec.getLsbD_and, BitVec.getLsbD_and]
  have hm : ∀ i < 32, 8 ≤ i → (255 : Int32).toBitVec.getLsbD i = false := by decide
  rcases Nat.lt_or_ge i 8 with z | z
  · rw [BitVec.getLsbD_signExtend, BitVec.getLsbD_signExtend, if_pos z, if_pos hi]
    simp only [z, hi, decide_true, Bool.true_and]
  · rw [hm i hi z]; simp
theorem b_one (x c : Int32) (k : Nat) (hc : ∀ i, i < 32 → bt c i = decide (i = k)) : x &&& c = if bt x k = true then c else 0 := by
  apply b_ext
  intro i hi
  rw [b_and, hc i hi]
  by_cases h : i = k
  · subst h
    by_cases hb : bt x i = true
    · rw [if_pos hb, hc i hi, hb]; rfl
    · rw [if_neg hb, b_0]
      cases h2 : bt x i with
      | true => exact absurd h2 hb
      | false => rfl
  · by_cases hb : bt x k = true
    · rw [if_pos hb, hc i hi, decide_eq_false h, Bool.and_false]
    · rw [if_neg hb, b_0, decide_eq_false h, Bool.and_false]
theorem b_z (x c : Int32) (k : Nat) (hc : ∀ i, i < 32 → bt c i = decide (i = k)) (h0 : ¬ c = 0) : x &&& c = 0 ↔ bt x k = false := by
  rw [b_one x c k hc]
  cases bt x k with
  | true => simp [h0]
  | false => simp
theorem sh42 (x : Int32) : (x &&& 2) <<< ((4 : Int32) &&& 31) = if x &&& 2 = 0 then 0 else 32 := by
  rw [b_one x 2 1 (by decide +kernel)]
  cases bt x 1 <;> decide +kernel
theorem sr42 (x : Int32) : (x >>> ((4 : Int32) &&& 31)) &&& 2 = if x &&& 32 = 0 then 0 else 2 := by
  rw [b_one (x >>> ((4 : Int32) &&& 31)) 2 1 (by decide +kernel), b_one x 32 5 (by decide +kernel), show bt (x >>> ((4 : Int32) &&& 31)) 1 = bt x 5 from b_sshr 4 (by decide) x (by decide)]
  cases bt x 5 <;> decide +kernel
theorem sr81 (x : Int32) : (x >>> ((8 : Int32) &&& 31)) &&& 1 = if x &&& 256 = 0 then 0 else 1 := by
  rw [b_one (x >>> ((8 : Int32) &&& 31)) 1 0 (by decide +kernel), b_one x 256 8 (by decide +kernel), show bt (x >>> ((8 : Int32) &&& 31)) 0 = bt x 8 from b_sshr 8 (by decide) x (by decide)]
  cases bt x 8 <;> decide +kernel
theorem and1 (x : Int32) : ¬ x &&& 1 = 0 ↔ x &&& 1 = 1 := by
  rw [b_one x 1 0 (by decide +kernel)]
  cases bt x 0 <;> decide +kernel
theorem and4 (x : Int32) : ¬ x &&& 4 = 0 ↔ x &&& 4 = 4 := by
  rw [b_one x 4 2 (by decide +kernel)]
  cases bt x 2 <;> decide +kernel
theorem b_31 (x : Int32) : bt x 31 = decide (x < 0) := by
  have h1 : x.toBitVec.msb = decide (x.toBitVec.toInt < 0) := BitVec.msb_eq_toInt
  rw [BitVec.msb_eq_getLsbD_last] at h1
  have h2 : (x < 0) ↔ x.toBitVec.toInt < 0 := Int32.lt_iff_toInt_lt
  rw [decide_eq_decide.mpr h2]
  exact h1
theorem sg (x : Int32) : x &&& (-2147483648) = 0 ↔ 0 ≤ x := by
  rw [b_z x (-2147483648) 31 (by decide +kernel) (by decide), b_31]
  simp
theorem isIn_b (p : Int32) (n : Nat) (hn : n < 32) : k_Desk_isIn p (nI n) = bt p n := by
  have e : bt (ush p (nI n)) 0 = bt p n := b_ushr n hn p 0
  have h32 : ¬ (32 : Int32) ≤ nI n := nI_ge (a := n) (b := 32) hn (by decide)
  rw [k_Desk_isIn, if_neg (nI_pos (by omega)), if_neg h32]
  by_cases h : (ush p (nI n)) &&& 1 = 0
  · rw [if_pos h, ← e, (b_z _ 1 0 (by decide +kernel) (by decide)).mp h]
  · rw [if_neg h]
    have h2 := mt (b_z (ush p (nI n)) 1 0 (by decide +kernel) (by decide)).mpr h
    rw [e] at h2
    cases h3 : bt p n with
    | true => rfl
    | false => exact absurd h3 h2
theorem fst_b (p : Int32) (n : Nat) (hn : n < 32) : ((p >>> (nI n &&& 31)) &&& 1 = 1) ↔ bt p n = true := by
  have e : bt (p >>> (nI n &&& 31)) 0 = bt p n := by
    rw [b_sshr n hn p (by decide), if_pos (by omega)]
    rfl
  rw [← and1, b_z _ 1 0 (by decide +kernel) (by decide), e]
  simp
theorem ush_b (p : Int32) (n : Nat) (hn : n < 32) : ((ush p (nI n)) &&& 1 = 1) ↔ bt p n = true := by
  have e : bt (ush p (nI n)) 0 = bt p n := b_ushr n hn p 0
  rw [← and1, b_z _ 1 0 (by decide +kernel) (by decide), e]
  simp
theorem l_u (a : Int64) (y : Int32) (n : Nat) (hs : ((y.toInt64.toUInt64 &&& Int64.toUInt64 63).toBitVec % 64).toNat = n) (i : Nat) : (lush a y).toBitVec.getLsbD i = a.toBitVec.getLsbD (n + i) := by
  show (a.toUInt64 >>> (y.toInt64.toUInt64 &&& Int64.toUInt64 63)).toBitVec.getLsbD i = a.toUInt64.toBitVec.getLsbD (n + i)
  rw [UInt64.toBitVec_shiftRight]
  show (a.toUInt64.toBitVec >>> ((y.toInt64.toUInt64 &&& Int64.toUInt64 63).toBitVec % 64).toNat).getLsbD i = _
  rw [hs, BitVec.getLsbD_ushiftRight]
theorem l_s (a : Int64) (y : Int32) (n : Nat) (hs : ((y.toInt64 &&& 63).toBitVec.smod 64).toNat = n) {i : Nat} (hi : n + i < 64) : (lshr a y).toBitVec.getLsbD i = a.toBitVec.getLsbD (n + i) := by
  unfold lshr
  rw [Int64.toBitVec_shiftRight]
  show (a.toBitVec.sshiftRight ((y.toInt64 &&& 63).toBitVec.smod 64).toNat).getLsbD i = _
  rw [hs, BitVec.getLsbD_sshiftRight, if_pos hi, decide_eq_false (by omega)]
  simp
theorem l32 {a : Int64} {y : Int32} {n : Nat} (hu : ((y.toInt64.toUInt64 &&& Int64.toUInt64 63).toBitVec % 64).toNat = n) (hs : ((y.toInt64 &&& 63).toBitVec.smod 64).toNat = n) (hn : n ≤ 32) : (lush a y).toInt32 = (lshr a y).toInt32 := by
  apply Int32.toBitVec_inj.mp
  rw [Int64.toBitVec_toInt32, Int64.toBitVec_toInt32]
  apply BitVec.eq_of_getLsbD_eq
  intro i hi
  rw [BitVec.getLsbD_signExtend, BitVec.getLsbD_signExtend, if_pos (by omega), if_pos (by omega), l_u a y n hu, l_s a y n hs (by omega)]
theorem sg64 (x : Int64) : x.toBitVec.getLsbD 63 = decide (x < 0) := by
  have h1 : x.toBitVec.msb = decide (x.toBitVec.toInt < 0) := BitVec.msb_eq_toInt
  rw [BitVec.msb_eq_getLsbD_last] at h1
  have h2 : (x < 0) ↔ x.toBitVec.toInt < 0 := Int64.lt_iff_toInt_lt
  rw [decide_eq_decide.mpr h2]
  exact h1
theorem al_sg (lo hi : Int32) : ((lo.toInt64 &&& 4294967295) ||| lsh hi.toInt64 32) < 0 ↔ hi < 0 := by
  have e : ((lo.toInt64 &&& 4294967295) ||| lsh hi.toInt64 32).toBitVec.getLsbD 63 = bt hi 31 := by
    rw [Int64.toBitVec_or, BitVec.getLsbD_or, Int64.toBitVec_and, BitVec.getLsbD_and, show (4294967295 : Int64).toBitVec.getLsbD 63 = false from by decide +kernel, Bool.and_false, Bool.false_or]
    unfold lsh
    rw [Int64.toBitVec_shiftLeft]
    show (hi.toInt64.toBitVec <<< (((32 : Int32).toInt64 &&& 63).toBitVec.smod 64).toNat).getLsbD 63 = _
    rw [show (((32 : Int32).toInt64 &&& 63).toBitVec.smod 64).toNat = 32 from by decide +kernel, BitVec.getLsbD_shiftLeft, Int32.toBitVec_toInt64, BitVec.getLsbD_signExtend]
    simp [bt]
  rw [sg64, b_31] at e
  exact decide_eq_decide.mp e
