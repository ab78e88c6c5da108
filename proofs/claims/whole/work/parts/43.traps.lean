/-! traps -/
theorem oi_oi (b : ob) (k : Nat) (x y : Int32) : oi (oi b k x) k y = oi b k y := by
  unfold oi
  congr 1
  funext j
  by_cases h : j = k
  · rw [if_pos h, if_pos h]
  · rw [if_neg h, if_neg h]
    exact if_neg h
def supv (m : Int32) : Bool := if m = 1 then true else (if m = 3 then true else false)
def virt (m : Int32) : Bool := if m = 2 then true else (if m = 3 then true else false)
def stE (x : Int32) (s : Bool) : Int32 := ((x &&& (-291)) ||| (if x &&& 2 = 0 then 0 else 32)) ||| (if bI s = 0 then 0 else 256)
def hdl (t c : Int32) : Int32 := if 0 ≤ c then t &&& (-4) else (if t &&& 1 = 0 then t &&& (-4) else (t &&& (-4)) + (4 * (c &&& 2147483647)))
def hsM (x : Int32) (v s g : Bool) : Int32 := if bI v = 0 then (x &&& (-193)) ||| (if bI g = 0 then 0 else 64) else ((((x &&& (-193)) ||| (if bI g = 0 then 0 else 64)) &&& (-257)) ||| 128) ||| (if bI s = 0 then 0 else 256)
theorem handler_eq (sb : ob) (c : Int32) : k_Bank_handlerOf sb c = hdl (sb.1 1) c := by
  rw [k_Bank_handlerOf, hdl, k_Bank_handlerOf_j28]
  by_cases h1 : c &&& (-2147483648) = 0
  · rw [if_pos h1, if_pos ((sg c).mp h1), k_Bank_handlerOf_j29, if_pos (by decide)]
  · rw [if_neg h1, if_neg (fun q => h1 ((sg c).mpr q))]
    by_cases h2 : sb.1 1 &&& 1 = 0
    · rw [if_pos h2, if_pos h2, k_Bank_handlerOf_j29, if_pos (by decide)]
    · rw [if_neg h2, if_neg h2, k_Bank_handlerOf_j29, if_neg (by decide)]
theorem enter_eq (sb : ob) (pc c v : Int32) (s : Bool) : k_Bank_enter sb pc c v s = (hdl (sb.1 1) c, oi (oi (oi (oi sb 3 pc) 4 c) 5 v) 0 (stE (sb.1 0) s)) := by
  have e0 : k_Bank_hasInterruptsOn (oi (oi (oi sb 3 pc) 4 c) 5 v) = if sb.1 0 &&& 2 = 0 then false else true := rfl
  have e1 : ∀ w : Int32, k_Bank_handlerOf (oi (oi (oi (oi sb 3 pc) 4 c) 5 v) 0 w) c = hdl (sb.1 1) c := fun w => handler_eq _ c
  rw [k_Bank_enter, e0, stE, k_Bank_enter_j38, k_Bank_enter_j38, k_Bank_enter_j58, k_Bank_enter_j58, k_Bank_enter_j58, k_Bank_enter_j58, e1, e1, e1, e1]
  by_cases h : sb.1 0 &&& 2 = 0
  · rw [if_pos h, if_pos h, if_pos (by decide)]
    cases s <;> rfl
  · rw [if_neg h, if_neg h, if_neg (by decide)]
    cases s <;> rfl
theorem vec1 (t c : Int32) (x : ob) : (if 0 ≤ c then (oi x 1 (t &&& (-4))) else (if t &&& 1 = 1 then oi (oi x 1 (t &&& (-4))) 1 ((t &&& (-4)) + (4 * (c &&& 2147483647))) else oi x 1 (t &&& (-4)))) = oi x 1 (hdl t c) := by
  rw [hdl]
  by_cases h1 : 0 ≤ c
  · rw [if_pos h1, if_pos h1]
  · rw [if_neg h1, if_neg h1]
    by_cases h2 : t &&& 1 = 0
    · rw [if_pos h2, if_neg (fun q => by rw [h2] at q; exact absurd q (by decide))]
    · rw [if_neg h2, if_pos ((and1 t).mp h2), oi_oi]
theorem leave0_j (sm : ob) (sk : Nat → Int32) (p2 p3 v4 : Int32) (z : Bool) (t0 t1 : Int32) (uk : Nat → Int32) : k_Model_leave_0_j91 sm sk p2 p3 v4 z t0 t1 uk = (oi sm 1 (hdl (uk 5) p2), upd uk 0 (t1 ||| t0)) := by
  rw [k_Model_leave_0_j91, ← vec1 (uk 5) p2 sm]
  by_cases h1 : 0 ≤ p2
  · rw [if_pos h1, if_pos h1]
  · rw [if_neg h1, if_neg h1]
    by_cases h2 : uk 5 &&& 1 = 1
    · rw [if_pos h2, if_pos h2]
    · rw [if_neg h2, if_neg h2]
theorem leave0_eq (sm : ob) (sk : Nat → Int32) (c v : Int32) : k_Model_leave_0 sm sk c v = (oi sm 1 (hdl (sk 5) c), upd (upd (upd (upd sk 65 (sm.1 1)) 66 c) 67 v) 0 (stE (sk 0) (supv (sm.1 0)))) := by
  have e : ∀ z : Bool, k_Model_leave_0_j64 sm sk c v (sk 0) z (upd (upd (upd sk 65 (sm.1 1)) 66 c) 67 v) = (oi sm 1 (hdl (sk 5) c), upd (upd (upd (upd sk 65 (sm.1 1)) 66 c) 67 v) 0 (stE (sk 0) z)) := by
    intro z
    rw [k_Model_leave_0_j64, leave0_j, leave0_j, stE, sh42]
    cases z <;> rfl
  rw [k_Model_leave_0, k_Model_leave_0_j59, e, e, supv]
  by_cases h1 : sm.1 0 = 1
  · rw [if_pos h1, if_pos h1]
  · rw [if_neg h1, if_neg h1]
    by_cases h2 : sm.1 0 = 3
    · rw [if_pos h2, if_pos h2]
    · rw [if_neg h2, if_neg h2]
theorem leave256_j (sm : ob) (sk : Nat → Int32) (p2 p3 v4 : Int32) (z : Bool) (t0 t1 : Int32) (uk : Nat → Int32) : k_Model_leave_256_j91 sm sk p2 p3 v4 z t0 t1 uk = (oi sm 1 (hdl (uk 261) p2), upd uk 256 (t1 ||| t0)) := by
  rw [k_Model_leave_256_j91, ← vec1 (uk 261) p2 sm]
  by_cases h1 : 0 ≤ p2
  · rw [if_pos h1, if_pos h1]
  · rw [if_neg h1, if_neg h1]
    by_cases h2 : uk 261 &&& 1 = 1
    · rw [if_pos h2, if_pos h2]
    · rw [if_neg h2, if_neg h2]
theorem leave256_eq (sm : ob) (sk : Nat → Int32) (c v : Int32) : k_Model_leave_256 sm sk c v = (oi sm 1 (hdl (sk 261) c), upd (upd (upd (upd sk 321 (sm.1 1)) 322 c) 323 v) 256 (stE (sk 256) (supv (sm.1 0)))) := by
  have e : ∀ z : Bool, k_Model_leave_256_j64 sm sk c v (sk 256) z (upd (upd (upd sk 321 (sm.1 1)) 322 c) 323 v) = (oi sm 1 (hdl (sk 261) c), upd (upd (upd (upd sk 321 (sm.1 1)) 322 c) 323 v) 256 (stE (sk 256) z)) := by
    intro z
    rw [k_Model_leave_256_j64, leave256_j, leave256_j, stE, sh42]
    cases z <;> rfl
  rw [k_Model_leave_256, k_Model_leave_256_j59, e, e, supv]
  by_cases h1 : sm.1 0 = 1
  · rw [if_pos h1, if_pos h1]
  · rw [if_neg h1, if_neg h1]
    by_cases h2 : sm.1 0 = 3
    · rw [if_pos h2, if_pos h2]
    · rw [if_neg h2, if_neg h2]
theorem hyper_eq (sy : ob) (v s g : Bool) : k_Hyper_enter sy v s g = oi sy 0 (hsM (sy.1 0) v s g) := by
  generalize hx : sy.1 0 = x
  cases v <;> cases s <;> cases g
  · rw [k_Hyper_enter, if_pos (by decide), k_Hyper_enter_j17, if_pos (by decide), k_Hyper_enter_j42, if_pos (by decide), hx, oi_oi]
    refine congrArg (oi sy 0) ?_
    rw [hsM, if_pos (by decide), if_pos (by decide)]
    unfold k_Hyper_replaced
    apply b_ext
    intro i hi
    simp only [b_or, b_and, b_xor]
    generalize bt x i = q
    revert q
    revert i
    decide +kernel
  · rw [k_Hyper_enter, if_neg (by decide), k_Hyper_enter_j17, if_pos (by decide), k_Hyper_enter_j42, if_pos (by decide), hx, oi_oi]
    refine congrArg (oi sy 0) ?_
    rw [hsM, if_pos (by decide), if_neg (by decide)]
    unfold k_Hyper_replaced
    apply b_ext
    intro i hi
    simp only [b_or, b_and, b_xor]
    generalize bt x i = q
    revert q
    revert i
    decide +kernel
  · rw [k_Hyper_enter, if_pos (by decide), k_Hyper_enter_j17, if_pos (by decide), k_Hyper_enter_j42, if_pos (by decide), hx, oi_oi]
    refine congrArg (oi sy 0) ?_
    rw [hsM, if_pos (by decide), if_pos (by decide)]
    unfold k_Hyper_replaced
    apply b_ext
    intro i hi
    simp only [b_or, b_and, b_xor]
    generalize bt x i = q
    revert q
    revert i
    decide +kernel
  · rw [k_Hyper_enter, if_neg (by decide), k_Hyper_enter_j17, if_pos (by decide), k_Hyper_enter_j42, if_pos (by decide), hx, oi_oi]
    refine congrArg (oi sy 0) ?_
    rw [hsM, if_pos (by decide), if_neg (by decide)]
    unfold k_Hyper_replaced
    apply b_ext
    intro i hi
    simp only [b_or, b_and, b_xor]
    generalize bt x i = q
    revert q
    revert i
    decide +kernel
  · rw [k_Hyper_enter, if_pos (by decide), k_Hyper_enter_j17, if_neg (by decide), k_Hyper_enter_j42, if_neg (by decide), if_pos (by decide), hx, oi_oi, oi_oi]
    refine congrArg (oi sy 0) ?_
    rw [hsM, if_neg (by decide), if_pos (by decide), if_pos (by decide)]
    unfold k_Hyper_replaced
    apply b_ext
    intro i hi
    simp only [b_or, b_and, b_xor]
    generalize bt x i = q
    revert q
    revert i
    decide +kernel
  · rw [k_Hyper_enter, if_neg (by decide), k_Hyper_enter_j17, if_neg (by decide), k_Hyper_enter_j42, if_neg (by decide), if_pos (by decide), hx, oi_oi, oi_oi]
    refine congrArg (oi sy 0) ?_
    rw [hsM, if_neg (by decide), if_neg (by decide), if_pos (by decide)]
    unfold k_Hyper_replaced
    apply b_ext
    intro i hi
    simp only [b_or, b_and, b_xor]
    generalize bt x i = q
    revert q
    revert i
    decide +kernel
  · rw [k_Hyper_enter, if_pos (by decide), k_Hyper_enter_j17, if_neg (by decide), k_Hyper_enter_j42, if_neg (by decide), if_neg (by decide), hx, oi_oi, oi_oi]
    refine congrArg (oi sy 0) ?_
    rw [hsM, if_neg (by decide), if_pos (by decide), if_neg (by decide)]
    unfold k_Hyper_replaced
    apply b_ext
    intro i hi
    simp only [b_or, b_and, b_xor]
    generalize bt x i = q
    revert q
    revert i
    decide +kernel
  · rw [k_Hyper_enter, if_neg (by decide), k_Hyper_enter_j17, if_neg (by decide), k_Hyper_enter_j42, if_neg (by decide), if_neg (by decide), hx, oi_oi, oi_oi]
    refine congrArg (oi sy 0) ?_
    rw [hsM, if_neg (by decide), if_neg (by decide), if_neg (by decide)]
    unfold k_Hyper_replaced
    apply b_ext
    intro i hi
    simp only [b_or, b_and, b_xor]
    generalize bt x i = q
    revert q
    revert i
    decide +kernel
