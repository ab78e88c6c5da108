/-! interrupts -/
def f3 (x y z : Bool) (a b c : Int32) : Int32 := if x = true then a else (if y = true then b else (if z = true then c else (-1)))
theorem first_eq (d : Int32) (a b c : Nat) (ha : a < 32) (hb : b < 32) (hc : c < 32) : k_Model_first d (nI a) (nI b) (nI c) = f3 (bt d a) (bt d b) (bt d c) (nI a) (nI b) (nI c) := by
  rw [k_Model_first, f3]
  by_cases h1 : bt d a = true
  · rw [if_pos h1, if_pos ((fst_b d a ha).mpr h1)]
  · rw [if_neg h1, if_neg (fun q => h1 ((fst_b d a ha).mp q))]
    by_cases h2 : bt d b = true
    · rw [if_pos h2, if_pos ((fst_b d b hb).mpr h2)]
    · rw [if_neg h2, if_neg (fun q => h2 ((fst_b d b hb).mp q))]
      by_cases h3 : bt d c = true
      · rw [if_pos h3, if_pos ((fst_b d c hc).mpr h3)]
      · rw [if_neg h3, if_neg (fun q => h3 ((fst_b d c hc).mp q))]
theorem firstV_eq (w : Int32) : k_Desk_firstOf_V w = f3 (bt w 10) (bt w 2) (bt w 6) 10 2 6 := by
  rw [k_Desk_firstOf_V, show k_Desk_isIn w 10 = bt w 10 from isIn_b w 10 (by decide), show k_Desk_isIn w 2 = bt w 2 from isIn_b w 2 (by decide), show k_Desk_isIn w 6 = bt w 6 from isIn_b w 6 (by decide)]
  cases bt w 10 <;> cases bt w 2 <;> cases bt w 6 <;> rfl
theorem firstS_eq (w : Int32) : k_Desk_firstOf_S w = if bt w 9 = true then 9 else (if bt w 1 = true then 1 else (if bt w 5 = true then 5 else f3 (bt w 10) (bt w 2) (bt w 6) 10 2 6)) := by
  rw [k_Desk_firstOf_S, show k_Desk_isIn w 9 = bt w 9 from isIn_b w 9 (by decide), show k_Desk_isIn w 1 = bt w 1 from isIn_b w 1 (by decide), show k_Desk_isIn w 5 = bt w 5 from isIn_b w 5 (by decide), show k_Desk_isIn w 10 = bt w 10 from isIn_b w 10 (by decide), show k_Desk_isIn w 2 = bt w 2 from isIn_b w 2 (by decide), show k_Desk_isIn w 6 = bt w 6 from isIn_b w 6 (by decide)]
  cases bt w 9 <;> cases bt w 1 <;> cases bt w 5 <;> cases bt w 10 <;> cases bt w 2 <;> cases bt w 6 <;> rfl
theorem offb {x c : Int32} (h : x &&& c = x) (n : Nat) (hc : bt c n = false) : bt x n = false := by
  rw [← h, b_and, hc, Bool.and_false]
theorem f3_in (x y z : Bool) : f3 x y z 10 2 6 = -1 ∨ f3 x y z 10 2 6 = 10 ∨ f3 x y z 10 2 6 = 2 ∨ f3 x y z 10 2 6 = 6 := by
  cases x <;> cases y <;> cases z <;> decide
theorem negor (n : Int32) : ((-2147483648 : Int32) ||| n) < 0 := by
  have h := b_31 ((-2147483648 : Int32) ||| n)
  rw [b_or, show bt (-2147483648) 31 = true from by decide +kernel, Bool.true_or] at h
  exact decide_eq_true_eq.mp h.symm
section INT
variable {sx sc so : ob} {sa : Nat → Int32} {shs sgs sy sr sm : ob} {sp sk : Nat → Int32}
theorem due_eq (hC : RC sc sk) (hO : RO so sm) (hH : RH sy sm) : k_Desk_firstOf_S (k_Controls_waitingForS sc so sy) = (if k_Model_first ((k_Model_sip sm sk) &&& (sk 4)) 9 1 5 < 0 then k_Model_first (((sm.1 20) &&& (sm.1 18)) &&& ((sm.1 17) ^^^ (-1))) 10 2 6 else k_Model_first ((k_Model_sip sm sk) &&& (sk 4)) 9 1 5) := by
  have es := sip_eq hC hO
  obtain ⟨c1, c2, c3, c4⟩ := hC
  obtain ⟨y1, y2, y3, y4, y5, y6, y7, y8, y9, y10⟩ := hH
  have eo : ∀ n, bt (sk 4) n = false → bt ((k_Model_sip sm sk) &&& (sk 4)) n = false := fun n h => by rw [b_and, h, Bool.and_false]
  have eg : ∀ n, bt (sm.1 20) n = false → bt (((sm.1 20) &&& (sm.1 18)) &&& ((sm.1 17) ^^^ (-1))) n = false := fun n h => by rw [b_and, b_and, h, Bool.false_and, Bool.false_and]
  have o10 := eo 10 (offb c3 10 (by decide +kernel))
  have o2 := eo 2 (offb c3 2 (by decide +kernel))
  have o6 := eo 6 (offb c3 6 (by decide +kernel))
  have g9 := eg 9 (offb y10 9 (by decide +kernel))
  have g1 := eg 1 (offb y10 1 (by decide +kernel))
  have g5 := eg 5 (offb y10 5 (by decide +kernel))
  rw [show k_Model_first ((k_Model_sip sm sk) &&& (sk 4)) 9 1 5 = _ from first_eq _ 9 1 5 (by decide) (by decide) (by decide), show k_Model_first (((sm.1 20) &&& (sm.1 18)) &&& ((sm.1 17) ^^^ (-1))) 10 2 6 = _ from first_eq _ 10 2 6 (by decide) (by decide) (by decide), firstS_eq, k_Controls_waitingForS, es, c1, y6, y4, y3, b_or, b_or, b_or, b_or, b_or, b_or, o10, o2, o6, g9, g1, g5]
  generalize bt ((k_Model_sip sm sk) &&& (sk 4)) 9 = q1
  generalize bt ((k_Model_sip sm sk) &&& (sk 4)) 1 = q2
  generalize bt ((k_Model_sip sm sk) &&& (sk 4)) 5 = q3
  generalize bt (((sm.1 20) &&& (sm.1 18)) &&& ((sm.1 17) ^^^ (-1))) 10 = q4
  generalize bt (((sm.1 20) &&& (sm.1 18)) &&& ((sm.1 17) ^^^ (-1))) 2 = q5
  generalize bt (((sm.1 20) &&& (sm.1 18)) &&& ((sm.1 17) ^^^ (-1))) 6 = q6
  revert q1 q2 q3 q4 q5 q6
  decide +kernel
theorem intS (h : Rel sx sc so sa shs sgs sy sr sm sp sk) (N : Int32) : Rel (k_Desk_enterS (oi sx 7 ((sx.1 7) + 1)) sc shs sy ((-2147483648) ||| N) 0 false 0 0).1 sc so sa (k_Desk_enterS (oi sx 7 ((sx.1 7) + 1)) sc shs sy ((-2147483648) ||| N) 0 false 0 0).2.1 sgs (k_Desk_enterS (oi sx 7 ((sx.1 7) + 1)) sc shs sy ((-2147483648) ||| N) 0 false 0 0).2.2 sr (oi (k_Model_toS sm sk ((-2147483648) ||| N) 0 false 0 false).1 13 ((k_Model_toS sm sk ((-2147483648) ||| N) 0 false 0 false).1.1 13 + 1)) sp (k_Model_toS sm sk ((-2147483648) ||| N) 0 false 0 false).2 := by
  have h' : Rel (oi sx 7 ((sx.1 7) + 1)) sc so sa shs sgs sy sr (oi sm 13 (sm.1 13 + 1)) sp sk := by
    obtain ⟨⟨a1, a2, a3, a4, a5, a6⟩, hC, hO, hB, hG, hH, hR, hA⟩ := h
    exact ⟨⟨a1, a2, a3, a4, congrArg (fun z => z + 1) a5, a6⟩, hC, hO, hB, hG, hH, hR, hA⟩
  have r := rel_toS h' ((-2147483648) ||| N) 0 false 0 false false 0 0 (by rw [gvF, adF, if_pos (negor N)]; rfl) (by cases stgB ((-2147483648) ||| N) <;> rfl) (by cases stgB ((-2147483648) ||| N) <;> rfl)
  rw [toS_eq, j64_eq] at r ⊢
  exact r
theorem intV (h : Rel sx sc so sa shs sgs sy sr sm sp sk) (N : Int32) : Rel (k_Desk_enterVs (oi sx 7 ((sx.1 7) + 1)) sc sgs ((-2147483648) ||| N) 0).1 sc so sa shs (k_Desk_enterVs (oi sx 7 ((sx.1 7) + 1)) sc sgs ((-2147483648) ||| N) 0).2 sy sr (oi (k_Model_toVs sm sk ((-2147483648) ||| N) 0).1 13 ((k_Model_toVs sm sk ((-2147483648) ||| N) 0).1.1 13 + 1)) sp (k_Model_toVs sm sk ((-2147483648) ||| N) 0).2 := by
  have h' : Rel (oi sx 7 ((sx.1 7) + 1)) sc so sa shs sgs sy sr (oi sm 13 (sm.1 13 + 1)) sp sk := by
    obtain ⟨⟨a1, a2, a3, a4, a5, a6⟩, hC, hO, hB, hG, hH, hR, hA⟩ := h
    exact ⟨⟨a1, a2, a3, a4, congrArg (fun z => z + 1) a5, a6⟩, hC, hO, hB, hG, hH, hR, hA⟩
  have r := rel_toVs h' ((-2147483648) ||| N) 0
  rw [k_Model_toVs, leave256_eq] at r ⊢
  exact r
abbrev RelI (sx sc so : ob) (sa : Nat → Int32) (shs sgs sy sr : ob) (sp : Nat → Int32) (u : Int32 × ob × ob × ob × ob) (w : Int32 × ob × (Nat → Int32)) : Prop := u.1 = w.1 ∧ Rel u.2.1 sc so sa u.2.2.1 u.2.2.2.1 u.2.2.2.2 sr w.2.1 sp w.2.2
theorem vsI (h : Rel sx sc so sa shs sgs sy sr sm sp sk) (v1 v2 v3 : Int32) : RelI sx sc so sa shs sgs sy sr sp (if k_Desk_dueForVs sx sc sgs sy = -1 then (-1, sx, shs, sgs, sy) else ((100 + (k_Desk_dueForVs sx sc sgs sy)), ((k_Desk_enterVs (oi sx 7 ((sx.1 7) + 1)) sc sgs ((-2147483648) ||| (k_Desk_dueForVs sx sc sgs sy)) 0).1), shs, ((k_Desk_enterVs (oi sx 7 ((sx.1 7) + 1)) sc sgs ((-2147483648) ||| (k_Desk_dueForVs sx sc sgs sy)) 0).2), sy)) (k_Model_interrupt_j111 sm sk v1 v2 v3) := by
  obtain ⟨e1, e2, e3⟩ := virtM h.1
  have a1 := h.1.1
  have g1 := h.2.2.2.2.1.1
  obtain ⟨y1, y2, y3, y4, y5, y6, y7, y8, y9, y10⟩ := h.2.2.2.2.2.1
  have ef : k_Desk_firstOf_V (k_Controls_waitingForVs sc sy) = k_Model_first (((sm.1 20) &&& (sm.1 18)) &&& (sm.1 17)) 10 2 6 := by
    rw [firstV_eq, k_Controls_waitingForVs, y6, y4, y3]
    exact (first_eq _ 10 2 6 (by decide) (by decide) (by decide)).symm
  have hin : k_Model_first (((sm.1 20) &&& (sm.1 18)) &&& (sm.1 17)) 10 2 6 = -1 ∨ k_Model_first (((sm.1 20) &&& (sm.1 18)) &&& (sm.1 17)) 10 2 6 = 10 ∨ k_Model_first (((sm.1 20) &&& (sm.1 18)) &&& (sm.1 17)) 10 2 6 = 2 ∨ k_Model_first (((sm.1 20) &&& (sm.1 18)) &&& (sm.1 17)) 10 2 6 = 6 := by
    rw [show k_Model_first (((sm.1 20) &&& (sm.1 18)) &&& (sm.1 17)) 10 2 6 = _ from first_eq _ 10 2 6 (by decide) (by decide) (by decide)]
    exact f3_in _ _ _
  have ed : k_Desk_dueForVs sx sc sgs sy = if bI (virt (sm.1 0)) = 0 then -1 else (if sm.1 0 = 3 then (if sk 256 &&& 2 = 0 then -1 else (if k_Model_first (((sm.1 20) &&& (sm.1 18)) &&& (sm.1 17)) 10 2 6 = -1 then -1 else k_Model_first (((sm.1 20) &&& (sm.1 18)) &&& (sm.1 17)) 10 2 6 - 1)) else (if k_Model_first (((sm.1 20) &&& (sm.1 18)) &&& (sm.1 17)) 10 2 6 = -1 then -1 else k_Model_first (((sm.1 20) &&& (sm.1 18)) &&& (sm.1 17)) 10 2 6 - 1)) := by
    rw [k_Desk_dueForVs, e2, k_Desk_dueForVs_j30, ef, a1, k_Bank_hasInterruptsOn, g1]
    by_cases h1 : sk 256 &&& 2 = 0
    · rw [if_pos h1, if_pos h1, if_pos (show bI false = 0 by decide)]
    · rw [if_neg h1, if_neg h1, if_neg (show ¬ bI true = 0 by decide)]
  have hgo : ∀ F : Int32, (F = 10 ∨ F = 2 ∨ F = 6) → RelI sx sc so sa shs sgs sy sr sp ((100 + (F - 1)), ((k_Desk_enterVs (oi sx 7 ((sx.1 7) + 1)) sc sgs ((-2147483648) ||| (F - 1)) 0).1), shs, ((k_Desk_enterVs (oi sx 7 ((sx.1 7) + 1)) sc sgs ((-2147483648) ||| (F - 1)) 0).2), sy) (k_Model_interrupt_j169 sm sk v1 v2 v3 F) := by
    intro F hF
    have e : 100 + (F - 1) = (100 + F) - 1 := by rcases hF with rfl | rfl | rfl <;> decide
    exact ⟨e, intV h (F - 1)⟩
  rw [k_Model_interrupt_j111, ed]
  generalize k_Model_first (((sm.1 20) &&& (sm.1 18)) &&& (sm.1 17)) 10 2 6 = F at hin
  have hn : ∀ F : Int32, (F = 10 ∨ F = 2 ∨ F = 6) → ¬ F < 0 ∧ ¬ F = -1 ∧ ¬ F - 1 = -1 := by
    intro F hF
    rcases hF with rfl | rfl | rfl <;> decide
  rcases hin with hF | hF
  · subst hF
    rw [if_pos (show (-1 : Int32) < 0 by decide), if_pos (show (-1 : Int32) = -1 from rfl)]
    have ez : (if bI (virt (sm.1 0)) = 0 then (-1 : Int32) else (if sm.1 0 = 3 then (if sk 256 &&& 2 = 0 then -1 else -1) else -1)) = -1 := by
      split
      · rfl
      · split
        · split <;> rfl
        · rfl
    rw [ez, if_pos rfl]
    exact ⟨rfl, h⟩
  · obtain ⟨n1, n2, n3⟩ := hn F hF
    rw [if_neg n1, if_neg n2]
    rcases h.1.2.2.2.2.2 with e | e | e | e
    · rw [e, if_pos (show bI (virt 0) = 0 by decide), if_pos rfl, if_neg (by decide), if_neg (by decide)]
      exact ⟨rfl, h⟩
    · rw [e, if_pos (show bI (virt 1) = 0 by decide), if_pos rfl, if_neg (by decide), if_neg (by decide)]
      exact ⟨rfl, h⟩
    · rw [e, if_neg (show ¬ bI (virt 2) = 0 by decide), if_neg (show ¬ (2 : Int32) = 3 by decide), if_neg n3, if_pos rfl]
      exact hgo F hF
    · rw [e, if_neg (show ¬ bI (virt 3) = 0 by decide), if_pos (show (3 : Int32) = 3 from rfl), if_neg (show ¬ (3 : Int32) = 2 by decide), if_pos (show (3 : Int32) = 3 from rfl)]
      by_cases h1 : sk 256 &&& 2 = 0
      · rw [if_pos h1, if_pos rfl, if_pos h1]
        exact ⟨rfl, h⟩
      · rw [if_neg h1, if_neg n3, if_neg h1]
        exact hgo F hF
theorem rel_interrupt (h : Rel sx sc so sa shs sgs sy sr sm sp sk) : (k_Desk_interrupt sx sc so shs sgs sy).1 = (k_Model_interrupt sm sk).1 ∧ Rel (k_Desk_interrupt sx sc so shs sgs sy).2.1 sc so sa (k_Desk_interrupt sx sc so shs sgs sy).2.2.1 (k_Desk_interrupt sx sc so shs sgs sy).2.2.2.1 (k_Desk_interrupt sx sc so shs sgs sy).2.2.2.2 sr (k_Model_interrupt sm sk).2.1 sp (k_Model_interrupt sm sk).2.2 := by
  show RelI sx sc so sa shs sgs sy sr sp (k_Desk_interrupt sx sc so shs sgs sy) (k_Model_interrupt sm sk)
  have a1 := h.1.1
  have o5 := h.2.2.1.2.2.2.2.1
  have b1 := h.2.2.2.1.1
  have ed := due_eq h.2.1 h.2.2.1 h.2.2.2.2.2.1
  cases ho : sm.2.2 10 with
  | true =>
    have e1 : k_Desk_interrupt sx sc so shs sgs sy = (-3, sx, shs, sgs, sy) := by rw [k_Desk_interrupt, o5, ho, if_neg (by decide)]
    have e2 : k_Model_interrupt sm sk = (-3, sm, sk) := by rw [k_Model_interrupt, ho, if_neg (by decide)]
    rw [e1, e2]
    exact ⟨rfl, h⟩
  | false =>
    obtain ⟨w1, w2, em⟩ : ∃ w1 w2 : Int32, k_Model_interrupt sm sk = k_Model_interrupt_j63 sm sk w1 w2 (k_Desk_firstOf_S (k_Controls_waitingForS sc so sy)) := by
      refine ⟨k_Model_first ((k_Model_sip sm sk) &&& (sk 4)) 9 1 5, k_Model_first (((sm.1 20) &&& (sm.1 18)) &&& ((sm.1 17) ^^^ (-1))) 10 2 6, ?_⟩
      rw [k_Model_interrupt, ho, if_pos (by decide), ed]
      by_cases h1 : k_Model_first ((k_Model_sip sm sk) &&& (sk 4)) 9 1 5 < 0
      · rw [if_pos h1, if_pos h1]
      · rw [if_neg h1, if_neg h1]
    have hN : k_Desk_firstOf_S (k_Controls_waitingForS sc so sy) = -1 ∨ ¬ k_Desk_firstOf_S (k_Controls_waitingForS sc so sy) < 0 ∧ ¬ k_Desk_firstOf_S (k_Controls_waitingForS sc so sy) = -1 := by
      rw [firstS_eq]
      generalize bt (k_Controls_waitingForS sc so sy) 9 = q1
      generalize bt (k_Controls_waitingForS sc so sy) 1 = q2
      generalize bt (k_Controls_waitingForS sc so sy) 5 = q3
      generalize bt (k_Controls_waitingForS sc so sy) 10 = q4
      generalize bt (k_Controls_waitingForS sc so sy) 2 = q5
      generalize bt (k_Controls_waitingForS sc so sy) 6 = q6
      revert q1 q2 q3 q4 q5 q6
      decide +kernel
    have e3 : k_Desk_dueForS sx sc so shs sy = if sm.1 0 = 1 then (if sk 0 &&& 2 = 0 then -1 else k_Desk_firstOf_S (k_Controls_waitingForS sc so sy)) else k_Desk_firstOf_S (k_Controls_waitingForS sc so sy) := by
      rw [k_Desk_dueForS, k_Desk_dueForS_j23, a1, k_Bank_hasInterruptsOn, b1]
      by_cases h1 : sk 0 &&& 2 = 0
      · rw [if_pos h1, if_pos h1, if_pos (show bI false = 0 by decide)]
      · rw [if_neg h1, if_neg h1, if_neg (show ¬ bI true = 0 by decide)]
    rw [em, k_Desk_interrupt, o5, ho, if_pos (show bI false = 0 by decide), k_Model_interrupt_j63, e3]
    generalize k_Desk_firstOf_S (k_Controls_waitingForS sc so sy) = N at hN
    rcases hN with hN | ⟨n1, n2⟩
    · subst hN
      rw [if_pos (show (-1 : Int32) < 0 by decide)]
      have ez : (if sm.1 0 = 1 then (if sk 0 &&& 2 = 0 then (-1 : Int32) else -1) else -1) = -1 := by
        split
        · split <;> rfl
        · rfl
      rw [ez, if_pos rfl]
      exact vsI h _ _ _
    · rw [if_neg n1]
      by_cases m1 : sm.1 0 = 1
      · rw [if_pos m1, if_pos m1]
        by_cases h1 : sk 0 &&& 2 = 0
        · rw [if_pos h1, if_pos h1, if_pos rfl]
          exact vsI h _ _ _
        · rw [if_neg h1, if_neg h1, if_neg n2, k_Model_interrupt_j87]
          exact ⟨rfl, intS h N⟩
      · rw [if_neg m1, if_neg m1, if_neg n2, k_Model_interrupt_j87]
        exact ⟨rfl, intS h N⟩
end INT
