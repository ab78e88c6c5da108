
/-! THE FRAME: booleans, objects' states, the contracts' form, calls and ends in one row each -/
def bI (b : Bool) : Int32 := match b with
  | true => 1
  | false => 0
theorem bI_n (b : Bool) : narrow .boolean (.int (bI b)) = .int (bI b) := by cases b <;> rfl
theorem bI_f (b : Bool) : fits .boolean (.int (bI b)) = true := by cases b <;> rfl
/-- an object's fields by their slots: ints, longs, booleans -/
abbrev ob : Type := (Nat → Int32) × (Nat → Int64) × (Nat → Bool)
def oi (b : ob) (k : Nat) (x : Int32) : ob := (fun j => if j = k then x else b.1 j, b.2)
def ol (b : ob) (k : Nat) (x : Int64) : ob := (b.1, fun j => if j = k then x else b.2.1 j, b.2.2)
def oz (b : ob) (k : Nat) (x : Bool) : ob := (b.1, b.2.1, fun j => if j = k then x else b.2.2 j)
def ush (x y : Int32) : Int32 := (x.toUInt32 >>> (y.toUInt32 &&& Int32.toUInt32 31)).toInt32
def lush (x : Int64) (y : Int32) : Int64 := (x.toUInt64 >>> (y.toInt64.toUInt64 &&& Int64.toUInt64 63)).toInt64
def lsh (x : Int64) (y : Int32) : Int64 := x <<< (y.toInt64 &&& 63)
def lshr (x : Int64) (y : Int32) : Int64 := x >>> (y.toInt64 &&& 63)
theorem ct_mf {α : Type} (f : Nat → Option α) : ∀ (is : List Nat) (ws : List α), is.map f = ws.map some → is.filterMap f = ws
  | [], [], _ => rfl
  | [], _ :: _, h => by simp at h
  | _ :: _, [], h => by simp at h
  | i :: is, w :: ws, h => by
    simp only [List.map_cons, List.cons.injEq] at h
    rw [List.filterMap_cons, h.1]
    simp only [ct_mf f is ws h.2]

/-- what a contract's start also gives: the class's tables that nobody writes, and the links of nest mates -/
abbrev gx : Type := va_G × Nat × Nat
def ordS (j : Nat) : Int32 := ([9, 1, 5, 10, 2, 6] : List Int32).getD j 0
def ordV (j : Nat) : Int32 := ([10, 2, 6] : List Int32).getD j 0

def nw_B : Cond := .methodLinkNest "TrapDesk$Controls" 18 ⟨"TrapDesk$Bank", "<init>", "()V"⟩ "TrapDesk"
def nw_H : Cond := .methodLinkNest "TrapDesk$Controls" 28 ⟨"TrapDesk$Hyper", "<init>", "()V"⟩ "TrapDesk"
def nw_R : Cond := .methodLinkNest "TrapDesk" 23 ⟨"TrapDesk$Registers", "<init>", "()V"⟩ "TrapDesk"
def ex (G : gx) (A : Nat → Prop) (U : State) : Prop :=
  va_Z "TrapDesk" "ORDER_FOR_S" "[I" (.ref G.2.1) A U U.heap ∧ va_T .int G.2.1 6 (fun j => .int (ordS j)) A U U.heap ∧ va_Z "TrapDesk" "ORDER_FOR_VS" "[I" (.ref G.2.2) A U U.heap ∧ va_T .int G.2.2 3 (fun j => .int (ordV j)) A U U.heap ∧ va_Nw nw_B U ∧ va_Nw nw_H U ∧ va_Nw nw_R U
theorem ex_step {G : gx} {A B : Nat → Prop} {s U : State} {H : Heap} {locs : List Loc} (h : ex G A s) (hS : va_S A s.heap H locs) (hB : ∀ q, B q → A q) (hU : U.heap = H) (hW : s.WarmedH U.vm) : ex G B U := by
  obtain ⟨z1, t1, z2, t2, n1, n2, n3⟩ := h
  have hq : ∀ a : Nat, a < s.heap.size → ¬ A a → U.heap[a]? = s.heap[a]? := fun a h1 h2 => by rw [hU]; exact hS.2.1 a h1 h2
  exact ⟨((z1.kept hq).narrow hB).moved hW.alike, ((t1.kept hq).narrow hB).moved hW.alike, ((z2.kept hq).narrow hB).moved hW.alike, ((t2.kept hq).narrow hB).moved hW.alike, va_Nw.warmM hW n1, va_Nw.warmM hW n2, va_Nw.warmM hW n3⟩
theorem ex_calling {G : gx} {A : Nat → Prop} {U : State} (g : JFrame) (mk : MethodId) (a : Array Value) (h : ex G A U) : ex G A (U.calling g mk a) := by
  obtain ⟨z1, t1, z2, t2, n1, n2, n3⟩ := h
  exact ⟨va_Z.moved (u := U) (U := U.calling g mk a) (Vm.Alike.refl U.vm) z1, va_T.moved (u := U) (U := U.calling g mk a) (Vm.Alike.refl U.vm) t1, va_Z.moved (u := U) (U := U.calling g mk a) (Vm.Alike.refl U.vm) z2, va_T.moved (u := U) (U := U.calling g mk a) (Vm.Alike.refl U.vm) t2, va_Nw.same (u := U) (U := U.calling g mk a) rfl rfl n1, va_Nw.same (u := U) (U := U.calling g mk a) rfl rfl n2, va_Nw.same (u := U) (U := U.calling g mk a) rfl rfl n3⟩

def ct_pre (G : gx) (tys : List (ClassId × FieldType)) (As : List Value) (w : va_W) (sz : Nat) : Array Value → State → Prop :=
  va_Pc As (fun U => U.heap.size = sz ∧ va_P G.1 vwCl w U.heap ∧ va_K G.1 vwCl tys U ∧ va_D (fun _ => True) w ∧ ex G (va_A w sz) U)
def ct_at (G : gx) (tys : List (ClassId × FieldType)) (A : Nat → Prop) (w : va_W) (t : State) : Prop := va_P G.1 vwCl w t.heap ∧ va_K G.1 vwCl tys t ∧ va_D A w
def ct_qi (G : gx) (tys : List (ClassId × FieldType)) (A : Nat → Prop) (r : Int32) (w1 : va_W) : Array Value → State → Outcome → State → Prop := va_Qi (fun (r' : Int32) (_ : Unit) => r' = r) (fun _ t => ct_at G tys A w1 t) A
def ct_ql (G : gx) (tys : List (ClassId × FieldType)) (A : Nat → Prop) (r : Int64) (w1 : va_W) : Array Value → State → Outcome → State → Prop := va_Ql (fun (r' : Int64) (_ : Unit) => r' = r) (fun _ t => ct_at G tys A w1 t) A
def ct_qv (G : gx) (tys : List (ClassId × FieldType)) (A : Nat → Prop) (w1 : va_W) : Array Value → State → Outcome → State → Prop := va_Qv (fun (_ : Unit) => True) (fun _ t => ct_at G tys A w1 t) A
def ct_I (l : Launch) (y : MethodName) (ws : List Cond) (rm : Room) (G : gx) (tys : List (ClassId × FieldType)) (As : List Value) (w : va_W) (r : Int32) (w1 : va_W) : Prop := ∀ sz : Nat, Met l y ws rm (ct_pre G tys As w sz) (ct_qi G tys (va_A w sz) r w1) 0 0 (va_A w sz)
def ct_L (l : Launch) (y : MethodName) (ws : List Cond) (rm : Room) (G : gx) (tys : List (ClassId × FieldType)) (As : List Value) (w : va_W) (r : Int64) (w1 : va_W) : Prop := ∀ sz : Nat, Met l y ws rm (ct_pre G tys As w sz) (ct_ql G tys (va_A w sz) r w1) 0 0 (va_A w sz)
def ct_V (l : Launch) (y : MethodName) (ws : List Cond) (rm : Room) (G : gx) (tys : List (ClassId × FieldType)) (As : List Value) (w : va_W) (w1 : va_W) : Prop := ∀ sz : Nat, Met l y ws rm (ct_pre G tys As w sz) (ct_qv G tys (va_A w sz) w1) 0 0 (va_A w sz)
/-- a constructor's contract: new cells at addresses u, the world w1 u behind it, its arrays' classes tys1 u -/
def ct_qn {Sg : Type} (G : gx) (A : Nat → Prop) (tys1 : Sg → List (ClassId × FieldType)) (w1 : Sg → va_W) : Array Value → State → Outcome → State → Prop := va_Qv (fun (_ : Sg) => True) (fun u t => ct_at G (tys1 u) A (w1 u) t) A
def ct_N {Sg : Type} (l : Launch) (y : MethodName) (ws : List Cond) (rm : Room) (G : gx) (tys : List (ClassId × FieldType)) (As : List Value) (w : va_W) (mc ms : Nat) (tys1 : Sg → List (ClassId × FieldType)) (w1 : Sg → va_W) : Prop := ∀ sz : Nat, Met l y ws rm (ct_pre G tys As w sz) (ct_qn G (va_A w sz) tys1 w1) mc ms (va_A w sz)
theorem ct_blind {G : gx} {tys : List (ClassId × FieldType)} {As : List Value} {w : va_W} {sz : Nat} : FrameBlind (ct_pre G tys As w sz) := fun a U g mk q => by
  obtain ⟨q0, q1, qP, qK, qD, qE⟩ := q
  exact ⟨q0, q1, qP, va_K.moved (u := U) (U := U.calling g mk a) (Vm.Alike.refl U.vm) qK, qD, ex_calling g mk a qE⟩
section CTH
variable {l : Launch} {y : MethodName} {cc : ByteArray} {maxL : Nat} {ws ws' : List Cond} {rm : Room} {G : gx} {tys : List (ClassId × FieldType)} {As : List Value} {w w1 : va_W}
/-- a walk's start, whatever the end is -/
theorem ct_head {mc ms : Nat} {ret : Option FieldType} {Qc : (Nat → Prop) → Array Value → State → Outcome → State → Prop} (hy : plainName y.cls = true) (hw : ws = Cond.code y cc maxL ret :: ws') (hn : (lg_sl As).length ≤ maxL)
    (body : ∀ (p : Program) (e : Env) (s : State) (m : MethodId) (below : List Frame) (meth : Method) (c : Code) (A : Nat → Prop) (ls : Array Slot), p.tables.exec = Jvm.exec → c.code = cc → meth.sig.returnType = ret → c.maxLocals = maxL → (∀ w ∈ ws, w.before As.toArray s = true) → s.vm.findClass y.cls = some m.cls → meth.locks = false →
      va_P G.1 vwCl w s.heap → va_K G.1 vwCl tys s → va_D A w → (∀ q : Nat, s.heap.size ≤ q → A q) → ex G A s → va_S A s.heap s.heap [] → lv_has ls maxL (lv_args 0 As) →
      W p l e rm s m As.toArray below meth c s.heap [] 0 0 (MQ below (Qc A) As.toArray s mc ms A) (F0 m 0 ls [])) : ∀ sz : Nat, Met l y ws rm (ct_pre G tys As w sz) (Qc (va_A w sz)) mc ms (va_A w sz) := by
  intro sz
  refine Met.ofW (cc := cc) (maxL := maxL) (ret := ret) hy hw ?_
  intro p e s m args below meth c s₁ B hml hv
  obtain ⟨rfl, hsz, hP, hK, hD0, hE⟩ := hv
  have hts := atoms_spec (ws := ws) B.pre
  have hown : s.vm.findClass y.cls = some m.cls := findClass_of_methodNamed B.named
  subst hsz
  have hD := hD0.self (sz := s.heap.size)
  have hA : ∀ q : Nat, s.heap.size ≤ q → va_A w s.heap.size q := fun q h => Or.inr h
  rw [lg_entry_eq]
  exact body p e s m below meth c (va_A w s.heap.size) _ B.exec B.bytes B.returns hml hts hown B.notSynchronized hP hK hD hA hE va_S.rf (lv_entry As hn)
theorem ct_hI {ret : Option FieldType} {r : Int32} (hy : plainName y.cls = true) (hw : ws = Cond.code y cc maxL ret :: ws') (hn : (lg_sl As).length ≤ maxL)
    (body : ∀ (p : Program) (e : Env) (s : State) (m : MethodId) (below : List Frame) (meth : Method) (c : Code) (A : Nat → Prop) (ls : Array Slot), p.tables.exec = Jvm.exec → c.code = cc → meth.sig.returnType = ret → c.maxLocals = maxL → (∀ w ∈ ws, w.before As.toArray s = true) → s.vm.findClass y.cls = some m.cls → meth.locks = false →
      va_P G.1 vwCl w s.heap → va_K G.1 vwCl tys s → va_D A w → (∀ q : Nat, s.heap.size ≤ q → A q) → ex G A s → va_S A s.heap s.heap [] → lv_has ls maxL (lv_args 0 As) →
      W p l e rm s m As.toArray below meth c s.heap [] 0 0 (MQ below (ct_qi G tys A r w1) As.toArray s 0 0 A) (F0 m 0 ls [])) : ct_I l y ws rm G tys As w r w1 :=
  ct_head (Qc := fun A => ct_qi G tys A r w1) hy hw hn body
theorem ct_hL {ret : Option FieldType} {r : Int64} (hy : plainName y.cls = true) (hw : ws = Cond.code y cc maxL ret :: ws') (hn : (lg_sl As).length ≤ maxL)
    (body : ∀ (p : Program) (e : Env) (s : State) (m : MethodId) (below : List Frame) (meth : Method) (c : Code) (A : Nat → Prop) (ls : Array Slot), p.tables.exec = Jvm.exec → c.code = cc → meth.sig.returnType = ret → c.maxLocals = maxL → (∀ w ∈ ws, w.before As.toArray s = true) → s.vm.findClass y.cls = some m.cls → meth.locks = false →
      va_P G.1 vwCl w s.heap → va_K G.1 vwCl tys s → va_D A w → (∀ q : Nat, s.heap.size ≤ q → A q) → ex G A s → va_S A s.heap s.heap [] → lv_has ls maxL (lv_args 0 As) →
      W p l e rm s m As.toArray below meth c s.heap [] 0 0 (MQ below (ct_ql G tys A r w1) As.toArray s 0 0 A) (F0 m 0 ls [])) : ct_L l y ws rm G tys As w r w1 :=
  ct_head (Qc := fun A => ct_ql G tys A r w1) hy hw hn body
theorem ct_hV {ret : Option FieldType} (hy : plainName y.cls = true) (hw : ws = Cond.code y cc maxL ret :: ws') (hn : (lg_sl As).length ≤ maxL)
    (body : ∀ (p : Program) (e : Env) (s : State) (m : MethodId) (below : List Frame) (meth : Method) (c : Code) (A : Nat → Prop) (ls : Array Slot), p.tables.exec = Jvm.exec → c.code = cc → meth.sig.returnType = ret → c.maxLocals = maxL → (∀ w ∈ ws, w.before As.toArray s = true) → s.vm.findClass y.cls = some m.cls → meth.locks = false →
      va_P G.1 vwCl w s.heap → va_K G.1 vwCl tys s → va_D A w → (∀ q : Nat, s.heap.size ≤ q → A q) → ex G A s → va_S A s.heap s.heap [] → lv_has ls maxL (lv_args 0 As) →
      W p l e rm s m As.toArray below meth c s.heap [] 0 0 (MQ below (ct_qv G tys A w1) As.toArray s 0 0 A) (F0 m 0 ls [])) : ct_V l y ws rm G tys As w w1 :=
  ct_head (Qc := fun A => ct_qv G tys A w1) hy hw hn body
theorem ct_hN {Sg : Type} {tys1 : Sg → List (ClassId × FieldType)} {wn : Sg → va_W} {mc ms : Nat} {ret : Option FieldType} (hy : plainName y.cls = true) (hw : ws = Cond.code y cc maxL ret :: ws') (hn : (lg_sl As).length ≤ maxL)
    (body : ∀ (p : Program) (e : Env) (s : State) (m : MethodId) (below : List Frame) (meth : Method) (c : Code) (A : Nat → Prop) (ls : Array Slot), p.tables.exec = Jvm.exec → c.code = cc → meth.sig.returnType = ret → c.maxLocals = maxL → (∀ w ∈ ws, w.before As.toArray s = true) → s.vm.findClass y.cls = some m.cls → meth.locks = false → meth.name = y.name →
      va_P G.1 vwCl w s.heap → va_K G.1 vwCl tys s → va_D A w → (∀ q : Nat, s.heap.size ≤ q → A q) → ex G A s → va_S A s.heap s.heap [] → lv_has ls maxL (lv_args 0 As) →
      W p l e rm s m As.toArray below meth c s.heap [] 0 0 (MQ below (ct_qn G A tys1 wn) As.toArray s mc ms A) (F0 m 0 ls [])) : ct_N l y ws rm G tys As w mc ms tys1 wn := by
  intro sz
  refine Met.ofW (cc := cc) (maxL := maxL) (ret := ret) hy hw ?_
  intro p e s m args below meth c s₁ B hml hv
  obtain ⟨rfl, hsz, hP, hK, hD0, hE⟩ := hv
  have hts := atoms_spec (ws := ws) B.pre
  have hown : s.vm.findClass y.cls = some m.cls := findClass_of_methodNamed B.named
  subst hsz
  have hD := hD0.self (sz := s.heap.size)
  have hA : ∀ q : Nat, s.heap.size ≤ q → va_A w s.heap.size q := fun q h => Or.inr h
  rw [lg_entry_eq]
  exact body p e s m below meth c (va_A w s.heap.size) _ B.exec B.bytes B.returns hml hts hown B.notSynchronized (name_of_methodNamed B.named B.method).1 hP hK hD hA hE va_S.rf (lv_entry As hn)
end CTH
section CTC
variable {p : Program} {l : Launch} {e : Env} {R : Room} {s : State} {m : MethodId} {args : Array Value} {below : List Frame} {meth : Method} {c : Code} {H : Heap} {locs : List Loc} {cells slots : Nat} {Q : State → Prop}
variable {pc : Nat} {ls : Array Slot} {rest st0 : List Value} {A : Nat → Prop} {G : gx} {tys : List (ClassId × FieldType)} {cc : ByteArray}
theorem ct_ri (hx : p.tables.exec = Jvm.exec) (hb : c.code = cc) (hr : meth.sig.returnType = some .int) (hlocks : meth.locks = false) {v r : Int32} {w9 w1 : va_W} (hP : va_P G.1 vwCl w9 H) (hD : va_D A w9) (hK : va_K G.1 vwCl tys s) (hS : va_S A s.heap H locs) (hdg : decode cc pc = .ok (.ireturn, 1)) (hv : v = r) (hw : w9 = w1) :
    W p l e R s m args below meth c H locs cells slots (MQ below (ct_qi G tys A r w1) args s cells slots A) (F0 m pc ls [.int v]) := by
  subst hv
  subst hw
  exact W.iret hx hb hr (fun t ht hW => ⟨⟨v, (), rfl, rfl, by rw [ht]; exact hP, va_K.moved hW.alike hK, hD⟩, hS.F ht⟩) hS.2.2 hdg hlocks
theorem ct_rz (hx : p.tables.exec = Jvm.exec) (hb : c.code = cc) (hr : meth.sig.returnType = some .boolean) (hlocks : meth.locks = false) {v r : Int32} {w9 w1 : va_W} (hP : va_P G.1 vwCl w9 H) (hD : va_D A w9) (hK : va_K G.1 vwCl tys s) (hS : va_S A s.heap H locs) (hdg : decode cc pc = .ok (.ireturn, 1)) (hn : narrow .boolean (.int v) = .int v) (hv : v = r) (hw : w9 = w1) :
    W p l e R s m args below meth c H locs cells slots (MQ below (ct_qi G tys A r w1) args s cells slots A) (F0 m pc ls [.int v]) := by
  subst hv
  subst hw
  exact W.zret hx hb hr hn (fun t ht hW => ⟨⟨v, (), rfl, rfl, by rw [ht]; exact hP, va_K.moved hW.alike hK, hD⟩, hS.F ht⟩) hS.2.2 hdg hlocks
theorem ct_rl (hx : p.tables.exec = Jvm.exec) (hb : c.code = cc) (hr : meth.sig.returnType = some .long) (hlocks : meth.locks = false) {v r : Int64} {w9 w1 : va_W} (hP : va_P G.1 vwCl w9 H) (hD : va_D A w9) (hK : va_K G.1 vwCl tys s) (hS : va_S A s.heap H locs) (hdg : decode cc pc = .ok (.lreturn, 1)) (hv : v = r) (hw : w9 = w1) :
    W p l e R s m args below meth c H locs cells slots (MQ below (ct_ql G tys A r w1) args s cells slots A) (F0 m pc ls [.long v]) := by
  subst hv
  subst hw
  exact W.lret hx hb hr (fun t ht hW => ⟨⟨v, (), rfl, rfl, by rw [ht]; exact hP, va_K.moved hW.alike hK, hD⟩, hS.F ht⟩) hS.2.2 hdg hlocks
theorem ct_rv (hx : p.tables.exec = Jvm.exec) (hb : c.code = cc) (hr : meth.sig.returnType = none) (hlocks : meth.locks = false) {w9 w1 : va_W} (hP : va_P G.1 vwCl w9 H) (hD : va_D A w9) (hK : va_K G.1 vwCl tys s) (hS : va_S A s.heap H locs) (hdg : decode cc pc = .ok (.return_, 1)) (hw : w9 = w1) :
    W p l e R s m args below meth c H locs cells slots (MQ below (ct_qv G tys A w1) args s cells slots A) (F0 m pc ls []) := by
  subst hw
  exact W.vret hx hb hr (fun t ht hW => ⟨⟨(), rfl, trivial, by rw [ht]; exact hP, va_K.moved hW.alike hK, hD⟩, hS.F ht⟩) hS.2.2 hdg hlocks

theorem ct_goi {w0 wc wr w1 w2 : va_W} {r : Int32} {a : Array Value} {H0 : Heap} (hr : va_Run p l e R s m args below meth c H locs cells slots 0 0 (F0 m pc ls st0) rest (ct_qi G tys (va_A wc H.size) r w1 a) (va_A wc H.size)) (hP : va_P G.1 vwCl w0 H) (hD : va_D A w0) (hS : va_S A H0 H locs) (hA : ∀ q : Nat, H0.size ≤ q → A q) (isC isR isZ : List Nat) (hC : isC.map (fun i => w0[i]?) = wc.map some) (hR : isR.map (fun i => w0[i]?) = wr.map some) (hn : va_nd isR = true) (hdis : ∀ i ∈ isR, i ∉ isC) (hZ : isZ.map (fun i => (wr ++ w1)[i]?) = w2.map some) (hnz : va_nd isZ = true)
    (kk : ∀ (H1 : Heap) (locs1 : List Loc), va_P G.1 vwCl w2 H1 → va_D A w2 → va_S A H0 H1 locs1 → W p l e R s m args below meth c H1 locs1 cells slots Q (F0 m (pc + 3) ls (.int r :: rest))) : W p l e R s m args below meth c H locs cells slots Q (F0 m pc ls st0) := by
  have hFc := va_free (wc := wc) hD hS hA isC hC
  refine va_calli hr hS (fun q _ h => hFc q h) hFc (fun r' u t H1 locs1 ht hvm hw hB hz1 hk1 hS1 => ?_)
  subst hw
  obtain ⟨hP1, hK1, hD1⟩ := hB
  rw [ht] at hP1
  obtain ⟨hP2, hD2⟩ := va_join (wr := wr) (w1 := w1) hP hD isC isR hC hR hn hdis hk1 hFc hP1 hD1
  exact kk H1 locs1 (hP2.sub isZ (ct_mf _ _ _ hZ)) (hD2.sub isZ hnz hZ) hS1

theorem ct_cVi {w0 wc wr w1 w2 : va_W} {r : Int32} {own C : String} {b : Addr} {index maxL nL n : Nat} {y : MethodName} {bytes : ByteArray} {ret : Option FieldType} {ws Ts : List Cond} {rm : Room} {As : List Value} (S : CallFix p m c cc nL s args Ts own) (hM : ct_I l y ws rm G tys (.ref b :: As) wc r w1) (cw : CallW R s args own C index y bytes maxL ret ws rm 0 0 n) (hE : ex G A s) (hK : va_K G.1 vwCl tys s) (hP : va_P G.1 vwCl w0 H) (hD : va_D A w0) (hS : va_S A s.heap H locs) (hA : ∀ q : Nat, s.heap.size ≤ q → A q) (isC isR isZ : List Nat) (hC : isC.map (fun i => w0[i]?) = wc.map some) (hCn : va_nd isC = true) (hR : isR.map (fun i => w0[i]?) = wr.map some) (hn : va_nd isR = true) (hdis : ∀ i ∈ isR, i ∉ isC) (hZ : isZ.map (fun i => (wr ++ w1)[i]?) = w2.map some) (hnz : va_nd isZ = true) {ci q0 : Nat} {T : u_T} {N : Nat} {fs : List Value} (hc : vwCl[ci]? = some (C, T, N)) (he : wc[q0]? = some (b, .inr (ci, fs))) (hAs : As.length = n) (hl : ls.size = nL) (hst : st0 = As.reverse ++ .ref b :: rest) (hroom : (rest.map fun v => v.category).sum ≤ 8) (hdg : decode cc pc = .ok (.invokevirtual index, 3)) (hcl : cells ≤ R.cells ∧ slots ≤ R.slots)
    (kk : ∀ (H1 : Heap) (locs1 : List Loc), va_P G.1 vwCl w2 H1 → va_D A w2 → va_S A s.heap H1 locs1 → W p l e R s m args below meth c H1 locs1 cells slots Q (F0 m (pc + 3) ls (.int r :: rest))) : W p l e R s m args below meth c H locs cells slots Q (F0 m pc ls st0) := by
  have hPc := hP.sub (ws' := wc) isC (ct_mf _ _ _ hC)
  have hDc := hD.sub (ws' := wc) isC hCn hC
  have hFc := va_free (wc := wc) hD hS hA isC hC
  refine ct_goi (va_runV (As := As) (rest := rest) S (hM H.size) cw ⟨ct_blind, va_recv hK hPc hc he, fun U hU hW => ⟨rfl, by rw [hU], by rw [hU]; exact hPc, va_K.moved hW.alike hK, hDc.weaken (fun _ _ _ _ => trivial), ex_step hE hS hFc hU hW⟩⟩ rfl hAs hl hst (lv_room hroom) hdg hcl) hP hD hS hA isC isR isZ hC hR hn hdis hZ hnz kk

theorem ct_cSi {w0 wc wr w1 w2 : va_W} {r : Int32} {own : String} {index maxL nL n : Nat} {y : MethodName} {bytes : ByteArray} {ret : Option FieldType} {ws Ts : List Cond} {rm : Room} {As : List Value} (S : CallFix p m c cc nL s args Ts own) (hM : ct_I l y ws rm G tys As wc r w1) (cw : CallB R s args own index y bytes maxL ret ws rm 0 0 n ∧ (Cond.static y).before args s = true) (hE : ex G A s) (hK : va_K G.1 vwCl tys s) (hP : va_P G.1 vwCl w0 H) (hD : va_D A w0) (hS : va_S A s.heap H locs) (hA : ∀ q : Nat, s.heap.size ≤ q → A q) (isC isR isZ : List Nat) (hC : isC.map (fun i => w0[i]?) = wc.map some) (hCn : va_nd isC = true) (hR : isR.map (fun i => w0[i]?) = wr.map some) (hn : va_nd isR = true) (hdis : ∀ i ∈ isR, i ∉ isC) (hZ : isZ.map (fun i => (wr ++ w1)[i]?) = w2.map some) (hnz : va_nd isZ = true) (hAs : As.length = n) (hl : ls.size = nL) (hst : st0 = As.reverse ++ rest) (hroom : (rest.map fun v => v.category).sum ≤ 8) (hdg : decode cc pc = .ok (.invokestatic index, 3)) (hcl : cells ≤ R.cells ∧ slots ≤ R.slots)
    (kk : ∀ (H1 : Heap) (locs1 : List Loc), va_P G.1 vwCl w2 H1 → va_D A w2 → va_S A s.heap H1 locs1 → W p l e R s m args below meth c H1 locs1 cells slots Q (F0 m (pc + 3) ls (.int r :: rest))) : W p l e R s m args below meth c H locs cells slots Q (F0 m pc ls st0) := by
  have hPc := hP.sub (ws' := wc) isC (ct_mf _ _ _ hC)
  have hDc := hD.sub (ws' := wc) isC hCn hC
  have hFc := va_free (wc := wc) hD hS hA isC hC
  refine ct_goi (va_runS (As := As) (rest := rest) S (hM H.size) cw ⟨ct_blind, fun U hU hW => ⟨rfl, by rw [hU], by rw [hU]; exact hPc, va_K.moved hW.alike hK, hDc.weaken (fun _ _ _ _ => trivial), ex_step hE hS hFc hU hW⟩⟩ rfl hAs hl hst (lv_room hroom) hdg hcl) hP hD hS hA isC isR isZ hC hR hn hdis hZ hnz kk

theorem ct_gol {w0 wc wr w1 w2 : va_W} {r : Int64} {a : Array Value} {H0 : Heap} (hr : va_Run p l e R s m args below meth c H locs cells slots 0 0 (F0 m pc ls st0) rest (ct_ql G tys (va_A wc H.size) r w1 a) (va_A wc H.size)) (hP : va_P G.1 vwCl w0 H) (hD : va_D A w0) (hS : va_S A H0 H locs) (hA : ∀ q : Nat, H0.size ≤ q → A q) (isC isR isZ : List Nat) (hC : isC.map (fun i => w0[i]?) = wc.map some) (hR : isR.map (fun i => w0[i]?) = wr.map some) (hn : va_nd isR = true) (hdis : ∀ i ∈ isR, i ∉ isC) (hZ : isZ.map (fun i => (wr ++ w1)[i]?) = w2.map some) (hnz : va_nd isZ = true)
    (kk : ∀ (H1 : Heap) (locs1 : List Loc), va_P G.1 vwCl w2 H1 → va_D A w2 → va_S A H0 H1 locs1 → W p l e R s m args below meth c H1 locs1 cells slots Q (F0 m (pc + 3) ls (.long r :: rest))) : W p l e R s m args below meth c H locs cells slots Q (F0 m pc ls st0) := by
  have hFc := va_free (wc := wc) hD hS hA isC hC
  refine va_calll hr hS (fun q _ h => hFc q h) hFc (fun r' u t H1 locs1 ht hvm hw hB hz1 hk1 hS1 => ?_)
  subst hw
  obtain ⟨hP1, hK1, hD1⟩ := hB
  rw [ht] at hP1
  obtain ⟨hP2, hD2⟩ := va_join (wr := wr) (w1 := w1) hP hD isC isR hC hR hn hdis hk1 hFc hP1 hD1
  exact kk H1 locs1 (hP2.sub isZ (ct_mf _ _ _ hZ)) (hD2.sub isZ hnz hZ) hS1

theorem ct_cVl {w0 wc wr w1 w2 : va_W} {r : Int64} {own C : String} {b : Addr} {index maxL nL n : Nat} {y : MethodName} {bytes : ByteArray} {ret : Option FieldType} {ws Ts : List Cond} {rm : Room} {As : List Value} (S : CallFix p m c cc nL s args Ts own) (hM : ct_L l y ws rm G tys (.ref b :: As) wc r w1) (cw : CallW R s args own C index y bytes maxL ret ws rm 0 0 n) (hE : ex G A s) (hK : va_K G.1 vwCl tys s) (hP : va_P G.1 vwCl w0 H) (hD : va_D A w0) (hS : va_S A s.heap H locs) (hA : ∀ q : Nat, s.heap.size ≤ q → A q) (isC isR isZ : List Nat) (hC : isC.map (fun i => w0[i]?) = wc.map some) (hCn : va_nd isC = true) (hR : isR.map (fun i => w0[i]?) = wr.map some) (hn : va_nd isR = true) (hdis : ∀ i ∈ isR, i ∉ isC) (hZ : isZ.map (fun i => (wr ++ w1)[i]?) = w2.map some) (hnz : va_nd isZ = true) {ci q0 : Nat} {T : u_T} {N : Nat} {fs : List Value} (hc : vwCl[ci]? = some (C, T, N)) (he : wc[q0]? = some (b, .inr (ci, fs))) (hAs : As.length = n) (hl : ls.size = nL) (hst : st0 = As.reverse ++ .ref b :: rest) (hroom : (rest.map fun v => v.category).sum ≤ 8) (hdg : decode cc pc = .ok (.invokevirtual index, 3)) (hcl : cells ≤ R.cells ∧ slots ≤ R.slots)
    (kk : ∀ (H1 : Heap) (locs1 : List Loc), va_P G.1 vwCl w2 H1 → va_D A w2 → va_S A s.heap H1 locs1 → W p l e R s m args below meth c H1 locs1 cells slots Q (F0 m (pc + 3) ls (.long r :: rest))) : W p l e R s m args below meth c H locs cells slots Q (F0 m pc ls st0) := by
  have hPc := hP.sub (ws' := wc) isC (ct_mf _ _ _ hC)
  have hDc := hD.sub (ws' := wc) isC hCn hC
  have hFc := va_free (wc := wc) hD hS hA isC hC
  refine ct_gol (va_runV (As := As) (rest := rest) S (hM H.size) cw ⟨ct_blind, va_recv hK hPc hc he, fun U hU hW => ⟨rfl, by rw [hU], by rw [hU]; exact hPc, va_K.moved hW.alike hK, hDc.weaken (fun _ _ _ _ => trivial), ex_step hE hS hFc hU hW⟩⟩ rfl hAs hl hst (lv_room hroom) hdg hcl) hP hD hS hA isC isR isZ hC hR hn hdis hZ hnz kk

theorem ct_cSl {w0 wc wr w1 w2 : va_W} {r : Int64} {own : String} {index maxL nL n : Nat} {y : MethodName} {bytes : ByteArray} {ret : Option FieldType} {ws Ts : List Cond} {rm : Room} {As : List Value} (S : CallFix p m c cc nL s args Ts own) (hM : ct_L l y ws rm G tys As wc r w1) (cw : CallB R s args own index y bytes maxL ret ws rm 0 0 n ∧ (Cond.static y).before args s = true) (hE : ex G A s) (hK : va_K G.1 vwCl tys s) (hP : va_P G.1 vwCl w0 H) (hD : va_D A w0) (hS : va_S A s.heap H locs) (hA : ∀ q : Nat, s.heap.size ≤ q → A q) (isC isR isZ : List Nat) (hC : isC.map (fun i => w0[i]?) = wc.map some) (hCn : va_nd isC = true) (hR : isR.map (fun i => w0[i]?) = wr.map some) (hn : va_nd isR = true) (hdis : ∀ i ∈ isR, i ∉ isC) (hZ : isZ.map (fun i => (wr ++ w1)[i]?) = w2.map some) (hnz : va_nd isZ = true) (hAs : As.length = n) (hl : ls.size = nL) (hst : st0 = As.reverse ++ rest) (hroom : (rest.map fun v => v.category).sum ≤ 8) (hdg : decode cc pc = .ok (.invokestatic index, 3)) (hcl : cells ≤ R.cells ∧ slots ≤ R.slots)
    (kk : ∀ (H1 : Heap) (locs1 : List Loc), va_P G.1 vwCl w2 H1 → va_D A w2 → va_S A s.heap H1 locs1 → W p l e R s m args below meth c H1 locs1 cells slots Q (F0 m (pc + 3) ls (.long r :: rest))) : W p l e R s m args below meth c H locs cells slots Q (F0 m pc ls st0) := by
  have hPc := hP.sub (ws' := wc) isC (ct_mf _ _ _ hC)
  have hDc := hD.sub (ws' := wc) isC hCn hC
  have hFc := va_free (wc := wc) hD hS hA isC hC
  refine ct_gol (va_runS (As := As) (rest := rest) S (hM H.size) cw ⟨ct_blind, fun U hU hW => ⟨rfl, by rw [hU], by rw [hU]; exact hPc, va_K.moved hW.alike hK, hDc.weaken (fun _ _ _ _ => trivial), ex_step hE hS hFc hU hW⟩⟩ rfl hAs hl hst (lv_room hroom) hdg hcl) hP hD hS hA isC isR isZ hC hR hn hdis hZ hnz kk

theorem ct_gov {w0 wc wr w1 w2 : va_W} {a : Array Value} {H0 : Heap} (hr : va_Run p l e R s m args below meth c H locs cells slots 0 0 (F0 m pc ls st0) rest (ct_qv G tys (va_A wc H.size) w1 a) (va_A wc H.size)) (hP : va_P G.1 vwCl w0 H) (hD : va_D A w0) (hS : va_S A H0 H locs) (hA : ∀ q : Nat, H0.size ≤ q → A q) (isC isR isZ : List Nat) (hC : isC.map (fun i => w0[i]?) = wc.map some) (hR : isR.map (fun i => w0[i]?) = wr.map some) (hn : va_nd isR = true) (hdis : ∀ i ∈ isR, i ∉ isC) (hZ : isZ.map (fun i => (wr ++ w1)[i]?) = w2.map some) (hnz : va_nd isZ = true)
    (kk : ∀ (H1 : Heap) (locs1 : List Loc), va_P G.1 vwCl w2 H1 → va_D A w2 → va_S A H0 H1 locs1 → W p l e R s m args below meth c H1 locs1 cells slots Q (F0 m (pc + 3) ls (rest))) : W p l e R s m args below meth c H locs cells slots Q (F0 m pc ls st0) := by
  have hFc := va_free (wc := wc) hD hS hA isC hC
  refine va_callv hr hS (fun q _ h => hFc q h) hFc (fun u t H1 locs1 ht hvm hw hB hz1 hk1 hS1 => ?_)
  obtain ⟨hP1, hK1, hD1⟩ := hB
  rw [ht] at hP1
  obtain ⟨hP2, hD2⟩ := va_join (wr := wr) (w1 := w1) hP hD isC isR hC hR hn hdis hk1 hFc hP1 hD1
  exact kk H1 locs1 (hP2.sub isZ (ct_mf _ _ _ hZ)) (hD2.sub isZ hnz hZ) hS1

theorem ct_cVv {w0 wc wr w1 w2 : va_W} {own C : String} {b : Addr} {index maxL nL n : Nat} {y : MethodName} {bytes : ByteArray} {ret : Option FieldType} {ws Ts : List Cond} {rm : Room} {As : List Value} (S : CallFix p m c cc nL s args Ts own) (hM : ct_V l y ws rm G tys (.ref b :: As) wc w1) (cw : CallW R s args own C index y bytes maxL ret ws rm 0 0 n) (hE : ex G A s) (hK : va_K G.1 vwCl tys s) (hP : va_P G.1 vwCl w0 H) (hD : va_D A w0) (hS : va_S A s.heap H locs) (hA : ∀ q : Nat, s.heap.size ≤ q → A q) (isC isR isZ : List Nat) (hC : isC.map (fun i => w0[i]?) = wc.map some) (hCn : va_nd isC = true) (hR : isR.map (fun i => w0[i]?) = wr.map some) (hn : va_nd isR = true) (hdis : ∀ i ∈ isR, i ∉ isC) (hZ : isZ.map (fun i => (wr ++ w1)[i]?) = w2.map some) (hnz : va_nd isZ = true) {ci q0 : Nat} {T : u_T} {N : Nat} {fs : List Value} (hc : vwCl[ci]? = some (C, T, N)) (he : wc[q0]? = some (b, .inr (ci, fs))) (hAs : As.length = n) (hl : ls.size = nL) (hst : st0 = As.reverse ++ .ref b :: rest) (hroom : (rest.map fun v => v.category).sum ≤ 8) (hdg : decode cc pc = .ok (.invokevirtual index, 3)) (hcl : cells ≤ R.cells ∧ slots ≤ R.slots)
    (kk : ∀ (H1 : Heap) (locs1 : List Loc), va_P G.1 vwCl w2 H1 → va_D A w2 → va_S A s.heap H1 locs1 → W p l e R s m args below meth c H1 locs1 cells slots Q (F0 m (pc + 3) ls (rest))) : W p l e R s m args below meth c H locs cells slots Q (F0 m pc ls st0) := by
  have hPc := hP.sub (ws' := wc) isC (ct_mf _ _ _ hC)
  have hDc := hD.sub (ws' := wc) isC hCn hC
  have hFc := va_free (wc := wc) hD hS hA isC hC
  refine ct_gov (va_runV (As := As) (rest := rest) S (hM H.size) cw ⟨ct_blind, va_recv hK hPc hc he, fun U hU hW => ⟨rfl, by rw [hU], by rw [hU]; exact hPc, va_K.moved hW.alike hK, hDc.weaken (fun _ _ _ _ => trivial), ex_step hE hS hFc hU hW⟩⟩ rfl hAs hl hst (lv_room hroom) hdg hcl) hP hD hS hA isC isR isZ hC hR hn hdis hZ hnz kk

theorem ct_cSv {w0 wc wr w1 w2 : va_W} {own : String} {index maxL nL n : Nat} {y : MethodName} {bytes : ByteArray} {ret : Option FieldType} {ws Ts : List Cond} {rm : Room} {As : List Value} (S : CallFix p m c cc nL s args Ts own) (hM : ct_V l y ws rm G tys As wc w1) (cw : CallB R s args own index y bytes maxL ret ws rm 0 0 n ∧ (Cond.static y).before args s = true) (hE : ex G A s) (hK : va_K G.1 vwCl tys s) (hP : va_P G.1 vwCl w0 H) (hD : va_D A w0) (hS : va_S A s.heap H locs) (hA : ∀ q : Nat, s.heap.size ≤ q → A q) (isC isR isZ : List Nat) (hC : isC.map (fun i => w0[i]?) = wc.map some) (hCn : va_nd isC = true) (hR : isR.map (fun i => w0[i]?) = wr.map some) (hn : va_nd isR = true) (hdis : ∀ i ∈ isR, i ∉ isC) (hZ : isZ.map (fun i => (wr ++ w1)[i]?) = w2.map some) (hnz : va_nd isZ = true) (hAs : As.length = n) (hl : ls.size = nL) (hst : st0 = As.reverse ++ rest) (hroom : (rest.map fun v => v.category).sum ≤ 8) (hdg : decode cc pc = .ok (.invokestatic index, 3)) (hcl : cells ≤ R.cells ∧ slots ≤ R.slots)
    (kk : ∀ (H1 : Heap) (locs1 : List Loc), va_P G.1 vwCl w2 H1 → va_D A w2 → va_S A s.heap H1 locs1 → W p l e R s m args below meth c H1 locs1 cells slots Q (F0 m (pc + 3) ls (rest))) : W p l e R s m args below meth c H locs cells slots Q (F0 m pc ls st0) := by
  have hPc := hP.sub (ws' := wc) isC (ct_mf _ _ _ hC)
  have hDc := hD.sub (ws' := wc) isC hCn hC
  have hFc := va_free (wc := wc) hD hS hA isC hC
  refine ct_gov (va_runS (As := As) (rest := rest) S (hM H.size) cw ⟨ct_blind, fun U hU hW => ⟨rfl, by rw [hU], by rw [hU]; exact hPc, va_K.moved hW.alike hK, hDc.weaken (fun _ _ _ _ => trivial), ex_step hE hS hFc hU hW⟩⟩ rfl hAs hl hst (lv_room hroom) hdg hcl) hP hD hS hA isC isR isZ hC hR hn hdis hZ hnz kk

theorem ct_rn {Sg : Type} {tys1 : Sg → List (ClassId × FieldType)} {wn : Sg → va_W} (hx : p.tables.exec = Jvm.exec) (hb : c.code = cc) (hr : meth.sig.returnType = none) (hlocks : meth.locks = false) (u : Sg) {w9 : va_W} {tys9 : List (ClassId × FieldType)} (hP : va_P G.1 vwCl w9 H) (hD : va_D A w9) (hK : va_K G.1 vwCl tys9 s) (hS : va_S A s.heap H locs) (hdg : decode cc pc = .ok (.return_, 1)) (hw : w9 = wn u) (ht9 : tys9 = tys1 u) :
    W p l e R s m args below meth c H locs cells slots (MQ below (ct_qn G A tys1 wn) args s cells slots A) (F0 m pc ls []) := by
  subst hw
  subst ht9
  exact W.vret hx hb hr (fun t ht hW => ⟨⟨u, rfl, trivial, by rw [ht]; exact hP, va_K.moved hW.alike hK, hD⟩, hS.F ht⟩) hS.2.2 hdg hlocks
theorem ct_gon {Sg : Type} {tys1 : Sg → List (ClassId × FieldType)} {wn : Sg → va_W} {w0 wc wr : va_W} {mc ms : Nat} {a : Array Value} {H0 : Heap} (hr : va_Run p l e R s m args below meth c H locs cells slots mc ms (F0 m pc ls st0) rest (ct_qn G (va_A wc H.size) tys1 wn a) (va_A wc H.size)) (hP : va_P G.1 vwCl w0 H) (hD : va_D A w0) (hS : va_S A H0 H locs) (hA : ∀ q : Nat, H0.size ≤ q → A q) (isC isR : List Nat) (hC : isC.map (fun i => w0[i]?) = wc.map some) (hR : isR.map (fun i => w0[i]?) = wr.map some) (hn : va_nd isR = true) (hdis : ∀ i ∈ isR, i ∉ isC)
    (kk : ∀ (u : Sg) (H1 : Heap) (locs1 : List Loc), va_P G.1 vwCl (wr ++ wn u) H1 → va_D A (wr ++ wn u) → va_K G.1 vwCl (tys1 u) s → va_S A H0 H1 locs1 → W p l e R s m args below meth c H1 locs1 (cells + mc) (slots + ms) Q (F0 m (pc + 3) ls rest)) : W p l e R s m args below meth c H locs cells slots Q (F0 m pc ls st0) := by
  have hFc := va_free (wc := wc) hD hS hA isC hC
  refine va_callv hr hS (fun q _ h => hFc q h) hFc (fun u t H1 locs1 ht hvm hw hB hz1 hk1 hS1 => ?_)
  obtain ⟨hP1, hK1, hD1⟩ := hB
  rw [ht] at hP1
  have hK1 := va_K.moved hvm.symm hK1
  obtain ⟨hP2, hD2⟩ := va_join (wr := wr) (w1 := wn u) hP hD isC isR hC hR hn hdis hk1 hFc hP1 hD1
  exact kk u H1 locs1 hP2 hD2 hK1 hS1
theorem ct_preI {w0 wc : va_W} {As : List Value} (hE : ex G A s) (hK : va_K G.1 vwCl tys s) (hP : va_P G.1 vwCl w0 H) (hD : va_D A w0) (hS : va_S A s.heap H locs) (hA : ∀ q : Nat, s.heap.size ≤ q → A q) (isC : List Nat) (hC : isC.map (fun i => w0[i]?) = wc.map some) (hCn : va_nd isC = true) : PreS s H (ct_pre G tys As wc H.size) As := by
  have hPc := hP.sub (ws' := wc) isC (ct_mf _ _ _ hC)
  have hDc := hD.sub (ws' := wc) isC hCn hC
  have hFc := va_free (wc := wc) hD hS hA isC hC
  exact ⟨ct_blind, fun U hU hW => ⟨rfl, by rw [hU], by rw [hU]; exact hPc, va_K.moved hW.alike hK, hDc.weaken (fun _ _ _ _ => trivial), ex_step hE hS hFc hU hW⟩⟩
end CTC
/-- x != 0 as a boolean -/
def bz (x : Int32) : Bool := if x = 0 then false else true
section LWN
variable {p : Program} {l : Launch} {e : Env} {R : Room} {s : State} {m : MethodId} {args : Array Value} {below : List Frame} {meth : Method} {c : Code} {H : Heap} {locs : List Loc} {cells slots : Nat} {Q : State → Prop}
theorem lw_nz {cc : ByteArray} {pc : Nat} {ls : Array Slot} {rest : List Value} {v : Int32} (hx : p.tables.exec = Jvm.exec) (hb : c.code = cc) (d1 : decode cc pc = .ok (.ifCond .eq 7, 3)) (d2 : decode cc (pc + 3) = .ok (.iconst 1, 1)) (d3 : decode cc (pc + 4) = .ok (.goto 4, 3)) (d4 : decode cc (pc + 7) = .ok (.iconst 0, 1))
    (k : W p l e R s m args below meth c H locs cells slots Q (F0 m (pc + 8) ls (.int (bI (bz v)) :: rest))) : W p l e R s m args below meth c H locs cells slots Q (F0 m pc ls (.int v :: rest)) := by
  refine lv_if_eq (tgt := pc + 7) hx hb d1 (by omega) (fun h => ?_) (fun h => ?_)
  · refine lv_iconst (v := 0) hx hb d4 (by decide) ?_
    have e1 : bI (bz v) = 0 := by rw [bz, if_pos h]; rfl
    rw [e1] at k
    exact k
  · refine lv_iconst (v := 1) hx hb d2 (by decide) ?_
    refine lv_goto (tgt := pc + 8) hx hb d3 (by omega) ?_
    have e1 : bI (bz v) = 1 := by rw [bz, if_neg h]; rfl
    rw [e1] at k
    exact k
end LWN
theorem in256 {x : Int32} (h0 : ¬ x < 0) (h : ¬ (256 : Int32) ≤ x) : vp_in x 256 := by
  rcases pk_ix x (n := 256) (by decide) with h1 | h1 | ⟨j, hj, rfl⟩
  · exact absurd h1 h0
  · exact absurd h1 h
  · exact vp_in_nI hj (by decide)

