/-! the law's helpers: a call whose exception is caught; their contracts -/
def TJ (U : State) : Prop := TF U ∧ va_Nc (exN 1) (exN 0) U ∧ va_Nc (exN 2) (exN 0) U
theorem TJ.same {u U : State} (hv : U.vm = u.vm) (hh : U.heap = u.heap) (h : TJ u) : TJ U := ⟨h.1.same hv hh, h.2.1.moved (by rw [hv]; exact Vm.Alike.refl _), h.2.2.moved (by rw [hv]; exact Vm.Alike.refl _)⟩
theorem TJ.warm {u U : State} (hW : u.WarmedH U.vm) (hk : ∀ (a : Nat) (cell : Cell), u.heap[a]? = some cell → cell.vm.isStatics = true → U.heap[a]? = some cell) (h : TJ u) : TJ U := ⟨h.1.warm hW hk, h.2.1.moved hW.alike, h.2.2.moved hW.alike⟩
/-- the answer, the world, at most one new cell of six slots -/
def CtJ (l : Launch) (y : MethodName) (w : List Cond) (rm : Room) (D : va_G) (cA : Nat → ClassId) (ws0 : va_W) (as : List Value) (r : Int32) (ws1 : va_W) : Prop :=
  ∀ sz : Nat, Met l y w rm (va_Pc as (fun U => U.heap.size = sz ∧ va_P D vwCl ws0 U.heap ∧ va_K D vwCl (tys cA) U ∧ va_D (fun _ => True) ws0 ∧ TJ U)) (va_Qi (fun (x : Int32) (_ : Unit) => x = r) (fun _ t => va_P D vwCl ws1 t.heap ∧ va_K D vwCl (tys cA) t ∧ va_D (va_A ws0 sz) ws1) (va_A ws0 sz)) 1 6 (va_A ws0 sz)
def EnJ (κ : Ctx) (D : va_G) (cA : Nat → ClassId) (hh : List (Nat × Nat × Nat × Nat)) (r : Int32) (ws1 : va_W) : Prop :=
  match κ with
  | (_, _, s, _, ar, below, _, c, A, Q) => Q = MQ below (va_Qi (fun (x : Int32) (_ : Unit) => x = r) (fun _ t => va_P D vwCl ws1 t.heap ∧ va_K D vwCl (tys cA) t ∧ va_D A ws1) A) ar s 1 6 A ∧ c.exceptionTable.toList.map (fun h => (h.startPc, h.endPc, h.handlerPc, h.catchType)) = hh ∧ TJ s
theorem CtJ.start {l : Launch} {y : MethodName} {rm : Room} {D : va_G} {cA : Nat → ClassId} {ws0 ws1 : va_W} {as : List Value} {r : Int32} {cc : ByteArray} {maxL : Nat} {ty : FieldType} {hh : List (Nat × Nat × Nat × Nat)} {lv : List (Nat × Value)}
    (hy : plainName y.cls = true) (hlen : (lg_sl as).length ≤ maxL) (hlv : lv_args 0 as = lv)
    (body : ∀ κ : Ctx, EnJ κ D cA hh r ws1 → V κ true l D cA rm cc maxL y.cls (some ty) 0 0 0 lv [] ws0) : CtJ l y (Cond.codeWith y cc maxL (some ty) hh :: tblG) rm D cA ws0 as r ws1 := by
  intro sz
  refine va_MetW (cc := cc) (maxL := maxL) (ret := some ty) (hh := hh) hy rfl ?_
  intro p e s m args below meth c s₁ B hml hv
  obtain ⟨rfl, hsz, hP, hK, hD0, hTJ⟩ := hv
  subst hsz
  have hl := lv_entry as (n := maxL) hlen
  rw [hlv] at hl
  rw [lg_entry_eq]
  have hts := atoms_spec (ws := Cond.codeWith y cc maxL (some ty) hh :: tblG) B.pre
  obtain ⟨m9, meth9, c9, hn9, hm9, hc9, -, -, hx9, -⟩ := Cond.codeWith_spec (hts _ List.mem_cons_self)
  cases hn9.symm.trans B.named
  cases hm9.symm.trans B.method
  cases hc9.symm.trans (Stand.of_body B).code
  exact body (p, e, s, m, as.toArray, below, meth, c, va_A ws0 s.heap.size, _) ⟨rfl, hx9, hTJ⟩ ⟨B.exec, B.bytes, hml, findClass_of_methodNamed B.named, fun w hw => hts w (List.mem_cons_of_mem _ hw), B.returns, B.notSynchronized, hK, fun q h => Or.inr h⟩ s.heap [] _ hl hP hD0.self ⟨rfl, rfl⟩
/-- the search for a handler, with the tables that it leaves -/
def HFind (e : Env) (s : State) (f : JFrame) (a : Addr) (pc : Nat) (vm' : Vm) : Prop := ∀ (Q : Handler → Pre) (E : CtlPost) (d : Bool) (acts : List Action), wp (findHandler f a) Q E e d acts s ↔ Q (.found pc) d acts (s.setVm vm')
section HSearch
variable {Q : Handler → Pre} {E : CtlPost} {e : Env} {d : Bool} {acts : List Action} {s : State} {f : JFrame} {a : Addr}
theorem go_hit {x : ExceptionTableEntry} {t : List ExceptionTableEntry} {c : ClassId} {cell : Cell} (hx : covers x f.pc = true) (h0 : x.catchType ≠ 0) (hl : s.vm.ClassLinks e.platform f.method.cls x.catchType c) (hcell : s.heap[a]? = some cell) (hobj : ∀ k, cell.vm ≠ .statics k) (hk : ∃ k, s.vm.classes[cell.cls]? = some k) (hc : ∃ k, s.vm.classes[c]? = some k) (hfit : s.vm.assignable cell.cls c = true) :
    wp (findHandler.go f a (x :: t)) Q E e d acts s ↔ Q (.found x.handlerPc) d acts (s.setVm (s.vm.noted f.method.cls x.catchType (.cls c))) := by
  simp only [covers] at hx
  obtain ⟨ha, ht⟩ := (resolveClass_links e.toSetting hl).op (op := VmOp.resolveClass f.method.cls x.catchType) rfl
  have hal : s.vm.Alike (s.vm.noted f.method.cls x.catchType (.cls c)) := (Vm.Alike.refl s.vm).noted _ _ _
  obtain ⟨k1, hk1⟩ := hk
  obtain ⟨k2, hk2⟩ := hc
  obtain ⟨k1', hk1', -⟩ := hal.2.2 _ _ hk1
  obtain ⟨k2', hk2', -⟩ := hal.2.2 _ _ hk2
  have hfit' : (s.vm.noted f.method.cls x.catchType (.cls c)).assignable cell.cls c = true := by rw [hal.assignable]; exact hfit
  simp [findHandler.go, hx, h0, ha, ht, hcell, hobj, hk1', hk2', hfit', VmOp.dirties, VmOp.acts]
theorem go_miss {x : ExceptionTableEntry} {t : List ExceptionTableEntry} {c : ClassId} {cell : Cell} (hx : covers x f.pc = true) (h0 : x.catchType ≠ 0) (hl : s.vm.ClassLinks e.platform f.method.cls x.catchType c) (hcell : s.heap[a]? = some cell) (hobj : ∀ k, cell.vm ≠ .statics k) (hk : ∃ k, s.vm.classes[cell.cls]? = some k) (hc : ∃ k, s.vm.classes[c]? = some k) (hfit : s.vm.assignable cell.cls c = false) :
    wp (findHandler.go f a (x :: t)) Q E e d acts s ↔ wp (findHandler.go f a t) Q E e d acts (s.setVm (s.vm.noted f.method.cls x.catchType (.cls c))) := by
  simp only [covers] at hx
  obtain ⟨ha, ht⟩ := (resolveClass_links e.toSetting hl).op (op := VmOp.resolveClass f.method.cls x.catchType) rfl
  have hal : s.vm.Alike (s.vm.noted f.method.cls x.catchType (.cls c)) := (Vm.Alike.refl s.vm).noted _ _ _
  obtain ⟨k1, hk1⟩ := hk
  obtain ⟨k2, hk2⟩ := hc
  obtain ⟨k1', hk1', -⟩ := hal.2.2 _ _ hk1
  obtain ⟨k2', hk2', -⟩ := hal.2.2 _ _ hk2
  have hfit' : (s.vm.noted f.method.cls x.catchType (.cls c)).assignable cell.cls c = false := by rw [hal.assignable]; exact hfit
  simp [findHandler.go, hx, h0, ha, ht, hcell, hobj, hk1', hk2', hfit', VmOp.dirties, VmOp.acts]
end HSearch
theorem step_caught {e : Env} {s : State} {a : Addr} {f : JFrame} {r : List Frame} {pc : Nat} {vm' : Vm} (hfind : HFind e s f a pc vm') : (stepThrowing e s a (.java f :: r)).Is ((s.setVm vm').setFrames (.java { f with pc := pc, stack := [.ref a] } :: r)) [] := by
  simp only [stepThrowing, searchFrame, vmDo]
  generalize hr : Sem.go _ e false [] s = res
  obtain ⟨as, rfl, ha⟩ := Sem.eq_ok_of hr (a := Handler.found pc) (s' := s.setVm vm') (acts' := []) (by simp [hfind _ _ _ _])
  exact ⟨rfl, ha⟩
theorem steps_caught {tb : Tables} {e : Env} {s target : State} {g : JFrame} {c : Code} {below : List Frame} {a : Addr} (h : At s g.method c below) {pc : Nat} {vm' : Vm} (hfind : HFind e ((s.setTop g).pushFrame (.throwing a)) g a pc vm') (hrest : Steps tb e below ((s.setVm vm').setTop { g with pc := pc, stack := [.ref a] }) target) :
    Steps tb e below ((s.setTop g).pushFrame (.throwing a)) target := by
  obtain ⟨hgo, hw⟩ := h.throwing a
  refine Steps.head hgo hw ?_
  rw [stepThread_throwing (frames_entered h.top _), (step_caught (s := (s.setTop g).pushFrame (.throwing a)) hfind).1]
  obtain ⟨g₀, hg⟩ := Option.isSome_iff_exists.mp h.top
  obtain ⟨r, hr⟩ := State.topJava?_eq_some.mp hg
  have hr' : (s.setVm vm').frames = .java g₀ :: r := hr
  have hsw : ∀ (u : State) (v : Vm) (F G : List Frame), ((u.setFrames F).setVm v).setFrames G = (u.setVm v).setFrames G := fun u v F G => by
    have h1 : (u.setFrames F).setVm v = (u.setVm v).setFrames F := rfl
    rw [h1, State.setFrames_setFrames]
  rw [State.setTop_of_frames _ hr'] at hrest
  rw [hr, List.tail_cons, State.pushFrame, hsw, State.setTop_of_frames _ hr, hsw]
  exact hrest
section VCatch
variable {κ : Ctx} {fz : Bool} {l : Launch} {D : va_G} {cA : Nat → ClassId} {R : Room} {cc : ByteArray} {nL : Nat} {own : String} {ret : Option FieldType} {k n : Nat} {pc : Nat} {lv : List (Nat × Value)} {stk rest : List Value} {ws : va_W}
theorem z_thaw (h : V κ false l D cA R cc nL own ret k n pc lv stk ws) : V κ true l D cA R cc nL own ret k n pc lv stk ws := by
  obtain ⟨p, e, s, m, ar, below, meth, c, A, Q⟩ := κ
  intro K H locs ls hl hP hD hS
  obtain ⟨rfl, rfl⟩ := hS
  exact h K s.heap [] ls hl hP hD va_S.rf
theorem z_jret {hh : List (Nat × Nat × Nat × Nat)} {v : Int32} (hE : EnJ κ D cA hh v ws) (hkn : k ≤ 1 ∧ n ≤ 6) (hdg : decode cc pc = .ok (.ireturn, 1)) : V κ false l D cA R cc nL own (some .int) k n pc lv [.int v] ws := by
  obtain ⟨p, e, s, m, ar, below, meth, c, A, Q⟩ := κ
  intro K H locs ls hl hP hD hS
  have hE : Q = _ := hE.1
  subst hE
  exact W.widen hkn.1 hkn.2 (W.iret (v := v) K.1 K.2.1 K.2.2.2.2.2.1 (fun t ht hW => ⟨⟨v, (), rfl, rfl, by rw [ht]; exact hP, va_K.moved hW.alike K.2.2.2.2.2.2.2.1, hD⟩, hS.F ht⟩) hS.2.2 hdg K.2.2.2.2.2.2.1)
variable {y : MethodName} {bytes : ByteArray} {mL na idx : Nat} {rt : Option FieldType} {rm : Room} {ws0 : va_W} {As : List Value} {b : Nat} {kx : Nat}
/-- a call that throws, up to the machine's note of it over the caller's frame -/
theorem thr_core {p : Program} {e : Env} {s : State} {m : MethodId} {ar : Array Value} {below : List Frame} {meth : Method} {c : Code} {A : Nat → Prop} (K : Kx p s m ar meth c A D cA cc nL own ret) {ls : Array Slot} (hl : lv_has ls nL lv) (hP : va_P D vwCl ws s.heap) (hD : va_D A ws) (hTF : TF s)
    (hM : CtT l y (Cond.code y bytes mL rt :: tblG) rm D cA ws0 (.ref b :: As) kx) (hI : InV own idx y bytes mL rt na) (hrc : rm.cells = 1 ∧ rm.slots = 6) (hR : rm.frames + 1 ≤ R.frames ∧ 8 + (mL + 11) + rm.locals ≤ R.locals) (hna : As.length = na) (hkn : 1 ≤ R.cells ∧ 6 ≤ R.slots)
    {ci N : Nat} {T : u_T} {fs : List Value} (hrv : ws0[0]? = some (b, .inr (ci, fs))) (hci : vwCl[ci]? = some (y.cls, T, N)) (isC : List Nat) (hC : isC.map (fun i => ws[i]?) = ws0.map some) (hnd : va_nd isC = true) (hrm : (rest.map fun v => v.category).sum ≤ 8) (hdg : decode cc pc = .ok (.invokevirtual idx, 3))
    {T0 : State} (hT : T0.heap = s.heap) (X : Stand p l e R s m ar below meth c T0 [] 0 0) :
    ∃ (x : Addr) (T' : State) (ce : Cell), Stand p l e R s m ar below meth c T' [] 1 6 ∧ T'.heap[x]? = some ce ∧ ce.vm.isStatics = false ∧ s.vm.findClass (exN kx) = some ce.cls ∧ s.vm.assignable ce.cls ce.cls = true ∧ (∀ (q : Nat) (cell : Cell), s.heap[q]? = some cell → T'.heap[q]? = some cell) ∧ s.heap.size ≤ T'.heap.size ∧
      ∀ target, Steps p.tables e below ((T'.setTop { F0 m pc ls (As.reverse ++ .ref b :: rest) with stack := rest }).pushFrame (.throwing x)) target → Steps p.tables e below (T0.setTop (F0 m pc ls (As.reverse ++ .ref b :: rest))) target := by
  obtain ⟨hx, hb, hml, hown, htg, hr, hlocks, hK, hA⟩ := id K
  subst hb
  have hPc := hP.sub (ws' := ws0) isC (sub_map isC hC)
  have hDc := hD.sub (ws' := ws0) isC hnd hC
  obtain ⟨hl1, hin, hse, hini, hcd, hy1, hy2, hlen⟩ := hI
  obtain ⟨cellB, hcB, hoB, hclB⟩ := va_recv hK hPc hci hrv
  have hlen' : ∀ sig, parseMethodDescriptor y.desc = some sig → As.length = sig.parameters.length := fun sig h => by
    rw [h] at hlen; rw [hna]; exact (Option.some.inj hlen).symm
  obtain ⟨mk, methM, hnamed, hmethM, hstM, habM⟩ := Cond.instanceMethod_spec (htg _ hin)
  obtain ⟨methM', cM, hmethM', -, -, -, -, -, -, hsigM⟩ := Cond.code_spec hnamed (htg _ hcd)
  cases hmethM.symm.trans hmethM'
  obtain ⟨c2, r2, m2, q1, q2, q3, q4, kP, hkP, hkPi⟩ := Cond.selects_spec (htg _ hse)
  cases hclB.symm.trans q1
  cases (State.methodFound?_of_named hnamed ⟨hy1, hy2⟩).symm.trans q2
  cases hnamed.symm.trans q3
  have hselP : selectMethod e.platform s.vm cellB.cls mk = .method mk := by rw [Launch.admits_selectMethod X.admits]; exact q4
  obtain ⟨vm₁, X₁, hstep₁⟩ := X.invokevirtual hx hown (htg _ hl1) hnamed hmethM hstM hkP hkPi ⟨hy1, hy2⟩ (a := b) (cell := cellB) (by rw [hT]; exact hcB)
    (fun z h => by rw [h] at hoB; cases hoB) hselP hmethM habM hkP hkPi (g := F0 m pc ls (As.reverse ++ .ref b :: rest)) rfl (argsL := As) (rest := rest) (hlen' _ hsigM) rfl hdg
  have hW₁ := X₁.warmed
  have w : ∀ w0 ∈ tblG, ∀ (a' : Array Value), w0.before a' (T0.setVm vm₁) = true := fun w0 h0 a' => word_at hW₁ (tblG_good _ h0) (htg _ h0)
  have hTF1 : TF ((T0.setVm vm₁).calling { F0 m pc ls (As.reverse ++ .ref b :: rest) with stack := rest } mk (Value.ref b :: As).toArray) := TF.warm (u := s) hW₁ (fun a cell h _ => by show T0.heap[a]? = some cell; rw [hT]; exact h) hTF
  obtain ⟨x, t, T', L, hq, -, -, e1, e2, hSt, hsteps⟩ := callT_core X₁ (y := y) (bytes := bytes) (maxL := mL) (ret := rt) (a := (Value.ref b :: As).toArray) (g := { F0 m pc ls (As.reverse ++ .ref b :: rest) with stack := rest }) (ig := .invokevirtual idx) (len := 3) (mk := mk) (W := 8) (k := 1) (n := 6) hM hR.1 (by show 8 + (mL + 11) + rm.locals ≤ _; exact hR.2)
    (atoms_intro fun w0 h0 => by rcases List.mem_cons.mp h0 with rfl | h0 <;> exact w _ (by assumption) _) (w _ hcd _) (w _ hini _) (by show 0 + rm.cells ≤ _; rw [hrc.1]; exact hkn.1) (by show 0 + rm.slots ≤ _; rw [hrc.2]; exact hkn.2)
    ⟨rfl, by show va_P D vwCl ws0 T0.heap; rw [hT]; exact hPc, va_K.moved hW₁.alike hK, hDc.weaken (fun _ _ _ _ => trivial), hTF1⟩ rfl (hl.1.trans hml.symm) hdg (lv_room hrm) (X₁.named hnamed) (fun o t h => by
      obtain ⟨a0, ce, ho, -, -, -, -, hw, hsb⟩ := h
      exact ⟨a0, [], ho, hw, hsb⟩)
  obtain ⟨a0, ce, ha0, h1, h2, h3, h4, h5, h6⟩ := hq
  cases ha0
  have X' : Stand p l e R s m ar below meth c T' [] 1 6 := hSt [] h6
  have hal := X₁.warmed.alike
  refine ⟨x, T', ce, X', by rw [e1]; exact h1, h2, by rw [← hal.findClass]; exact h3, by rw [← hal.assignable]; exact h4, fun q cell hq => ?_, ?_, fun target ht => hstep₁ _ fun acts => by rw [doInvoke_state]; exact hsteps.trans ht⟩
  · rw [e1]; exact h6.old_cell (show ((T0.setVm vm₁).calling _ mk _).heap[q]? = some cell from by show T0.heap[q]? = some cell; rw [hT]; exact hq)
  · rw [e1, ← hT]; exact h6.2.1
/-- behind the catch: the world stands, one cell more -/
theorem caught_go {p : Program} {e : Env} {s : State} {m : MethodId} {ar : Array Value} {below : List Frame} {meth : Method} {c : Code} {A : Nat → Prop} {Q : State → Prop} (K : Kx p s m ar meth c A D cA cc nL own ret) {ls : Array Slot} (hl : lv_has ls nL lv) (hP : va_P D vwCl ws s.heap) (hD : va_D A ws) {T' : State} {vm' : Vm} {x : Addr} {hpc : Nat} (X : Stand p l e R s m ar below meth c (T'.setVm vm') [] 1 6) (hkeep : ∀ (q : Nat) (cell : Cell), s.heap[q]? = some cell → T'.heap[q]? = some cell) (hsz : s.heap.size ≤ T'.heap.size)
    (h : V (p, e, s, m, ar, below, meth, c, A, Q) false l D cA R cc nL own ret 1 6 hpc lv [.ref x] ws) : ∃ t, Steps p.tables e below ((T'.setVm vm').setTop (F0 m hpc ls [.ref x])) t ∧ Q t := by
  have hk : ∀ q : Nat, q < s.heap.size → T'.heap[q]? = s.heap[q]? := fun q hq => by
    rw [Array.getElem?_eq_getElem hq]
    exact hkeep q _ (Array.getElem?_eq_getElem hq)
  exact h K T'.heap [] ls hl (fun i q hq => (hP i q hq).kept (hk q.1 (hP i q hq).lt)) hD ⟨hsz, fun q h1 _ => hk q h1, fun _ h => by cases h⟩ (T'.setVm vm') rfl X
theorem z_callH1 {ent : Nat × Nat × Nat × Nat} {tl : List (Nat × Nat × Nat × Nat)} {r : Int32} {ws1 : va_W} (hE : EnJ κ D cA (ent :: tl) r ws1) (hcv : ent.1 ≤ pc ∧ pc < ent.2.1) (hct : ent.2.2.2 ≠ 0) (hcl : Cond.classLink own ent.2.2.2 (exN kx) ∈ tblG)
    (hM : CtT l y (Cond.code y bytes mL rt :: tblG) rm D cA ws0 (.ref b :: As) kx) (hI : InV own idx y bytes mL rt na) (hrc : rm.cells = 1 ∧ rm.slots = 6) (hR : rm.frames + 1 ≤ R.frames ∧ 8 + (mL + 11) + rm.locals ≤ R.locals) (hna : As.length = na) (hkn : 1 ≤ R.cells ∧ 6 ≤ R.slots)
    {ci N : Nat} {T : u_T} {fs : List Value} (hrv : ws0[0]? = some (b, .inr (ci, fs))) (hci : vwCl[ci]? = some (y.cls, T, N)) (isC : List Nat) (hC : isC.map (fun i => ws[i]?) = ws0.map some) (hnd : va_nd isC = true) (hstk : stk = As.reverse ++ .ref b :: rest) (hrm : (rest.map fun v => v.category).sum ≤ 8) (hdg : decode cc pc = .ok (.invokevirtual idx, 3))
    (h : ∀ x : Nat, V κ false l D cA R cc nL own ret 1 6 ent.2.2.1 lv [.ref x] ws) : V κ true l D cA R cc nL own ret 0 0 pc lv stk ws := by
  obtain ⟨p, e, s, m, ar, below, meth, c, A, Q⟩ := κ
  intro K H locs ls hl hP hD hS
  obtain ⟨rfl, rfl⟩ := hS
  subst hstk
  obtain ⟨-, hxt, hTJ⟩ : Q = _ ∧ _ ∧ _ := hE
  intro T0 hT X
  obtain ⟨x, T', ce, X', hce, hst, hfc, hself, hkeep, hsz, hsteps⟩ := thr_core K hl hP hD hTJ.1 hM hI hrc hR hna hkn hrv hci isC hC hnd hrm hdg hT X
  obtain ⟨hx, hb, hml, hown, htg, hr, hlocks, hK, hA⟩ := id K
  have hpl : e.platform.magicAccessors = ({} : Platform).magicAccessors := by rw [X.admits.platform]
  obtain ⟨cT, hc', hclk⟩ := Cond.classLink_spec hown (htg _ hcl) e.platform hpl
  cases hfc.symm.trans hc'
  obtain ⟨dk, _, _, kt, hd, _, _, _, _, hkt, _, hopen⟩ := hclk.here
  have hcl0 := X'.warmed.classLinks hclk
  have hW' : s.WarmedH (T'.vm.noted m.cls ent.2.2.2 (.cls ce.cls)) := X'.warmed.noted hd hopen (State.rightAt_cls hclk)
  have hal := X'.warmed.alike
  obtain ⟨kt', hkt', -⟩ := hal.2.2 _ _ hkt
  obtain ⟨e0, es, hes⟩ : ∃ e0 es, c.exceptionTable.toList = e0 :: es := by
    cases hq : c.exceptionTable.toList with
    | nil => rw [hq] at hxt; cases hxt
    | cons e0 es => exact ⟨e0, es, rfl⟩
  rw [hes] at hxt
  obtain ⟨he0, -⟩ := List.cons.inj hxt
  subst he0
  have hfind : HFind e ((T'.setTop { F0 m pc ls (As.reverse ++ .ref b :: rest) with stack := rest }).pushFrame (.throwing x)) { F0 m pc ls (As.reverse ++ .ref b :: rest) with stack := rest } x e0.handlerPc (T'.vm.noted m.cls e0.catchType (.cls ce.cls)) := by
    intro Q1 E1 d1 acts1
    rw [W.findHandler_eq (meth := meth) (code := c) X'.method' X'.code, hes]
    exact go_hit (s := (T'.setTop { F0 m pc ls (As.reverse ++ .ref b :: rest) with stack := rest }).pushFrame (.throwing x)) (by simp only [covers]; simpa using hcv) hct hcl0 hce (VmData.ne_statics_of hst) ⟨kt', hkt'⟩ ⟨kt', hkt'⟩ (by show T'.vm.assignable _ _ = true; rw [hal.assignable]; exact hself)
  obtain ⟨t, t1, t2⟩ := caught_go (R := R) K hl hP hD (x := x) (X'.noted hW') hkeep hsz (h x)
  exact ⟨t, hsteps t (steps_caught X'.here hfind t1), t2⟩
theorem z_callH2 {en0 ent : Nat × Nat × Nat × Nat} {tl : List (Nat × Nat × Nat × Nat)} {r : Int32} {ws1 : va_W} (hE : EnJ κ D cA (en0 :: ent :: tl) r ws1) (hcv0 : en0.1 ≤ pc ∧ pc < en0.2.1) (hct0 : en0.2.2.2 ≠ 0) (hcl0 : Cond.classLink own en0.2.2.2 (exN 0) ∈ tblG) (hnc : ∀ U, TJ U → va_Nc (exN kx) (exN 0) U) (hcv : ent.1 ≤ pc ∧ pc < ent.2.1) (hct : ent.2.2.2 ≠ 0) (hcl : Cond.classLink own ent.2.2.2 (exN kx) ∈ tblG)
    (hM : CtT l y (Cond.code y bytes mL rt :: tblG) rm D cA ws0 (.ref b :: As) kx) (hI : InV own idx y bytes mL rt na) (hrc : rm.cells = 1 ∧ rm.slots = 6) (hR : rm.frames + 1 ≤ R.frames ∧ 8 + (mL + 11) + rm.locals ≤ R.locals) (hna : As.length = na) (hkn : 1 ≤ R.cells ∧ 6 ≤ R.slots)
    {ci N : Nat} {T : u_T} {fs : List Value} (hrv : ws0[0]? = some (b, .inr (ci, fs))) (hci : vwCl[ci]? = some (y.cls, T, N)) (isC : List Nat) (hC : isC.map (fun i => ws[i]?) = ws0.map some) (hnd : va_nd isC = true) (hstk : stk = As.reverse ++ .ref b :: rest) (hrm : (rest.map fun v => v.category).sum ≤ 8) (hdg : decode cc pc = .ok (.invokevirtual idx, 3))
    (h : ∀ x : Nat, V κ false l D cA R cc nL own ret 1 6 ent.2.2.1 lv [.ref x] ws) : V κ true l D cA R cc nL own ret 0 0 pc lv stk ws := by
  obtain ⟨p, e, s, m, ar, below, meth, c, A, Q⟩ := κ
  intro K H locs ls hl hP hD hS
  obtain ⟨rfl, rfl⟩ := hS
  subst hstk
  obtain ⟨-, hxt, hTJ⟩ : Q = _ ∧ _ ∧ _ := hE
  intro T0 hT X
  obtain ⟨x, T', ce, X', hce, hst, hfc, hself, hkeep, hsz, hsteps⟩ := thr_core K hl hP hD hTJ.1 hM hI hrc hR hna hkn hrv hci isC hC hnd hrm hdg hT X
  obtain ⟨hx, hb, hml, hown, htg, hr, hlocks, hK, hA⟩ := id K
  have hpl : e.platform.magicAccessors = ({} : Platform).magicAccessors := by rw [X.admits.platform]
  obtain ⟨cT, hc', hclk⟩ := Cond.classLink_spec hown (htg _ hcl) e.platform hpl
  cases hfc.symm.trans hc'
  obtain ⟨cZ, hcZ, hclz⟩ := Cond.classLink_spec hown (htg _ hcl0) e.platform hpl
  obtain ⟨cn, cz, hn1, hn2, hn3⟩ := hnc s hTJ
  cases hfc.symm.trans hn1
  cases hcZ.symm.trans hn2
  obtain ⟨dz, _, _, kz, hdz, _, _, _, _, hkz, _, hopz⟩ := hclz.here
  obtain ⟨dk, _, _, kt, hd, _, _, _, _, hkt, _, hopen⟩ := hclk.here
  have hz0 := X'.warmed.classLinks hclz
  have hWz : s.WarmedH (T'.vm.noted m.cls en0.2.2.2 (.cls cZ)) := X'.warmed.noted hdz hopz (State.rightAt_cls hclz)
  have hc0 := hWz.classLinks hclk
  have hW' : s.WarmedH ((T'.vm.noted m.cls en0.2.2.2 (.cls cZ)).noted m.cls ent.2.2.2 (.cls ce.cls)) := hWz.noted hd hopen (State.rightAt_cls hclk)
  have hal := X'.warmed.alike
  have hal2 := hWz.alike
  obtain ⟨kt', hkt', -⟩ := hal.2.2 _ _ hkt
  obtain ⟨kz', hkz', -⟩ := hal.2.2 _ _ hkz
  obtain ⟨kt2, hkt2, -⟩ := hal2.2.2 _ _ hkt
  obtain ⟨e0, e1, es, hes⟩ : ∃ e0 e1 es, c.exceptionTable.toList = e0 :: e1 :: es := by
    cases hq : c.exceptionTable.toList with
    | nil => rw [hq] at hxt; cases hxt
    | cons e0 es =>
      cases es with
      | nil => rw [hq] at hxt; cases (List.cons.inj hxt).2
      | cons e1 es => exact ⟨e0, e1, es, rfl⟩
  rw [hes] at hxt
  obtain ⟨he0, hxt⟩ := List.cons.inj hxt
  obtain ⟨he1, -⟩ := List.cons.inj hxt
  subst he0; subst he1
  have hfind : HFind e ((T'.setTop { F0 m pc ls (As.reverse ++ .ref b :: rest) with stack := rest }).pushFrame (.throwing x)) { F0 m pc ls (As.reverse ++ .ref b :: rest) with stack := rest } x e1.handlerPc ((T'.vm.noted m.cls e0.catchType (.cls cZ)).noted m.cls e1.catchType (.cls ce.cls)) := by
    intro Q1 E1 d1 acts1
    rw [W.findHandler_eq (meth := meth) (code := c) X'.method' X'.code, hes]
    refine Iff.trans (go_miss (s := (T'.setTop { F0 m pc ls (As.reverse ++ .ref b :: rest) with stack := rest }).pushFrame (.throwing x)) (by simp only [covers]; simpa using hcv0) hct0 hz0 hce (VmData.ne_statics_of hst) ⟨kt', hkt'⟩ ⟨kz', hkz'⟩ (by show T'.vm.assignable _ _ = false; rw [hal.assignable]; exact hn3)) ?_
    exact go_hit (s := ((T'.setTop { F0 m pc ls (As.reverse ++ .ref b :: rest) with stack := rest }).pushFrame (.throwing x)).setVm (T'.vm.noted m.cls e0.catchType (.cls cZ))) (by simp only [covers]; simpa using hcv) hct hc0 hce (VmData.ne_statics_of hst) ⟨kt2, hkt2⟩ ⟨kt2, hkt2⟩ (by show (T'.vm.noted m.cls e0.catchType (.cls cZ)).assignable _ _ = true; rw [hal2.assignable]; exact hself)
  obtain ⟨t, t1, t2⟩ := caught_go (R := R) K hl hP hD (x := x) (X'.noted hW') hkeep hsz (h x)
  exact ⟨t, hsteps t (steps_caught X'.here hfind t1), t2⟩
end VCatch
