/-! methods that throw: what they need of the start, the throwing road's contract, the throw itself, calls that pass it on -/
def exN : Nat → String
  | 0 => "java/lang/IndexOutOfBoundsException"
  | 1 => "java/lang/IllegalArgumentException"
  | _ => "java/lang/IllegalStateException"
def dcN : Nat → String
  | 0 => "java/lang/RuntimeException"
  | 1 => "java/lang/Exception"
  | _ => "java/lang/Throwable"
def ZSt (nm d : String) (U : State) (H : Heap) : Prop := ∃ (c : ClassId) (k : Class) (i : Nat) (f : Field) (a : Addr) (cell : Cell) (v : Value), U.vm.findClass Bundle.tN = some c ∧ U.fieldFound? Bundle.tN nm d = some (c, k, i, f) ∧ f.isStatic = true ∧ k.statics = some a ∧ H[a]? = some cell ∧ cell.vm.isStatics = true ∧ cell.cls = c ∧ f.slot < cell.slots.size ∧ k.staticTypes[f.slot]? = some f.type ∧ cell.slots[f.slot]? = some v ∧ (v = .null ∨ ∃ t, v = .ref t)
theorem ZSt.moved {nm d : String} {u U : State} {H : Heap} (hvm : u.vm.Alike U.vm) (h : ZSt nm d u H) : ZSt nm d U H := by
  obtain ⟨c, k, i, f, a, cell, v, h1, h2, h3, h4, h5, h6, h7, h8, h9, h10⟩ := h
  obtain ⟨k', hi', he⟩ := State.fieldFound?_setVm hvm h2
  exact ⟨c, k', i, f, a, cell, v, by rw [hvm.findClass]; exact h1, hi', h3, by rw [he]; exact h4, h5, h6, h7, h8, by rw [he]; exact h9, h10⟩
theorem ZSt.kept {nm d : String} {U : State} {H H1 : Heap} (hk : ∀ (a : Nat) (cell : Cell), H[a]? = some cell → cell.vm.isStatics = true → H1[a]? = some cell) (h : ZSt nm d U H) : ZSt nm d U H1 := by
  obtain ⟨c, k, i, f, a, cell, v, h1, h2, h3, h4, h5, h6, h7⟩ := h
  exact ⟨c, k, i, f, a, cell, v, h1, h2, h3, h4, hk a cell h5 h6, h6, h7⟩
theorem ZSt.of {nm d : String} {args : Array Value} {s : State} (hl : (Cond.laysStatic Bundle.tN nm d).before args s = true) (hr : (Cond.isRef (.static Bundle.tN nm d)).before args s = true) : ZSt nm d s s.heap := by
  obtain ⟨c, k, i, f, a, cell, h1, h2, h3, h4, h5, h6, h7, h8, h9⟩ := Cond.laysStatic_spec hl
  cases hv : (Term.static Bundle.tN nm d).eval args s none [] s with
  | none => simp [Cond.before, Cond.holds, Cond.value, hv] at hr
  | some w =>
    obtain ⟨-, a', cell', ha', hc', -, hsl⟩ := Term.static_spec h2 hv
    cases h4.symm.trans ha'
    cases h5.symm.trans hc'
    refine ⟨c, k, i, f, a, cell, w, h1, h2, h3, h4, h5, h6, h7, h8, h9, hsl, ?_⟩
    simp only [Cond.before, Cond.holds, Cond.value, hv] at hr
    cases w with
    | null => exact Or.inl rfl
    | ref t => exact Or.inr ⟨t, rfl⟩
    | _ => simp at hr
theorem ZSt.lays {nm d : String} {args : Array Value} {s : State} (h : ZSt nm d s s.heap) : (Cond.laysStatic Bundle.tN nm d).before args s = true := by
  obtain ⟨c, k, i, f, a, cell, v, h1, h2, h3, h4, h5, h6, h7, h8, h9, -⟩ := h
  simp [Cond.before, Cond.holds, Cond.value, h1, h2, h3, h4, h5, h6, h7, h8, h9]
theorem ZSt.ref {nm d : String} {args : Array Value} {s : State} (h : ZSt nm d s s.heap) : (Cond.isRef (.static Bundle.tN nm d)).before args s = true := by
  obtain ⟨c, k, i, f, a, cell, v, h1, h2, h3, h4, h5, h6, h7, h8, h9, h10, h11⟩ := h
  have hv : (Term.static Bundle.tN nm d).eval args s none [] s = some v := by
    simp [Term.eval, State.fieldNamed?, h2, h3, h4, h5, h6, h10]
  rcases h11 with rfl | ⟨t, rfl⟩ <;> simp [Cond.before, Cond.holds, Cond.value, hv]
def OK4 (a : Cond) : Prop := a ∈ tblG ∨ a = Cond.laysStatic Bundle.tN "UNASSIGNED_STACK" Bundle.steD ∨ a = Cond.laysStatic Bundle.tN "SUPPRESSED_SENTINEL" Bundle.listD ∨ a = Cond.isRef (.static Bundle.tN "UNASSIGNED_STACK" Bundle.steD) ∨ a = Cond.isRef (.static Bundle.tN "SUPPRESSED_SENTINEL" Bundle.listD) ∨ (∃ k, k < 3 ∧ a = Cond.castable (exN k) (exN k)) ∨ ∃ k, k < 3 ∧ a = Cond.declares (Bundle.initS (dcN k))
theorem oc {P : Cond → Prop} {a : Cond} {l : List Cond} (h1 : P a) (h2 : ∀ x ∈ l, P x) : ∀ x ∈ a :: l, P x := List.forall_mem_cons.mpr ⟨h1, h2⟩
theorem gm {a : Cond} (i : Nat) (h : lw_tbl[i]? = some a) (hg : goodWord a = true) : OK4 a := Or.inl (List.mem_filter.mpr ⟨List.mem_of_getElem? h, hg⟩)
theorem onil {P : Cond → Prop} : ∀ x ∈ ([] : List Cond), P x := fun _ h => absurd h List.not_mem_nil
def strIx : List Nat := [71, 87, 89, 109, 123, 177, 185, 188, 190]
def SRx (U : State) : Prop := ∀ k ∈ strIx, ∃ (tx : String) (q : Nat), vk_R RX6 k tx q U
/-- what a throw needs of the state, beside the tables' words -/
def TF (U : State) : Prop := ZSt "UNASSIGNED_STACK" Bundle.steD U U.heap ∧ ZSt "SUPPRESSED_SENTINEL" Bundle.listD U U.heap ∧ SRx U ∧ ∀ k, k < 3 → va_Nw (.castable (exN k) (exN k)) U ∧ va_Nw (.declares (Bundle.initS (dcN k))) U
theorem TF.same {u U : State} (hv : U.vm = u.vm) (hh : U.heap = u.heap) (h : TF u) : TF U :=
  ⟨by rw [hh]; exact h.1.moved (by rw [hv]; exact Vm.Alike.refl _), by rw [hh]; exact h.2.1.moved (by rw [hv]; exact Vm.Alike.refl _), fun k hk => by obtain ⟨tx, q, h1⟩ := h.2.2.1 k hk; exact ⟨tx, q, h1.same hv⟩, fun k hk => ⟨va_Nw.same rfl hv.symm (h.2.2.2 k hk).1, va_Nw.same rfl hv.symm (h.2.2.2 k hk).2⟩⟩
theorem TF.warm {u U : State} (hW : u.WarmedH U.vm) (hk : ∀ (a : Nat) (cell : Cell), u.heap[a]? = some cell → cell.vm.isStatics = true → U.heap[a]? = some cell) (h : TF u) : TF U :=
  ⟨(h.1.moved hW.alike).kept hk, (h.2.1.moved hW.alike).kept hk, fun k hk => by obtain ⟨tx, q, h1⟩ := h.2.2.1 k hk; exact ⟨tx, q, h1.warm hW⟩, fun k hk => ⟨va_Nw.warmC hW (h.2.2.2 k hk).1, va_Nw.warmD hW (h.2.2.2 k hk).2⟩⟩
def QT (s : State) (kx : Nat) (o : Outcome) (t : State) : Prop :=
  ∃ (a : Addr) (ce : Cell), o = .threw a ∧ t.heap[a]? = some ce ∧ ce.vm.isStatics = false ∧ s.vm.findClass (exN kx) = some ce.cls ∧ s.vm.assignable ce.cls ce.cls = true ∧ s.WarmedH t.vm ∧ s.sameButNew ({ t with vm := s.vm } : State) [] 1 6
def CtT (l : Launch) (y : MethodName) (w : List Cond) (rm : Room) (D : va_G) (cA : Nat → ClassId) (ws0 : va_W) (as : List Value) (kx : Nat) : Prop :=
  MetFree l y (headSpec w rm) (va_Pc as (fun U => va_P D vwCl ws0 U.heap ∧ va_K D vwCl (tys cA) U ∧ va_D (fun _ => True) ws0 ∧ TF U)) (fun _ _ _ _ _ => True) (fun _ st o t => QT st kx o t)
def EnT (κ : Ctx) (kx : Nat) : Prop :=
  match κ with
  | (_, _, s, _, _, below, _, c, _, Q) => Q = (fun t => ∃ o, t.status = .running ∧ Ended t below o ∧ QT s kx o t) ∧ c.exceptionTable.isEmpty = true ∧ TF s
theorem CtT.start {l : Launch} {y : MethodName} {rm : Room} {D : va_G} {cA : Nat → ClassId} {ws0 : va_W} {as : List Value} {kx : Nat} {cc : ByteArray} {maxL : Nat} {ret : Option FieldType} {lv : List (Nat × Value)}
    (hy : plainName y.cls = true) (hlen : (lg_sl as).length ≤ maxL) (hlv : lv_args 0 as = lv)
    (body : ∀ κ : Ctx, EnT κ kx → V κ true l D cA rm cc maxL y.cls ret 0 0 0 lv [] ws0) : CtT l y (Cond.code y cc maxL ret :: tblG) rm D cA ws0 as kx := by
  refine MetFree.of_bodyS (code := cc) (maxLocals := maxL) (ret := ret) hy ?_ ?_
  · intro args s m h hn
    obtain ⟨meth, c, h1, h2, h3, h4, h5, h6, -, -⟩ := Cond.code_spec hn (atoms_spec (ws := Cond.code y cc maxL ret :: tblG) h _ List.mem_cons_self)
    exact ⟨meth, c, h1, h2, h3, h4, h5, h6⟩
  · intro p e s m args below meth c s₁ B hml hv _
    obtain ⟨rfl, hP, hK, hD0, hTF⟩ := hv
    have hl := lv_entry as (n := maxL) hlen
    rw [hlv] at hl
    have hts := atoms_spec (ws := Cond.code y cc maxL ret :: tblG) B.pre
    have hh0 : s₁.heap = s.heap := by rw [B.state]; rfl
    have hW := body (p, e, s, m, as.toArray, below, meth, c, va_A ws0 s.heap.size, _) ⟨rfl, B.noHandlers (hts _ List.mem_cons_self), hTF⟩ ⟨B.exec, B.bytes, hml, findClass_of_methodNamed B.named, fun w hw => hts w (List.mem_cons_of_mem _ hw), B.returns, B.notSynchronized, hK, fun q h => Or.inr h⟩ s.heap [] _ hl hP hD0.self ⟨rfl, rfl⟩
    rw [lg_entry_eq]
    obtain ⟨t, a1, o, b1, b2, b3⟩ := hW s₁ hh0 (Stand.of_body B)
    exact ⟨t, o, a1, b1, b2, b3⟩
theorem sum_inl {α β γ : Type} {f : α → γ} {g : β → γ} {a : α} {r : γ} (h : Sum.elim f g (.inl a) = r) : f a = r := h
theorem sum_inr {α β γ : Type} {f : α → γ} {g : β → γ} {b : β} {r : γ} (h : Sum.elim f g (.inr b) = r) : g b = r := h
theorem nr_ite {α : Type} {c : Prop} [Decidable c] {a b : Option (Nat ⊕ α)} {k : Nat} (h1 : a ≠ some (.inl k)) (h2 : b ≠ some (.inl k)) : (if c then a else b) ≠ some (.inl k) := by
  by_cases h : c
  · rw [if_pos h]; exact h1
  · rw [if_neg h]; exact h2
theorem nr_bind {α β : Type} {o : Option β} {f : β → Option (Nat ⊕ α)} {k : Nat} (h : ∀ v, f v ≠ some (.inl k)) : o.bind f ≠ some (.inl k) := by
  cases o with
  | none => intro h; cases h
  | some v => exact h v
theorem nr_inr {α : Type} {r : α} {k : Nat} : (some (.inr r) : Option (Nat ⊕ α)) ≠ some (.inl k) := by intro h; cases h
theorem nr_none {α : Type} {k : Nat} : (none : Option (Nat ⊕ α)) ≠ some (.inl k) := by intro h; cases h
section VThrow
variable {p : Program} {l : Launch} {e : Env} {R : Room} {s : State} {m : MethodId} {sargs : Array Value} {below : List Frame} {meth : Method} {c : Code}
theorem callT_core {U : State} {Ls : List Loc} {c0 s0 : Nat} (X : Stand p l e R s m sargs below meth c U Ls c0 s0) {y : MethodName} {S : Spec} {P : Array Value → State → Prop} {Q : Array Value → State → Outcome → State → Prop} {bytes : ByteArray} {maxL : Nat} {ret : Option FieldType} {a : Array Value} {g : JFrame} {ig : Instr} {len : Nat} {mk : MethodId} {W : Nat}
    (hM : MetFree l y S P (fun _ _ _ _ _ => True) Q) (hframes : S.room.frames + 1 ≤ R.frames) (hlocals : W + (maxL + 11) + S.room.locals ≤ R.locals)
    (h1 : S.pre.before a U = true) (h2 : (Cond.code y bytes maxL ret).before a U = true) (h3 : (Cond.initialized y.cls).before a U = true) (h4 : c0 + S.room.cells ≤ R.cells) (h5 : s0 + S.room.slots ≤ R.slots)
    (hP : P a (U.calling g mk a)) (hg : g.method = m) (hsize : g.locals.size = c.maxLocals) (hdg : decode c.code g.pc = .ok (ig, len)) (hW : 2 * g.monitorRoom + (g.stack.map fun v => v.category).sum ≤ W) (hn : U.methodNamed? y = some mk) {k n : Nat}
    (hQ : ∀ o t, Q a (U.calling g mk a) o t → ∃ x L, o = .threw x ∧ (U.calling g mk a).WarmedH t.vm ∧ (U.calling g mk a).sameButNew ({ t with vm := (U.calling g mk a).vm } : State) L k n) :
    ∃ (x : Addr) (t T' : State) (L : List Loc), Q a (U.calling g mk a) (.threw x) t ∧ (U.calling g mk a).sameButNew ({ t with vm := (U.calling g mk a).vm } : State) L k n ∧ (U.calling g mk a).WarmedH t.vm ∧ T'.heap = t.heap ∧ T'.vm = t.vm ∧ (∀ L', (U.calling g mk a).sameButNew ({ t with vm := (U.calling g mk a).vm } : State) L' k n → Stand p l e R s m sargs below meth c T' (Ls ++ L') (c0 + k) (s0 + n)) ∧
      Steps p.tables e below (doInvoke e (U.setTop g) [] mk a).1 ((T'.setTop g).pushFrame (.throwing x)) := by
  obtain ⟨methY, cY, hmY, hcY, -, hlY, -, -, -, -⟩ := Cond.code_spec hn h2
  obtain ⟨kY, hkY, -⟩ := className_of_methodNamed hn
  have hinitY : kY.init = .initialized := Cond.initialized_spec (findClass_of_methodNamed hn) hkY h3
  have h : At U g.method c below := by rw [hg]; exact X.here
  have happ : S.appliesLoose y e.platform (U.calling g mk a) = true :=
    Spec.appliesLoose_calling (g := g) h hdg hn hkY hinitY
      (X.room_calling (g := g) (R' := S.room) hsize hmY hcY hframes (by rw [hlY]; omega) h4 h5) h1
  obtain ⟨mid, hmid⟩ := h.above
  have hfr : (U.setTop g).frames = (.java g :: mid) ++ below := by rw [State.frames_setTop' g h.top, hmid]; rfl
  obtain ⟨o, s₂, hsteps, -, hend, hq⟩ := Steps.callFree hM p X.admits X.cas X.clock (acts := []) hfr happ hP trivial
  have hq' : Q a (U.calling g mk a) o s₂ := hq
  rw [State.frames_setTop' g h.top] at hend
  obtain ⟨x, L, rfl, hW₂, hsb⟩ := hQ _ _ hq'
  have hf₂ : s₂.frames = .throwing x :: .java g :: U.frames.tail := hend
  have hW' : U.WarmedH s₂.vm := hW₂
  have e2 := hsb.1
  have e3 : s₂ = ({ (U.calling g mk a).setFrames s₂.frames with heap := s₂.heap, slotsUsed := s₂.slotsUsed } : State).setVm s₂.vm := by
    have : s₂ = ({ s₂ with vm := (U.calling g mk a).vm } : State).setVm s₂.vm := rfl
    rw [e2] at this
    exact this
  obtain ⟨g₀, hg0⟩ := Option.isSome_iff_exists.mp h.top
  obtain ⟨r, hr⟩ := State.topJava?_eq_some.mp hg0
  have hs₂ : s₂ = ((({ U with heap := s₂.heap, slotsUsed := s₂.slotsUsed } : State).setVm s₂.vm).setTop g).pushFrame (.throwing x) := by
    have hr' : (({ U with heap := s₂.heap, slotsUsed := s₂.slotsUsed } : State).setVm s₂.vm).frames = .java g₀ :: r := hr
    refine e3.trans ?_
    rw [hf₂, State.calling_eq h.top, State.setFrames_setFrames, State.pushFrame, State.frames_setTop _ hr', State.setTop_of_frames _ hr', State.setFrames_setFrames, hr]
    rfl
  have hsame : ∀ L', (U.calling g mk a).sameButNew ({ s₂ with vm := (U.calling g mk a).vm } : State) L' k n → U.sameButNew ({ U with heap := s₂.heap, slotsUsed := s₂.slotsUsed } : State) L' k n := by
    intro L' ⟨_, q2, q3, q4, q5, q6⟩
    refine ⟨?_, q2, q3, q4, q5, q6⟩
    obtain ⟨t, ht, -⟩ := State.frames_cons hr
    show ({ U with heap := s₂.heap, slotsUsed := s₂.slotsUsed } : State) = { U.setFrames U.frames with heap := s₂.heap, slotsUsed := s₂.slotsUsed }
    rw [State.setFrames_self ht]
  subst hg
  refine ⟨x, s₂, ({ U with heap := s₂.heap, slotsUsed := s₂.slotsUsed } : State).setVm s₂.vm, L, hq', hsb, hW₂, rfl, rfl, fun L' hL' =>
    ⟨X.admits, X.cas, X.clock, X.frames, X.room, X.hears, X.method, X.code, (X.here.setHeapUsed s₂.heap s₂.slotsUsed).setVm hW'.alike, X.tail, State.WarmedH.trans X.warmed hW', X.limits, X.bytes, X.same.trans ((hsame L' hL').setVm s.vm)⟩, ?_⟩
  rw [← hs₂]
  exact hsteps
end VThrow
section VThrow2
variable {κ : Ctx} {l : Launch} {D : va_G} {cA : Nat → ClassId} {R : Room} {cc : ByteArray} {nL : Nat} {own : String} {ret : Option FieldType} {pc : Nat} {lv : List (Nat × Value)} {stk rest : List Value} {ws : va_W}
/-- new X; dup; ldc; X(String); athrow: the method ends, the exception on its way -/
theorem z_throw {kx idx li ic : Nat} (hfl : l.flags = pinnedFlags ++ [noTraceFlag]) (hown0 : own = RX6) (hli : li ∈ strIx) (hfit : Bundle.fit (exN kx) = true) (hcl : Cond.classLink own idx (exN kx) ∈ tblG) (hinst : Cond.instantiable (exN kx) 6 ∈ tblG) (hini : Cond.initialized (exN kx) ∈ tblG)
    (hoa : ∀ a ∈ Bundle.ownAtoms own ic (exN kx) ["java/lang/RuntimeException", "java/lang/Exception"], OK4 a)
    (hE : EnT κ kx) (hR : 1 ≤ R.cells ∧ 6 ≤ R.slots ∧ 5 < R.frames ∧ (stk.map fun v => v.category).sum + 82 ≤ R.locals)
    (hd0 : decode cc pc = .ok (.new idx, 3)) (hd3 : decode cc (pc + 3) = .ok (.dup, 1)) (hd4 : decode cc (pc + 4) = .ok (.ldc li, 2)) (hd6 : decode cc (pc + 6) = .ok (.invokespecial ic, 3)) (hd9 : decode cc (pc + 9) = .ok (.athrow, 1)) : V κ true l D cA R cc nL own ret 0 0 pc lv stk ws := by
  obtain ⟨p, e, s, m, ar, below, meth, c, A, Q⟩ := κ
  intro K H locs ls hl hP hD hS
  obtain ⟨rfl, rfl⟩ := hS
  obtain ⟨hx, hb, hml, hown, htg, hr, hlocks, hK, hA⟩ := id K
  obtain ⟨hQ, hxt, hTF⟩ : Q = _ ∧ _ ∧ _ := hE
  subst hQ
  subst hown0
  obtain ⟨tx, q, hstr⟩ := hTF.2.2.1 li hli
  refine W.newc (C := exN kx) (n := 6) (g := F0 m pc ls stk) hx hb hown (htg _ hcl) (htg _ hinst) (htg _ hini) rfl hd0 (by simpa using hR.1) (by simpa using hR.2.1) (fun cC kC h1 h2 h3 h4 => ?_)
  refine W.eq (g2 := F0 m (pc + 3) ls (.ref s.heap.size :: stk)) rfl ?_
  refine lv_dup hx hb hd3 rfl ?_
  refine va_ldcS hx hb hown hstr hd4 ?_
  intro T hT X
  have htr := Launch.traces_off hfl X.admits
  have hat : ∀ a ∈ Bundle.ownAtoms RX6 ic (exN kx) ["java/lang/RuntimeException", "java/lang/Exception"], a.before ar s = true := by
    intro a ha
    rcases hoa a ha with h | rfl | rfl | rfl | rfl | ⟨k, hk, rfl⟩ | ⟨k, hk, rfl⟩
    · exact htg a h
    · exact hTF.1.lays
    · exact hTF.2.1.lays
    · exact hTF.1.ref
    · exact hTF.2.1.ref
    · exact va_Nw.use rfl (hTF.2.2.2 k hk).1
    · exact va_Nw.use rfl (hTF.2.2.2 k hk).2
  obtain ⟨U, st, r1, r2, r3, r4, ce, c1, c2⟩ := X.ctorThrowS hx htr hown hfit (by decide) hat (fun x h => by cases h) h1 h2 (a := s.heap.size) (by rw [hT]; exact Array.getElem?_push_size) (Nat.le_refl _) (msg := .ref q) rfl (g := F0 m (pc + 3 + 1 + 2) ls (.ref q :: .ref s.heap.size :: .ref s.heap.size :: stk)) rfl (by rw [hml]; exact hl.1) rfl rfl (rest := stk) rfl (by rw [hb]; exact hd6) (by rw [hb]; exact hd9) (fun x hx' => by rw [Array.isEmpty_iff.mp hxt] at hx'; cases hx') hR.2.2.1 (by show 2 * 0 + (1 + (stk.map fun v => v.category).sum) + (13 * (2 + 1) + 42) ≤ R.locals; have := hR.2.2.2; omega) hlocks
  exact ⟨U, st, .threw s.heap.size, r1, r2, s.heap.size, ce, rfl, c1, by rw [c2.vm]; rfl, c2.cls, c2.self, r3, r4⟩
variable {y : MethodName} {bytes : ByteArray} {mL na idx : Nat} {rt : Option FieldType} {rm : Room} {ws0 : va_W} {As : List Value} {b : Nat} {kx : Nat}
/-- behind a call that throws, no handler of one's own: the method ends -/
theorem thrown_out {p : Program} {e : Env} {s : State} {m : MethodId} {ar : Array Value} {below : List Frame} {meth : Method} {c : Code} {T : State} {vm₁ : Vm} (X : Stand p l e R s m ar below meth c (T.setVm vm₁) [] 0 0) (hT : T.heap = s.heap) (hlocks : meth.locks = false) (hxt : c.exceptionTable.isEmpty = true) {g : JFrame} {mk : MethodId} {a : Array Value} (hg : g.method = m) (hlk : g.locked = none) (hen : g.entered = []) {x : Addr} {t T' : State}
    (hq : QT ((T.setVm vm₁).calling g mk a) kx (.threw x) t) (e1 : T'.heap = t.heap) (e2 : T'.vm = t.vm) (hSt : ∀ L', ((T.setVm vm₁).calling g mk a).sameButNew ({ t with vm := ((T.setVm vm₁).calling g mk a).vm } : State) L' 1 6 → Stand p l e R s m ar below meth c T' ([] ++ L') (0 + 1) (0 + 6)) {S0 : State} (hsteps : Steps p.tables e below S0 ((T'.setTop g).pushFrame (.throwing x))) :
    ∃ U, Steps p.tables e below S0 U ∧ ∃ o, U.status = .running ∧ Ended U below o ∧ QT s kx o U := by
  obtain ⟨a0, ce, ha0, h1, h2, h3, h4, h5, h6⟩ := hq
  cases ha0
  have X' := hSt [] h6
  obtain ⟨g1, g2, g3, g4, g5⟩ := X'.leaveThrown x hg hlk hen (fun z hz => by rw [Array.isEmpty_iff.mp hxt] at hz; cases hz) hlocks
  have hal := X.warmed.alike
  refine ⟨_, hsteps.trans g1, .threw x, g2, g3, x, ce, rfl, by rw [← h1, ← e1]; rfl, h2, ?_, ?_, g4, g5⟩
  · rw [← hal.findClass]; exact h3
  · rw [← hal.assignable]; exact h4
theorem z_callTV (hM : CtT l y (Cond.code y bytes mL rt :: tblG) rm D cA ws0 (.ref b :: As) kx) (hI : InV own idx y bytes mL rt na) (hrc : rm.cells = 1 ∧ rm.slots = 6) (hR : rm.frames + 1 ≤ R.frames ∧ 8 + (mL + 11) + rm.locals ≤ R.locals) (hna : As.length = na) (hkn : 1 ≤ R.cells ∧ 6 ≤ R.slots)
    {ci N : Nat} {T : u_T} {fs : List Value} (hrv : ws0[0]? = some (b, .inr (ci, fs))) (hci : vwCl[ci]? = some (y.cls, T, N)) (isC : List Nat) (hC : isC.map (fun i => ws[i]?) = ws0.map some) (hnd : va_nd isC = true) (hstk : stk = As.reverse ++ .ref b :: rest) (hrm : (rest.map fun v => v.category).sum ≤ 8) (hdg : decode cc pc = .ok (.invokevirtual idx, 3)) (hE : EnT κ kx) : V κ true l D cA R cc nL own ret 0 0 pc lv stk ws := by
  obtain ⟨p, e, s, m, ar, below, meth, c, A, Q⟩ := κ
  intro K H locs ls hl hP hD hS
  obtain ⟨rfl, rfl⟩ := hS
  obtain ⟨hx, hb, hml, hown, htg, hr, hlocks, hK, hA⟩ := id K
  obtain ⟨hQ, hxt, hTF⟩ : Q = _ ∧ _ ∧ _ := hE
  subst hQ; subst hstk; subst hb
  have hPc := hP.sub (ws' := ws0) isC (sub_map isC hC)
  have hDc := hD.sub (ws' := ws0) isC hnd hC
  obtain ⟨hl1, hin, hse, hini, hcd, hy1, hy2, hlen⟩ := hI
  obtain ⟨cellB, hcB, hoB, hclB⟩ := va_recv hK hPc hci hrv
  have hlen' : ∀ sig, parseMethodDescriptor y.desc = some sig → As.length = sig.parameters.length := fun sig h => by
    rw [h] at hlen; rw [hna]; exact (Option.some.inj hlen).symm
  intro T0 hT X
  obtain ⟨mk, methM, hnamed, hmethM, hstM, habM⟩ := Cond.instanceMethod_spec (htg _ hin)
  obtain ⟨methM', cM, hmethM', -, -, -, -, -, -, hsigM⟩ := Cond.code_spec hnamed (htg _ hcd)
  cases hmethM.symm.trans hmethM'
  obtain ⟨c2, r2, m2, q1, q2, q3, q4, kP, hkP, hkPi⟩ := Cond.selects_spec (htg _ hse)
  cases hclB.symm.trans q1
  cases (State.methodFound?_of_named hnamed ⟨hy1, hy2⟩).symm.trans q2
  cases hnamed.symm.trans q3
  have hselP : selectMethod e.platform s.vm cellB.cls mk = .method mk := by rw [Launch.admits_selectMethod X.admits]; exact q4
  obtain ⟨vm₁, X₁, hstep₁⟩ := X.invokevirtual hx hown (htg _ hl1) hnamed hmethM hstM hkP hkPi ⟨hy1, hy2⟩ (a := b) (cell := cellB) (by rw [hT]; exact hcB)
    (fun z h => by rw [h] at hoB; cases hoB) hselP hmethM habM hkP hkPi (g := F0 m pc ls (As.reverse ++ .ref b :: rest)) rfl (argsL := As) (rest := rest) (hlen' _ hsigM) rfl hdg
  have hW₁ := X₁.warmed
  have w : ∀ w0 ∈ tblG, ∀ (a' : Array Value), w0.before a' (T0.setVm vm₁) = true := fun w0 h0 a' => word_at hW₁ (tblG_good _ h0) (htg _ h0)
  have hTF1 : TF ((T0.setVm vm₁).calling { F0 m pc ls (As.reverse ++ .ref b :: rest) with stack := rest } mk (Value.ref b :: As).toArray) := TF.warm (u := s) hW₁ (fun a cell h _ => by show T0.heap[a]? = some cell; rw [hT]; exact h) hTF
  obtain ⟨x, t, T', L, hq, -, -, e1, e2, hSt, hsteps⟩ := callT_core X₁ (y := y) (bytes := bytes) (maxL := mL) (ret := rt) (a := (Value.ref b :: As).toArray) (g := { F0 m pc ls (As.reverse ++ .ref b :: rest) with stack := rest }) (ig := .invokevirtual idx) (len := 3) (mk := mk) (W := 8) (k := 1) (n := 6) hM hR.1 (by show 8 + (mL + 11) + rm.locals ≤ _; exact hR.2)
    (atoms_intro fun w0 h0 => by rcases List.mem_cons.mp h0 with rfl | h0 <;> exact w _ (by assumption) _) (w _ hcd _) (w _ hini _) (by show 0 + rm.cells ≤ _; rw [hrc.1]; exact hkn.1) (by show 0 + rm.slots ≤ _; rw [hrc.2]; exact hkn.2)
    ⟨rfl, by show va_P D vwCl ws0 T0.heap; rw [hT]; exact hPc, va_K.moved hW₁.alike hK, hDc.weaken (fun _ _ _ _ => trivial), hTF1⟩ rfl (hl.1.trans hml.symm) hdg (lv_room hrm) (X₁.named hnamed) (fun o t h => by
      obtain ⟨a0, ce, ho, -, -, -, -, hw, hsb⟩ := h
      exact ⟨a0, [], ho, hw, hsb⟩)
  obtain ⟨U, u1, u2⟩ := thrown_out X₁ hT hlocks hxt rfl rfl rfl hq e1 e2 hSt hsteps
  exact ⟨U, hstep₁ _ fun acts => by rw [doInvoke_state]; exact u1, u2⟩
theorem z_callTS (hM : CtT l y (Cond.code y bytes mL rt :: tblG) rm D cA ws0 As kx) (hI : InS own idx y bytes mL rt na) (hrc : rm.cells = 1 ∧ rm.slots = 6) (hR : rm.frames + 1 ≤ R.frames ∧ 8 + (mL + 11) + rm.locals ≤ R.locals) (hna : As.length = na) (hkn : 1 ≤ R.cells ∧ 6 ≤ R.slots)
    (isC : List Nat) (hC : isC.map (fun i => ws[i]?) = ws0.map some) (hnd : va_nd isC = true) (hstk : stk = As.reverse ++ rest) (hrm : (rest.map fun v => v.category).sum ≤ 8) (hdg : decode cc pc = .ok (.invokestatic idx, 3)) (hE : EnT κ kx) : V κ true l D cA R cc nL own ret 0 0 pc lv stk ws := by
  obtain ⟨p, e, s, m, ar, below, meth, c, A, Q⟩ := κ
  intro K H locs ls hl hP hD hS
  obtain ⟨rfl, rfl⟩ := hS
  obtain ⟨hx, hb, hml, hown, htg, hr, hlocks, hK, hA⟩ := id K
  obtain ⟨hQ, hxt, hTF⟩ : Q = _ ∧ _ ∧ _ := hE
  subst hQ; subst hstk; subst hb
  have hPc := hP.sub (ws' := ws0) isC (sub_map isC hC)
  have hDc := hD.sub (ws' := ws0) isC hnd hC
  obtain ⟨hl1, hstt, hini, hcd, hy1, hy2, hlen⟩ := hI
  have hlen' : ∀ sig, parseMethodDescriptor y.desc = some sig → As.length = sig.parameters.length := fun sig h => by
    rw [h] at hlen; rw [hna]; exact (Option.some.inj hlen).symm
  intro T0 hT X
  obtain ⟨mk, hnamed⟩ := Cond.code_named (htg _ hcd)
  obtain ⟨methM, cM, hmethM, -, -, -, -, -, -, hsigM⟩ := Cond.code_spec hnamed (htg _ hcd)
  have hstatic : methM.isStatic = true := Cond.static_spec hnamed hmethM (htg _ hstt)
  obtain ⟨kP, hkP, -⟩ := className_of_methodNamed hnamed
  have hinitP : kP.init = .initialized := Cond.initialized_spec (findClass_of_methodNamed hnamed) hkP (htg _ hini)
  obtain ⟨vm₁, X₁, hstep₁⟩ := X.invokestatic hx hown (htg _ hl1) hnamed hmethM hstatic hkP hinitP ⟨hy1, hy2⟩ (g := F0 m pc ls (As.reverse ++ rest)) rfl (argsL := As) (rest := rest) (hlen' _ hsigM) rfl hdg
  have hW₁ := X₁.warmed
  have w : ∀ w0 ∈ tblG, ∀ (a' : Array Value), w0.before a' (T0.setVm vm₁) = true := fun w0 h0 a' => word_at hW₁ (tblG_good _ h0) (htg _ h0)
  have hTF1 : TF ((T0.setVm vm₁).calling { F0 m pc ls (As.reverse ++ rest) with stack := rest } mk As.toArray) := TF.warm (u := s) hW₁ (fun a cell h _ => by show T0.heap[a]? = some cell; rw [hT]; exact h) hTF
  obtain ⟨x, t, T', L, hq, -, -, e1, e2, hSt, hsteps⟩ := callT_core X₁ (y := y) (bytes := bytes) (maxL := mL) (ret := rt) (a := As.toArray) (g := { F0 m pc ls (As.reverse ++ rest) with stack := rest }) (ig := .invokestatic idx) (len := 3) (mk := mk) (W := 8) (k := 1) (n := 6) hM hR.1 (by show 8 + (mL + 11) + rm.locals ≤ _; exact hR.2)
    (atoms_intro fun w0 h0 => by rcases List.mem_cons.mp h0 with rfl | h0 <;> exact w _ (by assumption) _) (w _ hcd _) (w _ hini _) (by show 0 + rm.cells ≤ _; rw [hrc.1]; exact hkn.1) (by show 0 + rm.slots ≤ _; rw [hrc.2]; exact hkn.2)
    ⟨rfl, by show va_P D vwCl ws0 T0.heap; rw [hT]; exact hPc, va_K.moved hW₁.alike hK, hDc.weaken (fun _ _ _ _ => trivial), hTF1⟩ rfl (hl.1.trans hml.symm) hdg (lv_room hrm) (X₁.named hnamed) (fun o t h => by
      obtain ⟨a0, ce, ho, -, -, -, -, hw, hsb⟩ := h
      exact ⟨a0, [], ho, hw, hsb⟩)
  obtain ⟨U, u1, u2⟩ := thrown_out X₁ hT hlocks hxt rfl rfl rfl hq e1 e2 hSt hsteps
  exact ⟨U, hstep₁ _ fun acts => by rw [doInvoke_state]; exact u1, u2⟩
end VThrow2
