/-! The judgement V: 'from this symbolic state (program counter, named locals, stack, world) the method comes to its end', with the whole context in one tuple; and its rows. -/
theorem fp {α : Type} {c : Prop} [Decidable c] {a b r : α} (hc : c) (h : (if c then a else b) = r) : a = r := by
  rw [if_pos hc] at h; exact h
theorem fn {α : Type} {c : Prop} [Decidable c] {a b r : α} (hc : ¬ c) (h : (if c then a else b) = r) : b = r := by
  rw [if_neg hc] at h; exact h
theorem bp {α β : Type} {o : Option α} {k : α → Option β} {r : β} (h : o.bind k = some r) : ∃ v, o = some v ∧ k v = some r := by
  cases o with
  | none => cases h
  | some v => exact ⟨v, rfl, h⟩
def rk4 (a b c d : Nat) : Nat → Option Nat := fun j => match j with
  | 0 => some a
  | 1 => some b
  | 2 => some c
  | 3 => some d
  | _ => none
theorem fam4 {i : Nat} (h : i < 4) : i = 0 ∨ i = 1 ∨ i = 2 ∨ i = 3 := by omega
abbrev Ctx : Type _ := Program × Env × State × MethodId × Array Value × List Frame × Method × Code × (Nat → Prop) × (State → Prop)
/-- what a walk knows of its surroundings -/
def Kx (p : Program) (s : State) (m : MethodId) (ar : Array Value) (meth : Method) (c : Code) (A : Nat → Prop) (D : va_G) (cA : Nat → ClassId) (cc : ByteArray) (nL : Nat) (own : String) (ret : Option FieldType) : Prop :=
  p.tables.exec = Jvm.exec ∧ c.code = cc ∧ c.maxLocals = nL ∧ s.vm.findClass own = some m.cls ∧ (∀ w ∈ tblG, w.before ar s = true) ∧ meth.sig.returnType = ret ∧ meth.locks = false ∧ va_K D vwCl (tys cA) s ∧ ∀ q : Nat, s.heap.size ≤ q → A q
/-- how the heap may stand to the start's: changed within A alone, or (frozen) not at all -/
def hpol (fz : Bool) (A : Nat → Prop) (H0 H : Heap) (locs : List Loc) : Prop := match fz with
  | true => H = H0 ∧ locs = []
  | false => va_S A H0 H locs
def V (κ : Ctx) (fz : Bool) (l : Launch) (D : va_G) (cA : Nat → ClassId) (R : Room) (cc : ByteArray) (nL : Nat) (own : String) (ret : Option FieldType) (k n : Nat) (pc : Nat) (lv : List (Nat × Value)) (stk : List Value) (ws : va_W) : Prop :=
  match κ with
  | (p, e, s, m, ar, below, meth, c, A, Q) => Kx p s m ar meth c A D cA cc nL own ret → ∀ (H : Heap) (locs : List Loc) (ls : Array Slot), lv_has ls nL lv → va_P D vwCl ws H → va_D A ws → hpol fz A s.heap H locs → W p l e R s m ar below meth c H locs k n Q (F0 m pc ls stk)
section VRows
variable {κ : Ctx} {fz : Bool} {l : Launch} {D : va_G} {cA : Nat → ClassId} {R : Room} {cc : ByteArray} {nL : Nat} {own : String} {ret : Option FieldType} {k n : Nat} {pc : Nat} {lv lv' : List (Nat × Value)} {stk rest : List Value} {ws : va_W}
theorem z_iconst {i : Int} {v : Int32} (hdg : decode cc pc = .ok (.iconst i, 1)) (hv : Int32.ofInt i = v) (h : V κ fz l D cA R cc nL own ret k n (pc + 1) lv (.int v :: stk) ws) : V κ fz l D cA R cc nL own ret k n pc lv stk ws := by
  obtain ⟨p, e, s, m, ar, below, meth, c, A, Q⟩ := κ
  intro K H locs ls hl hP hD hS
  exact lv_iconst K.1 K.2.1 hdg hv (h K H locs ls hl hP hD hS)
theorem z_bipush {i : Int} {v : Int32} (hdg : decode cc pc = .ok (.bipush i, 2)) (hv : (Int8.ofInt i).toInt32 = v) (h : V κ fz l D cA R cc nL own ret k n (pc + 2) lv (.int v :: stk) ws) : V κ fz l D cA R cc nL own ret k n pc lv stk ws := by
  obtain ⟨p, e, s, m, ar, below, meth, c, A, Q⟩ := κ
  intro K H locs ls hl hP hD hS
  exact lv_bipush K.1 K.2.1 hdg hv (h K H locs ls hl hP hD hS)
theorem z_sipush {i : Int} {v : Int32} (hdg : decode cc pc = .ok (.sipush i, 3)) (hv : (Int16.ofInt i).toInt32 = v) (h : V κ fz l D cA R cc nL own ret k n (pc + 3) lv (.int v :: stk) ws) : V κ fz l D cA R cc nL own ret k n pc lv stk ws := by
  obtain ⟨p, e, s, m, ar, below, meth, c, A, Q⟩ := κ
  intro K H locs ls hl hP hD hS
  exact lv_sipush K.1 K.2.1 hdg hv (h K H locs ls hl hP hD hS)
theorem z_iload_n (j : Nat) {i : Fin 4} {x : Int32} (hdg : decode cc pc = .ok (.iload_n i, 1)) (hj : lv[j]? = some ((i : Nat), .int x)) (h : V κ fz l D cA R cc nL own ret k n (pc + 1) lv (.int x :: stk) ws) : V κ fz l D cA R cc nL own ret k n pc lv stk ws := by
  obtain ⟨p, e, s, m, ar, below, meth, c, A, Q⟩ := κ
  intro K H locs ls hl hP hD hS
  exact lv_iload_n K.1 K.2.1 hdg rfl (lv_at hl j hj) (h K H locs ls hl hP hD hS)
theorem z_iload (j : Nat) {i : Nat} {x : Int32} (hdg : decode cc pc = .ok (.iload i, 2)) (hj : lv[j]? = some (i, .int x)) (h : V κ fz l D cA R cc nL own ret k n (pc + 2) lv (.int x :: stk) ws) : V κ fz l D cA R cc nL own ret k n pc lv stk ws := by
  obtain ⟨p, e, s, m, ar, below, meth, c, A, Q⟩ := κ
  intro K H locs ls hl hP hD hS
  exact lv_iload K.1 K.2.1 hdg (lv_at hl j hj) (h K H locs ls hl hP hD hS)
theorem z_aload_n (j : Nat) {i : Fin 4} {x : Nat} (hdg : decode cc pc = .ok (.aload_n i, 1)) (hj : lv[j]? = some ((i : Nat), .ref x)) (h : V κ fz l D cA R cc nL own ret k n (pc + 1) lv (.ref x :: stk) ws) : V κ fz l D cA R cc nL own ret k n pc lv stk ws := by
  obtain ⟨p, e, s, m, ar, below, meth, c, A, Q⟩ := κ
  intro K H locs ls hl hP hD hS
  exact lv_aload_n K.1 K.2.1 hdg rfl (lv_at hl j hj) (h K H locs ls hl hP hD hS)
theorem z_aload (j : Nat) {i : Nat} {x : Nat} (hdg : decode cc pc = .ok (.aload i, 2)) (hj : lv[j]? = some (i, .ref x)) (h : V κ fz l D cA R cc nL own ret k n (pc + 2) lv (.ref x :: stk) ws) : V κ fz l D cA R cc nL own ret k n pc lv stk ws := by
  obtain ⟨p, e, s, m, ar, below, meth, c, A, Q⟩ := κ
  intro K H locs ls hl hP hD hS
  exact lv_aload K.1 K.2.1 hdg (lv_at hl j hj) (h K H locs ls hl hP hD hS)
theorem z_istore_n {i : Fin 4} {x : Int32} (hdg : decode cc pc = .ok (.istore_n i, 1)) (hn : (i : Nat) < nL) (hl' : ((i : Nat), Value.int x) :: lv.filter (fun q => !(q.1 == (i : Nat)) && !(q.1 + 1 == (i : Nat) && q.2.category == 2)) = lv') (h : V κ fz l D cA R cc nL own ret k n (pc + 1) lv' stk ws) : V κ fz l D cA R cc nL own ret k n pc lv (.int x :: stk) ws := by
  obtain ⟨p, e, s, m, ar, below, meth, c, A, Q⟩ := κ
  intro K H locs ls hl hP hD hS
  exact lv_istore_n K.1 K.2.1 hdg rfl hl hn hl' (fun ls hl => h K H locs ls hl hP hD hS)
theorem z_istore {i : Nat} {x : Int32} (hdg : decode cc pc = .ok (.istore i, 2)) (hn : i < nL) (hl' : (i, Value.int x) :: lv.filter (fun q => !(q.1 == i) && !(q.1 + 1 == i && q.2.category == 2)) = lv') (h : V κ fz l D cA R cc nL own ret k n (pc + 2) lv' stk ws) : V κ fz l D cA R cc nL own ret k n pc lv (.int x :: stk) ws := by
  obtain ⟨p, e, s, m, ar, below, meth, c, A, Q⟩ := κ
  intro K H locs ls hl hP hD hS
  exact lv_istore K.1 K.2.1 hdg hl hn hl' (fun ls hl => h K H locs ls hl hP hD hS)
theorem z_astore_n {i : Fin 4} {x : Nat} (hdg : decode cc pc = .ok (.astore_n i, 1)) (hn : (i : Nat) < nL) (hl' : ((i : Nat), Value.ref x) :: lv.filter (fun q => !(q.1 == (i : Nat)) && !(q.1 + 1 == (i : Nat) && q.2.category == 2)) = lv') (h : V κ fz l D cA R cc nL own ret k n (pc + 1) lv' stk ws) : V κ fz l D cA R cc nL own ret k n pc lv (.ref x :: stk) ws := by
  obtain ⟨p, e, s, m, ar, below, meth, c, A, Q⟩ := κ
  intro K H locs ls hl hP hD hS
  exact lv_astore_n K.1 K.2.1 hdg rfl hl hn hl' (fun ls hl => h K H locs ls hl hP hD hS)
theorem z_astore {i : Nat} {x : Nat} (hdg : decode cc pc = .ok (.astore i, 2)) (hn : i < nL) (hl' : (i, Value.ref x) :: lv.filter (fun q => !(q.1 == i) && !(q.1 + 1 == i && q.2.category == 2)) = lv') (h : V κ fz l D cA R cc nL own ret k n (pc + 2) lv' stk ws) : V κ fz l D cA R cc nL own ret k n pc lv (.ref x :: stk) ws := by
  obtain ⟨p, e, s, m, ar, below, meth, c, A, Q⟩ := κ
  intro K H locs ls hl hP hD hS
  exact lv_astore K.1 K.2.1 hdg hl hn hl' (fun ls hl => h K H locs ls hl hP hD hS)
theorem z_iinc (j : Nat) {i : Nat} {c0 : Int} {x v : Int32} (hdg : decode cc pc = .ok (.iinc i c0, 3)) (hj : lv[j]? = some (i, .int x)) (hv : x + Int32.ofInt c0 = v) (hn : i < nL) (hl' : (i, Value.int v) :: lv.filter (fun q => !(q.1 == i) && !(q.1 + 1 == i && q.2.category == 2)) = lv') (h : V κ fz l D cA R cc nL own ret k n (pc + 3) lv' stk ws) : V κ fz l D cA R cc nL own ret k n pc lv stk ws := by
  obtain ⟨p, e, s, m, ar, below, meth, c, A, Q⟩ := κ
  intro K H locs ls hl hP hD hS
  exact lv_iinc K.1 K.2.1 hdg hl hj hv hn hl' (fun ls hl => h K H locs ls hl hP hD hS)
/-- the locals in another order, some forgotten -/
theorem z_lv (ks : List Nat) (hl' : lv_pick lv ks = lv') (h : V κ fz l D cA R cc nL own ret k n pc lv' stk ws) : V κ fz l D cA R cc nL own ret k n pc lv stk ws := by
  obtain ⟨p, e, s, m, ar, below, meth, c, A, Q⟩ := κ
  intro K H locs ls hl hP hD hS
  exact h K H locs ls (lv_sub hl ks hl') hP hD hS
theorem z_ws {ws' : va_W} (is : List Nat) (hn : va_nd is = true) (hs : is.map (fun i => ws[i]?) = ws'.map some) (h : V κ fz l D cA R cc nL own ret k n pc lv stk ws') : V κ fz l D cA R cc nL own ret k n pc lv stk ws := by
  obtain ⟨p, e, s, m, ar, below, meth, c, A, Q⟩ := κ
  intro K H locs ls hl hP hD hS
  refine h K H locs ls hl (hP.sub is ?_) (hD.sub is hn hs) hS
  have h1 : is.filterMap (fun i => ws[i]?) = (is.map (fun i => ws[i]?)).filterMap id := by rw [List.filterMap_map]; rfl
  rw [h1, hs, List.filterMap_map]
  simp
theorem z_wid {k' n' : Nat} (h1 : k ≤ k') (h2 : n ≤ n') (h : V κ fz l D cA R cc nL own ret k' n' pc lv stk ws) : V κ fz l D cA R cc nL own ret k n pc lv stk ws := by
  obtain ⟨p, e, s, m, ar, below, meth, c, A, Q⟩ := κ
  intro K H locs ls hl hP hD hS
  exact W.widen h1 h2 (h K H locs ls hl hP hD hS)
theorem z_iadd {x y : Int32} (hdg : decode cc pc = .ok (.iadd, 1)) (h : V κ fz l D cA R cc nL own ret k n (pc + 1) lv (.int (x + y) :: stk) ws) : V κ fz l D cA R cc nL own ret k n pc lv (.int y :: .int x :: stk) ws := by
  obtain ⟨p, e, s, m, ar, below, meth, c, A, Q⟩ := κ
  intro K H locs ls hl hP hD hS
  exact lv_iadd K.1 K.2.1 hdg (h K H locs ls hl hP hD hS)
theorem z_isub {x y : Int32} (hdg : decode cc pc = .ok (.isub, 1)) (h : V κ fz l D cA R cc nL own ret k n (pc + 1) lv (.int (x - y) :: stk) ws) : V κ fz l D cA R cc nL own ret k n pc lv (.int y :: .int x :: stk) ws := by
  obtain ⟨p, e, s, m, ar, below, meth, c, A, Q⟩ := κ
  intro K H locs ls hl hP hD hS
  exact lv_isub K.1 K.2.1 hdg (h K H locs ls hl hP hD hS)
theorem z_imul {x y : Int32} (hdg : decode cc pc = .ok (.imul, 1)) (h : V κ fz l D cA R cc nL own ret k n (pc + 1) lv (.int (x * y) :: stk) ws) : V κ fz l D cA R cc nL own ret k n pc lv (.int y :: .int x :: stk) ws := by
  obtain ⟨p, e, s, m, ar, below, meth, c, A, Q⟩ := κ
  intro K H locs ls hl hP hD hS
  exact lv_imul K.1 K.2.1 hdg (h K H locs ls hl hP hD hS)
theorem z_iand {x y : Int32} (hdg : decode cc pc = .ok (.iand, 1)) (h : V κ fz l D cA R cc nL own ret k n (pc + 1) lv (.int (x &&& y) :: stk) ws) : V κ fz l D cA R cc nL own ret k n pc lv (.int y :: .int x :: stk) ws := by
  obtain ⟨p, e, s, m, ar, below, meth, c, A, Q⟩ := κ
  intro K H locs ls hl hP hD hS
  exact lv_iand K.1 K.2.1 hdg (h K H locs ls hl hP hD hS)
theorem z_ior {x y : Int32} (hdg : decode cc pc = .ok (.ior, 1)) (h : V κ fz l D cA R cc nL own ret k n (pc + 1) lv (.int (x ||| y) :: stk) ws) : V κ fz l D cA R cc nL own ret k n pc lv (.int y :: .int x :: stk) ws := by
  obtain ⟨p, e, s, m, ar, below, meth, c, A, Q⟩ := κ
  intro K H locs ls hl hP hD hS
  exact lv_ior K.1 K.2.1 hdg (h K H locs ls hl hP hD hS)
theorem z_ixor {x y : Int32} (hdg : decode cc pc = .ok (.ixor, 1)) (h : V κ fz l D cA R cc nL own ret k n (pc + 1) lv (.int (x ^^^ y) :: stk) ws) : V κ fz l D cA R cc nL own ret k n pc lv (.int y :: .int x :: stk) ws := by
  obtain ⟨p, e, s, m, ar, below, meth, c, A, Q⟩ := κ
  intro K H locs ls hl hP hD hS
  exact lv_ixor K.1 K.2.1 hdg (h K H locs ls hl hP hD hS)
theorem z_ineg {x : Int32} (hdg : decode cc pc = .ok (.ineg, 1)) (h : V κ fz l D cA R cc nL own ret k n (pc + 1) lv (.int (-x) :: stk) ws) : V κ fz l D cA R cc nL own ret k n pc lv (.int x :: stk) ws := by
  obtain ⟨p, e, s, m, ar, below, meth, c, A, Q⟩ := κ
  intro K H locs ls hl hP hD hS
  exact lv_ineg K.1 K.2.1 hdg (h K H locs ls hl hP hD hS)
theorem z_idiv {α : Type} {x y : Int32} {a : Option α} {r : α} (hdg : decode cc pc = .ok (.idiv, 1)) (hf : (if y = 0 then none else a) = some r) (h : a = some r → V κ fz l D cA R cc nL own ret k n (pc + 1) lv (.int (x / y) :: stk) ws) : V κ fz l D cA R cc nL own ret k n pc lv (.int y :: .int x :: stk) ws := by
  obtain ⟨p, e, s, m, ar, below, meth, c, A, Q⟩ := κ
  intro K H locs ls hl hP hD hS
  by_cases hz : y = 0
  · rw [if_pos hz] at hf; cases hf
  · rw [if_neg hz] at hf
    exact lv_idiv K.1 K.2.1 hdg hz (h hf K H locs ls hl hP hD hS)
theorem z_irem {α : Type} {x y : Int32} {a : Option α} {r : α} (hdg : decode cc pc = .ok (.irem, 1)) (hf : (if y = 0 then none else a) = some r) (h : a = some r → V κ fz l D cA R cc nL own ret k n (pc + 1) lv (.int (x - x / y * y) :: stk) ws) : V κ fz l D cA R cc nL own ret k n pc lv (.int y :: .int x :: stk) ws := by
  obtain ⟨p, e, s, m, ar, below, meth, c, A, Q⟩ := κ
  intro K H locs ls hl hP hD hS
  by_cases hz : y = 0
  · rw [if_pos hz] at hf; cases hf
  · rw [if_neg hz] at hf
    exact lv_irem K.1 K.2.1 hdg hz (h hf K H locs ls hl hP hD hS)
theorem z_i2l {x : Int32} (hdg : decode cc pc = .ok (.i2l, 1)) (h : V κ fz l D cA R cc nL own ret k n (pc + 1) lv (.long x.toInt64 :: stk) ws) : V κ fz l D cA R cc nL own ret k n pc lv (.int x :: stk) ws := by
  obtain ⟨p, e, s, m, ar, below, meth, c, A, Q⟩ := κ
  intro K H locs ls hl hP hD hS
  exact lv_i2l K.1 K.2.1 hdg rfl (h K H locs ls hl hP hD hS)
theorem z_dup {v : Value} (hdg : decode cc pc = .ok (.dup, 1)) (hv : v.category = 1) (h : V κ fz l D cA R cc nL own ret k n (pc + 1) lv (v :: v :: stk) ws) : V κ fz l D cA R cc nL own ret k n pc lv (v :: stk) ws := by
  obtain ⟨p, e, s, m, ar, below, meth, c, A, Q⟩ := κ
  intro K H locs ls hl hP hD hS
  exact lv_dup K.1 K.2.1 hdg hv (h K H locs ls hl hP hD hS)
theorem z_pop {v : Value} (hdg : decode cc pc = .ok (.pop, 1)) (hv : v.category = 1) (h : V κ fz l D cA R cc nL own ret k n (pc + 1) lv stk ws) : V κ fz l D cA R cc nL own ret k n pc lv (v :: stk) ws := by
  obtain ⟨p, e, s, m, ar, below, meth, c, A, Q⟩ := κ
  intro K H locs ls hl hP hD hS
  exact lv_pop K.1 K.2.1 hdg hv (h K H locs ls hl hP hD hS)
theorem z_dup_x1 {v w : Value} (hdg : decode cc pc = .ok (.dup_x1, 1)) (hv : v.category = 1) (hw : w.category = 1) (h : V κ fz l D cA R cc nL own ret k n (pc + 1) lv (v :: w :: v :: stk) ws) : V κ fz l D cA R cc nL own ret k n pc lv (v :: w :: stk) ws := by
  obtain ⟨p, e, s, m, ar, below, meth, c, A, Q⟩ := κ
  intro K H locs ls hl hP hD hS
  exact lv_dup_x1 K.1 K.2.1 hdg hv hw (h K H locs ls hl hP hD hS)
theorem z_dup2 {v w : Value} (hdg : decode cc pc = .ok (.dup2, 1)) (hv : v.category = 1) (hw : w.category = 1) (h : V κ fz l D cA R cc nL own ret k n (pc + 1) lv (v :: w :: v :: w :: stk) ws) : V κ fz l D cA R cc nL own ret k n pc lv (v :: w :: stk) ws := by
  obtain ⟨p, e, s, m, ar, below, meth, c, A, Q⟩ := κ
  intro K H locs ls hl hP hD hS
  exact lv_dup2_11 K.1 K.2.1 hdg hv hw (h K H locs ls hl hP hD hS)
theorem z_goto {off : Int} {tgt : Nat} (hdg : decode cc pc = .ok (.goto off, 3)) (ht : (pc : Int) + off = (tgt : Int)) (h : V κ fz l D cA R cc nL own ret k n tgt lv stk ws) : V κ fz l D cA R cc nL own ret k n pc lv stk ws := by
  obtain ⟨p, e, s, m, ar, below, meth, c, A, Q⟩ := κ
  intro K H locs ls hl hP hD hS
  exact lv_goto K.1 K.2.1 hdg ht (h K H locs ls hl hP hD hS)
theorem y_if_eq {x : Int32} {off : Int} {tgt : Nat} (hdg : decode cc pc = .ok (.ifCond .eq off, 3)) (ht : (pc : Int) + off = (tgt : Int)) (kt : x = 0 → V κ fz l D cA R cc nL own ret k n tgt lv stk ws) (kf : ¬ x = 0 → V κ fz l D cA R cc nL own ret k n (pc + 3) lv stk ws) : V κ fz l D cA R cc nL own ret k n pc lv (.int x :: stk) ws := by
  obtain ⟨p, e, s, m, ar, below, meth, c, A, Q⟩ := κ
  intro K H locs ls hl hP hD hS
  exact lv_if_eq K.1 K.2.1 hdg ht (fun hc => kt hc K H locs ls hl hP hD hS) (fun hc => kf hc K H locs ls hl hP hD hS)
theorem z_if_eq {α : Type} {x : Int32} {a b r : α} {off : Int} {tgt : Nat} (hdg : decode cc pc = .ok (.ifCond .eq off, 3)) (ht : (pc : Int) + off = (tgt : Int)) (hf : (if x = 0 then a else b) = r) (kt : a = r → V κ fz l D cA R cc nL own ret k n tgt lv stk ws) (kf : b = r → V κ fz l D cA R cc nL own ret k n (pc + 3) lv stk ws) : V κ fz l D cA R cc nL own ret k n pc lv (.int x :: stk) ws :=
  y_if_eq hdg ht (fun hc => kt (fp hc hf)) (fun hc => kf (fn hc hf))
theorem y_if_ne {x : Int32} {off : Int} {tgt : Nat} (hdg : decode cc pc = .ok (.ifCond .ne off, 3)) (ht : (pc : Int) + off = (tgt : Int)) (kt : ¬ x = 0 → V κ fz l D cA R cc nL own ret k n tgt lv stk ws) (kf : x = 0 → V κ fz l D cA R cc nL own ret k n (pc + 3) lv stk ws) : V κ fz l D cA R cc nL own ret k n pc lv (.int x :: stk) ws := by
  obtain ⟨p, e, s, m, ar, below, meth, c, A, Q⟩ := κ
  intro K H locs ls hl hP hD hS
  exact lv_if_ne K.1 K.2.1 hdg ht (fun hc => kt hc K H locs ls hl hP hD hS) (fun hc => kf hc K H locs ls hl hP hD hS)
theorem z_if_ne {α : Type} {x : Int32} {a b r : α} {off : Int} {tgt : Nat} (hdg : decode cc pc = .ok (.ifCond .ne off, 3)) (ht : (pc : Int) + off = (tgt : Int)) (hf : (if x = 0 then a else b) = r) (kt : b = r → V κ fz l D cA R cc nL own ret k n tgt lv stk ws) (kf : a = r → V κ fz l D cA R cc nL own ret k n (pc + 3) lv stk ws) : V κ fz l D cA R cc nL own ret k n pc lv (.int x :: stk) ws :=
  y_if_ne hdg ht (fun hc => kt (fn hc hf)) (fun hc => kf (fp hc hf))
theorem y_if_lt {x : Int32} {off : Int} {tgt : Nat} (hdg : decode cc pc = .ok (.ifCond .lt off, 3)) (ht : (pc : Int) + off = (tgt : Int)) (kt : x < 0 → V κ fz l D cA R cc nL own ret k n tgt lv stk ws) (kf : ¬ x < 0 → V κ fz l D cA R cc nL own ret k n (pc + 3) lv stk ws) : V κ fz l D cA R cc nL own ret k n pc lv (.int x :: stk) ws := by
  obtain ⟨p, e, s, m, ar, below, meth, c, A, Q⟩ := κ
  intro K H locs ls hl hP hD hS
  exact lv_if_lt K.1 K.2.1 hdg ht (fun hc => kt hc K H locs ls hl hP hD hS) (fun hc => kf hc K H locs ls hl hP hD hS)
theorem z_if_lt {α : Type} {x : Int32} {a b r : α} {off : Int} {tgt : Nat} (hdg : decode cc pc = .ok (.ifCond .lt off, 3)) (ht : (pc : Int) + off = (tgt : Int)) (hf : (if x < 0 then a else b) = r) (kt : a = r → V κ fz l D cA R cc nL own ret k n tgt lv stk ws) (kf : b = r → V κ fz l D cA R cc nL own ret k n (pc + 3) lv stk ws) : V κ fz l D cA R cc nL own ret k n pc lv (.int x :: stk) ws :=
  y_if_lt hdg ht (fun hc => kt (fp hc hf)) (fun hc => kf (fn hc hf))
theorem y_if_ge {x : Int32} {off : Int} {tgt : Nat} (hdg : decode cc pc = .ok (.ifCond .ge off, 3)) (ht : (pc : Int) + off = (tgt : Int)) (kt : 0 ≤ x → V κ fz l D cA R cc nL own ret k n tgt lv stk ws) (kf : ¬ 0 ≤ x → V κ fz l D cA R cc nL own ret k n (pc + 3) lv stk ws) : V κ fz l D cA R cc nL own ret k n pc lv (.int x :: stk) ws := by
  obtain ⟨p, e, s, m, ar, below, meth, c, A, Q⟩ := κ
  intro K H locs ls hl hP hD hS
  exact lv_if_ge K.1 K.2.1 hdg ht (fun hc => kt hc K H locs ls hl hP hD hS) (fun hc => kf hc K H locs ls hl hP hD hS)
theorem z_if_ge {α : Type} {x : Int32} {a b r : α} {off : Int} {tgt : Nat} (hdg : decode cc pc = .ok (.ifCond .ge off, 3)) (ht : (pc : Int) + off = (tgt : Int)) (hf : (if 0 ≤ x then a else b) = r) (kt : a = r → V κ fz l D cA R cc nL own ret k n tgt lv stk ws) (kf : b = r → V κ fz l D cA R cc nL own ret k n (pc + 3) lv stk ws) : V κ fz l D cA R cc nL own ret k n pc lv (.int x :: stk) ws :=
  y_if_ge hdg ht (fun hc => kt (fp hc hf)) (fun hc => kf (fn hc hf))
theorem y_if_gt {x : Int32} {off : Int} {tgt : Nat} (hdg : decode cc pc = .ok (.ifCond .gt off, 3)) (ht : (pc : Int) + off = (tgt : Int)) (kt : 0 < x → V κ fz l D cA R cc nL own ret k n tgt lv stk ws) (kf : ¬ 0 < x → V κ fz l D cA R cc nL own ret k n (pc + 3) lv stk ws) : V κ fz l D cA R cc nL own ret k n pc lv (.int x :: stk) ws := by
  obtain ⟨p, e, s, m, ar, below, meth, c, A, Q⟩ := κ
  intro K H locs ls hl hP hD hS
  exact lv_if_gt K.1 K.2.1 hdg ht (fun hc => kt hc K H locs ls hl hP hD hS) (fun hc => kf hc K H locs ls hl hP hD hS)
theorem z_if_gt {α : Type} {x : Int32} {a b r : α} {off : Int} {tgt : Nat} (hdg : decode cc pc = .ok (.ifCond .gt off, 3)) (ht : (pc : Int) + off = (tgt : Int)) (hf : (if 0 < x then a else b) = r) (kt : a = r → V κ fz l D cA R cc nL own ret k n tgt lv stk ws) (kf : b = r → V κ fz l D cA R cc nL own ret k n (pc + 3) lv stk ws) : V κ fz l D cA R cc nL own ret k n pc lv (.int x :: stk) ws :=
  y_if_gt hdg ht (fun hc => kt (fp hc hf)) (fun hc => kf (fn hc hf))
theorem y_if_le {x : Int32} {off : Int} {tgt : Nat} (hdg : decode cc pc = .ok (.ifCond .le off, 3)) (ht : (pc : Int) + off = (tgt : Int)) (kt : x ≤ 0 → V κ fz l D cA R cc nL own ret k n tgt lv stk ws) (kf : ¬ x ≤ 0 → V κ fz l D cA R cc nL own ret k n (pc + 3) lv stk ws) : V κ fz l D cA R cc nL own ret k n pc lv (.int x :: stk) ws := by
  obtain ⟨p, e, s, m, ar, below, meth, c, A, Q⟩ := κ
  intro K H locs ls hl hP hD hS
  exact lv_if_le K.1 K.2.1 hdg ht (fun hc => kt hc K H locs ls hl hP hD hS) (fun hc => kf hc K H locs ls hl hP hD hS)
theorem z_if_le {α : Type} {x : Int32} {a b r : α} {off : Int} {tgt : Nat} (hdg : decode cc pc = .ok (.ifCond .le off, 3)) (ht : (pc : Int) + off = (tgt : Int)) (hf : (if x ≤ 0 then a else b) = r) (kt : a = r → V κ fz l D cA R cc nL own ret k n tgt lv stk ws) (kf : b = r → V κ fz l D cA R cc nL own ret k n (pc + 3) lv stk ws) : V κ fz l D cA R cc nL own ret k n pc lv (.int x :: stk) ws :=
  y_if_le hdg ht (fun hc => kt (fp hc hf)) (fun hc => kf (fn hc hf))
theorem y_icmp_eq {x y : Int32} {off : Int} {tgt : Nat} (hdg : decode cc pc = .ok (.if_icmp .eq off, 3)) (ht : (pc : Int) + off = (tgt : Int)) (kt : x = y → V κ fz l D cA R cc nL own ret k n tgt lv stk ws) (kf : ¬ x = y → V κ fz l D cA R cc nL own ret k n (pc + 3) lv stk ws) : V κ fz l D cA R cc nL own ret k n pc lv (.int y :: .int x :: stk) ws := by
  obtain ⟨p, e, s, m, ar, below, meth, c, A, Q⟩ := κ
  intro K H locs ls hl hP hD hS
  exact lv_icmp_eq K.1 K.2.1 hdg ht (fun hc => kt hc K H locs ls hl hP hD hS) (fun hc => kf hc K H locs ls hl hP hD hS)
theorem z_icmp_eq {α : Type} {x y : Int32} {a b r : α} {off : Int} {tgt : Nat} (hdg : decode cc pc = .ok (.if_icmp .eq off, 3)) (ht : (pc : Int) + off = (tgt : Int)) (hf : (if x = y then a else b) = r) (kt : a = r → V κ fz l D cA R cc nL own ret k n tgt lv stk ws) (kf : b = r → V κ fz l D cA R cc nL own ret k n (pc + 3) lv stk ws) : V κ fz l D cA R cc nL own ret k n pc lv (.int y :: .int x :: stk) ws :=
  y_icmp_eq hdg ht (fun hc => kt (fp hc hf)) (fun hc => kf (fn hc hf))
theorem y_icmp_ne {x y : Int32} {off : Int} {tgt : Nat} (hdg : decode cc pc = .ok (.if_icmp .ne off, 3)) (ht : (pc : Int) + off = (tgt : Int)) (kt : ¬ x = y → V κ fz l D cA R cc nL own ret k n tgt lv stk ws) (kf : x = y → V κ fz l D cA R cc nL own ret k n (pc + 3) lv stk ws) : V κ fz l D cA R cc nL own ret k n pc lv (.int y :: .int x :: stk) ws := by
  obtain ⟨p, e, s, m, ar, below, meth, c, A, Q⟩ := κ
  intro K H locs ls hl hP hD hS
  exact lv_icmp_ne K.1 K.2.1 hdg ht (fun hc => kt hc K H locs ls hl hP hD hS) (fun hc => kf hc K H locs ls hl hP hD hS)
theorem z_icmp_ne {α : Type} {x y : Int32} {a b r : α} {off : Int} {tgt : Nat} (hdg : decode cc pc = .ok (.if_icmp .ne off, 3)) (ht : (pc : Int) + off = (tgt : Int)) (hf : (if x = y then a else b) = r) (kt : b = r → V κ fz l D cA R cc nL own ret k n tgt lv stk ws) (kf : a = r → V κ fz l D cA R cc nL own ret k n (pc + 3) lv stk ws) : V κ fz l D cA R cc nL own ret k n pc lv (.int y :: .int x :: stk) ws :=
  y_icmp_ne hdg ht (fun hc => kt (fn hc hf)) (fun hc => kf (fp hc hf))
theorem y_icmp_lt {x y : Int32} {off : Int} {tgt : Nat} (hdg : decode cc pc = .ok (.if_icmp .lt off, 3)) (ht : (pc : Int) + off = (tgt : Int)) (kt : x < y → V κ fz l D cA R cc nL own ret k n tgt lv stk ws) (kf : ¬ x < y → V κ fz l D cA R cc nL own ret k n (pc + 3) lv stk ws) : V κ fz l D cA R cc nL own ret k n pc lv (.int y :: .int x :: stk) ws := by
  obtain ⟨p, e, s, m, ar, below, meth, c, A, Q⟩ := κ
  intro K H locs ls hl hP hD hS
  exact lv_icmp_lt K.1 K.2.1 hdg ht (fun hc => kt hc K H locs ls hl hP hD hS) (fun hc => kf hc K H locs ls hl hP hD hS)
theorem z_icmp_lt {α : Type} {x y : Int32} {a b r : α} {off : Int} {tgt : Nat} (hdg : decode cc pc = .ok (.if_icmp .lt off, 3)) (ht : (pc : Int) + off = (tgt : Int)) (hf : (if x < y then a else b) = r) (kt : a = r → V κ fz l D cA R cc nL own ret k n tgt lv stk ws) (kf : b = r → V κ fz l D cA R cc nL own ret k n (pc + 3) lv stk ws) : V κ fz l D cA R cc nL own ret k n pc lv (.int y :: .int x :: stk) ws :=
  y_icmp_lt hdg ht (fun hc => kt (fp hc hf)) (fun hc => kf (fn hc hf))
theorem y_icmp_ge {x y : Int32} {off : Int} {tgt : Nat} (hdg : decode cc pc = .ok (.if_icmp .ge off, 3)) (ht : (pc : Int) + off = (tgt : Int)) (kt : y ≤ x → V κ fz l D cA R cc nL own ret k n tgt lv stk ws) (kf : ¬ y ≤ x → V κ fz l D cA R cc nL own ret k n (pc + 3) lv stk ws) : V κ fz l D cA R cc nL own ret k n pc lv (.int y :: .int x :: stk) ws := by
  obtain ⟨p, e, s, m, ar, below, meth, c, A, Q⟩ := κ
  intro K H locs ls hl hP hD hS
  exact lv_icmp_ge K.1 K.2.1 hdg ht (fun hc => kt hc K H locs ls hl hP hD hS) (fun hc => kf hc K H locs ls hl hP hD hS)
theorem z_icmp_ge {α : Type} {x y : Int32} {a b r : α} {off : Int} {tgt : Nat} (hdg : decode cc pc = .ok (.if_icmp .ge off, 3)) (ht : (pc : Int) + off = (tgt : Int)) (hf : (if y ≤ x then a else b) = r) (kt : a = r → V κ fz l D cA R cc nL own ret k n tgt lv stk ws) (kf : b = r → V κ fz l D cA R cc nL own ret k n (pc + 3) lv stk ws) : V κ fz l D cA R cc nL own ret k n pc lv (.int y :: .int x :: stk) ws :=
  y_icmp_ge hdg ht (fun hc => kt (fp hc hf)) (fun hc => kf (fn hc hf))
theorem y_icmp_gt {x y : Int32} {off : Int} {tgt : Nat} (hdg : decode cc pc = .ok (.if_icmp .gt off, 3)) (ht : (pc : Int) + off = (tgt : Int)) (kt : y < x → V κ fz l D cA R cc nL own ret k n tgt lv stk ws) (kf : ¬ y < x → V κ fz l D cA R cc nL own ret k n (pc + 3) lv stk ws) : V κ fz l D cA R cc nL own ret k n pc lv (.int y :: .int x :: stk) ws := by
  obtain ⟨p, e, s, m, ar, below, meth, c, A, Q⟩ := κ
  intro K H locs ls hl hP hD hS
  exact lv_icmp_gt K.1 K.2.1 hdg ht (fun hc => kt hc K H locs ls hl hP hD hS) (fun hc => kf hc K H locs ls hl hP hD hS)
theorem z_icmp_gt {α : Type} {x y : Int32} {a b r : α} {off : Int} {tgt : Nat} (hdg : decode cc pc = .ok (.if_icmp .gt off, 3)) (ht : (pc : Int) + off = (tgt : Int)) (hf : (if y < x then a else b) = r) (kt : a = r → V κ fz l D cA R cc nL own ret k n tgt lv stk ws) (kf : b = r → V κ fz l D cA R cc nL own ret k n (pc + 3) lv stk ws) : V κ fz l D cA R cc nL own ret k n pc lv (.int y :: .int x :: stk) ws :=
  y_icmp_gt hdg ht (fun hc => kt (fp hc hf)) (fun hc => kf (fn hc hf))
theorem y_icmp_le {x y : Int32} {off : Int} {tgt : Nat} (hdg : decode cc pc = .ok (.if_icmp .le off, 3)) (ht : (pc : Int) + off = (tgt : Int)) (kt : x ≤ y → V κ fz l D cA R cc nL own ret k n tgt lv stk ws) (kf : ¬ x ≤ y → V κ fz l D cA R cc nL own ret k n (pc + 3) lv stk ws) : V κ fz l D cA R cc nL own ret k n pc lv (.int y :: .int x :: stk) ws := by
  obtain ⟨p, e, s, m, ar, below, meth, c, A, Q⟩ := κ
  intro K H locs ls hl hP hD hS
  exact lv_icmp_le K.1 K.2.1 hdg ht (fun hc => kt hc K H locs ls hl hP hD hS) (fun hc => kf hc K H locs ls hl hP hD hS)
theorem z_icmp_le {α : Type} {x y : Int32} {a b r : α} {off : Int} {tgt : Nat} (hdg : decode cc pc = .ok (.if_icmp .le off, 3)) (ht : (pc : Int) + off = (tgt : Int)) (hf : (if x ≤ y then a else b) = r) (kt : a = r → V κ fz l D cA R cc nL own ret k n tgt lv stk ws) (kf : b = r → V κ fz l D cA R cc nL own ret k n (pc + 3) lv stk ws) : V κ fz l D cA R cc nL own ret k n pc lv (.int y :: .int x :: stk) ws :=
  y_icmp_le hdg ht (fun hc => kt (fp hc hf)) (fun hc => kf (fn hc hf))
theorem z_iaload {α : Type} (q t : Nat) {ad : Nat} {cL : ClassId} {N : Nat} {f : Nat → Int32} {i : Int32} {a : Option α} {r : α} (he : ws[q]? = some (ad, .inl (cL, N, .inl f))) (ht : (tys cA)[t]? = some (cL, .int)) (hdg : decode cc pc = .ok (.iaload, 1)) (hf : (if i < 0 ∨ N ≤ i.toNatClampNeg then none else a) = some r) (h : a = some r → V κ fz l D cA R cc nL own ret k n (pc + 1) lv (.int (f i.toNatClampNeg) :: stk) ws) : V κ fz l D cA R cc nL own ret k n pc lv (.int i :: .ref ad :: stk) ws := by
  obtain ⟨p, e, s, m, ar, below, meth, c, A, Q⟩ := κ
  intro K H locs ls hl hP hD hS
  by_cases hz : i < 0 ∨ N ≤ i.toNatClampNeg
  · rw [if_pos hz] at hf; cases hf
  · rw [if_neg hz] at hf
    exact va_iald K.1 K.2.1 K.2.2.2.2.2.2.2.1 hP q t he ht hz hdg (h hf K H locs ls hl hP hD hS)
theorem z_zaload {α : Type} (q t : Nat) {ad : Nat} {cL : ClassId} {N : Nat} {f : Nat → Int32} {i : Int32} {a : Option α} {r : α} (he : ws[q]? = some (ad, .inl (cL, N, .inl f))) (ht : (tys cA)[t]? = some (cL, .boolean)) (hdg : decode cc pc = .ok (.baload, 1)) (hf : (if i < 0 ∨ N ≤ i.toNatClampNeg then none else a) = some r) (h : a = some r → V κ fz l D cA R cc nL own ret k n (pc + 1) lv (.int (f i.toNatClampNeg) :: stk) ws) : V κ fz l D cA R cc nL own ret k n pc lv (.int i :: .ref ad :: stk) ws := by
  obtain ⟨p, e, s, m, ar, below, meth, c, A, Q⟩ := κ
  intro K H locs ls hl hP hD hS
  by_cases hz : i < 0 ∨ N ≤ i.toNatClampNeg
  · rw [if_pos hz] at hf; cases hf
  · rw [if_neg hz] at hf
    exact va_zald K.1 K.2.1 K.2.2.2.2.2.2.2.1 hP q t he ht hz hdg (h hf K H locs ls hl hP hD hS)
theorem z_caload {α : Type} (q t : Nat) {ad : Nat} {cL : ClassId} {N : Nat} {f : Nat → Int32} {i : Int32} {a : Option α} {r : α} (he : ws[q]? = some (ad, .inl (cL, N, .inl f))) (ht : (tys cA)[t]? = some (cL, .char)) (hdg : decode cc pc = .ok (.caload, 1)) (hf : (if i < 0 ∨ N ≤ i.toNatClampNeg then none else a) = some r) (h : a = some r → V κ fz l D cA R cc nL own ret k n (pc + 1) lv (.int (f i.toNatClampNeg) :: stk) ws) : V κ fz l D cA R cc nL own ret k n pc lv (.int i :: .ref ad :: stk) ws := by
  obtain ⟨p, e, s, m, ar, below, meth, c, A, Q⟩ := κ
  intro K H locs ls hl hP hD hS
  by_cases hz : i < 0 ∨ N ≤ i.toNatClampNeg
  · rw [if_pos hz] at hf; cases hf
  · rw [if_neg hz] at hf
    exact va_cald K.1 K.2.1 K.2.2.2.2.2.2.2.1 hP q t he ht hz hdg (h hf K H locs ls hl hP hD hS)
theorem z_laload {α : Type} (q t : Nat) {ad : Nat} {cL : ClassId} {N : Nat} {f : Nat → Int64} {i : Int32} {a : Option α} {r : α} (he : ws[q]? = some (ad, .inl (cL, N, .inr (.inl f)))) (ht : (tys cA)[t]? = some (cL, .long)) (hdg : decode cc pc = .ok (.laload, 1)) (hf : (if i < 0 ∨ N ≤ i.toNatClampNeg then none else a) = some r) (h : a = some r → V κ fz l D cA R cc nL own ret k n (pc + 1) lv (.long (f i.toNatClampNeg) :: stk) ws) : V κ fz l D cA R cc nL own ret k n pc lv (.int i :: .ref ad :: stk) ws := by
  obtain ⟨p, e, s, m, ar, below, meth, c, A, Q⟩ := κ
  intro K H locs ls hl hP hD hS
  by_cases hz : i < 0 ∨ N ≤ i.toNatClampNeg
  · rw [if_pos hz] at hf; cases hf
  · rw [if_neg hz] at hf
    exact va_lald K.1 K.2.1 K.2.2.2.2.2.2.2.1 hP q t he ht hz hdg (h hf K H locs ls hl hP hD hS)
theorem z_iastore {α : Type} (q t : Nat) {ad : Nat} {cL : ClassId} {N : Nat} {f : Nat → Int32} {i : Int32} {x : Int32} {a : Option α} {r : α} {ws' : va_W} (he : ws[q]? = some (ad, .inl (cL, N, .inl f))) (ht : (tys cA)[t]? = some (cL, .int)) (hdg : decode cc pc = .ok (.iastore, 1)) (hw : ws.set q (ad, .inl (cL, N, .inl (upd f i.toNatClampNeg x))) = ws') (hf : (if i < 0 ∨ N ≤ i.toNatClampNeg then none else a) = some r) (h : a = some r → V κ false l D cA R cc nL own ret k n (pc + 1) lv stk ws') : V κ false l D cA R cc nL own ret k n pc lv (.int x :: .int i :: .ref ad :: stk) ws := by
  obtain ⟨p, e, s, m, ar, below, meth, c, A, Q⟩ := κ
  intro K H locs ls hl hP hD hS
  subst hw
  by_cases hz : i < 0 ∨ N ≤ i.toNatClampNeg
  · rw [if_pos hz] at hf; cases hf
  · rw [if_neg hz] at hf
    exact va_iast K.1 K.2.1 K.2.2.2.2.2.2.2.1 hP hD hS q t he ht hz hdg (fun H locs hP hD hS => h hf K H locs ls hl hP hD hS)
theorem z_zastore {α : Type} (q t : Nat) {ad : Nat} {cL : ClassId} {N : Nat} {f : Nat → Int32} {i : Int32} {x : Int32} {a : Option α} {r : α} {ws' : va_W} (he : ws[q]? = some (ad, .inl (cL, N, .inl f))) (ht : (tys cA)[t]? = some (cL, .boolean)) (hdg : decode cc pc = .ok (.bastore, 1)) (hw : ws.set q (ad, .inl (cL, N, .inl (upd f i.toNatClampNeg (vp_nar .boolean x)))) = ws') (hf : (if i < 0 ∨ N ≤ i.toNatClampNeg then none else a) = some r) (h : a = some r → V κ false l D cA R cc nL own ret k n (pc + 1) lv stk ws') : V κ false l D cA R cc nL own ret k n pc lv (.int x :: .int i :: .ref ad :: stk) ws := by
  obtain ⟨p, e, s, m, ar, below, meth, c, A, Q⟩ := κ
  intro K H locs ls hl hP hD hS
  subst hw
  by_cases hz : i < 0 ∨ N ≤ i.toNatClampNeg
  · rw [if_pos hz] at hf; cases hf
  · rw [if_neg hz] at hf
    exact va_zast K.1 K.2.1 K.2.2.2.2.2.2.2.1 hP hD hS q t he ht hz hdg (fun H locs hP hD hS => h hf K H locs ls hl hP hD hS)
theorem z_castore {α : Type} (q t : Nat) {ad : Nat} {cL : ClassId} {N : Nat} {f : Nat → Int32} {i : Int32} {x : Int32} {a : Option α} {r : α} {ws' : va_W} (he : ws[q]? = some (ad, .inl (cL, N, .inl f))) (ht : (tys cA)[t]? = some (cL, .char)) (hdg : decode cc pc = .ok (.castore, 1)) (hw : ws.set q (ad, .inl (cL, N, .inl (upd f i.toNatClampNeg (vp_nar .char x)))) = ws') (hf : (if i < 0 ∨ N ≤ i.toNatClampNeg then none else a) = some r) (h : a = some r → V κ false l D cA R cc nL own ret k n (pc + 1) lv stk ws') : V κ false l D cA R cc nL own ret k n pc lv (.int x :: .int i :: .ref ad :: stk) ws := by
  obtain ⟨p, e, s, m, ar, below, meth, c, A, Q⟩ := κ
  intro K H locs ls hl hP hD hS
  subst hw
  by_cases hz : i < 0 ∨ N ≤ i.toNatClampNeg
  · rw [if_pos hz] at hf; cases hf
  · rw [if_neg hz] at hf
    exact va_cast K.1 K.2.1 K.2.2.2.2.2.2.2.1 hP hD hS q t he ht hz hdg (fun H locs hP hD hS => h hf K H locs ls hl hP hD hS)
theorem z_lastore {α : Type} (q t : Nat) {ad : Nat} {cL : ClassId} {N : Nat} {f : Nat → Int64} {i : Int32} {x : Int64} {a : Option α} {r : α} {ws' : va_W} (he : ws[q]? = some (ad, .inl (cL, N, .inr (.inl f)))) (ht : (tys cA)[t]? = some (cL, .long)) (hdg : decode cc pc = .ok (.lastore, 1)) (hw : ws.set q (ad, .inl (cL, N, .inr (.inl (vp_updL f i.toNatClampNeg x)))) = ws') (hf : (if i < 0 ∨ N ≤ i.toNatClampNeg then none else a) = some r) (h : a = some r → V κ false l D cA R cc nL own ret k n (pc + 1) lv stk ws') : V κ false l D cA R cc nL own ret k n pc lv (.long x :: .int i :: .ref ad :: stk) ws := by
  obtain ⟨p, e, s, m, ar, below, meth, c, A, Q⟩ := κ
  intro K H locs ls hl hP hD hS
  subst hw
  by_cases hz : i < 0 ∨ N ≤ i.toNatClampNeg
  · rw [if_pos hz] at hf; cases hf
  · rw [if_neg hz] at hf
    exact va_last K.1 K.2.1 K.2.2.2.2.2.2.2.1 hP hD hS q t he ht hz hdg (fun H locs hP hD hS => h hf K H locs ls hl hP hD hS)
theorem z_aaload {α : Type} (q t : Nat) {ad : Nat} {cL : ClassId} {N : Nat} {C : String} {f : Nat → Option Nat} {i : Int32} {a : Option α} {r : α} (he : ws[q]? = some (ad, .inl (cL, N, .inr (.inr (.inr (.inr f)))))) (ht : (tys cA)[t]? = some (cL, .object C)) (hdg : decode cc pc = .ok (.aaload, 1)) (hf : (if i < 0 ∨ N ≤ i.toNatClampNeg then none else a) = some r) (h : a = some r → i.toNatClampNeg < N → V κ fz l D cA R cc nL own ret k n (pc + 1) lv (va_rf (f i.toNatClampNeg) :: stk) ws) : V κ fz l D cA R cc nL own ret k n pc lv (.int i :: .ref ad :: stk) ws := by
  obtain ⟨p, e, s, m, ar, below, meth, c, A, Q⟩ := κ
  intro K H locs ls hl hP hD hS
  by_cases hz : i < 0 ∨ N ≤ i.toNatClampNeg
  · rw [if_pos hz] at hf; cases hf
  · rw [if_neg hz] at hf
    exact va_aldq K.1 K.2.1 K.2.2.2.2.2.2.2.1 hP q t he ht hz hdg (h hf (Nat.not_le.mp fun z => hz (Or.inr z)) K H locs ls hl hP hD hS)
theorem z_alen (q t : Nat) {ad : Nat} {cL : ClassId} {x : vp_A} {ty : FieldType} {v : Int32} (he : ws[q]? = some (ad, .inl (cL, x))) (ht : (tys cA)[t]? = some (cL, ty)) (hv : Int32.ofNat x.1 = v) (hdg : decode cc pc = .ok (.arraylength, 1)) (h : V κ fz l D cA R cc nL own ret k n (pc + 1) lv (.int v :: stk) ws) : V κ fz l D cA R cc nL own ret k n pc lv (.ref ad :: stk) ws := by
  obtain ⟨p, e, s, m, ar, below, meth, c, A, Q⟩ := κ
  intro K H locs ls hl hP hD hS
  exact va_alen K.1 K.2.1 K.2.2.2.2.2.2.2.1 hP q t he ht hv hdg (h K H locs ls hl hP hD hS)
theorem z_get (q j : Nat) {ad idx ci N : Nat} {C : String} {T : u_T} {fs : List Value} {v : Value} (he : ws[q]? = some (ad, .inr (ci, fs))) (hc : vwCl[ci]? = some (C, T, N)) (hin : ∀ w ∈ u_ws C T N, w ∈ tblG) (hk : j < N) (hlink : Cond.fieldLink own idx (T j).1 (T j).2.1 (T j).2.2.1 ∈ tblG) (hv : fs[j]? = some v) (hdg : decode cc pc = .ok (.getfield idx, 3)) (h : V κ fz l D cA R cc nL own ret k n (pc + 3) lv (v :: stk) ws) : V κ fz l D cA R cc nL own ret k n pc lv (.ref ad :: stk) ws := by
  obtain ⟨p, e, s, m, ar, below, meth, c, A, Q⟩ := κ
  intro K H locs ls hl hP hD hS
  exact va_get K.1 K.2.1 K.2.2.2.2.1 hin K.2.2.2.1 K.2.2.2.2.2.2.2.1 hP q he hc j hk (K.2.2.2.2.1 _ hlink) (fun _ h9 => h9) hv hdg (h K H locs ls hl hP hD hS)
theorem z_put (q j : Nat) {ad idx ci N : Nat} {C : String} {T : u_T} {fs : List Value} {v : Value} {ty : FieldType} {ws' : va_W} (he : ws[q]? = some (ad, .inr (ci, fs))) (hc : vwCl[ci]? = some (C, T, N)) (hin : ∀ w ∈ u_ws C T N, w ∈ tblG) (ty0 : Nat → FieldType) (hty : ∀ a, a < N → parseFieldDescriptor (T a).2.2.1 = some (ty0 a)) (hnm : ∀ a, a < N → ∀ b, b < N → a ≠ b → (T a).2.1 ≠ (T b).2.1) (hk : j < N) (hlink : Cond.fieldLink own idx (T j).1 (T j).2.1 (T j).2.2.1 ∈ tblG) (hfin : (T j).2.2.2 = false) (hd : ty0 j = ty) (hn : narrow ty v = v) (hfit : fits ty v = true) (hl0 : j < fs.length) (hdg : decode cc pc = .ok (.putfield idx, 3)) (hw : ws.set q (ad, .inr (ci, fs.set j v)) = ws') (h : V κ false l D cA R cc nL own ret k n (pc + 3) lv stk ws') : V κ false l D cA R cc nL own ret k n pc lv (v :: .ref ad :: stk) ws := by
  obtain ⟨p, e, s, m, ar, below, meth, c, A, Q⟩ := κ
  intro K H locs ls hl hP hD hS
  subst hw; subst hd
  exact va_put K.1 K.2.1 K.2.2.2.2.1 hin ty0 hty hnm K.2.2.2.1 K.2.2.2.2.2.2.2.1 hP hD hS q he hc j hk (K.2.2.2.2.1 _ hlink) (fun _ h9 => h9) hfin (hty j hk) hn hfit hl0 hdg (fun H locs hP hD hS => h K H locs ls hl hP hD hS)
theorem z_mmax {idx : Nat} {x y : Int32} (hlink : Cond.methodLink own idx Lib.Math.max.name ∈ tblG) (hst : Cond.static Lib.Math.max.name ∈ tblG) (hini : Cond.initialized "java/lang/Math" ∈ tblG) (hcode : Cond.code Lib.Math.max.name Lib.Math.max.code 2 (some .int) ∈ tblG) (hfr : 1 ≤ R.frames) (hlo : (stk.map fun v => v.category).sum + 13 ≤ R.locals) (hk : k ≤ R.cells) (hn : n ≤ R.slots) (hdg : decode cc pc = .ok (.invokestatic idx, 3)) (h : V κ fz l D cA R cc nL own ret k n (pc + 3) lv (.int (if x < y then y else x) :: stk) ws) : V κ fz l D cA R cc nL own ret k n pc lv (.int y :: .int x :: stk) ws := by
  obtain ⟨p, e, s, m, ar, below, meth, c, A, Q⟩ := κ
  intro K H locs ls hl hP hD hS
  exact va_mmax K.1 K.2.1 (K.2.2.1.trans hl.1.symm) K.2.2.2.1 (K.2.2.2.2.1 _ hlink) (K.2.2.2.2.1 _ hst) (K.2.2.2.2.1 _ hini) (K.2.2.2.2.1 _ hcode) hfr hlo hk hn hdg (h K H locs ls hl hP hD hS)
theorem z_mmin {idx : Nat} {x y : Int32} (hlink : Cond.methodLink own idx Lib.Math.min.name ∈ tblG) (hst : Cond.static Lib.Math.min.name ∈ tblG) (hini : Cond.initialized "java/lang/Math" ∈ tblG) (hcode : Cond.code Lib.Math.min.name Lib.Math.min.code 2 (some .int) ∈ tblG) (hfr : 1 ≤ R.frames) (hlo : (stk.map fun v => v.category).sum + 13 ≤ R.locals) (hk : k ≤ R.cells) (hn : n ≤ R.slots) (hdg : decode cc pc = .ok (.invokestatic idx, 3)) (h : V κ fz l D cA R cc nL own ret k n (pc + 3) lv (.int (if y < x then y else x) :: stk) ws) : V κ fz l D cA R cc nL own ret k n pc lv (.int y :: .int x :: stk) ws := by
  obtain ⟨p, e, s, m, ar, below, meth, c, A, Q⟩ := κ
  intro K H locs ls hl hP hD hS
  exact va_mmin K.1 K.2.1 (K.2.2.1.trans hl.1.symm) K.2.2.2.1 (K.2.2.2.2.1 _ hlink) (K.2.2.2.2.1 _ hst) (K.2.2.2.2.1 _ hini) (K.2.2.2.2.1 _ hcode) hfr hlo hk hn hdg (h K H locs ls hl hP hD hS)
theorem z_mabs {idx : Nat} {x : Int32} (hlink : Cond.methodLink own idx Lib.Math.abs.name ∈ tblG) (hst : Cond.static Lib.Math.abs.name ∈ tblG) (hini : Cond.initialized "java/lang/Math" ∈ tblG) (hcode : Cond.code Lib.Math.abs.name Lib.Math.abs.code 1 (some .int) ∈ tblG) (hfr : 1 ≤ R.frames) (hlo : (stk.map fun v => v.category).sum + 13 ≤ R.locals) (hk : k ≤ R.cells) (hn : n ≤ R.slots) (hdg : decode cc pc = .ok (.invokestatic idx, 3)) (h : V κ fz l D cA R cc nL own ret k n (pc + 3) lv (.int (if 0 ≤ x then x else 0 - x) :: stk) ws) : V κ fz l D cA R cc nL own ret k n pc lv (.int x :: stk) ws := by
  obtain ⟨p, e, s, m, ar, below, meth, c, A, Q⟩ := κ
  intro K H locs ls hl hP hD hS
  exact va_mabs K.1 K.2.1 (K.2.2.1.trans hl.1.symm) K.2.2.2.1 (K.2.2.2.2.1 _ hlink) (K.2.2.2.2.1 _ hst) (K.2.2.2.2.1 _ hini) (K.2.2.2.2.1 _ hcode) hfr hlo hk hn hdg (h K H locs ls hl hP hD hS)
theorem z_stk {stk' : List Value} (hs : stk = stk') (h : V κ fz l D cA R cc nL own ret k n pc lv stk' ws) : V κ fz l D cA R cc nL own ret k n pc lv stk ws := by
  subst hs; exact h
theorem y_lookup {dflt : Int} {ps : Array (Int × Int)} {len : Nat} {x : Int32} {off : Int} {tgt : Nat} (hdg : decode cc pc = .ok (.lookupswitch dflt ps, len)) (hp : (ps.toList.zip (ps.toList.drop 1)).all (fun (a, next) => a.1 < next.1) = true) (ho : Op.lookupswitch.offset ps.toList dflt x.toInt = off) (ht : (pc : Int) + off = (tgt : Int)) (h : V κ fz l D cA R cc nL own ret k n tgt lv stk ws) : V κ fz l D cA R cc nL own ret k n pc lv (.int x :: stk) ws := by
  obtain ⟨p, e, s, m, ar, below, meth, c, A, Q⟩ := κ
  intro K H locs ls hl hP hD hS
  exact lv_lookup K.1 K.2.1 hdg hp ho ht (h K H locs ls hl hP hD hS)
theorem y_tabOut {dflt lo hi : Int} {offs : Array Int} {len : Nat} {x : Int32} {tgt : Nat} (hdg : decode cc pc = .ok (.tableswitch dflt lo hi offs, len)) (hx : x.toInt < lo ∨ hi < x.toInt) (ht : (pc : Int) + dflt = (tgt : Int)) (h : V κ fz l D cA R cc nL own ret k n tgt lv stk ws) : V κ fz l D cA R cc nL own ret k n pc lv (.int x :: stk) ws := by
  obtain ⟨p, e, s, m, ar, below, meth, c, A, Q⟩ := κ
  intro K H locs ls hl hP hD hS
  exact lv_tableOut K.1 K.2.1 hdg hx ht (h K H locs ls hl hP hD hS)
theorem y_tabIn {dflt lo hi : Int} {offs : Array Int} {len : Nat} {x : Int32} {off : Int} {tgt : Nat} (hdg : decode cc pc = .ok (.tableswitch dflt lo hi offs, len)) (h1 : ¬ x.toInt < lo) (h2 : ¬ hi < x.toInt) (ho : offs[(x.toInt - lo).toNat]? = some off) (ht : (pc : Int) + off = (tgt : Int)) (h : V κ fz l D cA R cc nL own ret k n tgt lv stk ws) : V κ fz l D cA R cc nL own ret k n pc lv (.int x :: stk) ws := by
  obtain ⟨p, e, s, m, ar, below, meth, c, A, Q⟩ := κ
  intro K H locs ls hl hP hD hS
  exact lv_tableIn K.1 K.2.1 hdg h1 h2 ho ht (h K H locs ls hl hP hD hS)
end VRows
/-! contracts: the world before, the arguments, the answer, the world behind; and how a call uses one -/
def EnI (κ : Ctx) (D : va_G) (cA : Nat → ClassId) (r : Int32) (ws1 : va_W) : Prop :=
  match κ with
  | (_, _, s, _, ar, below, _, _, A, Q) => Q = MQ below (va_Qi (fun (x : Int32) (_ : Unit) => x = r) (fun _ t => va_P D vwCl ws1 t.heap ∧ va_K D vwCl (tys cA) t ∧ va_D A ws1) A) ar s 0 0 A
def EnV (κ : Ctx) (D : va_G) (cA : Nat → ClassId) (ws1 : va_W) : Prop :=
  match κ with
  | (_, _, s, _, ar, below, _, _, A, Q) => Q = MQ below (va_Qv (fun (_ : Unit) => True) (fun _ t => va_P D vwCl ws1 t.heap ∧ va_K D vwCl (tys cA) t ∧ va_D A ws1) A) ar s 0 0 A
def CtI (l : Launch) (y : MethodName) (w : List Cond) (rm : Room) (D : va_G) (cA : Nat → ClassId) (ws0 : va_W) (as : List Value) (r : Int32) (ws1 : va_W) : Prop :=
  ∀ sz : Nat, Met l y w rm (va_Pc as (fun U => U.heap.size = sz ∧ va_P D vwCl ws0 U.heap ∧ va_K D vwCl (tys cA) U ∧ va_D (fun _ => True) ws0)) (va_Qi (fun (x : Int32) (_ : Unit) => x = r) (fun _ t => va_P D vwCl ws1 t.heap ∧ va_K D vwCl (tys cA) t ∧ va_D (va_A ws0 sz) ws1) (va_A ws0 sz)) 0 0 (va_A ws0 sz)
def CtV (l : Launch) (y : MethodName) (w : List Cond) (rm : Room) (D : va_G) (cA : Nat → ClassId) (ws0 : va_W) (as : List Value) (ws1 : va_W) : Prop :=
  ∀ sz : Nat, Met l y w rm (va_Pc as (fun U => U.heap.size = sz ∧ va_P D vwCl ws0 U.heap ∧ va_K D vwCl (tys cA) U ∧ va_D (fun _ => True) ws0)) (va_Qv (fun (_ : Unit) => True) (fun _ t => va_P D vwCl ws1 t.heap ∧ va_K D vwCl (tys cA) t ∧ va_D (va_A ws0 sz) ws1) (va_A ws0 sz)) 0 0 (va_A ws0 sz)
theorem CtI.start {l : Launch} {y : MethodName} {rm : Room} {D : va_G} {cA : Nat → ClassId} {ws0 ws1 : va_W} {as : List Value} {r : Int32} {cc : ByteArray} {maxL : Nat} {ty : FieldType} {lv : List (Nat × Value)}
    (hy : plainName y.cls = true) (hlen : (lg_sl as).length ≤ maxL) (hlv : lv_args 0 as = lv)
    (body : ∀ κ : Ctx, EnI κ D cA r ws1 → V κ false l D cA rm cc maxL y.cls (some ty) 0 0 0 lv [] ws0) : CtI l y (Cond.code y cc maxL (some ty) :: tblG) rm D cA ws0 as r ws1 := by
  intro sz
  refine Met.ofW (cc := cc) (maxL := maxL) (ret := some ty) hy rfl ?_
  intro p e s m args below meth c s₁ B hml hv
  obtain ⟨rfl, hsz, hP, hK, hD0⟩ := hv
  subst hsz
  have hl := lv_entry as (n := maxL) hlen
  rw [hlv] at hl
  rw [lg_entry_eq]
  have hts := atoms_spec (ws := Cond.code y cc maxL (some ty) :: tblG) B.pre
  exact body (p, e, s, m, as.toArray, below, meth, c, va_A ws0 s.heap.size, _) rfl ⟨B.exec, B.bytes, hml, findClass_of_methodNamed B.named, fun w hw => hts w (List.mem_cons_of_mem _ hw), B.returns, B.notSynchronized, hK, fun q h => Or.inr h⟩ s.heap [] _ hl hP hD0.self va_S.rf
theorem CtI.startF {l : Launch} {y : MethodName} {rm : Room} {D : va_G} {cA : Nat → ClassId} {ws0 ws1 : va_W} {as : List Value} {r : Int32} {cc : ByteArray} {maxL : Nat} {ty : FieldType} {lv : List (Nat × Value)}
    (hy : plainFor y = true) (hlen : (lg_sl as).length ≤ maxL) (hlv : lv_args 0 as = lv)
    (body : ∀ κ : Ctx, EnI κ D cA r ws1 → V κ false l D cA rm cc maxL y.cls (some ty) 0 0 0 lv [] ws0) : CtI l y (Cond.code y cc maxL (some ty) :: tblG) rm D cA ws0 as r ws1 := by
  intro sz
  refine va_MetF (cc := cc) (maxL := maxL) (ret := some ty) hy rfl ?_
  intro p e s m args below meth c s₁ B hml hv
  obtain ⟨rfl, hsz, hP, hK, hD0⟩ := hv
  subst hsz
  have hl := lv_entry as (n := maxL) hlen
  rw [hlv] at hl
  rw [lg_entry_eq]
  have hts := atoms_spec (ws := Cond.code y cc maxL (some ty) :: tblG) B.pre
  exact body (p, e, s, m, as.toArray, below, meth, c, va_A ws0 s.heap.size, _) rfl ⟨B.exec, B.bytes, hml, findClass_of_methodNamed B.named, fun w hw => hts w (List.mem_cons_of_mem _ hw), B.returns, B.notSynchronized, hK, fun q h => Or.inr h⟩ s.heap [] _ hl hP hD0.self va_S.rf
theorem CtV.start {l : Launch} {y : MethodName} {rm : Room} {D : va_G} {cA : Nat → ClassId} {ws0 ws1 : va_W} {as : List Value} {cc : ByteArray} {maxL : Nat} {lv : List (Nat × Value)}
    (hy : plainName y.cls = true) (hlen : (lg_sl as).length ≤ maxL) (hlv : lv_args 0 as = lv)
    (body : ∀ κ : Ctx, EnV κ D cA ws1 → V κ false l D cA rm cc maxL y.cls none 0 0 0 lv [] ws0) : CtV l y (Cond.code y cc maxL none :: tblG) rm D cA ws0 as ws1 := by
  intro sz
  refine Met.ofW (cc := cc) (maxL := maxL) (ret := none) hy rfl ?_
  intro p e s m args below meth c s₁ B hml hv
  obtain ⟨rfl, hsz, hP, hK, hD0⟩ := hv
  subst hsz
  have hl := lv_entry as (n := maxL) hlen
  rw [hlv] at hl
  rw [lg_entry_eq]
  have hts := atoms_spec (ws := Cond.code y cc maxL none :: tblG) B.pre
  exact body (p, e, s, m, as.toArray, below, meth, c, va_A ws0 s.heap.size, _) rfl ⟨B.exec, B.bytes, hml, findClass_of_methodNamed B.named, fun w hw => hts w (List.mem_cons_of_mem _ hw), B.returns, B.notSynchronized, hK, fun q h => Or.inr h⟩ s.heap [] _ hl hP hD0.self va_S.rf
/-! the callee's cells put back into the caller's world -/
def pickc (i : Nat) : List Nat → va_W → Option (Nat × va_E)
  | j :: is, c :: cs => match Nat.beq j i with
    | true => some c
    | false => pickc i is cs
  | _, _ => none
def putw (k : Nat) (is : List Nat) (cs : va_W) : va_W → va_W
  | [] => []
  | c :: ws => (match pickc k is cs with
    | some d => d
    | none => c) :: putw (k + 1) is cs ws
def putc (ws : va_W) (is : List Nat) (cs : va_W) : va_W := putw 0 is cs ws
theorem pickc_not : ∀ (is : List Nat) (cs : va_W) (i : Nat), i ∉ is → pickc i is cs = none
  | [], _, _, _ => rfl
  | j :: is, [], i, _ => rfl
  | j :: is, c :: cs, i, h => by
    have hb : Nat.beq j i = false := by
      cases hq : Nat.beq j i with
      | false => rfl
      | true => exact absurd (by rw [Nat.eq_of_beq_eq_true hq]; exact List.mem_cons_self) h
    show (match Nat.beq j i with | true => some c | false => pickc i is cs) = none
    rw [hb]
    exact pickc_not is cs i (fun q => h (List.mem_cons_of_mem _ q))
theorem pickc_in : ∀ (is : List Nat) (cs : va_W) (j i : Nat), va_nd is = true → is.length ≤ cs.length → is[j]? = some i → pickc i is cs = cs[j]?
  | [], _, j, i, _, _, h => by cases j <;> cases h
  | a :: is, [], j, i, _, hl, _ => absurd hl (Nat.not_succ_le_zero _)
  | a :: is, c :: cs, j, i, hn, hl, h => by
    have hn' : a ∉ is ∧ va_nd is = true := by simpa [va_nd] using hn
    cases j with
    | zero =>
      cases h
      show (match Nat.beq a a with | true => some c | false => pickc a is cs) = some c
      rw [Nat.beq_refl]
    | succ j =>
      have hb : Nat.beq a i = false := by
        cases hq : Nat.beq a i with
        | false => rfl
        | true => exact absurd (by rw [Nat.eq_of_beq_eq_true hq]; exact List.mem_of_getElem? h) hn'.1
      show (match Nat.beq a i with | true => some c | false => pickc i is cs) = cs[j]?
      rw [hb]
      exact pickc_in is cs j i hn'.2 (Nat.le_of_succ_le_succ hl) h
theorem putw_get : ∀ (ws : va_W) (k : Nat) (is : List Nat) (cs : va_W) (i : Nat), (putw k is cs ws)[i]? = (ws[i]?).map (fun c => (pickc (k + i) is cs).getD c)
  | [], k, is, cs, i => by cases i <;> rfl
  | c :: ws, k, is, cs, 0 => by
    show some _ = some _
    rw [Nat.add_zero]
    cases pickc k is cs <;> rfl
  | c :: ws, k, is, cs, i + 1 => by
    show (putw (k + 1) is cs ws)[i]? = _
    rw [putw_get ws (k + 1) is cs i, show k + 1 + i = k + (i + 1) by omega]
    rfl
theorem putc_not (is : List Nat) (cs ws : va_W) (i : Nat) (h : i ∉ is) : (putc ws is cs)[i]? = ws[i]? := by
  unfold putc
  rw [putw_get, Nat.zero_add, pickc_not is cs i h]
  cases ws[i]? <;> rfl
theorem putc_in (is : List Nat) (cs ws : va_W) (j i : Nat) (hn : va_nd is = true) (hl : is.length ≤ cs.length) (hb : ∀ a ∈ is, a < ws.length) (h : is[j]? = some i) : (putc ws is cs)[i]? = cs[j]? := by
  unfold putc
  have hj : j < cs.length := Nat.lt_of_lt_of_le (List.getElem?_eq_some_iff.mp h).1 hl
  have hi : i < ws.length := hb i (List.mem_of_getElem? h)
  rw [putw_get, Nat.zero_add, pickc_in is cs j i hn hl h, List.getElem?_eq_getElem hi, List.getElem?_eq_getElem hj]
  rfl
theorem put_join {A0 : Nat → Prop} {D : va_G} {cl : List vw_C} {ws wc w1 : va_W} {H H1 : Heap} (hP : va_P D cl ws H) (hD : va_D A0 ws) (is : List Nat) (hC : is.map (fun i => ws[i]?) = wc.map some) (hn : va_nd is = true) (hlen : wc.length = w1.length)
    (hk : ∀ q : Nat, q < H.size → ¬ va_A wc H.size q → H1[q]? = H[q]?) (hF : ∀ q, va_A wc H.size q → A0 q) (hP1 : va_P D cl w1 H1) (hD1 : va_D (va_A wc H.size) w1) : va_P D cl (putc ws is w1) H1 ∧ va_D A0 (putc ws is w1) := by
  have hl1 : is.length = wc.length := by simpa using congrArg List.length hC
  have hl : is.length = w1.length := hl1.trans hlen
  have at' : ∀ (k : Nat) (q : Nat × va_E), wc[k]? = some q → ∃ i, is[k]? = some i ∧ ws[i]? = some q := by
    intro k q hq
    have h1 : (is.map (fun i => ws[i]?))[k]? = some (some q) := by rw [hC, List.getElem?_map, hq]; rfl
    rw [List.getElem?_map] at h1
    cases hi : is[k]? with
    | none => rw [hi] at h1; cases h1
    | some i => rw [hi] at h1; exact ⟨i, rfl, Option.some.inj h1⟩
  have hb : ∀ a ∈ is, a < ws.length := by
    intro a ha
    obtain ⟨k, hk'⟩ := List.getElem?_of_mem ha
    have hkl : k < wc.length := by rw [← hl1]; exact (List.getElem?_eq_some_iff.mp hk').1
    obtain ⟨i, h1, h2⟩ := at' k wc[k] (List.getElem?_eq_getElem hkl)
    rw [hk'] at h1; cases h1
    exact (List.getElem?_eq_some_iff.mp h2).1
  have key : ∀ (i : Nat) (q : Nat × va_E), (putc ws is w1)[i]? = some q → (∃ j : Nat, is[j]? = some i ∧ w1[j]? = some q) ∨ (i ∉ is ∧ ws[i]? = some q) := by
    intro i q hq
    by_cases hi : i ∈ is
    · obtain ⟨j, hj⟩ := List.getElem?_of_mem hi
      rw [putc_in is w1 ws j i hn (Nat.le_of_eq hl) hb hj] at hq
      exact Or.inl ⟨j, hj, hq⟩
    · rw [putc_not is w1 ws i hi] at hq
      exact Or.inr ⟨hi, hq⟩
  have apart : ∀ (i : Nat) (q : Nat × va_E), i ∉ is → ws[i]? = some q → q.1 < H.size ∧ ¬ va_A wc H.size q.1 := by
    intro i q hi hq
    have hl' := (hP i q hq).lt
    refine ⟨hl', fun h => ?_⟩
    rcases h with ⟨k2, e, h⟩ | h
    · obtain ⟨j, h3, h4⟩ := at' k2 (q.1, e) h
      have hij := hD.1 i j q (q.1, e) hq h4 rfl
      subst hij
      exact hi (List.mem_of_getElem? h3)
    · omega
  refine ⟨fun i q hq => ?_, fun i j p q hp hq hpq => ?_, fun i q hq => ?_⟩
  · rcases key i q hq with ⟨j, -, h2⟩ | ⟨h1, h2⟩
    · exact hP1 j q h2
    · obtain ⟨g1, g2⟩ := apart i q h1 h2
      exact (hP i q h2).kept (hk q.1 g1 g2)
  · rcases key i p hp with ⟨a, h1, h2⟩ | ⟨h1, h2⟩ <;> rcases key j q hq with ⟨b, h3, h4⟩ | ⟨h3, h4⟩
    · have := hD1.1 a b p q h2 h4 hpq
      subst this
      exact Option.some.inj (h1.symm.trans h3)
    · exact absurd (by rw [← hpq]; exact hD1.2 a p h2) (apart j q h3 h4).2
    · exact absurd (by rw [hpq]; exact hD1.2 b q h4) (apart i p h1 h2).2
    · exact hD.1 i j p q h2 h4 hpq
  · rcases key i q hq with ⟨j, -, h2⟩ | ⟨h1, h2⟩
    · exact hF q.1 (hD1.2 j q h2)
    · exact hD.2 i q h2
theorem sub_map {ws ws' : va_W} (is : List Nat) (hs : is.map (fun i => ws[i]?) = ws'.map some) : is.filterMap (fun i => ws[i]?) = ws' := by
  have h1 : is.filterMap (fun i => ws[i]?) = (is.map (fun i => ws[i]?)).filterMap id := by rw [List.filterMap_map]; rfl
  rw [h1, hs, List.filterMap_map]
  simp
/-- what a call of an own method needs of the tables -/
def InV (own : String) (idx : Nat) (y : MethodName) (bytes : ByteArray) (mL : Nat) (rt : Option FieldType) (na : Nat) : Prop :=
  Cond.methodLink own idx y ∈ tblG ∧ Cond.instanceMethod y ∈ tblG ∧ Cond.selects y.cls y y ∈ tblG ∧ Cond.initialized y.cls ∈ tblG ∧ Cond.code y bytes mL rt ∈ tblG ∧ (y.cls ≠ "java/lang/invoke/MethodHandle" ∧ y.cls ≠ "java/lang/invoke/VarHandle" ∧ (parseMethodDescriptor y.desc).map (fun d => d.parameters.length) = some na)
def InS (own : String) (idx : Nat) (y : MethodName) (bytes : ByteArray) (mL : Nat) (rt : Option FieldType) (na : Nat) : Prop :=
  Cond.methodLink own idx y ∈ tblG ∧ Cond.static y ∈ tblG ∧ Cond.initialized y.cls ∈ tblG ∧ Cond.code y bytes mL rt ∈ tblG ∧ (y.cls ≠ "java/lang/invoke/MethodHandle" ∧ y.cls ≠ "java/lang/invoke/VarHandle" ∧ (parseMethodDescriptor y.desc).map (fun d => d.parameters.length) = some na)
theorem good_cons {b : Cond} (hb : b ∈ tblG) : GoodIn tblG (b :: tblG) := by
  intro w hw
  rcases List.mem_cons.mp hw with rfl | h
  · exact ⟨hb, tblG_good _ hb⟩
  · exact ⟨h, tblG_good _ h⟩
section VCalls
variable {κ : Ctx} {l : Launch} {D : va_G} {cA : Nat → ClassId} {R : Room} {cc : ByteArray} {nL : Nat} {own : String} {ret : Option FieldType} {k n : Nat} {pc : Nat} {lv : List (Nat × Value)} {stk rest : List Value} {ws : va_W}
theorem z_iret {v : Int32} (hE : EnI κ D cA v ws) (hdg : decode cc pc = .ok (.ireturn, 1)) : V κ false l D cA R cc nL own (some .int) 0 0 pc lv [.int v] ws := by
  obtain ⟨p, e, s, m, ar, below, meth, c, A, Q⟩ := κ
  intro K H locs ls hl hP hD hS
  have hE : Q = _ := hE
  subst hE
  exact W.iret (v := v) K.1 K.2.1 K.2.2.2.2.2.1 (fun t ht hW => ⟨⟨v, (), rfl, rfl, by rw [ht]; exact hP, va_K.moved hW.alike K.2.2.2.2.2.2.2.1, hD⟩, hS.F ht⟩) hS.2.2 hdg K.2.2.2.2.2.2.1
theorem z_zret {α : Type} {v : Int32} {a : Option α} {r : α} (hdg : decode cc pc = .ok (.ireturn, 1)) (hf : (if v = 0 ∨ v = 1 then a else none) = some r) (hE : a = some r → EnI κ D cA v ws) : V κ false l D cA R cc nL own (some .boolean) 0 0 pc lv [.int v] ws := by
  by_cases hz : v = 0 ∨ v = 1
  · rw [if_pos hz] at hf
    have hE := hE hf
    obtain ⟨p, e, s, m, ar, below, meth, c, A, Q⟩ := κ
    intro K H locs ls hl hP hD hS
    have hE : Q = _ := hE
    subst hE
    exact W.zret (v := v) K.1 K.2.1 K.2.2.2.2.2.1 (by rcases hz with rfl | rfl <;> rfl) (fun t ht hW => ⟨⟨v, (), rfl, rfl, by rw [ht]; exact hP, va_K.moved hW.alike K.2.2.2.2.2.2.2.1, hD⟩, hS.F ht⟩) hS.2.2 hdg K.2.2.2.2.2.2.1
  · rw [if_neg hz] at hf; cases hf
theorem z_zretL {v : Int32} (hz : v = 0 ∨ v = 1) (hE : EnI κ D cA v ws) (hdg : decode cc pc = .ok (.ireturn, 1)) : V κ false l D cA R cc nL own (some .boolean) 0 0 pc lv [.int v] ws :=
  z_zret (α := Unit) (a := some ()) (r := ()) hdg (if_pos hz) (fun _ => hE)
theorem z_vret (hE : EnV κ D cA ws) (hdg : decode cc pc = .ok (.return_, 1)) : V κ false l D cA R cc nL own none 0 0 pc lv [] ws := by
  obtain ⟨p, e, s, m, ar, below, meth, c, A, Q⟩ := κ
  intro K H locs ls hl hP hD hS
  have hE : Q = _ := hE
  subst hE
  exact W.vret K.1 K.2.1 K.2.2.2.2.2.1 (fun t ht hW => ⟨⟨(), rfl, trivial, by rw [ht]; exact hP, va_K.moved hW.alike K.2.2.2.2.2.2.2.1, hD⟩, hS.F ht⟩) hS.2.2 hdg K.2.2.2.2.2.2.1
variable {y : MethodName} {bytes : ByteArray} {mL na idx : Nat} {rt : Option FieldType} {rm : Room} {ws0 ws1 ws' : va_W} {As : List Value} {b : Nat} {r : Int32}
theorem z_calliV (hM : CtI l y (Cond.code y bytes mL rt :: tblG) rm D cA ws0 (.ref b :: As) r ws1) (hI : InV own idx y bytes mL rt na) (hrc : rm.cells = 0 ∧ rm.slots = 0) (hR : rm.frames + 1 ≤ R.frames ∧ 8 + (mL + 11) + rm.locals ≤ R.locals) (hna : As.length = na) (hkn : k ≤ R.cells ∧ n ≤ R.slots)
    {ci N : Nat} {T : u_T} {fs : List Value} (hrv : ws0[0]? = some (b, .inr (ci, fs))) (hci : vwCl[ci]? = some (y.cls, T, N)) (isC : List Nat) (hC : isC.map (fun i => ws[i]?) = ws0.map some) (hnd : va_nd isC = true) (hle : ws0.length = ws1.length) (hw : putc ws isC ws1 = ws') (hstk : stk = As.reverse ++ .ref b :: rest) (hrm : (rest.map fun v => v.category).sum ≤ 8) (hdg : decode cc pc = .ok (.invokevirtual idx, 3))
    (h : V κ false l D cA R cc nL own ret k n (pc + 3) lv (.int r :: rest) ws') : V κ false l D cA R cc nL own ret k n pc lv stk ws := by
  obtain ⟨p, e, s, m, ar, below, meth, c, A, Q⟩ := κ
  intro K H locs ls hl hP hD hS
  obtain ⟨hx, hb, hml, hown, htg, hr, hlocks, hK, hA⟩ := id K
  subst hw; subst hstk
  have hPc := hP.sub (ws' := ws0) isC (sub_map isC hC)
  have hDc := hD.sub (ws' := ws0) isC hnd hC
  have hFc := va_free (wc := ws0) hD hS hA isC hC
  refine va_calli (va_runV (As := As) (rest := rest) ⟨hx, hb, hml, hown, htg⟩ (hM H.size) ⟨callB_of na htg (good_cons hI.2.2.2.2.1) rfl hrc.1 hrc.2 (htg _ hI.2.2.2.1) (htg _ hI.1) hI.2.2.2.2.2 hR, htg _ hI.2.1, htg _ hI.2.2.1⟩ ⟨fun a U g mk q => by obtain ⟨q0, q1, qP, qK, qD⟩ := q; exact ⟨q0, q1, qP, va_K.moved (u := U) (U := U.calling g mk a) (Vm.Alike.refl U.vm) qK, qD⟩, va_recv hK hPc hci hrv, fun U hU hW => ⟨rfl, by rw [hU], by rw [hU]; exact hPc, va_K.moved hW.alike hK, hDc.weaken (fun _ _ _ _ => trivial)⟩⟩ rfl hna hl.1 rfl (lv_room hrm) hdg ⟨by simpa using hkn.1, by simpa using hkn.2⟩) hS (fun q _ h => hFc q h) hFc (fun r1 u t H1 locs ht hvm hw hB hz1 hk1 hS => ?_)
  obtain ⟨hP1, hK1, hD1⟩ := hB
  rw [ht] at hP1
  obtain ⟨hP, hD⟩ := put_join hP hD isC hC hnd hle hk1 hFc hP1 hD1
  subst hw
  exact h K H1 locs ls hl hP hD hS
theorem z_callvV (hM : CtV l y (Cond.code y bytes mL none :: tblG) rm D cA ws0 (.ref b :: As) ws1) (hI : InV own idx y bytes mL none na) (hrc : rm.cells = 0 ∧ rm.slots = 0) (hR : rm.frames + 1 ≤ R.frames ∧ 8 + (mL + 11) + rm.locals ≤ R.locals) (hna : As.length = na) (hkn : k ≤ R.cells ∧ n ≤ R.slots)
    {ci N : Nat} {T : u_T} {fs : List Value} (hrv : ws0[0]? = some (b, .inr (ci, fs))) (hci : vwCl[ci]? = some (y.cls, T, N)) (isC : List Nat) (hC : isC.map (fun i => ws[i]?) = ws0.map some) (hnd : va_nd isC = true) (hle : ws0.length = ws1.length) (hw : putc ws isC ws1 = ws') (hstk : stk = As.reverse ++ .ref b :: rest) (hrm : (rest.map fun v => v.category).sum ≤ 8) (hdg : decode cc pc = .ok (.invokevirtual idx, 3))
    (h : V κ false l D cA R cc nL own ret k n (pc + 3) lv rest ws') : V κ false l D cA R cc nL own ret k n pc lv stk ws := by
  obtain ⟨p, e, s, m, ar, below, meth, c, A, Q⟩ := κ
  intro K H locs ls hl hP hD hS
  obtain ⟨hx, hb, hml, hown, htg, hr, hlocks, hK, hA⟩ := id K
  subst hw; subst hstk
  have hPc := hP.sub (ws' := ws0) isC (sub_map isC hC)
  have hDc := hD.sub (ws' := ws0) isC hnd hC
  have hFc := va_free (wc := ws0) hD hS hA isC hC
  refine va_callv (va_runV (As := As) (rest := rest) ⟨hx, hb, hml, hown, htg⟩ (hM H.size) ⟨callB_of na htg (good_cons hI.2.2.2.2.1) rfl hrc.1 hrc.2 (htg _ hI.2.2.2.1) (htg _ hI.1) hI.2.2.2.2.2 hR, htg _ hI.2.1, htg _ hI.2.2.1⟩ ⟨fun a U g mk q => by obtain ⟨q0, q1, qP, qK, qD⟩ := q; exact ⟨q0, q1, qP, va_K.moved (u := U) (U := U.calling g mk a) (Vm.Alike.refl U.vm) qK, qD⟩, va_recv hK hPc hci hrv, fun U hU hW => ⟨rfl, by rw [hU], by rw [hU]; exact hPc, va_K.moved hW.alike hK, hDc.weaken (fun _ _ _ _ => trivial)⟩⟩ rfl hna hl.1 rfl (lv_room hrm) hdg ⟨by simpa using hkn.1, by simpa using hkn.2⟩) hS (fun q _ h => hFc q h) hFc (fun u t H1 locs ht hvm hw hB hz1 hk1 hS => ?_)
  obtain ⟨hP1, hK1, hD1⟩ := hB
  rw [ht] at hP1
  obtain ⟨hP, hD⟩ := put_join hP hD isC hC hnd hle hk1 hFc hP1 hD1
  exact h K H1 locs ls hl hP hD hS
theorem z_calliS (hM : CtI l y (Cond.code y bytes mL rt :: tblG) rm D cA ws0 As r ws1) (hI : InS own idx y bytes mL rt na) (hrc : rm.cells = 0 ∧ rm.slots = 0) (hR : rm.frames + 1 ≤ R.frames ∧ 8 + (mL + 11) + rm.locals ≤ R.locals) (hna : As.length = na) (hkn : k ≤ R.cells ∧ n ≤ R.slots)
    (isC : List Nat) (hC : isC.map (fun i => ws[i]?) = ws0.map some) (hnd : va_nd isC = true) (hle : ws0.length = ws1.length) (hw : putc ws isC ws1 = ws') (hstk : stk = As.reverse ++ rest) (hrm : (rest.map fun v => v.category).sum ≤ 8) (hdg : decode cc pc = .ok (.invokestatic idx, 3))
    (h : V κ false l D cA R cc nL own ret k n (pc + 3) lv (.int r :: rest) ws') : V κ false l D cA R cc nL own ret k n pc lv stk ws := by
  obtain ⟨p, e, s, m, ar, below, meth, c, A, Q⟩ := κ
  intro K H locs ls hl hP hD hS
  obtain ⟨hx, hb, hml, hown, htg, hr, hlocks, hK, hA⟩ := id K
  subst hw; subst hstk
  have hPc := hP.sub (ws' := ws0) isC (sub_map isC hC)
  have hDc := hD.sub (ws' := ws0) isC hnd hC
  have hFc := va_free (wc := ws0) hD hS hA isC hC
  refine va_calli (va_runS (As := As) (rest := rest) ⟨hx, hb, hml, hown, htg⟩ (hM H.size) ⟨callB_of na htg (good_cons hI.2.2.2.1) rfl hrc.1 hrc.2 (htg _ hI.2.2.1) (htg _ hI.1) hI.2.2.2.2 hR, htg _ hI.2.1⟩ ⟨fun a U g mk q => by obtain ⟨q0, q1, qP, qK, qD⟩ := q; exact ⟨q0, q1, qP, va_K.moved (u := U) (U := U.calling g mk a) (Vm.Alike.refl U.vm) qK, qD⟩, fun U hU hW => ⟨rfl, by rw [hU], by rw [hU]; exact hPc, va_K.moved hW.alike hK, hDc.weaken (fun _ _ _ _ => trivial)⟩⟩ rfl hna hl.1 rfl (lv_room hrm) hdg ⟨by simpa using hkn.1, by simpa using hkn.2⟩) hS (fun q _ h => hFc q h) hFc (fun r1 u t H1 locs ht hvm hw hB hz1 hk1 hS => ?_)
  obtain ⟨hP1, hK1, hD1⟩ := hB
  rw [ht] at hP1
  obtain ⟨hP, hD⟩ := put_join hP hD isC hC hnd hle hk1 hFc hP1 hD1
  subst hw
  exact h K H1 locs ls hl hP hD hS
end VCalls
