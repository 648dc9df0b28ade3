/-! making cells: arrays, objects, constructors' contracts -/
theorem K_same {D : va_G} {cl : List vw_C} {tys1 : List (ClassId × FieldType)} {U : State} (hK : va_K D cl tys1 U) {i j : Nat} {c1 c2 : ClassId} {ty : FieldType} (h1 : tys1[i]? = some (c1, ty)) (h2 : tys1[j]? = some (c2, ty)) : c1 = c2 := by
  have a := (hK.2 i _ h1).2
  have b := (hK.2 j _ h2).2
  cases ty with
  | object C =>
    obtain ⟨_, _, _, _, _, a4⟩ := a
    obtain ⟨_, _, _, _, _, b4⟩ := b
    exact Option.some.inj (a4.symm.trans b4)
  | _ => exact Option.some.inj ((show U.vm.findClass _ = some c1 from a).symm.trans b)
section VMake
variable {κ : Ctx} {l : Launch} {D : va_G} {cA : Nat → ClassId} {R : Room} {cc : ByteArray} {nL : Nat} {own : String} {ret : Option FieldType} {k n : Nat} {pc : Nat} {lv : List (Nat × Value)} {stk rest : List Value} {ws : va_W}
theorem z_newa {α : Type} (t CAP : Nat) {atype : ArrayType} {ty : FieldType} {i : Int32} {a : Option α} {r : α} (hw : Cond.arrayClass (newarray.typeOf atype) ∈ tblG) (hty : newarray.typeOf atype = ty) (ht : (tys cA)[t]? = some (cA t, ty)) (hdf : ∀ (cL : ClassId) (N' : Nat), vp_cell cL (N', .inl (fun _ => 0)) = arrV cL N' (fun _ => defaultValue ty)) (hcap : CAP * componentBytes ty ≤ 536870912) (hk : k + 1 ≤ R.cells) (hn : n + CAP ≤ R.slots) (hdg : decode cc pc = .ok (.newarray atype, 2))
    (hf : (if i < 0 ∨ CAP < i.toNatClampNeg then none else a) = some r) (h : a = some r → ∀ q : Nat, V κ false l D cA R cc nL own ret (k + 1) (n + CAP) (pc + 2) lv (.ref q :: stk) (ws ++ [(q, .inl (cA t, i.toNatClampNeg, .inl (fun _ => 0)))])) : V κ false l D cA R cc nL own ret k n pc lv (.int i :: stk) ws := by
  obtain ⟨p, e, s, m, ar, below, meth, c, A, Q⟩ := κ
  intro K H locs ls hl hP hD hS
  by_cases hz : i < 0 ∨ CAP < i.toNatClampNeg
  · rw [if_pos hz] at hf; cases hf
  · rw [if_neg hz] at hf
    have hle : i.toNatClampNeg ≤ CAP := Nat.not_lt.mp fun z => hz (Or.inr z)
    obtain ⟨hx, hb, hml, hown, htg, hr, hlocks, hK, hA⟩ := id K
    refine va_newa hx hb (htg _ hw) hty hK hP hD hS hA (a0 := (i.toNatClampNeg, .inl (fun _ => 0))) (fun cL => hdf cL _) (fun z => hz (Or.inl z)) rfl (Nat.le_trans (Nat.mul_le_mul_right _ hle) hcap) hk (Nat.le_trans (Nat.add_le_add_left hle n) hn) hdg (fun q cL H1 hK1 hP hD hS => ?_)
    have ht1 : (tys cA ++ [(cL, ty)])[t]? = some (cA t, ty) := by
      rw [List.getElem?_append_left (List.getElem?_eq_some_iff.mp ht).1]; exact ht
    have e1 : cL = cA t := K_same hK1 (i := (tys cA).length) (j := t) (by simp) ht1
    subst e1
    exact W.widen (Nat.le_refl _) (Nat.add_le_add_left hle n) (h hf q K H1 locs ls hl hP hD hS)
theorem z_new (ci : Nat) {idx N : Nat} {C : String} {T : u_T} {fs : List Value} (hc : vwCl[ci]? = some (C, T, N)) (hin : ∀ w ∈ u_ws C T N, w ∈ tblG) (ty : Nat → FieldType) (hty : ∀ a, a < N → parseFieldDescriptor (T a).2.2.1 = some (ty a)) (hcl : Cond.classLink own idx C ∈ tblG) (hinst : Cond.instantiable C N ∈ tblG) (hini : Cond.initialized C ∈ tblG) (hfs : ∀ j, j < N → defaultValue (ty j) = vp_V fs j) (hk : k + 1 ≤ R.cells) (hn : n + N ≤ R.slots) (hdg : decode cc pc = .ok (.new idx, 3))
    (h : ∀ q : Nat, V κ false l D cA R cc nL own ret (k + 1) (n + N) (pc + 3) lv (.ref q :: stk) (ws ++ [(q, .inr (ci, fs))])) : V κ false l D cA R cc nL own ret k n pc lv stk ws := by
  obtain ⟨p, e, s, m, ar, below, meth, c, A, Q⟩ := κ
  intro K H locs ls hl hP hD hS
  obtain ⟨hx, hb, hml, hown, htg, hr, hlocks, hK, hA⟩ := id K
  exact va_new hx hb htg hin ty hty hown (htg _ hcl) (htg _ hinst) (htg _ hini) hK hP hD hS hA hc hfs hk hn hdg (fun q H1 hP hD hS => h q K H1 locs ls hl hP hD hS)
end VMake
theorem put_joinX {A0 : Nat → Prop} {D : va_G} {cl : List vw_C} {ws wc w1 : va_W} {H H1 : Heap} (hP : va_P D cl ws H) (hD : va_D A0 ws) (is : List Nat) (hC : is.map (fun i => ws[i]?) = wc.map some) (hn : va_nd is = true) (hlen : wc.length ≤ w1.length)
    (hk : ∀ q : Nat, q < H.size → ¬ va_A wc H.size q → H1[q]? = H[q]?) (hF : ∀ q, va_A wc H.size q → A0 q) (hP1 : va_P D cl w1 H1) (hD1 : va_D (va_A wc H.size) w1) : va_P D cl (putc ws is w1 ++ w1.drop is.length) H1 ∧ va_D A0 (putc ws is w1 ++ w1.drop is.length) := by
  have hl1 : is.length = wc.length := by simpa using congrArg List.length hC
  have hl : is.length ≤ w1.length := by omega
  have at' : ∀ (k : Nat) (q : Nat × va_E), wc[k]? = some q → ∃ i, is[k]? = some i ∧ ws[i]? = some q := by
    intro k q hq
    have h1 : (is.map (fun i => ws[i]?))[k]? = some (some q) := by rw [hC, List.getElem?_map, hq]; rfl
    rw [List.getElem?_map] at h1
    cases hi : is[k]? with
    | none => rw [hi] at h1; cases h1
    | some i => rw [hi] at h1; exact ⟨i, rfl, Option.some.inj h1⟩
  have hb : ∀ a ∈ is, a < ws.length := by
    intro a ha
    obtain ⟨k, hk'⟩ := List.getElem?_of_mem ha
    have hkl : k < wc.length := by rw [← hl1]; exact (List.getElem?_eq_some_iff.mp hk').1
    obtain ⟨i, h1, h2⟩ := at' k wc[k] (List.getElem?_eq_getElem hkl)
    rw [hk'] at h1; cases h1
    exact (List.getElem?_eq_some_iff.mp h2).1
  have key : ∀ (i : Nat) (q : Nat × va_E), (putc ws is w1)[i]? = some q → (∃ j : Nat, is[j]? = some i ∧ w1[j]? = some q) ∨ (i ∉ is ∧ ws[i]? = some q) := by
    intro i q hq
    by_cases hi : i ∈ is
    · obtain ⟨j, hj⟩ := List.getElem?_of_mem hi
      rw [putc_in is w1 ws j i hn hl hb hj] at hq
      exact Or.inl ⟨j, hj, hq⟩
    · rw [putc_not is w1 ws i hi] at hq
      exact Or.inr ⟨hi, hq⟩
  have apart : ∀ (i : Nat) (q : Nat × va_E), i ∉ is → ws[i]? = some q → q.1 < H.size ∧ ¬ va_A wc H.size q.1 := by
    intro i q hi hq
    have hl' := (hP i q hq).lt
    refine ⟨hl', fun h => ?_⟩
    rcases h with ⟨k2, e, h⟩ | h
    · obtain ⟨j, h3, h4⟩ := at' k2 (q.1, e) h
      have hij := hD.1 i j q (q.1, e) hq h4 rfl
      subst hij
      exact hi (List.mem_of_getElem? h3)
    · omega
  have p1 : va_P D cl (putc ws is w1) H1 := fun i q hq => by
    rcases key i q hq with ⟨j, -, h2⟩ | ⟨h1, h2⟩
    · exact hP1 j q h2
    · obtain ⟨g1, g2⟩ := apart i q h1 h2
      exact (hP i q h2).kept (hk q.1 g1 g2)
  have d1 : va_D A0 (putc ws is w1) := ⟨fun i j p q hp hq hpq => by
    rcases key i p hp with ⟨a, h1, h2⟩ | ⟨h1, h2⟩ <;> rcases key j q hq with ⟨b, h3, h4⟩ | ⟨h3, h4⟩
    · have := hD1.1 a b p q h2 h4 hpq
      subst this
      exact Option.some.inj (h1.symm.trans h3)
    · exact absurd (by rw [← hpq]; exact hD1.2 a p h2) (apart j q h3 h4).2
    · exact absurd (by rw [hpq]; exact hD1.2 b q h4) (apart i p h1 h2).2
    · exact hD.1 i j p q h2 h4 hpq, fun i q hq => by
    rcases key i q hq with ⟨j, -, h2⟩ | ⟨h1, h2⟩
    · exact hF q.1 (hD1.2 j q h2)
    · exact hD.2 i q h2⟩
  have dr : ∀ (i : Nat) (q : Nat × va_E), (w1.drop is.length)[i]? = some q → w1[is.length + i]? = some q := fun i q h => by rw [← List.getElem?_drop]; exact h
  refine ⟨va_P.app p1 (fun i q hq => hP1 _ q (dr i q hq)), va_D.app d1 ⟨fun i j p q hp hq hpq => ?_, fun i q hq => hF q.1 (hD1.2 _ q (dr i q hq))⟩ (fun i j p q hp hq hpq => ?_)⟩
  · have := hD1.1 _ _ p q (dr i p hp) (dr j q hq) hpq
    omega
  · rcases key i p hp with ⟨a, h1, h2⟩ | ⟨h1, h2⟩
    · have h5 := hD1.1 _ _ p q h2 (dr j q hq) hpq
      have h6 := (List.getElem?_eq_some_iff.mp h1).1
      omega
    · exact (apart i p h1 h2).2 (by rw [hpq]; exact hD1.2 _ q (dr j q hq))
/-- a constructor: its new cells' addresses are a function of the place -/
def CtC (l : Launch) (y : MethodName) (w : List Cond) (rm : Room) (D : va_G) (cA : Nat → ClassId) (ws0 : va_W) (as : List Value) (ws1 : (Nat → Nat) → va_W) : Prop :=
  ∀ sz : Nat, Met l y w rm (va_Pc as (fun U => U.heap.size = sz ∧ va_P D vwCl ws0 U.heap ∧ va_K D vwCl (tys cA) U ∧ va_D (fun _ => True) ws0 ∧ va_AO "RouterPaths$Tool" U)) (va_Qv (fun (_ : Nat → Nat) => True) (fun u t => va_P D vwCl (ws1 u) t.heap ∧ va_K D vwCl (tys cA) t ∧ va_D (va_A ws0 sz) (ws1 u)) (va_A ws0 sz)) rm.cells rm.slots (va_A ws0 sz)
def EnC (κ : Ctx) (rm : Room) (D : va_G) (cA : Nat → ClassId) (ws1 : (Nat → Nat) → va_W) : Prop :=
  match κ with
  | (_, _, s, _, ar, below, _, _, A, Q) => Q = MQ below (va_Qv (fun (_ : Nat → Nat) => True) (fun u t => va_P D vwCl (ws1 u) t.heap ∧ va_K D vwCl (tys cA) t ∧ va_D A (ws1 u)) A) ar s rm.cells rm.slots A
theorem CtC.start {l : Launch} {y : MethodName} {rm : Room} {D : va_G} {cA : Nat → ClassId} {ws0 : va_W} {ws1 : (Nat → Nat) → va_W} {as : List Value} {cc : ByteArray} {maxL : Nat} {lv : List (Nat × Value)}
    (hy : plainName y.cls = true) (hyn : y.name = "<init>") (hlen : (lg_sl as).length ≤ maxL) (hlv : lv_args 0 as = lv)
    (body : ∀ κ : Ctx, κ.2.2.2.2.2.2.1.name = "<init>" → va_AO "RouterPaths$Tool" κ.2.2.1 → EnC κ rm D cA ws1 → V κ false l D cA rm cc maxL y.cls none 0 0 0 lv [] ws0) : CtC l y (Cond.code y cc maxL none :: tblG) rm D cA ws0 as ws1 := by
  intro sz
  refine Met.ofW (cc := cc) (maxL := maxL) (ret := none) hy rfl ?_
  intro p e s m args below meth c s₁ B hml hv
  obtain ⟨rfl, hsz, hP, hK, hD0, hAO⟩ := hv
  subst hsz
  have hl := lv_entry as (n := maxL) hlen
  rw [hlv] at hl
  rw [lg_entry_eq]
  have hts := atoms_spec (ws := Cond.code y cc maxL none :: tblG) B.pre
  exact body (p, e, s, m, as.toArray, below, meth, c, va_A ws0 s.heap.size, _) (by rw [← hyn]; exact (name_of_methodNamed B.named B.method).1) hAO rfl ⟨B.exec, B.bytes, hml, findClass_of_methodNamed B.named, fun w hw => hts w (List.mem_cons_of_mem _ hw), B.returns, B.notSynchronized, hK, fun q h => Or.inr h⟩ s.heap [] _ hl hP hD0.self va_S.rf
def InI (own : String) (idx : Nat) (y : MethodName) (bytes : ByteArray) (mL : Nat) (na : Nat) : Prop :=
  Cond.methodLink own idx y ∈ tblG ∧ Cond.instanceMethod y ∈ tblG ∧ Cond.initialized y.cls ∈ tblG ∧ Cond.code y bytes mL none ∈ tblG ∧ y.name = "<init>" ∧ (y.cls ≠ "java/lang/invoke/MethodHandle" ∧ y.cls ≠ "java/lang/invoke/VarHandle" ∧ (parseMethodDescriptor y.desc).map (fun d => d.parameters.length) = some na)
section VMake2
variable {κ : Ctx} {l : Launch} {D : va_G} {cA : Nat → ClassId} {R : Room} {cc : ByteArray} {nL : Nat} {own : String} {ret : Option FieldType} {k n : Nat} {pc : Nat} {lv : List (Nat × Value)} {stk rest : List Value} {ws : va_W}
theorem z_cret {rm : Room} {ws1 : (Nat → Nat) → va_W} (u : Nat → Nat) (hE : EnC κ rm D cA ws1) (hw : ws1 u = ws) (hkn : k ≤ rm.cells ∧ n ≤ rm.slots) (hdg : decode cc pc = .ok (.return_, 1)) : V κ false l D cA R cc nL own none k n pc lv [] ws := by
  subst hw
  obtain ⟨p, e, s, m, ar, below, meth, c, A, Q⟩ := κ
  intro K H locs ls hl hP hD hS
  have hE : Q = _ := hE
  subst hE
  exact W.widen hkn.1 hkn.2 (W.vret K.1 K.2.1 K.2.2.2.2.2.1 (fun t ht hW => ⟨⟨u, rfl, trivial, by rw [ht]; exact hP, va_K.moved hW.alike K.2.2.2.2.2.2.2.1, hD⟩, hS.F ht⟩) hS.2.2 hdg K.2.2.2.2.2.2.1)
theorem z_objInit {idx a : Nat} (hl0 : Cond.methodLink own idx objectInit ∈ tblG) (hi : Cond.instanceMethod objectInit ∈ tblG) (hc : Cond.code objectInit ⟨#[0xb1]⟩ 1 none ∈ tblG) (hfr : 1 ≤ R.frames) (hlo : (stk.map fun v => v.category).sum + 12 ≤ R.locals) (hdg : decode cc pc = .ok (.invokespecial idx, 3)) (h : V κ false l D cA R cc nL own ret k n (pc + 3) lv stk ws) : V κ false l D cA R cc nL own ret k n pc lv (.ref a :: stk) ws := by
  obtain ⟨p, e, s, m, ar, below, meth, c, A, Q⟩ := κ
  intro K H locs ls hl hP hD hS
  obtain ⟨hx, hb, hml, hown, htg, hr, hlocks, hK, hA⟩ := id K
  exact W.objInit hx hb hown (htg _ hl0) (htg _ hi) (htg _ hc) rfl (by rw [hml]; exact hl.1) rfl hdg hfr (by show 2 * 0 + _ + 12 ≤ _; omega) (h K H locs ls hl hP hD hS)
theorem z_putF (q j : Nat) {ad idx ci N : Nat} {C : String} {T : u_T} {fs : List Value} {v : Value} {ty : FieldType} {ws' : va_W} (hin2 : κ.2.2.2.2.2.2.1.name = "<init>") (he : ws[q]? = some (ad, .inr (ci, fs))) (hc : vwCl[ci]? = some (C, T, N)) (hin : ∀ w ∈ u_ws C T N, w ∈ tblG) (ty0 : Nat → FieldType) (hty : ∀ a, a < N → parseFieldDescriptor (T a).2.2.1 = some (ty0 a)) (hnm : ∀ a, a < N → ∀ b, b < N → a ≠ b → (T a).2.1 ≠ (T b).2.1) (hk : j < N) (hlink : Cond.fieldLink own idx (T j).1 (T j).2.1 (T j).2.2.1 ∈ tblG) (hfin : (T j).2.2.2 = true) (hdecl : (T j).1 = own) (hd : ty0 j = ty) (hn : narrow ty v = v) (hfit : fits ty v = true) (hl0 : j < fs.length) (hdg : decode cc pc = .ok (.putfield idx, 3)) (hw : ws.set q (ad, .inr (ci, fs.set j v)) = ws') (h : V κ false l D cA R cc nL own ret k n (pc + 3) lv stk ws') : V κ false l D cA R cc nL own ret k n pc lv (v :: .ref ad :: stk) ws := by
  obtain ⟨p, e, s, m, ar, below, meth, c, A, Q⟩ := κ
  intro K H locs ls hl hP hD hS
  subst hw; subst hd
  exact va_putF K.1 K.2.1 K.2.2.2.2.1 hin ty0 hty hnm K.2.2.2.1 K.2.2.2.2.2.2.2.1 hP hD hS q he hc j hk (K.2.2.2.2.1 _ hlink) (fun _ h9 => h9) hfin hin2 hdecl (hty j hk) hn hfit hl0 hdg (fun H locs hP hD hS => h K H locs ls hl hP hD hS)
variable {y : MethodName} {bytes : ByteArray} {mL na idx : Nat} {rm : Room} {ws0 : va_W} {ws1 : (Nat → Nat) → va_W} {As : List Value} {b : Nat}
theorem z_callC {ws' : (Nat → Nat) → va_W} (hAO : va_AO "RouterPaths$Tool" κ.2.2.1) (hM : CtC l y (Cond.code y bytes mL none :: tblG) rm D cA ws0 (.ref b :: As) ws1) (hI : InI own idx y bytes mL na) (hR : rm.frames + 1 ≤ R.frames ∧ 8 + (mL + 11) + rm.locals ≤ R.locals) (hna : As.length = na) (hkn : k + rm.cells ≤ R.cells ∧ n + rm.slots ≤ R.slots)
    (isC : List Nat) (hC : isC.map (fun i => ws[i]?) = ws0.map some) (hnd : va_nd isC = true) (hle : ∀ u, ws0.length ≤ (ws1 u).length) (hw : ∀ u, putc ws isC (ws1 u) ++ (ws1 u).drop isC.length = ws' u) (hstk : stk = As.reverse ++ .ref b :: rest) (hrm : (rest.map fun v => v.category).sum ≤ 8) (hdg : decode cc pc = .ok (.invokespecial idx, 3))
    (h : ∀ u : Nat → Nat, V κ false l D cA R cc nL own ret (k + rm.cells) (n + rm.slots) (pc + 3) lv rest (ws' u)) : V κ false l D cA R cc nL own ret k n pc lv stk ws := by
  obtain ⟨p, e, s, m, ar, below, meth, c, A, Q⟩ := κ
  intro K H locs ls hl hP hD hS
  obtain ⟨hx, hb, hml, hown, htg, hr, hlocks, hK, hA⟩ := id K
  subst hstk
  have hPc := hP.sub (ws' := ws0) isC (sub_map isC hC)
  have hDc := hD.sub (ws' := ws0) isC hnd hC
  have hFc := va_free (wc := ws0) hD hS hA isC hC
  refine va_callv (va_runI (As := As) (rest := rest) ⟨hx, hb, hml, hown, htg⟩ (hM H.size) ⟨callB_of na htg (good_cons hI.2.2.2.1) rfl rfl rfl (htg _ hI.2.2.1) (htg _ hI.1) hI.2.2.2.2.2 hR, hI.2.2.2.2.1, htg _ hI.2.1⟩ ⟨fun a U g mk q => by obtain ⟨q0, q1, qP, qK, qD, qA⟩ := q; exact ⟨q0, q1, qP, va_K.moved (u := U) (U := U.calling g mk a) (Vm.Alike.refl U.vm) qK, qD, va_AO.moved (u := U) (U := U.calling g mk a) (Vm.Alike.refl U.vm) qA⟩, fun U hU hW => ⟨rfl, by rw [hU], by rw [hU]; exact hPc, va_K.moved hW.alike hK, hDc.weaken (fun _ _ _ _ => trivial), hAO.moved hW.alike⟩⟩ rfl hna hl.1 rfl (lv_room hrm) hdg hkn) hS (fun q _ h => hFc q h) hFc (fun u t H1 locs ht hvm hw1 hB hz1 hk1 hS => ?_)
  obtain ⟨hP1, hK1, hD1⟩ := hB
  rw [ht] at hP1
  obtain ⟨hP, hD⟩ := put_joinX hP hD isC hC hnd (hle u) hk1 hFc hP1 hD1
  rw [hw u] at hP hD
  exact h u K H1 locs ls hl hP hD hS
end VMake2
theorem rk4_up (a b c d : Nat) : va_up (va_up (va_up (va_up (fun _ => none) 0 (some a)) 1 (some b)) 2 (some c)) 3 (some d) = rk4 a b c d := by
  funext j
  match j with
  | 0 => rfl
  | 1 => rfl
  | 2 => rfl
  | 3 => rfl
  | j + 4 => simp [va_up, rk4]
section VMake3
variable {κ : Ctx} {fz : Bool} {l : Launch} {D : va_G} {cA : Nat → ClassId} {R : Room} {cc : ByteArray} {nL : Nat} {own : String} {ret : Option FieldType} {k n : Nat} {pc : Nat} {lv : List (Nat × Value)} {stk rest : List Value} {ws : va_W}
theorem z_wsE {ws' : va_W} (hw : ws = ws') (h : V κ fz l D cA R cc nL own ret k n pc lv stk ws') : V κ fz l D cA R cc nL own ret k n pc lv stk ws := by subst hw; exact h
theorem z_newq (t CAP : Nat) {idx : Nat} {C : String} {i : Int32} (hao : va_AO C κ.2.2.1) (hcl : Cond.classLink own idx C ∈ tblG) (ht : (tys cA)[t]? = some (cA t, .object C)) (hi : ¬ i < 0) (hcap : i.toNatClampNeg = CAP) (hb4 : CAP * 4 ≤ 536870912) (hk : k + 1 ≤ R.cells) (hn : n + CAP ≤ R.slots) (hdg : decode cc pc = .ok (.anewarray idx, 3))
    (h : ∀ q : Nat, V κ false l D cA R cc nL own ret (k + 1) (n + CAP) (pc + 3) lv (.ref q :: stk) (ws ++ [(q, .inl (cA t, CAP, .inr (.inr (.inr (.inr (fun _ => none))))))])) : V κ false l D cA R cc nL own ret k n pc lv (.int i :: stk) ws := by
  obtain ⟨p, e, s, m, ar, below, meth, c, A, Q⟩ := κ
  intro K H locs ls hl hP hD hS
  obtain ⟨hx, hb, hml, hown, htg, hr, hlocks, hK, hA⟩ := id K
  refine va_newq hx hb hown (htg _ hcl) hao hK hP hD hS hA hi hcap hb4 hk hn hdg (fun q cL H1 hK1 hP hD hS => ?_)
  have ht1 : (tys cA ++ [(cL, .object C)])[t]? = some (cA t, .object C) := by
    rw [List.getElem?_append_left (List.getElem?_eq_some_iff.mp ht).1]; exact ht
  have e1 : cL = cA t := K_same hK1 (i := (tys cA).length) (j := t) (by simp) ht1
  subst e1
  exact h q K H1 locs ls hl hP hD hS
theorem z_aast (q t qk ci : Nat) {ad v N : Nat} {cL : ClassId} {r : vw_C} {vs : List Value} {f : Nat → Option Nat} {i : Int32} {ws' : va_W} (he : ws[q]? = some (ad, .inl (cL, N, .inr (.inr (.inr (.inr f)))))) (ht : (tys cA)[t]? = some (cL, .object r.1)) (hv : ws[qk]? = some (v, .inr (ci, vs))) (hc : vwCl[ci]? = some r) (hin : vp_in i N) (hdg : decode cc pc = .ok (.aastore, 1)) (hw : ws.set q (ad, .inl (cL, N, .inr (.inr (.inr (.inr (va_up f i.toNatClampNeg (some v))))))) = ws') (h : V κ false l D cA R cc nL own ret k n (pc + 1) lv stk ws') : V κ false l D cA R cc nL own ret k n pc lv (.ref v :: .int i :: .ref ad :: stk) ws := by
  obtain ⟨p, e, s, m, ar, below, meth, c, A, Q⟩ := κ
  intro K H locs ls hl hP hD hS
  subst hw
  exact va_astq K.1 K.2.1 K.2.2.2.2.2.2.2.1 hP hD hS q t qk ci he ht hv hc hin hdg (fun H locs hP hD hS => h K H locs ls hl hP hD hS)
end VMake3
