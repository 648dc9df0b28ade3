/-! read-only methods: contracts that leave the heap as it is -/
def CtI0 (l : Launch) (y : MethodName) (w : List Cond) (rm : Room) (D : va_G) (cA : Nat → ClassId) (ws0 : va_W) (as : List Value) (r : Int32) : Prop :=
  Met l y w rm (va_Pc as (fun U => va_P D vwCl ws0 U.heap ∧ va_K D vwCl (tys cA) U ∧ va_D (fun _ => True) ws0)) (fun _ st oc t => oc = .returned (some (.int r)) ∧ t.heap = st.heap) 0 0 (fun _ => False)
def CtV0 (l : Launch) (y : MethodName) (w : List Cond) (rm : Room) (D : va_G) (cA : Nat → ClassId) (ws0 : va_W) (as : List Value) : Prop :=
  Met l y w rm (va_Pc as (fun U => va_P D vwCl ws0 U.heap ∧ va_K D vwCl (tys cA) U ∧ va_D (fun _ => True) ws0)) (fun _ st oc t => oc = .returned none ∧ t.heap = st.heap) 0 0 (fun _ => False)
def EnI0 (κ : Ctx) (r : Int32) : Prop :=
  match κ with
  | (_, _, s, _, ar, below, _, _, _, Q) => Q = MQ below (fun _ st oc t => oc = .returned (some (.int r)) ∧ t.heap = st.heap) ar s 0 0 (fun _ => False)
def EnV0 (κ : Ctx) : Prop :=
  match κ with
  | (_, _, s, _, ar, below, _, _, _, Q) => Q = MQ below (fun _ st oc t => oc = .returned none ∧ t.heap = st.heap) ar s 0 0 (fun _ => False)
theorem CtI0.start {l : Launch} {y : MethodName} {rm : Room} {D : va_G} {cA : Nat → ClassId} {ws0 : va_W} {as : List Value} {r : Int32} {cc : ByteArray} {maxL : Nat} {ty : FieldType} {lv : List (Nat × Value)}
    (hy : plainName y.cls = true) (hlen : (lg_sl as).length ≤ maxL) (hlv : lv_args 0 as = lv)
    (body : ∀ κ : Ctx, EnI0 κ r → V κ true l D cA rm cc maxL y.cls (some ty) 0 0 0 lv [] ws0) : CtI0 l y (Cond.code y cc maxL (some ty) :: tblG) rm D cA ws0 as r := by
  refine Met.ofW (cc := cc) (maxL := maxL) (ret := some ty) hy rfl ?_
  intro p e s m args below meth c s₁ B hml hv
  obtain ⟨rfl, hP, hK, hD0⟩ := hv
  have hl := lv_entry as (n := maxL) hlen
  rw [hlv] at hl
  rw [lg_entry_eq]
  have hts := atoms_spec (ws := Cond.code y cc maxL (some ty) :: tblG) B.pre
  exact body (p, e, s, m, as.toArray, below, meth, c, va_A ws0 s.heap.size, _) rfl ⟨B.exec, B.bytes, hml, findClass_of_methodNamed B.named, fun w hw => hts w (List.mem_cons_of_mem _ hw), B.returns, B.notSynchronized, hK, fun q h => Or.inr h⟩ s.heap [] _ hl hP hD0.self ⟨rfl, rfl⟩
theorem CtV0.start {l : Launch} {y : MethodName} {rm : Room} {D : va_G} {cA : Nat → ClassId} {ws0 : va_W} {as : List Value} {cc : ByteArray} {maxL : Nat} {lv : List (Nat × Value)}
    (hy : plainName y.cls = true) (hlen : (lg_sl as).length ≤ maxL) (hlv : lv_args 0 as = lv)
    (body : ∀ κ : Ctx, EnV0 κ → V κ true l D cA rm cc maxL y.cls none 0 0 0 lv [] ws0) : CtV0 l y (Cond.code y cc maxL none :: tblG) rm D cA ws0 as := by
  refine Met.ofW (cc := cc) (maxL := maxL) (ret := none) hy rfl ?_
  intro p e s m args below meth c s₁ B hml hv
  obtain ⟨rfl, hP, hK, hD0⟩ := hv
  have hl := lv_entry as (n := maxL) hlen
  rw [hlv] at hl
  rw [lg_entry_eq]
  have hts := atoms_spec (ws := Cond.code y cc maxL none :: tblG) B.pre
  exact body (p, e, s, m, as.toArray, below, meth, c, va_A ws0 s.heap.size, _) rfl ⟨B.exec, B.bytes, hml, findClass_of_methodNamed B.named, fun w hw => hts w (List.mem_cons_of_mem _ hw), B.returns, B.notSynchronized, hK, fun q h => Or.inr h⟩ s.heap [] _ hl hP hD0.self ⟨rfl, rfl⟩
theorem CtI0.to {l : Launch} {y : MethodName} {w : List Cond} {rm : Room} {D : va_G} {cA : Nat → ClassId} {ws0 : va_W} {as : List Value} {r : Int32} (h : CtI0 l y w rm D cA ws0 as r) : CtI l y w rm D cA ws0 as r ws0 := by
  intro sz p e ha hc hk s m args below hf happ hP hK
  obtain ⟨rfl, rfl, hP1, hK1, hD1⟩ := hP
  obtain ⟨n, o, h1, h2, h3, ⟨hq, hh⟩, L, hF, hL⟩ := h p e ha hc hk s m _ below hf happ ⟨rfl, hP1, hK1, hD1⟩ hK
  exact ⟨n, o, h1, h2, h3, ⟨⟨r, (), hq, rfl, by rw [hh]; exact hP1, va_K.moved hF.2.1.alike hK1, hD1.self⟩, by rw [hh]; exact Nat.le_refl _, fun q _ _ => by rw [hh]⟩, L, hF, fun q hq => (hL q hq).elim⟩
theorem CtV0.to {l : Launch} {y : MethodName} {w : List Cond} {rm : Room} {D : va_G} {cA : Nat → ClassId} {ws0 : va_W} {as : List Value} (h : CtV0 l y w rm D cA ws0 as) : CtV l y w rm D cA ws0 as ws0 := by
  intro sz p e ha hc hk s m args below hf happ hP hK
  obtain ⟨rfl, rfl, hP1, hK1, hD1⟩ := hP
  obtain ⟨n, o, h1, h2, h3, ⟨hq, hh⟩, L, hF, hL⟩ := h p e ha hc hk s m _ below hf happ ⟨rfl, hP1, hK1, hD1⟩ hK
  exact ⟨n, o, h1, h2, h3, ⟨⟨(), hq, trivial, by rw [hh]; exact hP1, va_K.moved hF.2.1.alike hK1, hD1.self⟩, by rw [hh]; exact Nat.le_refl _, fun q _ _ => by rw [hh]⟩, L, hF, fun q hq => (hL q hq).elim⟩
section VRo
variable {κ : Ctx} {fz : Bool} {l : Launch} {D : va_G} {cA : Nat → ClassId} {R : Room} {cc : ByteArray} {nL : Nat} {own : String} {ret : Option FieldType} {k n : Nat} {pc : Nat} {lv : List (Nat × Value)} {stk rest : List Value} {ws : va_W}
theorem z_iret0 {v : Int32} (hE : EnI0 κ v) (hdg : decode cc pc = .ok (.ireturn, 1)) : V κ true l D cA R cc nL own (some .int) 0 0 pc lv [.int v] ws := by
  obtain ⟨p, e, s, m, ar, below, meth, c, A, Q⟩ := κ
  intro K H locs ls hl hP hD hS
  obtain ⟨rfl, rfl⟩ := hS
  have hE : Q = _ := hE
  subst hE
  exact W.iret (v := v) K.1 K.2.1 K.2.2.2.2.2.1 (fun t ht hW => ⟨rfl, ht⟩) (fun q h => by cases h) hdg K.2.2.2.2.2.2.1
theorem z_zret0L {v : Int32} (hz : v = 0 ∨ v = 1) (hE : EnI0 κ v) (hdg : decode cc pc = .ok (.ireturn, 1)) : V κ true l D cA R cc nL own (some .boolean) 0 0 pc lv [.int v] ws := by
  obtain ⟨p, e, s, m, ar, below, meth, c, A, Q⟩ := κ
  intro K H locs ls hl hP hD hS
  obtain ⟨rfl, rfl⟩ := hS
  have hE : Q = _ := hE
  subst hE
  exact W.zret (v := v) K.1 K.2.1 K.2.2.2.2.2.1 (by rcases hz with rfl | rfl <;> rfl) (fun t ht hW => ⟨rfl, ht⟩) (fun q h => by cases h) hdg K.2.2.2.2.2.2.1
theorem z_vret0 (hE : EnV0 κ) (hdg : decode cc pc = .ok (.return_, 1)) : V κ true l D cA R cc nL own none 0 0 pc lv [] ws := by
  obtain ⟨p, e, s, m, ar, below, meth, c, A, Q⟩ := κ
  intro K H locs ls hl hP hD hS
  obtain ⟨rfl, rfl⟩ := hS
  have hE : Q = _ := hE
  subst hE
  exact W.vret K.1 K.2.1 K.2.2.2.2.2.1 (fun t ht hW => ⟨rfl, ht⟩) (fun q h => by cases h) hdg K.2.2.2.2.2.2.1
variable {y : MethodName} {bytes : ByteArray} {mL na idx : Nat} {rt : Option FieldType} {rm : Room} {ws0 : va_W} {As : List Value} {b : Nat} {r : Int32}
theorem z_calli0V (hM : CtI0 l y (Cond.code y bytes mL rt :: tblG) rm D cA ws0 (.ref b :: As) r) (hI : InV own idx y bytes mL rt na) (hrc : rm.cells = 0 ∧ rm.slots = 0) (hR : rm.frames + 1 ≤ R.frames ∧ 8 + (mL + 11) + rm.locals ≤ R.locals) (hna : As.length = na) (hkn : k ≤ R.cells ∧ n ≤ R.slots)
    {ci N : Nat} {T : u_T} {fs : List Value} (hrv : ws0[0]? = some (b, .inr (ci, fs))) (hci : vwCl[ci]? = some (y.cls, T, N)) (isC : List Nat) (hC : isC.map (fun i => ws[i]?) = ws0.map some) (hnd : va_nd isC = true) (hstk : stk = As.reverse ++ .ref b :: rest) (hrm : (rest.map fun v => v.category).sum ≤ 8) (hdg : decode cc pc = .ok (.invokevirtual idx, 3))
    (h : V κ fz l D cA R cc nL own ret k n (pc + 3) lv (.int r :: rest) ws) : V κ fz l D cA R cc nL own ret k n pc lv stk ws := by
  obtain ⟨p, e, s, m, ar, below, meth, c, A, Q⟩ := κ
  intro K H locs ls hl hP hD hS
  obtain ⟨hx, hb, hml, hown, htg, hr, hlocks, hK, hA⟩ := id K
  subst hstk
  have hPc := hP.sub (ws' := ws0) isC (sub_map isC hC)
  have hDc := hD.sub (ws' := ws0) isC hnd hC
  intro T0 hT X
  obtain ⟨v, st₀, t, T', L, h0, X', hL, e1, e2, ⟨hv, hh⟩, st⟩ := va_runV (As := As) (rest := rest) (H := H) (locs := locs) (cells := k) (slots := n) (g := F0 m pc ls (As.reverse ++ .ref b :: rest)) ⟨hx, hb, hml, hown, htg⟩ hM ⟨callB_of na htg (good_cons hI.2.2.2.2.1) rfl hrc.1 hrc.2 (htg _ hI.2.2.2.1) (htg _ hI.1) hI.2.2.2.2.2 hR, htg _ hI.2.1, htg _ hI.2.2.1⟩ ⟨fun a U g mk q => by obtain ⟨q0, qP, qK, qD⟩ := q; exact ⟨q0, qP, va_K.moved (u := U) (U := U.calling g mk a) (Vm.Alike.refl U.vm) qK, qD⟩, va_recv hK hPc hci hrv, fun U hU hW => ⟨rfl, by rw [hU]; exact hPc, va_K.moved hW.alike hK, hDc.weaken (fun _ _ _ _ => trivial)⟩⟩ rfl hna hl.1 rfl (lv_room hrm) hdg ⟨by simpa using hkn.1, by simpa using hkn.2⟩ T0 hT X
  cases hv
  have hLn : L = [] := by
    cases L with
    | nil => rfl
    | cons q L => exact (hL q List.mem_cons_self).elim
  subst hLn
  rw [List.append_nil] at X'
  obtain ⟨t2, a1, b1⟩ := h K H locs ls hl hP hD hS T' (by rw [e1, hh, h0]) X'
  exact ⟨t2, st t2 a1, b1⟩
theorem z_callv0V (hM : CtV0 l y (Cond.code y bytes mL none :: tblG) rm D cA ws0 (.ref b :: As)) (hI : InV own idx y bytes mL none na) (hrc : rm.cells = 0 ∧ rm.slots = 0) (hR : rm.frames + 1 ≤ R.frames ∧ 8 + (mL + 11) + rm.locals ≤ R.locals) (hna : As.length = na) (hkn : k ≤ R.cells ∧ n ≤ R.slots)
    {ci N : Nat} {T : u_T} {fs : List Value} (hrv : ws0[0]? = some (b, .inr (ci, fs))) (hci : vwCl[ci]? = some (y.cls, T, N)) (isC : List Nat) (hC : isC.map (fun i => ws[i]?) = ws0.map some) (hnd : va_nd isC = true) (hstk : stk = As.reverse ++ .ref b :: rest) (hrm : (rest.map fun v => v.category).sum ≤ 8) (hdg : decode cc pc = .ok (.invokevirtual idx, 3))
    (h : V κ fz l D cA R cc nL own ret k n (pc + 3) lv rest ws) : V κ fz l D cA R cc nL own ret k n pc lv stk ws := by
  obtain ⟨p, e, s, m, ar, below, meth, c, A, Q⟩ := κ
  intro K H locs ls hl hP hD hS
  obtain ⟨hx, hb, hml, hown, htg, hr, hlocks, hK, hA⟩ := id K
  subst hstk
  have hPc := hP.sub (ws' := ws0) isC (sub_map isC hC)
  have hDc := hD.sub (ws' := ws0) isC hnd hC
  intro T0 hT X
  obtain ⟨v, st₀, t, T', L, h0, X', hL, e1, e2, ⟨hv, hh⟩, st⟩ := va_runV (As := As) (rest := rest) (H := H) (locs := locs) (cells := k) (slots := n) (g := F0 m pc ls (As.reverse ++ .ref b :: rest)) ⟨hx, hb, hml, hown, htg⟩ hM ⟨callB_of na htg (good_cons hI.2.2.2.2.1) rfl hrc.1 hrc.2 (htg _ hI.2.2.2.1) (htg _ hI.1) hI.2.2.2.2.2 hR, htg _ hI.2.1, htg _ hI.2.2.1⟩ ⟨fun a U g mk q => by obtain ⟨q0, qP, qK, qD⟩ := q; exact ⟨q0, qP, va_K.moved (u := U) (U := U.calling g mk a) (Vm.Alike.refl U.vm) qK, qD⟩, va_recv hK hPc hci hrv, fun U hU hW => ⟨rfl, by rw [hU]; exact hPc, va_K.moved hW.alike hK, hDc.weaken (fun _ _ _ _ => trivial)⟩⟩ rfl hna hl.1 rfl (lv_room hrm) hdg ⟨by simpa using hkn.1, by simpa using hkn.2⟩ T0 hT X
  cases hv
  have hLn : L = [] := by
    cases L with
    | nil => rfl
    | cons q L => exact (hL q List.mem_cons_self).elim
  subst hLn
  rw [List.append_nil] at X'
  obtain ⟨t2, a1, b1⟩ := h K H locs ls hl hP hD hS T' (by rw [e1, hh, h0]) X'
  exact ⟨t2, st t2 a1, b1⟩
theorem z_callv0S (hM : CtV0 l y (Cond.code y bytes mL none :: tblG) rm D cA ws0 As) (hI : InS own idx y bytes mL none na) (hrc : rm.cells = 0 ∧ rm.slots = 0) (hR : rm.frames + 1 ≤ R.frames ∧ 8 + (mL + 11) + rm.locals ≤ R.locals) (hna : As.length = na) (hkn : k ≤ R.cells ∧ n ≤ R.slots)
    (isC : List Nat) (hC : isC.map (fun i => ws[i]?) = ws0.map some) (hnd : va_nd isC = true) (hstk : stk = As.reverse ++ rest) (hrm : (rest.map fun v => v.category).sum ≤ 8) (hdg : decode cc pc = .ok (.invokestatic idx, 3))
    (h : V κ fz l D cA R cc nL own ret k n (pc + 3) lv rest ws) : V κ fz l D cA R cc nL own ret k n pc lv stk ws := by
  obtain ⟨p, e, s, m, ar, below, meth, c, A, Q⟩ := κ
  intro K H locs ls hl hP hD hS
  obtain ⟨hx, hb, hml, hown, htg, hr, hlocks, hK, hA⟩ := id K
  subst hstk
  have hPc := hP.sub (ws' := ws0) isC (sub_map isC hC)
  have hDc := hD.sub (ws' := ws0) isC hnd hC
  intro T0 hT X
  obtain ⟨v, st₀, t, T', L, h0, X', hL, e1, e2, ⟨hv, hh⟩, st⟩ := va_runS (As := As) (rest := rest) (H := H) (locs := locs) (cells := k) (slots := n) (g := F0 m pc ls (As.reverse ++ rest)) ⟨hx, hb, hml, hown, htg⟩ hM ⟨callB_of na htg (good_cons hI.2.2.2.1) rfl hrc.1 hrc.2 (htg _ hI.2.2.1) (htg _ hI.1) hI.2.2.2.2 hR, htg _ hI.2.1⟩ ⟨fun a U g mk q => by obtain ⟨q0, qP, qK, qD⟩ := q; exact ⟨q0, qP, va_K.moved (u := U) (U := U.calling g mk a) (Vm.Alike.refl U.vm) qK, qD⟩, fun U hU hW => ⟨rfl, by rw [hU]; exact hPc, va_K.moved hW.alike hK, hDc.weaken (fun _ _ _ _ => trivial)⟩⟩ rfl hna hl.1 rfl (lv_room hrm) hdg ⟨by simpa using hkn.1, by simpa using hkn.2⟩ T0 hT X
  cases hv
  have hLn : L = [] := by
    cases L with
    | nil => rfl
    | cons q L => exact (hL q List.mem_cons_self).elim
  subst hLn
  rw [List.append_nil] at X'
  obtain ⟨t2, a1, b1⟩ := h K H locs ls hl hP hD hS T' (by rw [e1, hh, h0]) X'
  exact ⟨t2, st t2 a1, b1⟩
end VRo
