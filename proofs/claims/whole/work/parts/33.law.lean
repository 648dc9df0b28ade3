/-! the law's own walk: its script, its helpers' calls -/
/-- what the law's walk knows beside Kx: the script at b, what throws need, only new cells are written -/
def LawK (κ : Ctx) (b L : Nat) (xs : Nat → Int32) : Prop :=
  match κ with
  | (_, _, s, _, _, _, _, _, A, _) => va_X b L xs s s.heap ∧ b < s.heap.size ∧ (∀ q, A q → s.heap.size ≤ q) ∧ TJ s
def InJ (own : String) (idx : Nat) (y : MethodName) (bytes : ByteArray) (mL : Nat) (rt : Option FieldType) (hh : List (Nat × Nat × Nat × Nat)) (na : Nat) : Prop :=
  Cond.methodLink own idx y ∈ tblG ∧ Cond.static y ∈ tblG ∧ Cond.initialized y.cls ∈ tblG ∧ Cond.codeWith y bytes mL rt hh ∈ tblG ∧ (y.cls ≠ "java/lang/invoke/MethodHandle" ∧ y.cls ≠ "java/lang/invoke/VarHandle" ∧ (parseMethodDescriptor y.desc).map (fun d => d.parameters.length) = some na)
section VLaw
variable {κ : Ctx} {l : Launch} {D : va_G} {cA : Nat → ClassId} {R : Room} {cc : ByteArray} {nL : Nat} {own : String} {ret : Option FieldType} {k n : Nat} {pc : Nat} {lv : List (Nat × Value)} {stk rest : List Value} {ws : va_W} {b L : Nat} {xs : Nat → Int32}
theorem z_sld {α : Type} {i : Int32} {a : Option α} {r : α} (hX : LawK κ b L xs) (hdg : decode cc pc = .ok (.iaload, 1)) (hf : (if i < 0 ∨ L ≤ i.toNatClampNeg then none else a) = some r) (h : a = some r → V κ false l D cA R cc nL own ret k n (pc + 1) lv (.int (xs i.toNatClampNeg) :: stk) ws) : V κ false l D cA R cc nL own ret k n pc lv (.int i :: .ref b :: stk) ws := by
  obtain ⟨p, e, s, m, ar, below, meth, c, A, Q⟩ := κ
  intro K H locs ls hl hP hD hS
  obtain ⟨hX, hbl, hA', -⟩ : va_X b L xs s s.heap ∧ _ ∧ _ ∧ _ := hX
  by_cases hz : i < 0 ∨ L ≤ i.toNatClampNeg
  · rw [if_pos hz] at hf; cases hf
  · rw [if_neg hz] at hf
    exact va_sld K.1 K.2.1 hX hbl (fun z => Nat.not_le.mpr hbl (hA' b z)) hS hz hdg (h hf K H locs ls hl hP hD hS)
theorem z_slen (hX : LawK κ b L xs) (hdg : decode cc pc = .ok (.arraylength, 1)) (h : V κ false l D cA R cc nL own ret k n (pc + 1) lv (.int (Int32.ofNat L) :: stk) ws) : V κ false l D cA R cc nL own ret k n pc lv (.ref b :: stk) ws := by
  obtain ⟨p, e, s, m, ar, below, meth, c, A, Q⟩ := κ
  intro K H locs ls hl hP hD hS
  obtain ⟨hX, hbl, hA', -⟩ : va_X b L xs s s.heap ∧ _ ∧ _ ∧ _ := hX
  exact va_slen K.1 K.2.1 hX hbl (fun z => Nat.not_le.mpr hbl (hA' b z)) hS hdg (h K H locs ls hl hP hD hS)
theorem z_lcmp {fz : Bool} {x y : Int64} (hdg : decode cc pc = .ok (.lcmp, 1)) (h : V κ fz l D cA R cc nL own ret k n (pc + 1) lv (.int (lg_cmp x y) :: stk) ws) : V κ fz l D cA R cc nL own ret k n pc lv (.long y :: .long x :: stk) ws := by
  obtain ⟨p, e, s, m, ar, below, meth, c, A, Q⟩ := κ
  intro K H locs ls hl hP hD hS
  exact W.lcmp K.1 K.2.1 hdg (h K H locs ls hl hP hD hS)
variable {y : MethodName} {bytes : ByteArray} {mL na idx : Nat} {rt : Option FieldType} {rm : Room} {ws0 ws1 ws' : va_W} {As : List Value} {r : Int32} {hh : List (Nat × Nat × Nat × Nat)}
theorem z_calliSJ (hX : LawK κ b L xs) (hM : CtJ l y (Cond.codeWith y bytes mL rt hh :: tblG) rm D cA ws0 As r ws1) (hI : InJ own idx y bytes mL rt hh na) (hrc : rm.cells = 1 ∧ rm.slots = 6) (hR : rm.frames + 1 ≤ R.frames ∧ 8 + (mL + 11) + rm.locals ≤ R.locals) (hna : As.length = na) (hkn : k + 1 ≤ R.cells ∧ n + 6 ≤ R.slots)
    (isC : List Nat) (hC : isC.map (fun i => ws[i]?) = ws0.map some) (hnd : va_nd isC = true) (hle : ws0.length = ws1.length) (hw : putc ws isC ws1 = ws') (hstk : stk = As.reverse ++ rest) (hrm : (rest.map fun v => v.category).sum ≤ 8) (hdg : decode cc pc = .ok (.invokestatic idx, 3))
    (h : V κ false l D cA R cc nL own ret (k + 1) (n + 6) (pc + 3) lv (.int r :: rest) ws') : V κ false l D cA R cc nL own ret k n pc lv stk ws := by
  obtain ⟨p, e, s, m, ar, below, meth, c, A, Q⟩ := κ
  intro K H locs ls hl hP hD hS
  obtain ⟨-, -, hA', hTJ⟩ : _ ∧ _ ∧ _ ∧ _ := hX
  obtain ⟨hx, hb, hml, hown, htg, hr, hlocks, hK, hA⟩ := id K
  subst hw; subst hstk; subst hb
  have hPc := hP.sub (ws' := ws0) isC (sub_map isC hC)
  have hDc := hD.sub (ws' := ws0) isC hnd hC
  have hFc := va_free (wc := ws0) hD hS hA isC hC
  obtain ⟨hl1, hstt, hini, hcd, hy1, hy2, hlen⟩ := hI
  have hlen' : ∀ sig, parseMethodDescriptor y.desc = some sig → As.length = sig.parameters.length := fun sig h => by
    rw [h] at hlen; rw [hna]; exact (Option.some.inj hlen).symm
  have hkeep : ∀ (q : Nat) (cell : Cell), s.heap[q]? = some cell → cell.vm.isStatics = true → H[q]? = some cell := fun q cell hq _ => by
    have hlt : q < s.heap.size := (Array.getElem?_eq_some_iff.mp hq).1
    rw [hS.2.1 q hlt (fun z => Nat.not_le.mpr hlt (hA' q z))]; exact hq
  have hrun : va_Run p l e R s m ar below meth c H locs k n 1 6 (F0 m pc ls (As.reverse ++ rest)) rest (va_Qi (fun (x : Int32) (_ : Unit) => x = r) (fun _ t => va_P D vwCl ws1 t.heap ∧ va_K D vwCl (tys cA) t ∧ va_D (va_A ws0 H.size) ws1) (va_A ws0 H.size) As.toArray) (va_A ws0 H.size) := by
    intro T0 hT X
    obtain ⟨mk, methM, cM, hnamed, hmethM, hcM, -, -, -, -, -, hsigM⟩ := Cond.codeWith_spec (htg _ hcd)
    have hstatic : methM.isStatic = true := Cond.static_spec hnamed hmethM (htg _ hstt)
    obtain ⟨kP, hkP, -⟩ := className_of_methodNamed hnamed
    have hinitP : kP.init = .initialized := Cond.initialized_spec (findClass_of_methodNamed hnamed) hkP (htg _ hini)
    obtain ⟨vm₁, X₁, hstep₁⟩ := X.invokestatic hx hown (htg _ hl1) hnamed hmethM hstatic hkP hinitP ⟨hy1, hy2⟩ (g := F0 m pc ls (As.reverse ++ rest)) rfl (argsL := As) (rest := rest) (hlen' _ hsigM) rfl hdg
    have hBk : Back l R p e below s ar y 3 8 (PreOf R 1 6 (va_Pc As (fun U => U.heap.size = H.size ∧ va_P D vwCl ws0 U.heap ∧ va_K D vwCl (tys cA) U ∧ va_D (fun _ => True) ws0 ∧ TJ U))) (PostOf _ 1 6 (va_A ws0 H.size)) :=
      va_backW (hh := hh) (bytes := bytes) (maxL := mL) (ret := rt) (hM H.size) (fun a U g mk q => by
        obtain ⟨q0, q1, qP, qK, qD, qJ⟩ := q
        exact ⟨q0, q1, qP, va_K.moved (u := U) (U := U.calling g mk a) (Vm.Alike.refl U.vm) qK, qD, TJ.same (u := U) (U := U.calling g mk a) rfl rfl qJ⟩) hrc.1 hrc.2 hR.1 hR.2 (fun w0 h0 a' U hW => by rcases List.mem_cons.mp h0 with rfl | h0 <;> exact word_at hW (tblG_good _ (by assumption)) (htg _ (by assumption))) List.mem_cons_self (fun a' U hW => word_at hW (tblG_good _ hini) (htg _ hini))
    obtain ⟨v, ⟨U', l2, c2, s2⟩, X', ⟨g', mk', t, L0, e1, e2, hq, h1, hL, h2, h3⟩, st⟩ := hBk m meth c ⟨T0.setVm vm₁, locs, k, n⟩ { F0 m pc ls (As.reverse ++ rest) with stack := rest } (.invokestatic idx) mk As.toArray X₁ rfl (hl.1.trans hml.symm) hdg (lv_room hrm) (X₁.named hnamed)
      ⟨hkn.1, hkn.2, rfl, by show T0.heap.size = _; rw [hT], by show va_P D vwCl ws0 T0.heap; rw [hT]; exact hPc, va_K.moved X₁.warmed.alike hK, hDc.weaken (fun _ _ _ _ => trivial), TJ.warm (u := s) X₁.warmed (fun q cell hq hs => by show T0.heap[q]? = some cell; rw [hT]; exact hkeep q cell hq hs) hTJ⟩
    dsimp only [Pt.U, Pt.locs, Pt.cells, Pt.slots] at X' e1 e2 h1 h2 h3 st
    subst h1; subst h2; subst h3
    exact ⟨v, (T0.setVm vm₁).calling g' mk' As.toArray, t, U', L0, hT, X', hL, e1, e2, hq, fun target ht => hstep₁ _ fun acts => by rw [doInvoke_state]; exact st.trans ht⟩
  refine va_calli hrun hS (fun q _ h => hFc q h) hFc (fun r1 u t H1 locs ht hvm hw hB hz1 hk1 hS => ?_)
  obtain ⟨hP1, hK1, hD1⟩ := hB
  rw [ht] at hP1
  obtain ⟨hP, hD⟩ := put_join hP hD isC hC hnd hle hk1 hFc hP1 hD1
  subst hw
  exact h K H1 locs ls hl hP hD hS
end VLaw
