def R_law : String := "RouterPathsLaw"
def lw_P (b : Addr) (xs : List Int32) (args : Array Value) (s : State) : Prop := args = #[.ref b] ∧ s.IntsAt b xs ∧ xs.length ≤ 3073 ∧ (Jvm.Cond.and given_1 narrow_1).before args s = true
def lw_Q (_ : Array Value) (s : State) (o : Outcome) (t : State) : Prop := o = .returned (some (.int 1)) ∧ Framed s o t [] 601024 7293000
def lw_Z (below : List Frame) (a : Array Value) (s : State) : State → Prop := fun t => ∃ o, t.status = .running ∧ Ended t below o ∧ lw_Q a s o t
/-- the law's own end, with 1 on the stack, nothing written that was there before, its room as the claim has it -/
theorem lw_ret {p : Program} {l : Launch} {e : Env} {s : State} {m : MethodId} {below : List Frame} {meth : Method} {c : Code} {b : Nat} (hx : p.tables.exec = Jvm.exec) (hb : c.code = code) (hr : meth.sig.returnType = ret) (hlocks : meth.locks = false) {pc : Nat} {H : Heap} {ls : Array Slot} (hdg : decode code pc = .ok (.ireturn, 1)) : W p l e room_1 s m #[Value.ref b] below meth c H [] 601024 7293000 (lw_Z below #[Value.ref b] s) (F0 m pc ls [.int 1]) := by
  intro T hT X
  obtain ⟨fs, hret, hrun, hended, hW, hframe⟩ := X.leave (v := some (.int 1)) (hlocks := hlocks) (fun h => by rw [hr] at h; cases h)
  have hmeth' : T.vm.method? m = some meth := X.method'
  refine ⟨T.setFrames fs, ?_, .returned (some (.int 1)), hrun, hended, rfl, ⟨_, rfl⟩, hW, hframe⟩
  jvm_step X.here [X.here.top, hx, hb, hdg, hmeth', hr, ret, narrow_b1]
  (try refine ⟨rfl, ?_⟩); (try refine ⟨rfl, ?_⟩)
  first | (intro acts; rw [hret _ acts rfl rfl rfl]) | rw [hret _ _ rfl rfl rfl]
  exact Steps.refl _
/-- what holds at the law's entry: the machine, the code, the tables' words (any of lw_tbl by 'hts w (by decide +kernel)'), the script of L ints xs at the cell b, what the Statement gives of the start (any of its parts by flat_of_before) -/
def lw_At (p : Program) (s : State) (m : MethodId) (meth : Method) (c : Code) (b L : Nat) (xs : Nat → Int32) : Prop :=
  p.tables.exec = Jvm.exec ∧ c.code = code ∧ meth.sig.returnType = ret ∧ c.maxLocals = 7 ∧ s.vm.findClass R_law = some m.cls ∧ (∀ w ∈ lw_tbl, w.before #[Value.ref b] s = true) ∧ va_X b L xs s s.heap ∧ b < s.heap.size ∧ meth.locks = false ∧ (Jvm.Cond.and given_1 narrow_1).before #[Value.ref b] s = true
theorem tw_UNASSIGNED_STACK : Cond.laysStatic Bundle.tN "UNASSIGNED_STACK" Bundle.steD ∈ lw_tbl := List.mem_of_getElem? (i := 400) (by decide +kernel)
theorem tw_SUPPRESSED_SENTINEL : Cond.laysStatic Bundle.tN "SUPPRESSED_SENTINEL" Bundle.listD ∈ lw_tbl := List.mem_of_getElem? (i := 402) (by decide +kernel)
theorem tw_cast0 : Cond.castable (exN 0) (exN 0) ∈ lw_tbl := List.mem_of_getElem? (i := 375) (by decide +kernel)
theorem tw_cast1 : Cond.castable (exN 1) (exN 1) ∈ lw_tbl := List.mem_of_getElem? (i := 443) (by decide +kernel)
theorem tw_cast2 : Cond.castable (exN 2) (exN 2) ∈ lw_tbl := List.mem_of_getElem? (i := 504) (by decide +kernel)
theorem tw_decl0 : Cond.declares (Bundle.initS (dcN 0)) ∈ lw_tbl := List.mem_of_getElem? (i := 377) (by decide +kernel)
theorem tw_decl1 : Cond.declares (Bundle.initS (dcN 1)) ∈ lw_tbl := List.mem_of_getElem? (i := 379) (by decide +kernel)
theorem tw_decl2 : Cond.declares (Bundle.initS (dcN 2)) ∈ lw_tbl := List.mem_of_getElem? (i := 381) (by decide +kernel)
theorem tw_str185 : Cond.stringRef RX6 185 "there is no such cell" ∈ lw_tbl := List.mem_of_getElem? (i := 414) (by decide +kernel)
theorem tw_str177 : Cond.stringRef RX6 177 "the last cell lies before the first" ∈ lw_tbl := List.mem_of_getElem? (i := 450) (by decide +kernel)
theorem tw_str71 : Cond.stringRef RX6 71 "the height is not 0 .. 100" ∈ lw_tbl := List.mem_of_getElem? (i := 457) (by decide +kernel)
theorem tw_str188 : Cond.stringRef RX6 188 "there is no such tool" ∈ lw_tbl := List.mem_of_getElem? (i := 484) (by decide +kernel)
theorem tw_str87 : Cond.stringRef RX6 87 "the radius is not 0 .. 6" ∈ lw_tbl := List.mem_of_getElem? (i := 485) (by decide +kernel)
theorem tw_str89 : Cond.stringRef RX6 89 "the feed is not 1 .. 10" ∈ lw_tbl := List.mem_of_getElem? (i := 486) (by decide +kernel)
theorem tw_str109 : Cond.stringRef RX6 109 "there is no program" ∈ lw_tbl := List.mem_of_getElem? (i := 511) (by decide +kernel)
theorem tw_str190 : Cond.stringRef RX6 190 "there is no such what" ∈ lw_tbl := List.mem_of_getElem? (i := 580) (by decide +kernel)
theorem tw_str123 : Cond.stringRef RX6 123 "there was no run" ∈ lw_tbl := List.mem_of_getElem? (i := 581) (by decide +kernel)
theorem tw_ao : Cond.arrayOver (.object "RouterPaths$Tool") ∈ lw_tbl := List.mem_of_getElem? (i := 103) (by decide +kernel)
theorem tw_acint : Cond.arrayClass .int ∈ lw_tbl := List.mem_of_getElem? (i := 100) (by decide +kernel)
theorem tw_acboolean : Cond.arrayClass .boolean ∈ lw_tbl := List.mem_of_getElem? (i := 101) (by decide +kernel)
theorem tw_acchar : Cond.arrayClass .char ∈ lw_tbl := List.mem_of_getElem? (i := 241) (by decide +kernel)
theorem tw_aclong : Cond.arrayClass .long ∈ lw_tbl := List.mem_of_getElem? (i := 822) (by decide +kernel)
theorem tw_inX0 : Cond.instantiable RX0 8 ∈ lw_tbl := List.mem_of_getElem? (i := 66) (by decide +kernel)
theorem tw_inX1 : Cond.instantiable RX1 8 ∈ lw_tbl := List.mem_of_getElem? (i := 142) (by decide +kernel)
theorem tw_inX2 : Cond.instantiable RX2 6 ∈ lw_tbl := List.mem_of_getElem? (i := 184) (by decide +kernel)
theorem tw_inX3 : Cond.instantiable RX3 6 ∈ lw_tbl := List.mem_of_getElem? (i := 209) (by decide +kernel)
theorem tw_inX4 : Cond.instantiable RX4 4 ∈ lw_tbl := List.mem_of_getElem? (i := 123) (by decide +kernel)
theorem tw_inX5 : Cond.instantiable RX5 3 ∈ lw_tbl := List.mem_of_getElem? (i := 104) (by decide +kernel)
theorem tw_inX6 : Cond.instantiable RX6 7 ∈ lw_tbl := List.mem_of_getElem? (i := 52) (by decide +kernel)
theorem tw_inX7 : Cond.instantiable RX7 23 ∈ lw_tbl := List.mem_of_getElem? (i := 634) (by decide +kernel)
theorem lw_tj {b : Nat} {s : State} (hts : ∀ w ∈ lw_tbl, w.before #[Value.ref b] s = true) (hgv : (Jvm.Cond.and given_1 narrow_1).before #[Value.ref b] s = true) : TJ s := by
  have hf := flat_of_before _ hgv
  refine ⟨⟨ZSt.of (hts _ tw_UNASSIGNED_STACK) (hf _ (by decide +kernel)), ZSt.of (hts _ tw_SUPPRESSED_SENTINEL) (hf _ (by decide +kernel)), ?_, ?_⟩, va_Nc.of (hf _ (by decide +kernel)), va_Nc.of (hf _ (by decide +kernel))⟩
  · intro k hk
    have hs : ∀ (k : Nat) (tx : String), (Cond.stringRef RX6 k tx).before #[Value.ref b] s = true → ∃ (tx : String) (q : Nat), vk_R RX6 k tx q s := by
      intro k tx h
      cases hc : s.vm.findClass RX6 with
      | none => simp [Cond.before, Cond.holds, Cond.value, hc] at h
      | some cur =>
        obtain ⟨-, -, -, a, -, -, -, -, -, hev⟩ := Cond.stringRef_spec hc h
        exact ⟨tx, a, vk_R.of h hev⟩
    rcases (show k = 71 ∨ k = 87 ∨ k = 89 ∨ k = 109 ∨ k = 123 ∨ k = 177 ∨ k = 185 ∨ k = 188 ∨ k = 190 by simpa [strIx] using hk) with rfl | rfl | rfl | rfl | rfl | rfl | rfl | rfl | rfl
    · exact hs _ _ (hts _ tw_str71)
    · exact hs _ _ (hts _ tw_str87)
    · exact hs _ _ (hts _ tw_str89)
    · exact hs _ _ (hts _ tw_str109)
    · exact hs _ _ (hts _ tw_str123)
    · exact hs _ _ (hts _ tw_str177)
    · exact hs _ _ (hts _ tw_str185)
    · exact hs _ _ (hts _ tw_str188)
    · exact hs _ _ (hts _ tw_str190)
  · intro k hk
    rcases (show k = 0 ∨ k = 1 ∨ k = 2 by omega) with rfl | rfl | rfl
    · exact ⟨va_Nw.of rfl (hts _ tw_cast0), va_Nw.of rfl (hts _ tw_decl0)⟩
    · exact ⟨va_Nw.of rfl (hts _ tw_cast1), va_Nw.of rfl (hts _ tw_decl1)⟩
    · exact ⟨va_Nw.of rfl (hts _ tw_cast2), va_Nw.of rfl (hts _ tw_decl2)⟩
theorem lw_tG {b : Nat} {s : State} (hts : ∀ w ∈ lw_tbl, w.before #[Value.ref b] s = true) : ∀ w ∈ tblG, w.before #[Value.ref b] s = true := fun w h => hts w (List.mem_filter.mp h).1
theorem lw_arr {ty : FieldType} {args : Array Value} {s : State} (h : (Cond.arrayClass ty).before args s = true) : ∃ cA : ClassId, ArrOfT s cA ty ∧ s.vm.findClass ("[" ++ ty.toString) = some cA := by
  obtain ⟨cA, kA, comp, h1, h2, h3⟩ := Cond.arrayClass_spec h
  exact ⟨cA, fun n z => ⟨fun k h => (by cases h), kA, h2, comp, h3⟩, h1⟩
theorem lw_arrQ {C : String} {args : Array Value} {s : State} (h : (Cond.arrayOver (.object C)).before args s = true) : ∃ cA : ClassId, ArrOfT s cA (.object C) ∧ va_RA s cA (.object C) := by
  obtain ⟨comp, cA, kA, h1, h2, h3, h4, h5⟩ := Cond.arrayOver_spec h
  exact ⟨cA, fun n z => ⟨fun k h => (by cases h), kA, h3, comp, h4⟩, kA, comp, h3, h4, h1, h5⟩
def tl5 {α : Type} (a b c d e : α) : Nat → α := fun j => match j with
  | 0 => a
  | 1 => b
  | 2 => c
  | 3 => d
  | _ => e
def tl8 {α : Type} (a b c d e f g h : α) : Nat → α := fun j => match j with
  | 0 => a
  | 1 => b
  | 2 => c
  | 3 => d
  | 4 => e
  | 5 => f
  | 6 => g
  | _ => h
theorem lw_k {b : Nat} {s : State} (hts : ∀ w ∈ lw_tbl, w.before #[Value.ref b] s = true) : ∃ (D : va_G) (cA : Nat → ClassId), va_K D vwCl (tys cA) s := by
  obtain ⟨c0, i0, k0⟩ := u_known (C := RX0) (T := TX0) (N := 8) (n := 8) (lw_tG hts) inX0 (hts _ tw_inX0)
  obtain ⟨c1, i1, k1⟩ := u_known (C := RX1) (T := TX1) (N := 8) (n := 8) (lw_tG hts) inX1 (hts _ tw_inX1)
  obtain ⟨c2, i2, k2⟩ := u_known (C := RX2) (T := TX2) (N := 6) (n := 6) (lw_tG hts) inX2 (hts _ tw_inX2)
  obtain ⟨c3, i3, k3⟩ := u_known (C := RX3) (T := TX3) (N := 6) (n := 6) (lw_tG hts) inX3 (hts _ tw_inX3)
  obtain ⟨c4, i4, k4⟩ := u_known (C := RX4) (T := TX4) (N := 4) (n := 4) (lw_tG hts) inX4 (hts _ tw_inX4)
  obtain ⟨c5, i5, k5⟩ := u_known (C := RX5) (T := TX5) (N := 3) (n := 3) (lw_tG hts) inX5 (hts _ tw_inX5)
  obtain ⟨c6, i6, k6⟩ := u_known (C := RX6) (T := TX6) (N := 7) (n := 7) (lw_tG hts) inX6 (hts _ tw_inX6)
  obtain ⟨c7, i7, k7⟩ := u_known (C := RX7) (T := TX7) (N := 23) (n := 23) (lw_tG hts) inX7 (hts _ tw_inX7)
  obtain ⟨a0, r0, s0⟩ := lw_arr (hts _ tw_acint)
  obtain ⟨a1, r1, s1⟩ := lw_arr (hts _ tw_acboolean)
  obtain ⟨a2, r2, s2⟩ := lw_arr (hts _ tw_acchar)
  obtain ⟨a3, r3, s3⟩ := lw_arr (hts _ tw_aclong)
  obtain ⟨a4, r4, s4⟩ := lw_arrQ (hts _ tw_ao)
  refine ⟨(tl8 c0 c1 c2 c3 c4 c5 c6 c7, tl8 i0 i1 i2 i3 i4 i5 i6 i7), tl5 a0 a1 a2 a3 a4, ?_, ?_⟩
  · intro c q hq
    match c, hq with
    | 0, hq => cases hq; exact k0
    | 1, hq => cases hq; exact k1
    | 2, hq => cases hq; exact k2
    | 3, hq => cases hq; exact k3
    | 4, hq => cases hq; exact k4
    | 5, hq => cases hq; exact k5
    | 6, hq => cases hq; exact k6
    | 7, hq => cases hq; exact k7
    | c + 8, hq => simp [vwCl] at hq
  · intro c q hq
    match c, hq with
    | 0, hq => cases hq; exact ⟨r0, s0⟩
    | 1, hq => cases hq; exact ⟨r1, s1⟩
    | 2, hq => cases hq; exact ⟨r2, s2⟩
    | 3, hq => cases hq; exact ⟨r3, s3⟩
    | 4, hq => cases hq; exact ⟨r4, s4⟩
    | c + 5, hq => simp [tys] at hq
theorem law_end {p : Program} {l : Launch} {e : Env} {s : State} {m : MethodId} {below : List Frame} {meth : Method} {c : Code} {b : Nat} {D : va_G} {cA : Nat → ClassId} {k n : Nat} {lv : List (Nat × Value)} {ws : va_W} (hk : k ≤ room_1.cells) (hn : n ≤ room_1.slots) : V (p, e, s, m, #[Value.ref b], below, meth, c, (fun q => s.heap.size ≤ q), lw_Z below #[Value.ref b] s) false l D cA room_1 cL_law 7 RL (some .boolean) k n 716 lv [] ws := by
  refine z_iconst (pc := 716) (v := 1) dL_law_716 (by decide) ?_
  intro K H locs ls hl hP hD hS
  refine va_forget hS.2.2 ?_
  exact W.widen hk hn (lw_ret K.1 K.2.1 K.2.2.2.2.2.1 K.2.2.2.2.2.2.1 dL_law_717)
