/-! law.cell(script, 0): the first int of the script, or 0 -/
def CtS (l : Launch) (y : MethodName) (w : List Cond) (rm : Room) (b L : Nat) (xs : Nat → Int32) (r : Int32) : Prop :=
  Met l y w rm (va_Pc [.ref b, .int 0] (fun U => va_X b L xs U U.heap ∧ b < U.heap.size)) (fun _ st oc t => oc = .returned (some (.int r)) ∧ t.heap = st.heap) 0 0 (fun _ => False)
abbrev rmL_cell1 : Room := { frames := 0, cells := 0, slots := 0, locals := 0 }
def fL_cell1 (L : Nat) (xs : Nat → Int32) : Int32 := if L = 0 then 0 else xs 0
set_option maxHeartbeats 4000000 in
theorem kL_cell1 (l : Launch) (b L : Nat) (xs : Nat → Int32) (hL : L ≤ 3073) : CtS l yL_cell1 (Cond.code yL_cell1 cL_cell1 2 (some .int) :: tblG) rmL_cell1 b L xs (fL_cell1 L xs) := by
  refine Met.ofW (cc := cL_cell1) (maxL := 2) (ret := some .int) (by decide) rfl ?_
  intro p e s m args below meth c s₁ B hml hv
  obtain ⟨rfl, hX, hbl⟩ := hv
  have hx := B.exec
  have hb := B.bytes
  have hr := B.returns
  have hlocks := B.notSynchronized
  have hl := lv_entry ([.ref b, .int 0]) (n := 2) (Nat.le_of_ble_eq_true rfl)
  rw [lg_entry_eq]
  generalize (lg_sl ([.ref b, .int 0]) ++ List.replicate (2 - (lg_sl ([.ref b, .int 0])).length) Slot.unset).toArray = ls at hl ⊢
  have hl : lv_has ls 2 [(0, .ref b), (1, .int 0)] := hl
  have hS : va_S (fun q : Nat => s.heap.size ≤ q) s.heap s.heap [] := va_S.rf
  have hbA : ¬ (fun q : Nat => s.heap.size ≤ q) b := Nat.not_le.mpr hbl
  refine lv_iload_n hx hb dL_cell1_0 rfl (lv_at hl 1 rfl) ?_
  refine lv_aload_n hx hb dL_cell1_1 rfl (lv_at hl 0 rfl) ?_
  refine va_slen hx hb hX hbl hbA hS dL_cell1_2 ?_
  refine lv_icmp_ge (tgt := 12) hx hb dL_cell1_3 (by decide) (fun h0 => ?_) (fun h0 => ?_)
  · have hL0 : L = 0 := by
      rcases Nat.eq_zero_or_pos L with h | h
      · exact h
      · exact absurd h0 (nI_nle h (by omega))
    refine lv_iconst (v := 0) hx hb dL_cell1_12 (by decide) ?_
    exact W.iret (v := 0) hx hb hr (fun t ht hW => ⟨by rw [fL_cell1, if_pos hL0], ht⟩) (fun q h => by cases h) dL_cell1_13
  · have hL1 : ¬ L = 0 := fun h => h0 (by rw [h]; decide)
    refine lv_aload_n hx hb dL_cell1_6 rfl (lv_at hl 0 rfl) ?_
    refine lv_iload_n hx hb dL_cell1_7 rfl (lv_at hl 1 rfl) ?_
    refine va_sld hx hb hX hbl hbA hS (i := 0) (vp_in_nI (n := 0) (N := L) (by omega) (by omega)) dL_cell1_8 ?_
    refine lv_goto (tgt := 13) hx hb dL_cell1_9 (by decide) ?_
    exact W.iret (v := xs 0) hx hb hr (fun t ht hW => ⟨by rw [fL_cell1, if_neg hL1], ht⟩) (fun q h => by cases h) dL_cell1_13
section VCell
variable {κ : Ctx} {l : Launch} {D : va_G} {cA : Nat → ClassId} {R : Room} {cc : ByteArray} {nL : Nat} {own : String} {ret : Option FieldType} {k n : Nat} {pc : Nat} {lv : List (Nat × Value)} {stk rest : List Value} {ws : va_W} {b L : Nat} {xs : Nat → Int32}
theorem z_cell1 {idx : Nat} (hX : LawK κ b L xs) (hL : L ≤ 3073) (hI : InS own idx yL_cell1 cL_cell1 2 (some .int) 2) (hR : 1 ≤ R.frames ∧ 21 ≤ R.locals) (hkn : k ≤ R.cells ∧ n ≤ R.slots) (hstk : stk = .int 0 :: .ref b :: rest) (hrm : (rest.map fun v => v.category).sum ≤ 8) (hdg : decode cc pc = .ok (.invokestatic idx, 3))
    (h : V κ false l D cA R cc nL own ret k n (pc + 3) lv (.int (fL_cell1 L xs) :: rest) ws) : V κ false l D cA R cc nL own ret k n pc lv stk ws := by
  obtain ⟨p, e, s, m, ar, below, meth, c, A, Q⟩ := κ
  intro K H locs ls hl hP hD hS
  obtain ⟨hX, hbl, hA', -⟩ : va_X b L xs s s.heap ∧ _ ∧ _ ∧ _ := hX
  obtain ⟨hx, hb, hml, hown, htg, hr, hlocks, hK, hA⟩ := id K
  subst hstk
  have hXH : va_X b L xs s H := hX.kept (hS.2.1 b hbl (fun z => Nat.not_le.mpr hbl (hA' b z)))
  intro T0 hT X
  obtain ⟨v, st₀, t, T', L0, h0, X', hL0, e1, e2, ⟨hv, hh⟩, st⟩ := va_runS (As := [.ref b, .int 0]) (rest := rest) (H := H) (locs := locs) (cells := k) (slots := n) (g := F0 m pc ls (.int 0 :: .ref b :: rest)) ⟨hx, hb, hml, hown, htg⟩ (kL_cell1 l b L xs hL) ⟨callB_of 2 htg (good_cons hI.2.2.2.1) rfl rfl rfl (htg _ hI.2.2.1) (htg _ hI.1) hI.2.2.2.2 ⟨hR.1, by show 8 + (2 + 11) + 0 ≤ _; exact hR.2⟩, htg _ hI.2.1⟩ ⟨fun a U g mk q => q, fun U hU hW => ⟨rfl, by rw [hU]; exact hXH.moved hW.alike, by rw [hU]; exact Nat.lt_of_lt_of_le hbl hS.1⟩⟩ rfl rfl hl.1 rfl (lv_room hrm) hdg ⟨by simpa using hkn.1, by simpa using hkn.2⟩ T0 hT X
  cases hv
  have hLn : L0 = [] := by
    cases L0 with
    | nil => rfl
    | cons q L1 => exact (hL0 q List.mem_cons_self).elim
  subst hLn
  rw [List.append_nil] at X'
  obtain ⟨t2, a1, b1⟩ := h K H locs ls hl hP hD hS T' (by rw [e1, hh, h0]) X'
  exact ⟨t2, st t2 a1, b1⟩
end VCell
