
set_option maxHeartbeats 4000000 in
set_option maxRecDepth 100000 in
theorem k0X0_holds (l : Launch) (D : va_G) (cA : Nat → ClassId) (h_o : Nat) (o_side : Int32) (o_cells : Int32) (o_heights : Value) (o_targets : Value) (o_kept : Value) (o_marks : Value) (o_disc : Value) (o_discSize : Int32) (a1 : Int32) (a2 : Int32) (N : Nat) (res : RX0_holds) (hf0 : fX0_holds N a1 a2 o_side = some res) : CtI0 l yX0_holds (Cond.code yX0_holds cX0_holds 3 (some .boolean) :: tblG) rmX0_holds D cA (wsX0_holds cA h_o o_side o_cells o_heights o_targets o_kept o_marks o_disc o_discSize) [.ref h_o, .int a1, .int a2] res := by
  refine CtI0.start (lv := [(0, .ref h_o), (1, .int a1), (2, .int a2)]) (by decide) (Nat.le_of_ble_eq_true rfl) rfl (fun κ hE => ?_)
  rw [fX0_holds] at hf0
  refine z_iload_n 1 (pc := 0) dX0_holds_0 rfl ?_
  refine z_if_lt (pc := 1) (tgt := 28) dX0_holds_1 (by decide) hf0 (fun hf0 => ?_) (fun hf0 => ?_)
  · refine z_iconst (pc := 28) (v := 0) dX0_holds_28 (by decide) ?_
    obtain rfl := Option.some.inj hf0
    exact z_zret0L (by decide) hE dX0_holds_29
  · refine z_iload_n 1 (pc := 4) dX0_holds_4 rfl ?_
    refine z_aload_n 0 (pc := 5) dX0_holds_5 rfl ?_
    refine z_get 0 0 (pc := 6) (v := .int o_side) rfl rfl inX0 (by decide) flX0_9 rfl dX0_holds_6 ?_
    refine z_icmp_ge (pc := 9) (tgt := 28) dX0_holds_9 (by decide) hf0 (fun hf0 => ?_) (fun hf0 => ?_)
    · refine z_iconst (pc := 28) (v := 0) dX0_holds_28 (by decide) ?_
      obtain rfl := Option.some.inj hf0
      exact z_zret0L (by decide) hE dX0_holds_29
    · refine z_iload_n 2 (pc := 12) dX0_holds_12 rfl ?_
      refine z_if_lt (pc := 13) (tgt := 28) dX0_holds_13 (by decide) hf0 (fun hf0 => ?_) (fun hf0 => ?_)
      · refine z_iconst (pc := 28) (v := 0) dX0_holds_28 (by decide) ?_
        obtain rfl := Option.some.inj hf0
        exact z_zret0L (by decide) hE dX0_holds_29
      · refine z_iload_n 2 (pc := 16) dX0_holds_16 rfl ?_
        refine z_aload_n 0 (pc := 17) dX0_holds_17 rfl ?_
        refine z_get 0 0 (pc := 18) (v := .int o_side) rfl rfl inX0 (by decide) flX0_9 rfl dX0_holds_18 ?_
        refine z_icmp_ge (pc := 21) (tgt := 28) dX0_holds_21 (by decide) hf0 (fun hf0 => ?_) (fun hf0 => ?_)
        · refine z_iconst (pc := 28) (v := 0) dX0_holds_28 (by decide) ?_
          obtain rfl := Option.some.inj hf0
          exact z_zret0L (by decide) hE dX0_holds_29
        · refine z_iconst (pc := 24) (v := 1) dX0_holds_24 (by decide) ?_
          refine z_goto (pc := 25) (tgt := 29) dX0_holds_25 (by decide) ?_
          obtain rfl := Option.some.inj hf0
          exact z_zret0L (by decide) hE dX0_holds_29
abbrev RBX6_demandCell : Type := Unit
abbrev rtX6_demandCell : Room := { frames := 6, cells := 1, slots := 6, locals := 90 }
abbrev RX6_demandCell : Type := Nat ⊕ (Unit)
abbrev rmX6_demandCell : Room := { frames := 1, cells := 0, slots := 0, locals := 22 }
abbrev wsX6_demandCell (cA : Nat → ClassId) (h_o : Nat) (h_o_grid : Nat) (o_tools : Value) (o_reader : Value) (o_machine : Value) (o_pieceCounter : Value) (o_program : Value) (o_draft : Value) (o_grid_side : Int32) (o_grid_cells : Int32) (o_grid_heights : Value) (o_grid_targets : Value) (o_grid_kept : Value) (o_grid_marks : Value) (o_grid_disc : Value) (o_grid_discSize : Int32) : va_W := [(h_o, .inr (6, [.ref h_o_grid, o_tools, o_reader, o_machine, o_pieceCounter, o_program, o_draft])), (h_o_grid, .inr (0, [.int o_grid_side, .int o_grid_cells, o_grid_heights, o_grid_targets, o_grid_kept, o_grid_marks, o_grid_disc, .int o_grid_discSize]))]
def fX6_demandCell (N : Nat) (a1 : Int32) (a2 : Int32) (o_grid_side : Int32) : Option RX6_demandCell :=
  ((fX0_holds N a1 a2 o_grid_side).bind fun r1 => (if r1 = 0 then some (.inl 0) else some (.inr ())))
set_option maxHeartbeats 4000000 in
set_option maxRecDepth 100000 in
theorem k0X6_demandCell (l : Launch) (D : va_G) (cA : Nat → ClassId) (h_o : Nat) (h_o_grid : Nat) (o_tools : Value) (o_reader : Value) (o_machine : Value) (o_pieceCounter : Value) (o_program : Value) (o_draft : Value) (o_grid_side : Int32) (o_grid_cells : Int32) (o_grid_heights : Value) (o_grid_targets : Value) (o_grid_kept : Value) (o_grid_marks : Value) (o_grid_disc : Value) (o_grid_discSize : Int32) (a1 : Int32) (a2 : Int32) (N : Nat) (res : RBX6_demandCell) (hf0 : fX6_demandCell N a1 a2 o_grid_side = some (.inr res)) : CtV0 l yX6_demandCell (Cond.code yX6_demandCell cX6_demandCell 3 (none) :: tblG) rmX6_demandCell D cA (wsX6_demandCell cA h_o h_o_grid o_tools o_reader o_machine o_pieceCounter o_program o_draft o_grid_side o_grid_cells o_grid_heights o_grid_targets o_grid_kept o_grid_marks o_grid_disc o_grid_discSize) [.ref h_o, .int a1, .int a2]  := by
  refine CtV0.start (lv := [(0, .ref h_o), (1, .int a1), (2, .int a2)]) (by decide) (Nat.le_of_ble_eq_true rfl) rfl (fun κ hE => ?_)
  rw [fX6_demandCell] at hf0
  refine z_aload_n 0 (pc := 0) dX6_demandCell_0 rfl ?_
  refine z_get 0 0 (pc := 1) (v := .ref h_o_grid) rfl rfl inX6 (by decide) flX6_23 rfl dX6_demandCell_1 ?_
  refine z_iload_n 1 (pc := 4) dX6_demandCell_4 rfl ?_
  refine z_iload_n 2 (pc := 5) dX6_demandCell_5 rfl ?_
  obtain ⟨r1, er1, hf0⟩ := bp hf0
  refine z_calli0V (pc := 6) (As := [.int a1, .int a2]) (rest := []) (k0X0_holds l D cA h_o_grid o_grid_side o_grid_cells o_grid_heights o_grid_targets o_grid_kept o_grid_marks o_grid_disc o_grid_discSize a1 a2 N r1 er1) ivX6_179 ⟨rfl, rfl⟩ ⟨by decide, by decide⟩ rfl ⟨Nat.zero_le _, Nat.zero_le _⟩ rfl rfl [1] rfl (by decide) rfl (Nat.le_of_ble_eq_true rfl) dX6_demandCell_6 ?_
  refine z_if_ne (pc := 9) (tgt := 22) dX6_demandCell_9 (by decide) hf0 (fun hf0 => ?_) (fun hf0 => ?_)
  · obtain rfl := Sum.inr.inj (Option.some.inj hf0)
    exact z_vret0 hE dX6_demandCell_22
  · cases hf0

set_option maxHeartbeats 4000000 in
set_option maxRecDepth 100000 in
theorem tX6_demandCell (l : Launch) (D : va_G) (cA : Nat → ClassId) (h_o : Nat) (h_o_grid : Nat) (o_tools : Value) (o_reader : Value) (o_machine : Value) (o_pieceCounter : Value) (o_program : Value) (o_draft : Value) (o_grid_side : Int32) (o_grid_cells : Int32) (o_grid_heights : Value) (o_grid_targets : Value) (o_grid_kept : Value) (o_grid_marks : Value) (o_grid_disc : Value) (o_grid_discSize : Int32) (a1 : Int32) (a2 : Int32) (N : Nat) (kx : Nat) (hf0 : fX6_demandCell N a1 a2 o_grid_side = some (.inl kx)) (hfl : l.flags = pinnedFlags ++ [noTraceFlag]) : CtT l yX6_demandCell (Cond.code yX6_demandCell cX6_demandCell 3 (none) :: tblG) rtX6_demandCell D cA (wsX6_demandCell cA h_o h_o_grid o_tools o_reader o_machine o_pieceCounter o_program o_draft o_grid_side o_grid_cells o_grid_heights o_grid_targets o_grid_kept o_grid_marks o_grid_disc o_grid_discSize) [.ref h_o, .int a1, .int a2] kx := by
  refine CtT.start (lv := [(0, .ref h_o), (1, .int a1), (2, .int a2)]) (by decide) (Nat.le_of_ble_eq_true rfl) rfl (fun κ hE => ?_)
  rw [fX6_demandCell] at hf0
  refine z_aload_n 0 (pc := 0) dX6_demandCell_0 rfl ?_
  refine z_get 0 0 (pc := 1) (v := .ref h_o_grid) rfl rfl inX6 (by decide) flX6_23 rfl dX6_demandCell_1 ?_
  refine z_iload_n 1 (pc := 4) dX6_demandCell_4 rfl ?_
  refine z_iload_n 2 (pc := 5) dX6_demandCell_5 rfl ?_
  obtain ⟨r1, er1, hf0⟩ := bp hf0
  refine z_calli0V (pc := 6) (As := [.int a1, .int a2]) (rest := []) (k0X0_holds l D cA h_o_grid o_grid_side o_grid_cells o_grid_heights o_grid_targets o_grid_kept o_grid_marks o_grid_disc o_grid_discSize a1 a2 N r1 er1) ivX6_179 ⟨rfl, rfl⟩ ⟨by decide, by decide⟩ rfl ⟨Nat.zero_le _, Nat.zero_le _⟩ rfl rfl [1] rfl (by decide) rfl (Nat.le_of_ble_eq_true rfl) dX6_demandCell_6 ?_
  refine z_if_ne (pc := 9) (tgt := 22) dX6_demandCell_9 (by decide) hf0 (fun hf0 => ?_) (fun hf0 => ?_)
  · exact absurd hf0 (by repeat' (first | with_reducible exact nr_inr | with_reducible exact nr_none | with_reducible refine nr_ite ?_ ?_ | with_reducible refine nr_bind (fun _ => ?_)))
  · obtain rfl := Sum.inl.inj (Option.some.inj hf0)
    exact z_throw (pc := 12) (li := 185) hfl rfl (by decide) (by decide +kernel) xcl_183 xin_0 xii_0 xoa_187 hE ⟨by decide, by decide, by decide, Nat.le_of_ble_eq_true rfl⟩ dX6_demandCell_12 dX6_demandCell_15 dX6_demandCell_16 dX6_demandCell_18 dX6_demandCell_21
abbrev RBX6_demandBlock : Type := Unit
abbrev rtX6_demandBlock : Room := { frames := 7, cells := 1, slots := 6, locals := 112 }
abbrev RX6_demandBlock : Type := Nat ⊕ (Unit)
abbrev rmX6_demandBlock : Room := { frames := 2, cells := 0, slots := 0, locals := 44 }
abbrev wsX6_demandBlock (cA : Nat → ClassId) (h_o : Nat) (h_o_grid : Nat) (o_tools : Value) (o_reader : Value) (o_machine : Value) (o_pieceCounter : Value) (o_program : Value) (o_draft : Value) (o_grid_side : Int32) (o_grid_cells : Int32) (o_grid_heights : Value) (o_grid_targets : Value) (o_grid_kept : Value) (o_grid_marks : Value) (o_grid_disc : Value) (o_grid_discSize : Int32) : va_W := [(h_o, .inr (6, [.ref h_o_grid, o_tools, o_reader, o_machine, o_pieceCounter, o_program, o_draft])), (h_o_grid, .inr (0, [.int o_grid_side, .int o_grid_cells, o_grid_heights, o_grid_targets, o_grid_kept, o_grid_marks, o_grid_disc, .int o_grid_discSize]))]
def fX6_demandBlock (N : Nat) (a1 : Int32) (a2 : Int32) (a3 : Int32) (a4 : Int32) (o_grid_side : Int32) : Option RX6_demandBlock :=
  ((fX6_demandCell N a1 a2 o_grid_side).bind fun r1 => Sum.elim (fun k => some (.inl k)) (fun r1v => ((fX6_demandCell N a3 a4 o_grid_side).bind fun r2 => Sum.elim (fun k => some (.inl k)) (fun r2v => (if a3 < a1 then some (.inl 1) else (if a2 ≤ a4 then some (.inr ()) else some (.inl 1)))) r2)) r1)
set_option maxHeartbeats 4000000 in
set_option maxRecDepth 100000 in
theorem k0X6_demandBlock (l : Launch) (D : va_G) (cA : Nat → ClassId) (h_o : Nat) (h_o_grid : Nat) (o_tools : Value) (o_reader : Value) (o_machine : Value) (o_pieceCounter : Value) (o_program : Value) (o_draft : Value) (o_grid_side : Int32) (o_grid_cells : Int32) (o_grid_heights : Value) (o_grid_targets : Value) (o_grid_kept : Value) (o_grid_marks : Value) (o_grid_disc : Value) (o_grid_discSize : Int32) (a1 : Int32) (a2 : Int32) (a3 : Int32) (a4 : Int32) (N : Nat) (res : RBX6_demandBlock) (hf0 : fX6_demandBlock N a1 a2 a3 a4 o_grid_side = some (.inr res)) : CtV0 l yX6_demandBlock (Cond.code yX6_demandBlock cX6_demandBlock 5 (none) :: tblG) rmX6_demandBlock D cA (wsX6_demandBlock cA h_o h_o_grid o_tools o_reader o_machine o_pieceCounter o_program o_draft o_grid_side o_grid_cells o_grid_heights o_grid_targets o_grid_kept o_grid_marks o_grid_disc o_grid_discSize) [.ref h_o, .int a1, .int a2, .int a3, .int a4]  := by
  refine CtV0.start (lv := [(0, .ref h_o), (1, .int a1), (2, .int a2), (3, .int a3), (4, .int a4)]) (by decide) (Nat.le_of_ble_eq_true rfl) rfl (fun κ hE => ?_)
  rw [fX6_demandBlock] at hf0
  refine z_aload_n 0 (pc := 0) dX6_demandBlock_0 rfl ?_
  refine z_iload_n 1 (pc := 1) dX6_demandBlock_1 rfl ?_
  refine z_iload_n 2 (pc := 2) dX6_demandBlock_2 rfl ?_
  obtain ⟨r1, er1, hf0⟩ := bp hf0
  rcases r1 with r1k | r1v
  · have hs := sum_inl hf0; cases hs
  replace hf0 := sum_inr hf0
  refine z_callv0V (pc := 3) (As := [.int a1, .int a2]) (rest := []) (k0X6_demandCell l D cA h_o h_o_grid o_tools o_reader o_machine o_pieceCounter o_program o_draft o_grid_side o_grid_cells o_grid_heights o_grid_targets o_grid_kept o_grid_marks o_grid_disc o_grid_discSize a1 a2 N r1v er1) ivX6_143 ⟨rfl, rfl⟩ ⟨by decide, by decide⟩ rfl ⟨Nat.zero_le _, Nat.zero_le _⟩ rfl rfl [0, 1] rfl (by decide) rfl (Nat.le_of_ble_eq_true rfl) dX6_demandBlock_3 ?_
  refine z_aload_n 0 (pc := 6) dX6_demandBlock_6 rfl ?_
  refine z_iload_n 3 (pc := 7) dX6_demandBlock_7 rfl ?_
  refine z_iload 4 (pc := 8) dX6_demandBlock_8 rfl ?_
  obtain ⟨r2, er2, hf0⟩ := bp hf0
  rcases r2 with r2k | r2v
  · have hs := sum_inl hf0; cases hs
  replace hf0 := sum_inr hf0
  refine z_callv0V (pc := 10) (As := [.int a3, .int a4]) (rest := []) (k0X6_demandCell l D cA h_o h_o_grid o_tools o_reader o_machine o_pieceCounter o_program o_draft o_grid_side o_grid_cells o_grid_heights o_grid_targets o_grid_kept o_grid_marks o_grid_disc o_grid_discSize a3 a4 N r2v er2) ivX6_143 ⟨rfl, rfl⟩ ⟨by decide, by decide⟩ rfl ⟨Nat.zero_le _, Nat.zero_le _⟩ rfl rfl [0, 1] rfl (by decide) rfl (Nat.le_of_ble_eq_true rfl) dX6_demandBlock_10 ?_
  refine z_iload_n 3 (pc := 13) dX6_demandBlock_13 rfl ?_
  refine z_iload_n 1 (pc := 14) dX6_demandBlock_14 rfl ?_
  refine z_icmp_lt (pc := 15) (tgt := 24) dX6_demandBlock_15 (by decide) hf0 (fun hf0 => ?_) (fun hf0 => ?_)
  · cases hf0
  · refine z_iload 4 (pc := 18) dX6_demandBlock_18 rfl ?_
    refine z_iload_n 2 (pc := 20) dX6_demandBlock_20 rfl ?_
    refine z_icmp_ge (pc := 21) (tgt := 34) dX6_demandBlock_21 (by decide) hf0 (fun hf0 => ?_) (fun hf0 => ?_)
    · obtain rfl := Sum.inr.inj (Option.some.inj hf0)
      exact z_vret0 hE dX6_demandBlock_34
    · cases hf0

set_option maxHeartbeats 4000000 in
set_option maxRecDepth 100000 in
theorem tX6_demandBlock (l : Launch) (D : va_G) (cA : Nat → ClassId) (h_o : Nat) (h_o_grid : Nat) (o_tools : Value) (o_reader : Value) (o_machine : Value) (o_pieceCounter : Value) (o_program : Value) (o_draft : Value) (o_grid_side : Int32) (o_grid_cells : Int32) (o_grid_heights : Value) (o_grid_targets : Value) (o_grid_kept : Value) (o_grid_marks : Value) (o_grid_disc : Value) (o_grid_discSize : Int32) (a1 : Int32) (a2 : Int32) (a3 : Int32) (a4 : Int32) (N : Nat) (kx : Nat) (hf0 : fX6_demandBlock N a1 a2 a3 a4 o_grid_side = some (.inl kx)) (hfl : l.flags = pinnedFlags ++ [noTraceFlag]) : CtT l yX6_demandBlock (Cond.code yX6_demandBlock cX6_demandBlock 5 (none) :: tblG) rtX6_demandBlock D cA (wsX6_demandBlock cA h_o h_o_grid o_tools o_reader o_machine o_pieceCounter o_program o_draft o_grid_side o_grid_cells o_grid_heights o_grid_targets o_grid_kept o_grid_marks o_grid_disc o_grid_discSize) [.ref h_o, .int a1, .int a2, .int a3, .int a4] kx := by
  refine CtT.start (lv := [(0, .ref h_o), (1, .int a1), (2, .int a2), (3, .int a3), (4, .int a4)]) (by decide) (Nat.le_of_ble_eq_true rfl) rfl (fun κ hE => ?_)
  rw [fX6_demandBlock] at hf0
  refine z_aload_n 0 (pc := 0) dX6_demandBlock_0 rfl ?_
  refine z_iload_n 1 (pc := 1) dX6_demandBlock_1 rfl ?_
  refine z_iload_n 2 (pc := 2) dX6_demandBlock_2 rfl ?_
  obtain ⟨r1, er1, hf0⟩ := bp hf0
  rcases r1 with r1k | r1v
  · have hs := sum_inl hf0
    obtain rfl := Sum.inl.inj (Option.some.inj hs)
    exact z_callTV (pc := 3) (As := [.int a1, .int a2]) (rest := []) (tX6_demandCell l D cA h_o h_o_grid o_tools o_reader o_machine o_pieceCounter o_program o_draft o_grid_side o_grid_cells o_grid_heights o_grid_targets o_grid_kept o_grid_marks o_grid_disc o_grid_discSize a1 a2 N r1k er1 hfl) ivX6_143 ⟨rfl, rfl⟩ ⟨by decide, by decide⟩ rfl ⟨by decide, by decide⟩ rfl rfl [0, 1] rfl (by decide) rfl (Nat.le_of_ble_eq_true rfl) dX6_demandBlock_3 hE
  replace hf0 := sum_inr hf0
  refine z_callv0V (pc := 3) (As := [.int a1, .int a2]) (rest := []) (k0X6_demandCell l D cA h_o h_o_grid o_tools o_reader o_machine o_pieceCounter o_program o_draft o_grid_side o_grid_cells o_grid_heights o_grid_targets o_grid_kept o_grid_marks o_grid_disc o_grid_discSize a1 a2 N r1v er1) ivX6_143 ⟨rfl, rfl⟩ ⟨by decide, by decide⟩ rfl ⟨Nat.zero_le _, Nat.zero_le _⟩ rfl rfl [0, 1] rfl (by decide) rfl (Nat.le_of_ble_eq_true rfl) dX6_demandBlock_3 ?_
  refine z_aload_n 0 (pc := 6) dX6_demandBlock_6 rfl ?_
  refine z_iload_n 3 (pc := 7) dX6_demandBlock_7 rfl ?_
  refine z_iload 4 (pc := 8) dX6_demandBlock_8 rfl ?_
  obtain ⟨r2, er2, hf0⟩ := bp hf0
  rcases r2 with r2k | r2v
  · have hs := sum_inl hf0
    obtain rfl := Sum.inl.inj (Option.some.inj hs)
    exact z_callTV (pc := 10) (As := [.int a3, .int a4]) (rest := []) (tX6_demandCell l D cA h_o h_o_grid o_tools o_reader o_machine o_pieceCounter o_program o_draft o_grid_side o_grid_cells o_grid_heights o_grid_targets o_grid_kept o_grid_marks o_grid_disc o_grid_discSize a3 a4 N r2k er2 hfl) ivX6_143 ⟨rfl, rfl⟩ ⟨by decide, by decide⟩ rfl ⟨by decide, by decide⟩ rfl rfl [0, 1] rfl (by decide) rfl (Nat.le_of_ble_eq_true rfl) dX6_demandBlock_10 hE
  replace hf0 := sum_inr hf0
  refine z_callv0V (pc := 10) (As := [.int a3, .int a4]) (rest := []) (k0X6_demandCell l D cA h_o h_o_grid o_tools o_reader o_machine o_pieceCounter o_program o_draft o_grid_side o_grid_cells o_grid_heights o_grid_targets o_grid_kept o_grid_marks o_grid_disc o_grid_discSize a3 a4 N r2v er2) ivX6_143 ⟨rfl, rfl⟩ ⟨by decide, by decide⟩ rfl ⟨Nat.zero_le _, Nat.zero_le _⟩ rfl rfl [0, 1] rfl (by decide) rfl (Nat.le_of_ble_eq_true rfl) dX6_demandBlock_10 ?_
  refine z_iload_n 3 (pc := 13) dX6_demandBlock_13 rfl ?_
  refine z_iload_n 1 (pc := 14) dX6_demandBlock_14 rfl ?_
  refine z_icmp_lt (pc := 15) (tgt := 24) dX6_demandBlock_15 (by decide) hf0 (fun hf0 => ?_) (fun hf0 => ?_)
  · obtain rfl := Sum.inl.inj (Option.some.inj hf0)
    exact z_throw (pc := 24) (li := 177) hfl rfl (by decide) (by decide +kernel) xcl_69 xin_1 xii_1 xoa_73 hE ⟨by decide, by decide, by decide, Nat.le_of_ble_eq_true rfl⟩ dX6_demandBlock_24 dX6_demandBlock_27 dX6_demandBlock_28 dX6_demandBlock_30 dX6_demandBlock_33
  · refine z_iload 4 (pc := 18) dX6_demandBlock_18 rfl ?_
    refine z_iload_n 2 (pc := 20) dX6_demandBlock_20 rfl ?_
    refine z_icmp_ge (pc := 21) (tgt := 34) dX6_demandBlock_21 (by decide) hf0 (fun hf0 => ?_) (fun hf0 => ?_)
    · exact absurd hf0 (by repeat' (first | with_reducible exact nr_inr | with_reducible exact nr_none | with_reducible refine nr_ite ?_ ?_ | with_reducible refine nr_bind (fun _ => ?_)))
    · obtain rfl := Sum.inl.inj (Option.some.inj hf0)
      exact z_throw (pc := 24) (li := 177) hfl rfl (by decide) (by decide +kernel) xcl_69 xin_1 xii_1 xoa_73 hE ⟨by decide, by decide, by decide, Nat.le_of_ble_eq_true rfl⟩ dX6_demandBlock_24 dX6_demandBlock_27 dX6_demandBlock_28 dX6_demandBlock_30 dX6_demandBlock_33
abbrev RBX6_demandTool : Type := Unit
abbrev rtX6_demandTool : Room := { frames := 6, cells := 1, slots := 6, locals := 90 }
abbrev RX6_demandTool : Type := Nat ⊕ (Unit)
abbrev rmX6_demandTool : Room := { frames := 0, cells := 0, slots := 0, locals := 0 }
abbrev wsX6_demandTool (cA : Nat → ClassId)   : va_W := []
def fX6_demandTool (N : Nat) (a0 : Int32)  : Option RX6_demandTool :=
  (if a0 < 0 then some (.inl 0) else (if a0 < 4 then some (.inr ()) else some (.inl 0)))
set_option maxHeartbeats 4000000 in
set_option maxRecDepth 100000 in
theorem k0X6_demandTool (l : Launch) (D : va_G) (cA : Nat → ClassId)   (a0 : Int32) (N : Nat) (res : RBX6_demandTool) (hf0 : fX6_demandTool N a0 = some (.inr res)) : CtV0 l yX6_demandTool (Cond.code yX6_demandTool cX6_demandTool 1 (none) :: tblG) rmX6_demandTool D cA (wsX6_demandTool cA ) [.int a0]  := by
  refine CtV0.start (lv := [(0, .int a0)]) (by decide) (Nat.le_of_ble_eq_true rfl) rfl (fun κ hE => ?_)
  rw [fX6_demandTool] at hf0
  refine z_iload_n 0 (pc := 0) dX6_demandTool_0 rfl ?_
  refine z_if_lt (pc := 1) (tgt := 9) dX6_demandTool_1 (by decide) hf0 (fun hf0 => ?_) (fun hf0 => ?_)
  · cases hf0
  · refine z_iload_n 0 (pc := 4) dX6_demandTool_4 rfl ?_
    refine z_iconst (pc := 5) (v := 4) dX6_demandTool_5 (by decide) ?_
    refine z_icmp_lt (pc := 6) (tgt := 19) dX6_demandTool_6 (by decide) hf0 (fun hf0 => ?_) (fun hf0 => ?_)
    · obtain rfl := Sum.inr.inj (Option.some.inj hf0)
      exact z_vret0 hE dX6_demandTool_19
    · cases hf0

set_option maxHeartbeats 4000000 in
set_option maxRecDepth 100000 in
theorem tX6_demandTool (l : Launch) (D : va_G) (cA : Nat → ClassId)   (a0 : Int32) (N : Nat) (kx : Nat) (hf0 : fX6_demandTool N a0 = some (.inl kx)) (hfl : l.flags = pinnedFlags ++ [noTraceFlag]) : CtT l yX6_demandTool (Cond.code yX6_demandTool cX6_demandTool 1 (none) :: tblG) rtX6_demandTool D cA (wsX6_demandTool cA ) [.int a0] kx := by
  refine CtT.start (lv := [(0, .int a0)]) (by decide) (Nat.le_of_ble_eq_true rfl) rfl (fun κ hE => ?_)
  rw [fX6_demandTool] at hf0
  refine z_iload_n 0 (pc := 0) dX6_demandTool_0 rfl ?_
  refine z_if_lt (pc := 1) (tgt := 9) dX6_demandTool_1 (by decide) hf0 (fun hf0 => ?_) (fun hf0 => ?_)
  · obtain rfl := Sum.inl.inj (Option.some.inj hf0)
    exact z_throw (pc := 9) (li := 188) hfl rfl (by decide) (by decide +kernel) xcl_183 xin_0 xii_0 xoa_187 hE ⟨by decide, by decide, by decide, Nat.le_of_ble_eq_true rfl⟩ dX6_demandTool_9 dX6_demandTool_12 dX6_demandTool_13 dX6_demandTool_15 dX6_demandTool_18
  · refine z_iload_n 0 (pc := 4) dX6_demandTool_4 rfl ?_
    refine z_iconst (pc := 5) (v := 4) dX6_demandTool_5 (by decide) ?_
    refine z_icmp_lt (pc := 6) (tgt := 19) dX6_demandTool_6 (by decide) hf0 (fun hf0 => ?_) (fun hf0 => ?_)
    · exact absurd hf0 (by repeat' (first | with_reducible exact nr_inr | with_reducible exact nr_none | with_reducible refine nr_ite ?_ ?_ | with_reducible refine nr_bind (fun _ => ?_)))
    · obtain rfl := Sum.inl.inj (Option.some.inj hf0)
      exact z_throw (pc := 9) (li := 188) hfl rfl (by decide) (by decide +kernel) xcl_183 xin_0 xii_0 xoa_187 hE ⟨by decide, by decide, by decide, Nat.le_of_ble_eq_true rfl⟩ dX6_demandTool_9 dX6_demandTool_12 dX6_demandTool_13 dX6_demandTool_15 dX6_demandTool_18
abbrev RBX6_demandWhat : Type := Unit
abbrev rtX6_demandWhat : Room := { frames := 6, cells := 1, slots := 6, locals := 90 }
abbrev RX6_demandWhat : Type := Nat ⊕ (Unit)
abbrev rmX6_demandWhat : Room := { frames := 0, cells := 0, slots := 0, locals := 0 }
abbrev wsX6_demandWhat (cA : Nat → ClassId)   : va_W := []
def fX6_demandWhat (N : Nat) (a0 : Int32) (a1 : Int32)  : Option RX6_demandWhat :=
  (if a0 < 0 then some (.inl 0) else (if a0 ≤ a1 then some (.inr ()) else some (.inl 0)))
set_option maxHeartbeats 4000000 in
set_option maxRecDepth 100000 in
theorem k0X6_demandWhat (l : Launch) (D : va_G) (cA : Nat → ClassId)   (a0 : Int32) (a1 : Int32) (N : Nat) (res : RBX6_demandWhat) (hf0 : fX6_demandWhat N a0 a1 = some (.inr res)) : CtV0 l yX6_demandWhat (Cond.code yX6_demandWhat cX6_demandWhat 2 (none) :: tblG) rmX6_demandWhat D cA (wsX6_demandWhat cA ) [.int a0, .int a1]  := by
  refine CtV0.start (lv := [(0, .int a0), (1, .int a1)]) (by decide) (Nat.le_of_ble_eq_true rfl) rfl (fun κ hE => ?_)
  rw [fX6_demandWhat] at hf0
  refine z_iload_n 0 (pc := 0) dX6_demandWhat_0 rfl ?_
  refine z_if_lt (pc := 1) (tgt := 9) dX6_demandWhat_1 (by decide) hf0 (fun hf0 => ?_) (fun hf0 => ?_)
  · cases hf0
  · refine z_iload_n 0 (pc := 4) dX6_demandWhat_4 rfl ?_
    refine z_iload_n 1 (pc := 5) dX6_demandWhat_5 rfl ?_
    refine z_icmp_le (pc := 6) (tgt := 19) dX6_demandWhat_6 (by decide) hf0 (fun hf0 => ?_) (fun hf0 => ?_)
    · obtain rfl := Sum.inr.inj (Option.some.inj hf0)
      exact z_vret0 hE dX6_demandWhat_19
    · cases hf0

set_option maxHeartbeats 4000000 in
set_option maxRecDepth 100000 in
theorem tX6_demandWhat (l : Launch) (D : va_G) (cA : Nat → ClassId)   (a0 : Int32) (a1 : Int32) (N : Nat) (kx : Nat) (hf0 : fX6_demandWhat N a0 a1 = some (.inl kx)) (hfl : l.flags = pinnedFlags ++ [noTraceFlag]) : CtT l yX6_demandWhat (Cond.code yX6_demandWhat cX6_demandWhat 2 (none) :: tblG) rtX6_demandWhat D cA (wsX6_demandWhat cA ) [.int a0, .int a1] kx := by
  refine CtT.start (lv := [(0, .int a0), (1, .int a1)]) (by decide) (Nat.le_of_ble_eq_true rfl) rfl (fun κ hE => ?_)
  rw [fX6_demandWhat] at hf0
  refine z_iload_n 0 (pc := 0) dX6_demandWhat_0 rfl ?_
  refine z_if_lt (pc := 1) (tgt := 9) dX6_demandWhat_1 (by decide) hf0 (fun hf0 => ?_) (fun hf0 => ?_)
  · obtain rfl := Sum.inl.inj (Option.some.inj hf0)
    exact z_throw (pc := 9) (li := 190) hfl rfl (by decide) (by decide +kernel) xcl_183 xin_0 xii_0 xoa_187 hE ⟨by decide, by decide, by decide, Nat.le_of_ble_eq_true rfl⟩ dX6_demandWhat_9 dX6_demandWhat_12 dX6_demandWhat_13 dX6_demandWhat_15 dX6_demandWhat_18
  · refine z_iload_n 0 (pc := 4) dX6_demandWhat_4 rfl ?_
    refine z_iload_n 1 (pc := 5) dX6_demandWhat_5 rfl ?_
    refine z_icmp_le (pc := 6) (tgt := 19) dX6_demandWhat_6 (by decide) hf0 (fun hf0 => ?_) (fun hf0 => ?_)
    · exact absurd hf0 (by repeat' (first | with_reducible exact nr_inr | with_reducible exact nr_none | with_reducible refine nr_ite ?_ ?_ | with_reducible refine nr_bind (fun _ => ?_)))
    · obtain rfl := Sum.inl.inj (Option.some.inj hf0)
      exact z_throw (pc := 9) (li := 190) hfl rfl (by decide) (by decide +kernel) xcl_183 xin_0 xii_0 xoa_187 hE ⟨by decide, by decide, by decide, Nat.le_of_ble_eq_true rfl⟩ dX6_demandWhat_9 dX6_demandWhat_12 dX6_demandWhat_13 dX6_demandWhat_15 dX6_demandWhat_18
