abbrev RBX6_target : Type := (Nat → Int32)
abbrev rtX6_target : Room := { frames := 8, cells := 1, slots := 6, locals := 136 }
abbrev RX6_target : Type := Nat ⊕ ((Nat → Int32))
abbrev rmX6_target : Room := { frames := 3, cells := 0, slots := 0, locals := 68 }
abbrev wsX6_target (cA : Nat → ClassId) (h_o : Nat) (h_o_grid : Nat) (h_o_grid_targets : Nat) (o_tools : Value) (o_reader : Value) (o_machine : Value) (o_pieceCounter : Value) (o_program : Value) (o_draft : Value) (o_grid_side : Int32) (o_grid_cells : Int32) (o_grid_heights : Value) (o_grid_kept : Value) (o_grid_marks : Value) (o_grid_disc : Value) (o_grid_discSize : Int32) (o_grid_targets_n : Nat) (o_grid_targets : Nat → Int32) : va_W := [(h_o, .inr (6, [.ref h_o_grid, o_tools, o_reader, o_machine, o_pieceCounter, o_program, o_draft])), (h_o_grid, .inr (0, [.int o_grid_side, .int o_grid_cells, o_grid_heights, .ref h_o_grid_targets, o_grid_kept, o_grid_marks, o_grid_disc, .int o_grid_discSize])), (h_o_grid_targets, .inl (cA 0, o_grid_targets_n, .inl o_grid_targets))]
def fX6_target (N : Nat) (a1 : Int32) (a2 : Int32) (a3 : Int32) (a4 : Int32) (a5 : Int32) (o_grid_side : Int32) (o_grid_targets_n : Nat) (o_grid_targets : Nat → Int32) : Option RX6_target :=
  ((fX6_demandBlock N a1 a2 a3 a4 o_grid_side).bind fun r1 => Sum.elim (fun k => some (.inl k)) (fun r1v => (if a5 < 0 then some (.inl 1) else (if a5 ≤ 100 then ((fX0_aimBlock N a1 a2 a3 a4 a5 o_grid_side o_grid_targets_n o_grid_targets).bind fun r2 => some (.inr r2)) else some (.inl 1)))) r1)
set_option maxHeartbeats 4000000 in
set_option maxRecDepth 100000 in
theorem kX6_target (l : Launch) (D : va_G) (cA : Nat → ClassId) (h_o : Nat) (h_o_grid : Nat) (h_o_grid_targets : Nat) (o_tools : Value) (o_reader : Value) (o_machine : Value) (o_pieceCounter : Value) (o_program : Value) (o_draft : Value) (o_grid_side : Int32) (o_grid_cells : Int32) (o_grid_heights : Value) (o_grid_kept : Value) (o_grid_marks : Value) (o_grid_disc : Value) (o_grid_discSize : Int32) (o_grid_targets_n : Nat) (o_grid_targets : Nat → Int32) (a1 : Int32) (a2 : Int32) (a3 : Int32) (a4 : Int32) (a5 : Int32) (N : Nat) (res : RBX6_target) (hf0 : fX6_target N a1 a2 a3 a4 a5 o_grid_side o_grid_targets_n o_grid_targets = some (.inr res)) : CtV l yX6_target (Cond.code yX6_target cX6_target 6 (none) :: tblG) rmX6_target D cA (wsX6_target cA h_o h_o_grid h_o_grid_targets o_tools o_reader o_machine o_pieceCounter o_program o_draft o_grid_side o_grid_cells o_grid_heights o_grid_kept o_grid_marks o_grid_disc o_grid_discSize o_grid_targets_n o_grid_targets) [.ref h_o, .int a1, .int a2, .int a3, .int a4, .int a5] (wsX6_target cA h_o h_o_grid h_o_grid_targets o_tools o_reader o_machine o_pieceCounter o_program o_draft o_grid_side o_grid_cells o_grid_heights o_grid_kept o_grid_marks o_grid_disc o_grid_discSize o_grid_targets_n res) := by
  refine CtV.start (lv := [(0, .ref h_o), (1, .int a1), (2, .int a2), (3, .int a3), (4, .int a4), (5, .int a5)]) (by decide) (Nat.le_of_ble_eq_true rfl) rfl (fun κ hE => ?_)
  rw [fX6_target] at hf0
  refine z_aload_n 0 (pc := 0) dX6_target_0 rfl ?_
  refine z_iload_n 1 (pc := 1) dX6_target_1 rfl ?_
  refine z_iload_n 2 (pc := 2) dX6_target_2 rfl ?_
  refine z_iload_n 3 (pc := 3) dX6_target_3 rfl ?_
  refine z_iload 4 (pc := 4) dX6_target_4 rfl ?_
  obtain ⟨r1, er1, hf0⟩ := bp hf0
  rcases r1 with r1k | r1v
  · have hs := sum_inl hf0; cases hs
  replace hf0 := sum_inr hf0
  refine z_callv0V (pc := 6) (As := [.int a1, .int a2, .int a3, .int a4]) (rest := []) (k0X6_demandBlock l D cA h_o h_o_grid o_tools o_reader o_machine o_pieceCounter o_program o_draft o_grid_side o_grid_cells o_grid_heights (.ref h_o_grid_targets) o_grid_kept o_grid_marks o_grid_disc o_grid_discSize a1 a2 a3 a4 N r1v er1) ivX6_65 ⟨rfl, rfl⟩ ⟨by decide, by decide⟩ rfl ⟨Nat.zero_le _, Nat.zero_le _⟩ rfl rfl [0, 1] rfl (by decide) rfl (Nat.le_of_ble_eq_true rfl) dX6_target_6 ?_
  refine z_iload 5 (pc := 9) dX6_target_9 rfl ?_
  refine z_if_lt (pc := 11) (tgt := 21) dX6_target_11 (by decide) hf0 (fun hf0 => ?_) (fun hf0 => ?_)
  · cases hf0
  · refine z_iload 5 (pc := 14) dX6_target_14 rfl ?_
    refine z_bipush (pc := 16) (v := 100) dX6_target_16 (by decide) ?_
    refine z_icmp_le (pc := 18) (tgt := 31) dX6_target_18 (by decide) hf0 (fun hf0 => ?_) (fun hf0 => ?_)
    · refine z_aload_n 0 (pc := 31) dX6_target_31 rfl ?_
      refine z_get 0 0 (pc := 32) (v := .ref h_o_grid) rfl rfl inX6 (by decide) flX6_23 rfl dX6_target_32 ?_
      refine z_iload_n 1 (pc := 35) dX6_target_35 rfl ?_
      refine z_iload_n 2 (pc := 36) dX6_target_36 rfl ?_
      refine z_iload_n 3 (pc := 37) dX6_target_37 rfl ?_
      refine z_iload 4 (pc := 38) dX6_target_38 rfl ?_
      refine z_iload 5 (pc := 40) dX6_target_40 rfl ?_
      obtain ⟨r2, er2, hf0⟩ := bp hf0
      refine z_callvV (pc := 42) (As := [.int a1, .int a2, .int a3, .int a4, .int a5]) (rest := []) (ws' := (wsX6_target cA h_o h_o_grid h_o_grid_targets o_tools o_reader o_machine o_pieceCounter o_program o_draft o_grid_side o_grid_cells o_grid_heights o_grid_kept o_grid_marks o_grid_disc o_grid_discSize o_grid_targets_n r2)) (kX0_aimBlock l D cA h_o_grid h_o_grid_targets o_grid_side o_grid_cells o_grid_heights o_grid_kept o_grid_marks o_grid_disc o_grid_discSize o_grid_targets_n o_grid_targets a1 a2 a3 a4 a5 N r2 er2) ivX6_76 ⟨rfl, rfl⟩ ⟨by decide, by decide⟩ rfl ⟨Nat.zero_le _, Nat.zero_le _⟩ rfl rfl [1, 2] rfl (by decide) rfl rfl rfl (Nat.le_of_ble_eq_true rfl) dX6_target_42 ?_
      obtain rfl := Sum.inr.inj (Option.some.inj hf0)
      exact z_vret hE dX6_target_45
    · cases hf0

set_option maxHeartbeats 4000000 in
set_option maxRecDepth 100000 in
theorem tX6_target (l : Launch) (D : va_G) (cA : Nat → ClassId) (h_o : Nat) (h_o_grid : Nat) (h_o_grid_targets : Nat) (o_tools : Value) (o_reader : Value) (o_machine : Value) (o_pieceCounter : Value) (o_program : Value) (o_draft : Value) (o_grid_side : Int32) (o_grid_cells : Int32) (o_grid_heights : Value) (o_grid_kept : Value) (o_grid_marks : Value) (o_grid_disc : Value) (o_grid_discSize : Int32) (o_grid_targets_n : Nat) (o_grid_targets : Nat → Int32) (a1 : Int32) (a2 : Int32) (a3 : Int32) (a4 : Int32) (a5 : Int32) (N : Nat) (kx : Nat) (hf0 : fX6_target N a1 a2 a3 a4 a5 o_grid_side o_grid_targets_n o_grid_targets = some (.inl kx)) (hfl : l.flags = pinnedFlags ++ [noTraceFlag]) : CtT l yX6_target (Cond.code yX6_target cX6_target 6 (none) :: tblG) rtX6_target D cA (wsX6_target cA h_o h_o_grid h_o_grid_targets o_tools o_reader o_machine o_pieceCounter o_program o_draft o_grid_side o_grid_cells o_grid_heights o_grid_kept o_grid_marks o_grid_disc o_grid_discSize o_grid_targets_n o_grid_targets) [.ref h_o, .int a1, .int a2, .int a3, .int a4, .int a5] kx := by
  refine CtT.start (lv := [(0, .ref h_o), (1, .int a1), (2, .int a2), (3, .int a3), (4, .int a4), (5, .int a5)]) (by decide) (Nat.le_of_ble_eq_true rfl) rfl (fun κ hE => ?_)
  rw [fX6_target] at hf0
  refine z_aload_n 0 (pc := 0) dX6_target_0 rfl ?_
  refine z_iload_n 1 (pc := 1) dX6_target_1 rfl ?_
  refine z_iload_n 2 (pc := 2) dX6_target_2 rfl ?_
  refine z_iload_n 3 (pc := 3) dX6_target_3 rfl ?_
  refine z_iload 4 (pc := 4) dX6_target_4 rfl ?_
  obtain ⟨r1, er1, hf0⟩ := bp hf0
  rcases r1 with r1k | r1v
  · have hs := sum_inl hf0
    obtain rfl := Sum.inl.inj (Option.some.inj hs)
    exact z_callTV (pc := 6) (As := [.int a1, .int a2, .int a3, .int a4]) (rest := []) (tX6_demandBlock l D cA h_o h_o_grid o_tools o_reader o_machine o_pieceCounter o_program o_draft o_grid_side o_grid_cells o_grid_heights (.ref h_o_grid_targets) o_grid_kept o_grid_marks o_grid_disc o_grid_discSize a1 a2 a3 a4 N r1k er1 hfl) ivX6_65 ⟨rfl, rfl⟩ ⟨by decide, by decide⟩ rfl ⟨by decide, by decide⟩ rfl rfl [0, 1] rfl (by decide) rfl (Nat.le_of_ble_eq_true rfl) dX6_target_6 hE
  replace hf0 := sum_inr hf0
  refine z_callv0V (pc := 6) (As := [.int a1, .int a2, .int a3, .int a4]) (rest := []) (k0X6_demandBlock l D cA h_o h_o_grid o_tools o_reader o_machine o_pieceCounter o_program o_draft o_grid_side o_grid_cells o_grid_heights (.ref h_o_grid_targets) o_grid_kept o_grid_marks o_grid_disc o_grid_discSize a1 a2 a3 a4 N r1v er1) ivX6_65 ⟨rfl, rfl⟩ ⟨by decide, by decide⟩ rfl ⟨Nat.zero_le _, Nat.zero_le _⟩ rfl rfl [0, 1] rfl (by decide) rfl (Nat.le_of_ble_eq_true rfl) dX6_target_6 ?_
  refine z_iload 5 (pc := 9) dX6_target_9 rfl ?_
  refine z_if_lt (pc := 11) (tgt := 21) dX6_target_11 (by decide) hf0 (fun hf0 => ?_) (fun hf0 => ?_)
  · obtain rfl := Sum.inl.inj (Option.some.inj hf0)
    exact z_throw (pc := 21) (li := 71) hfl rfl (by decide) (by decide +kernel) xcl_69 xin_1 xii_1 xoa_73 hE ⟨by decide, by decide, by decide, Nat.le_of_ble_eq_true rfl⟩ dX6_target_21 dX6_target_24 dX6_target_25 dX6_target_27 dX6_target_30
  · refine z_iload 5 (pc := 14) dX6_target_14 rfl ?_
    refine z_bipush (pc := 16) (v := 100) dX6_target_16 (by decide) ?_
    refine z_icmp_le (pc := 18) (tgt := 31) dX6_target_18 (by decide) hf0 (fun hf0 => ?_) (fun hf0 => ?_)
    · exact absurd hf0 (by repeat' (first | with_reducible exact nr_inr | with_reducible exact nr_none | with_reducible refine nr_ite ?_ ?_ | with_reducible refine nr_bind (fun _ => ?_)))
    · obtain rfl := Sum.inl.inj (Option.some.inj hf0)
      exact z_throw (pc := 21) (li := 71) hfl rfl (by decide) (by decide +kernel) xcl_69 xin_1 xii_1 xoa_73 hE ⟨by decide, by decide, by decide, Nat.le_of_ble_eq_true rfl⟩ dX6_target_21 dX6_target_24 dX6_target_25 dX6_target_27 dX6_target_30
