abbrev RBX6_keep : Type := (Nat → Int32)
abbrev rtX6_keep : Room := { frames := 8, cells := 1, slots := 6, locals := 136 }
abbrev RX6_keep : Type := Nat ⊕ ((Nat → Int32))
abbrev rmX6_keep : Room := { frames := 3, cells := 0, slots := 0, locals := 68 }
abbrev wsX6_keep (cA : Nat → ClassId) (h_o : Nat) (h_o_grid : Nat) (h_o_grid_kept : Nat) (o_tools : Value) (o_reader : Value) (o_machine : Value) (o_pieceCounter : Value) (o_program : Value) (o_draft : Value) (o_grid_side : Int32) (o_grid_cells : Int32) (o_grid_heights : Value) (o_grid_targets : Value) (o_grid_marks : Value) (o_grid_disc : Value) (o_grid_discSize : Int32) (o_grid_kept_n : Nat) (o_grid_kept : Nat → Int32) : va_W := [(h_o, .inr (6, [.ref h_o_grid, o_tools, o_reader, o_machine, o_pieceCounter, o_program, o_draft])), (h_o_grid, .inr (0, [.int o_grid_side, .int o_grid_cells, o_grid_heights, o_grid_targets, .ref h_o_grid_kept, o_grid_marks, o_grid_disc, .int o_grid_discSize])), (h_o_grid_kept, .inl (cA 1, o_grid_kept_n, .inl o_grid_kept))]
def fX6_keep (N : Nat) (a1 : Int32) (a2 : Int32) (a3 : Int32) (a4 : Int32) (a5 : Int32) (o_grid_side : Int32) (o_grid_kept_n : Nat) (o_grid_kept : Nat → Int32) : Option RX6_keep :=
  ((fX6_demandBlock N a1 a2 a3 a4 o_grid_side).bind fun r1 => Sum.elim (fun k => some (.inl k)) (fun r1v => ((fX0_guardBlock N a1 a2 a3 a4 a5 o_grid_side o_grid_kept_n o_grid_kept).bind fun r2 => some (.inr r2))) r1)
set_option maxHeartbeats 4000000 in
set_option maxRecDepth 100000 in
theorem kX6_keep (l : Launch) (D : va_G) (cA : Nat → ClassId) (h_o : Nat) (h_o_grid : Nat) (h_o_grid_kept : Nat) (o_tools : Value) (o_reader : Value) (o_machine : Value) (o_pieceCounter : Value) (o_program : Value) (o_draft : Value) (o_grid_side : Int32) (o_grid_cells : Int32) (o_grid_heights : Value) (o_grid_targets : Value) (o_grid_marks : Value) (o_grid_disc : Value) (o_grid_discSize : Int32) (o_grid_kept_n : Nat) (o_grid_kept : Nat → Int32) (a1 : Int32) (a2 : Int32) (a3 : Int32) (a4 : Int32) (a5 : Int32) (N : Nat) (res : RBX6_keep) (hf0 : fX6_keep N a1 a2 a3 a4 a5 o_grid_side o_grid_kept_n o_grid_kept = some (.inr res)) : CtV l yX6_keep (Cond.code yX6_keep cX6_keep 6 (none) :: tblG) rmX6_keep D cA (wsX6_keep cA h_o h_o_grid h_o_grid_kept o_tools o_reader o_machine o_pieceCounter o_program o_draft o_grid_side o_grid_cells o_grid_heights o_grid_targets o_grid_marks o_grid_disc o_grid_discSize o_grid_kept_n o_grid_kept) [.ref h_o, .int a1, .int a2, .int a3, .int a4, .int a5] (wsX6_keep cA h_o h_o_grid h_o_grid_kept o_tools o_reader o_machine o_pieceCounter o_program o_draft o_grid_side o_grid_cells o_grid_heights o_grid_targets o_grid_marks o_grid_disc o_grid_discSize o_grid_kept_n res) := by
  refine CtV.start (lv := [(0, .ref h_o), (1, .int a1), (2, .int a2), (3, .int a3), (4, .int a4), (5, .int a5)]) (by decide) (Nat.le_of_ble_eq_true rfl) rfl (fun κ hE => ?_)
  rw [fX6_keep] at hf0
  refine z_aload_n 0 (pc := 0) dX6_keep_0 rfl ?_
  refine z_iload_n 1 (pc := 1) dX6_keep_1 rfl ?_
  refine z_iload_n 2 (pc := 2) dX6_keep_2 rfl ?_
  refine z_iload_n 3 (pc := 3) dX6_keep_3 rfl ?_
  refine z_iload 4 (pc := 4) dX6_keep_4 rfl ?_
  obtain ⟨r1, er1, hf0⟩ := bp hf0
  rcases r1 with r1k | r1v
  · have hs := sum_inl hf0; cases hs
  replace hf0 := sum_inr hf0
  refine z_callv0V (pc := 6) (As := [.int a1, .int a2, .int a3, .int a4]) (rest := []) (k0X6_demandBlock l D cA h_o h_o_grid o_tools o_reader o_machine o_pieceCounter o_program o_draft o_grid_side o_grid_cells o_grid_heights o_grid_targets (.ref h_o_grid_kept) o_grid_marks o_grid_disc o_grid_discSize a1 a2 a3 a4 N r1v er1) ivX6_65 ⟨rfl, rfl⟩ ⟨by decide, by decide⟩ rfl ⟨Nat.zero_le _, Nat.zero_le _⟩ rfl rfl [0, 1] rfl (by decide) rfl (Nat.le_of_ble_eq_true rfl) dX6_keep_6 ?_
  refine z_aload_n 0 (pc := 9) dX6_keep_9 rfl ?_
  refine z_get 0 0 (pc := 10) (v := .ref h_o_grid) rfl rfl inX6 (by decide) flX6_23 rfl dX6_keep_10 ?_
  refine z_iload_n 1 (pc := 13) dX6_keep_13 rfl ?_
  refine z_iload_n 2 (pc := 14) dX6_keep_14 rfl ?_
  refine z_iload_n 3 (pc := 15) dX6_keep_15 rfl ?_
  refine z_iload 4 (pc := 16) dX6_keep_16 rfl ?_
  refine z_iload 5 (pc := 18) dX6_keep_18 rfl ?_
  obtain ⟨r2, er2, hf0⟩ := bp hf0
  refine z_callvV (pc := 20) (As := [.int a1, .int a2, .int a3, .int a4, .int a5]) (rest := []) (ws' := (wsX6_keep cA h_o h_o_grid h_o_grid_kept o_tools o_reader o_machine o_pieceCounter o_program o_draft o_grid_side o_grid_cells o_grid_heights o_grid_targets o_grid_marks o_grid_disc o_grid_discSize o_grid_kept_n r2)) (kX0_guardBlock l D cA h_o_grid h_o_grid_kept o_grid_side o_grid_cells o_grid_heights o_grid_targets o_grid_marks o_grid_disc o_grid_discSize o_grid_kept_n o_grid_kept a1 a2 a3 a4 a5 N r2 er2) ivX6_80 ⟨rfl, rfl⟩ ⟨by decide, by decide⟩ rfl ⟨Nat.zero_le _, Nat.zero_le _⟩ rfl rfl [1, 2] rfl (by decide) rfl rfl rfl (Nat.le_of_ble_eq_true rfl) dX6_keep_20 ?_
  obtain rfl := Sum.inr.inj (Option.some.inj hf0)
  exact z_vret hE dX6_keep_23

set_option maxHeartbeats 4000000 in
set_option maxRecDepth 100000 in
theorem tX6_keep (l : Launch) (D : va_G) (cA : Nat → ClassId) (h_o : Nat) (h_o_grid : Nat) (h_o_grid_kept : Nat) (o_tools : Value) (o_reader : Value) (o_machine : Value) (o_pieceCounter : Value) (o_program : Value) (o_draft : Value) (o_grid_side : Int32) (o_grid_cells : Int32) (o_grid_heights : Value) (o_grid_targets : Value) (o_grid_marks : Value) (o_grid_disc : Value) (o_grid_discSize : Int32) (o_grid_kept_n : Nat) (o_grid_kept : Nat → Int32) (a1 : Int32) (a2 : Int32) (a3 : Int32) (a4 : Int32) (a5 : Int32) (N : Nat) (kx : Nat) (hf0 : fX6_keep N a1 a2 a3 a4 a5 o_grid_side o_grid_kept_n o_grid_kept = some (.inl kx)) (hfl : l.flags = pinnedFlags ++ [noTraceFlag]) : CtT l yX6_keep (Cond.code yX6_keep cX6_keep 6 (none) :: tblG) rtX6_keep D cA (wsX6_keep cA h_o h_o_grid h_o_grid_kept o_tools o_reader o_machine o_pieceCounter o_program o_draft o_grid_side o_grid_cells o_grid_heights o_grid_targets o_grid_marks o_grid_disc o_grid_discSize o_grid_kept_n o_grid_kept) [.ref h_o, .int a1, .int a2, .int a3, .int a4, .int a5] kx := by
  refine CtT.start (lv := [(0, .ref h_o), (1, .int a1), (2, .int a2), (3, .int a3), (4, .int a4), (5, .int a5)]) (by decide) (Nat.le_of_ble_eq_true rfl) rfl (fun κ hE => ?_)
  rw [fX6_keep] at hf0
  refine z_aload_n 0 (pc := 0) dX6_keep_0 rfl ?_
  refine z_iload_n 1 (pc := 1) dX6_keep_1 rfl ?_
  refine z_iload_n 2 (pc := 2) dX6_keep_2 rfl ?_
  refine z_iload_n 3 (pc := 3) dX6_keep_3 rfl ?_
  refine z_iload 4 (pc := 4) dX6_keep_4 rfl ?_
  obtain ⟨r1, er1, hf0⟩ := bp hf0
  rcases r1 with r1k | r1v
  · have hs := sum_inl hf0
    obtain rfl := Sum.inl.inj (Option.some.inj hs)
    exact z_callTV (pc := 6) (As := [.int a1, .int a2, .int a3, .int a4]) (rest := []) (tX6_demandBlock l D cA h_o h_o_grid o_tools o_reader o_machine o_pieceCounter o_program o_draft o_grid_side o_grid_cells o_grid_heights o_grid_targets (.ref h_o_grid_kept) o_grid_marks o_grid_disc o_grid_discSize a1 a2 a3 a4 N r1k er1 hfl) ivX6_65 ⟨rfl, rfl⟩ ⟨by decide, by decide⟩ rfl ⟨by decide, by decide⟩ rfl rfl [0, 1] rfl (by decide) rfl (Nat.le_of_ble_eq_true rfl) dX6_keep_6 hE
  replace hf0 := sum_inr hf0
  refine z_callv0V (pc := 6) (As := [.int a1, .int a2, .int a3, .int a4]) (rest := []) (k0X6_demandBlock l D cA h_o h_o_grid o_tools o_reader o_machine o_pieceCounter o_program o_draft o_grid_side o_grid_cells o_grid_heights o_grid_targets (.ref h_o_grid_kept) o_grid_marks o_grid_disc o_grid_discSize a1 a2 a3 a4 N r1v er1) ivX6_65 ⟨rfl, rfl⟩ ⟨by decide, by decide⟩ rfl ⟨Nat.zero_le _, Nat.zero_le _⟩ rfl rfl [0, 1] rfl (by decide) rfl (Nat.le_of_ble_eq_true rfl) dX6_keep_6 ?_
  exact absurd hf0 (by repeat' (first | with_reducible exact nr_inr | with_reducible exact nr_none | with_reducible refine nr_ite ?_ ?_ | with_reducible refine nr_bind (fun _ => ?_)))
