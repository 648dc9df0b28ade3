abbrev RBX6_cell : Type := Int32
abbrev rtX6_cell : Room := { frames := 7, cells := 1, slots := 6, locals := 112 }
abbrev RX6_cell : Type := Nat ⊕ (Int32)
abbrev rmX6_cell : Room := { frames := 2, cells := 0, slots := 0, locals := 44 }
abbrev wsX6_cell (cA : Nat → ClassId) (h_o : Nat) (h_o_grid : Nat) (h_o_grid_kept : Nat) (h_o_grid_targets : Nat) (h_o_grid_heights : Nat) (o_tools : Value) (o_reader : Value) (o_machine : Value) (o_pieceCounter : Value) (o_program : Value) (o_draft : Value) (o_grid_side : Int32) (o_grid_cells : Int32) (o_grid_marks : Value) (o_grid_disc : Value) (o_grid_discSize : Int32) (o_grid_kept_n : Nat) (o_grid_kept : Nat → Int32) (o_grid_targets_n : Nat) (o_grid_targets : Nat → Int32) (o_grid_heights_n : Nat) (o_grid_heights : Nat → Int32) : va_W := [(h_o, .inr (6, [.ref h_o_grid, o_tools, o_reader, o_machine, o_pieceCounter, o_program, o_draft])), (h_o_grid, .inr (0, [.int o_grid_side, .int o_grid_cells, .ref h_o_grid_heights, .ref h_o_grid_targets, .ref h_o_grid_kept, o_grid_marks, o_grid_disc, .int o_grid_discSize])), (h_o_grid_kept, .inl (cA 1, o_grid_kept_n, .inl o_grid_kept)), (h_o_grid_targets, .inl (cA 0, o_grid_targets_n, .inl o_grid_targets)), (h_o_grid_heights, .inl (cA 0, o_grid_heights_n, .inl o_grid_heights))]
def fX6_cell (N : Nat) (a1 : Int32) (a2 : Int32) (a3 : Int32) (o_grid_side : Int32) (o_grid_kept_n : Nat) (o_grid_kept : Nat → Int32) (o_grid_targets_n : Nat) (o_grid_targets : Nat → Int32) (o_grid_heights_n : Nat) (o_grid_heights : Nat → Int32) : Option RX6_cell :=
  ((fX6_demandCell N a1 a2 o_grid_side).bind fun r1 => Sum.elim (fun k => some (.inl k)) (fun r1v => ((fX6_demandWhat N a3 2).bind fun r2 => Sum.elim (fun k => some (.inl k)) (fun r2v => ((fX0_placeOf N a1 a2 o_grid_side).bind fun r3 => (if a3 = 0 then (if r3 < 0 ∨ o_grid_heights_n ≤ r3.toNatClampNeg then none else some (.inr (o_grid_heights r3.toNatClampNeg))) else (if a3 = 1 then (if r3 < 0 ∨ o_grid_targets_n ≤ r3.toNatClampNeg then none else some (.inr (o_grid_targets r3.toNatClampNeg))) else (if r3 < 0 ∨ o_grid_kept_n ≤ r3.toNatClampNeg then none else (if (o_grid_kept r3.toNatClampNeg) = 0 then some (.inr 0) else some (.inr 1))))))) r2)) r1)
set_option maxHeartbeats 4000000 in
set_option maxRecDepth 100000 in
theorem kX6_cell (l : Launch) (D : va_G) (cA : Nat → ClassId) (h_o : Nat) (h_o_grid : Nat) (h_o_grid_kept : Nat) (h_o_grid_targets : Nat) (h_o_grid_heights : Nat) (o_tools : Value) (o_reader : Value) (o_machine : Value) (o_pieceCounter : Value) (o_program : Value) (o_draft : Value) (o_grid_side : Int32) (o_grid_cells : Int32) (o_grid_marks : Value) (o_grid_disc : Value) (o_grid_discSize : Int32) (o_grid_kept_n : Nat) (o_grid_kept : Nat → Int32) (o_grid_targets_n : Nat) (o_grid_targets : Nat → Int32) (o_grid_heights_n : Nat) (o_grid_heights : Nat → Int32) (a1 : Int32) (a2 : Int32) (a3 : Int32) (N : Nat) (res : RBX6_cell) (hf0 : fX6_cell N a1 a2 a3 o_grid_side o_grid_kept_n o_grid_kept o_grid_targets_n o_grid_targets o_grid_heights_n o_grid_heights = some (.inr res)) : CtI l yX6_cell (Cond.code yX6_cell cX6_cell 5 (some .int) :: tblG) rmX6_cell D cA (wsX6_cell cA h_o h_o_grid h_o_grid_kept h_o_grid_targets h_o_grid_heights o_tools o_reader o_machine o_pieceCounter o_program o_draft o_grid_side o_grid_cells o_grid_marks o_grid_disc o_grid_discSize o_grid_kept_n o_grid_kept o_grid_targets_n o_grid_targets o_grid_heights_n o_grid_heights) [.ref h_o, .int a1, .int a2, .int a3] res (wsX6_cell cA h_o h_o_grid h_o_grid_kept h_o_grid_targets h_o_grid_heights o_tools o_reader o_machine o_pieceCounter o_program o_draft o_grid_side o_grid_cells o_grid_marks o_grid_disc o_grid_discSize o_grid_kept_n o_grid_kept o_grid_targets_n o_grid_targets o_grid_heights_n o_grid_heights) := by
  refine CtI.start (lv := [(0, .ref h_o), (1, .int a1), (2, .int a2), (3, .int a3)]) (by decide) (Nat.le_of_ble_eq_true rfl) rfl (fun κ hE => ?_)
  rw [fX6_cell] at hf0
  refine z_aload_n 0 (pc := 0) dX6_cell_0 rfl ?_
  refine z_iload_n 1 (pc := 1) dX6_cell_1 rfl ?_
  refine z_iload_n 2 (pc := 2) dX6_cell_2 rfl ?_
  obtain ⟨r1, er1, hf0⟩ := bp hf0
  rcases r1 with r1k | r1v
  · have hs := sum_inl hf0; cases hs
  replace hf0 := sum_inr hf0
  refine z_callv0V (pc := 3) (As := [.int a1, .int a2]) (rest := []) (k0X6_demandCell l D cA h_o h_o_grid o_tools o_reader o_machine o_pieceCounter o_program o_draft o_grid_side o_grid_cells (.ref h_o_grid_heights) (.ref h_o_grid_targets) (.ref h_o_grid_kept) o_grid_marks o_grid_disc o_grid_discSize a1 a2 N r1v er1) ivX6_143 ⟨rfl, rfl⟩ ⟨by decide, by decide⟩ rfl ⟨Nat.zero_le _, Nat.zero_le _⟩ rfl rfl [0, 1] rfl (by decide) rfl (Nat.le_of_ble_eq_true rfl) dX6_cell_3 ?_
  refine z_iload_n 3 (pc := 6) dX6_cell_6 rfl ?_
  refine z_iconst (pc := 7) (v := 2) dX6_cell_7 (by decide) ?_
  obtain ⟨r2, er2, hf0⟩ := bp hf0
  rcases r2 with r2k | r2v
  · have hs := sum_inl hf0; cases hs
  replace hf0 := sum_inr hf0
  refine z_callv0S (pc := 8) (As := [.int a3, .int 2]) (rest := []) (k0X6_demandWhat l D cA   a3 2 N r2v er2) ivX6_116 ⟨rfl, rfl⟩ ⟨by decide, by decide⟩ rfl ⟨Nat.zero_le _, Nat.zero_le _⟩ [] rfl (by decide) rfl (Nat.le_of_ble_eq_true rfl) dX6_cell_8 ?_
  refine z_aload_n 0 (pc := 11) dX6_cell_11 rfl ?_
  refine z_get 0 0 (pc := 12) (v := .ref h_o_grid) rfl rfl inX6 (by decide) flX6_23 rfl dX6_cell_12 ?_
  refine z_iload_n 1 (pc := 15) dX6_cell_15 rfl ?_
  refine z_iload_n 2 (pc := 16) dX6_cell_16 rfl ?_
  obtain ⟨r3, er3, hf0⟩ := bp hf0
  refine z_calliV (pc := 17) (As := [.int a1, .int a2]) (rest := []) (ws' := (wsX6_cell cA h_o h_o_grid h_o_grid_kept h_o_grid_targets h_o_grid_heights o_tools o_reader o_machine o_pieceCounter o_program o_draft o_grid_side o_grid_cells o_grid_marks o_grid_disc o_grid_discSize o_grid_kept_n o_grid_kept o_grid_targets_n o_grid_targets o_grid_heights_n o_grid_heights)) (kX0_placeOf l D cA h_o_grid o_grid_side o_grid_cells (.ref h_o_grid_heights) (.ref h_o_grid_targets) (.ref h_o_grid_kept) o_grid_marks o_grid_disc o_grid_discSize a1 a2 N r3 er3) ivX6_146 ⟨rfl, rfl⟩ ⟨by decide, by decide⟩ rfl ⟨Nat.zero_le _, Nat.zero_le _⟩ rfl rfl [1] rfl (by decide) rfl rfl rfl (Nat.le_of_ble_eq_true rfl) dX6_cell_17 ?_
  refine z_istore (pc := 20) (lv' := [(4, .int r3), (0, .ref h_o), (1, .int a1), (2, .int a2), (3, .int a3)]) dX6_cell_20 (by decide) rfl ?_
  refine z_iload_n 4 (pc := 22) dX6_cell_22 rfl ?_
  by_cases w23_0 : a3 = 0
  · have hf0 := fp w23_0 hf0
    refine y_lookup (pc := 23) (off := 25) (tgt := 48) dX6_cell_23 (by decide) (by rw [w23_0]; first | done | rfl) (by decide) ?_
    refine z_aload_n 1 (pc := 48) dX6_cell_48 rfl ?_
    refine z_get 0 0 (pc := 49) (v := .ref h_o_grid) rfl rfl inX6 (by decide) flX6_23 rfl dX6_cell_49 ?_
    refine z_get 1 2 (pc := 52) (v := .ref h_o_grid_heights) rfl rfl inX0 (by decide) flX6_149 rfl dX6_cell_52 ?_
    refine z_iload 0 (pc := 55) dX6_cell_55 rfl ?_
    refine z_iaload 4 0 (pc := 57) rfl rfl dX6_cell_57 hf0 (fun hf0 => ?_)
    obtain rfl := Sum.inr.inj (Option.some.inj hf0)
    exact z_iret hE dX6_cell_58
  have hf0 := fn w23_0 hf0
  by_cases w23_1 : a3 = 1
  · have hf0 := fp w23_1 hf0
    refine y_lookup (pc := 23) (off := 36) (tgt := 59) dX6_cell_23 (by decide) (by rw [w23_1]; first | done | rfl) (by decide) ?_
    refine z_aload_n 1 (pc := 59) dX6_cell_59 rfl ?_
    refine z_get 0 0 (pc := 60) (v := .ref h_o_grid) rfl rfl inX6 (by decide) flX6_23 rfl dX6_cell_60 ?_
    refine z_get 1 3 (pc := 63) (v := .ref h_o_grid_targets) rfl rfl inX0 (by decide) flX6_153 rfl dX6_cell_63 ?_
    refine z_iload 0 (pc := 66) dX6_cell_66 rfl ?_
    refine z_iaload 3 0 (pc := 68) rfl rfl dX6_cell_68 hf0 (fun hf0 => ?_)
    obtain rfl := Sum.inr.inj (Option.some.inj hf0)
    exact z_iret hE dX6_cell_69
  have hf0 := fn w23_1 hf0
  refine y_lookup (pc := 23) (off := 47) (tgt := 70) dX6_cell_23 (by decide) ((lv_osw w23_0 (by decide)).trans ((lv_osw w23_1 (by decide)).trans rfl)) (by decide) ?_
  refine z_aload_n 1 (pc := 70) dX6_cell_70 rfl ?_
  refine z_get 0 0 (pc := 71) (v := .ref h_o_grid) rfl rfl inX6 (by decide) flX6_23 rfl dX6_cell_71 ?_
  refine z_get 1 4 (pc := 74) (v := .ref h_o_grid_kept) rfl rfl inX0 (by decide) flX6_156 rfl dX6_cell_74 ?_
  refine z_iload 0 (pc := 77) dX6_cell_77 rfl ?_
  refine z_zaload 2 1 (pc := 79) rfl rfl dX6_cell_79 hf0 (fun hf0 => ?_)
  refine z_if_eq (pc := 80) (tgt := 87) dX6_cell_80 (by decide) hf0 (fun hf0 => ?_) (fun hf0 => ?_)
  · refine z_iconst (pc := 87) (v := 0) dX6_cell_87 (by decide) ?_
    obtain rfl := Sum.inr.inj (Option.some.inj hf0)
    exact z_iret hE dX6_cell_88
  · refine z_iconst (pc := 83) (v := 1) dX6_cell_83 (by decide) ?_
    refine z_goto (pc := 84) (tgt := 88) dX6_cell_84 (by decide) ?_
    obtain rfl := Sum.inr.inj (Option.some.inj hf0)
    exact z_iret hE dX6_cell_88

set_option maxHeartbeats 4000000 in
set_option maxRecDepth 100000 in
theorem tX6_cell (l : Launch) (D : va_G) (cA : Nat → ClassId) (h_o : Nat) (h_o_grid : Nat) (h_o_grid_kept : Nat) (h_o_grid_targets : Nat) (h_o_grid_heights : Nat) (o_tools : Value) (o_reader : Value) (o_machine : Value) (o_pieceCounter : Value) (o_program : Value) (o_draft : Value) (o_grid_side : Int32) (o_grid_cells : Int32) (o_grid_marks : Value) (o_grid_disc : Value) (o_grid_discSize : Int32) (o_grid_kept_n : Nat) (o_grid_kept : Nat → Int32) (o_grid_targets_n : Nat) (o_grid_targets : Nat → Int32) (o_grid_heights_n : Nat) (o_grid_heights : Nat → Int32) (a1 : Int32) (a2 : Int32) (a3 : Int32) (N : Nat) (kx : Nat) (hf0 : fX6_cell N a1 a2 a3 o_grid_side o_grid_kept_n o_grid_kept o_grid_targets_n o_grid_targets o_grid_heights_n o_grid_heights = some (.inl kx)) (hfl : l.flags = pinnedFlags ++ [noTraceFlag]) : CtT l yX6_cell (Cond.code yX6_cell cX6_cell 5 (some .int) :: tblG) rtX6_cell D cA (wsX6_cell cA h_o h_o_grid h_o_grid_kept h_o_grid_targets h_o_grid_heights o_tools o_reader o_machine o_pieceCounter o_program o_draft o_grid_side o_grid_cells o_grid_marks o_grid_disc o_grid_discSize o_grid_kept_n o_grid_kept o_grid_targets_n o_grid_targets o_grid_heights_n o_grid_heights) [.ref h_o, .int a1, .int a2, .int a3] kx := by
  refine CtT.start (lv := [(0, .ref h_o), (1, .int a1), (2, .int a2), (3, .int a3)]) (by decide) (Nat.le_of_ble_eq_true rfl) rfl (fun κ hE => ?_)
  rw [fX6_cell] at hf0
  refine z_aload_n 0 (pc := 0) dX6_cell_0 rfl ?_
  refine z_iload_n 1 (pc := 1) dX6_cell_1 rfl ?_
  refine z_iload_n 2 (pc := 2) dX6_cell_2 rfl ?_
  obtain ⟨r1, er1, hf0⟩ := bp hf0
  rcases r1 with r1k | r1v
  · have hs := sum_inl hf0
    obtain rfl := Sum.inl.inj (Option.some.inj hs)
    exact z_callTV (pc := 3) (As := [.int a1, .int a2]) (rest := []) (tX6_demandCell l D cA h_o h_o_grid o_tools o_reader o_machine o_pieceCounter o_program o_draft o_grid_side o_grid_cells (.ref h_o_grid_heights) (.ref h_o_grid_targets) (.ref h_o_grid_kept) o_grid_marks o_grid_disc o_grid_discSize a1 a2 N r1k er1 hfl) ivX6_143 ⟨rfl, rfl⟩ ⟨by decide, by decide⟩ rfl ⟨by decide, by decide⟩ rfl rfl [0, 1] rfl (by decide) rfl (Nat.le_of_ble_eq_true rfl) dX6_cell_3 hE
  replace hf0 := sum_inr hf0
  refine z_callv0V (pc := 3) (As := [.int a1, .int a2]) (rest := []) (k0X6_demandCell l D cA h_o h_o_grid o_tools o_reader o_machine o_pieceCounter o_program o_draft o_grid_side o_grid_cells (.ref h_o_grid_heights) (.ref h_o_grid_targets) (.ref h_o_grid_kept) o_grid_marks o_grid_disc o_grid_discSize a1 a2 N r1v er1) ivX6_143 ⟨rfl, rfl⟩ ⟨by decide, by decide⟩ rfl ⟨Nat.zero_le _, Nat.zero_le _⟩ rfl rfl [0, 1] rfl (by decide) rfl (Nat.le_of_ble_eq_true rfl) dX6_cell_3 ?_
  refine z_iload_n 3 (pc := 6) dX6_cell_6 rfl ?_
  refine z_iconst (pc := 7) (v := 2) dX6_cell_7 (by decide) ?_
  obtain ⟨r2, er2, hf0⟩ := bp hf0
  rcases r2 with r2k | r2v
  · have hs := sum_inl hf0
    obtain rfl := Sum.inl.inj (Option.some.inj hs)
    exact z_callTS (pc := 8) (As := [.int a3, .int 2]) (rest := []) (tX6_demandWhat l D cA   a3 2 N r2k er2 hfl) ivX6_116 ⟨rfl, rfl⟩ ⟨by decide, by decide⟩ rfl ⟨by decide, by decide⟩ [] rfl (by decide) rfl (Nat.le_of_ble_eq_true rfl) dX6_cell_8 hE
  replace hf0 := sum_inr hf0
  refine z_callv0S (pc := 8) (As := [.int a3, .int 2]) (rest := []) (k0X6_demandWhat l D cA   a3 2 N r2v er2) ivX6_116 ⟨rfl, rfl⟩ ⟨by decide, by decide⟩ rfl ⟨Nat.zero_le _, Nat.zero_le _⟩ [] rfl (by decide) rfl (Nat.le_of_ble_eq_true rfl) dX6_cell_8 ?_
  exact absurd hf0 (by repeat' (first | with_reducible exact nr_inr | with_reducible exact nr_none | with_reducible refine nr_ite ?_ ?_ | with_reducible refine nr_bind (fun _ => ?_)))
