abbrev RBX6_check : Type := Int32
abbrev rtX6_check : Room := { frames := 7, cells := 1, slots := 6, locals := 111 }
abbrev RX6_check : Type := Nat ⊕ (Int32)
abbrev rmX6_check : Room := { frames := 2, cells := 0, slots := 0, locals := 45 }
abbrev wsX6_check (cA : Nat → ClassId) (h_o : Nat) (h_o_grid : Nat) (h_o_grid_heights : Nat) (h_o_grid_targets : Nat) (o_tools : Value) (o_reader : Value) (o_machine : Value) (o_pieceCounter : Value) (o_program : Value) (o_draft : Value) (o_grid_side : Int32) (o_grid_cells : Int32) (o_grid_kept : Value) (o_grid_marks : Value) (o_grid_disc : Value) (o_grid_discSize : Int32) (o_grid_heights_n : Nat) (o_grid_heights : Nat → Int32) (o_grid_targets_n : Nat) (o_grid_targets : Nat → Int32) : va_W := [(h_o, .inr (6, [.ref h_o_grid, o_tools, o_reader, o_machine, o_pieceCounter, o_program, o_draft])), (h_o_grid, .inr (0, [.int o_grid_side, .int o_grid_cells, .ref h_o_grid_heights, .ref h_o_grid_targets, o_grid_kept, o_grid_marks, o_grid_disc, .int o_grid_discSize])), (h_o_grid_heights, .inl (cA 0, o_grid_heights_n, .inl o_grid_heights)), (h_o_grid_targets, .inl (cA 0, o_grid_targets_n, .inl o_grid_targets))]
def fX6_check (N : Nat) (a1 : Int32) (o_grid_cells : Int32) (o_grid_heights_n : Nat) (o_grid_heights : Nat → Int32) (o_grid_targets_n : Nat) (o_grid_targets : Nat → Int32) : Option RX6_check :=
  ((fX6_demandWhat N a1 3).bind fun r1 => Sum.elim (fun k => some (.inl k)) (fun r1v => (if a1 = 0 then ((fX0_countOff N 1 o_grid_cells o_grid_heights_n o_grid_heights o_grid_targets_n o_grid_targets).bind fun r2 => some (.inr r2)) else (if a1 = 1 then ((fX0_countOff N 0 o_grid_cells o_grid_heights_n o_grid_heights o_grid_targets_n o_grid_targets).bind fun r3 => some (.inr r3)) else (if a1 = 2 then ((fX0_firstOff N 1 o_grid_cells o_grid_heights_n o_grid_heights o_grid_targets_n o_grid_targets).bind fun r4 => some (.inr r4)) else ((fX0_firstOff N 0 o_grid_cells o_grid_heights_n o_grid_heights o_grid_targets_n o_grid_targets).bind fun r5 => some (.inr r5)))))) r1)
set_option maxHeartbeats 4000000 in
set_option maxRecDepth 100000 in
theorem kX6_check (l : Launch) (D : va_G) (cA : Nat → ClassId) (h_o : Nat) (h_o_grid : Nat) (h_o_grid_heights : Nat) (h_o_grid_targets : Nat) (o_tools : Value) (o_reader : Value) (o_machine : Value) (o_pieceCounter : Value) (o_program : Value) (o_draft : Value) (o_grid_side : Int32) (o_grid_cells : Int32) (o_grid_kept : Value) (o_grid_marks : Value) (o_grid_disc : Value) (o_grid_discSize : Int32) (o_grid_heights_n : Nat) (o_grid_heights : Nat → Int32) (o_grid_targets_n : Nat) (o_grid_targets : Nat → Int32) (a1 : Int32) (N : Nat) (res : RBX6_check) (hf0 : fX6_check N a1 o_grid_cells o_grid_heights_n o_grid_heights o_grid_targets_n o_grid_targets = some (.inr res)) : CtI l yX6_check (Cond.code yX6_check cX6_check 2 (some .int) :: tblG) rmX6_check D cA (wsX6_check cA h_o h_o_grid h_o_grid_heights h_o_grid_targets o_tools o_reader o_machine o_pieceCounter o_program o_draft o_grid_side o_grid_cells o_grid_kept o_grid_marks o_grid_disc o_grid_discSize o_grid_heights_n o_grid_heights o_grid_targets_n o_grid_targets) [.ref h_o, .int a1] res (wsX6_check cA h_o h_o_grid h_o_grid_heights h_o_grid_targets o_tools o_reader o_machine o_pieceCounter o_program o_draft o_grid_side o_grid_cells o_grid_kept o_grid_marks o_grid_disc o_grid_discSize o_grid_heights_n o_grid_heights o_grid_targets_n o_grid_targets) := by
  refine CtI.start (lv := [(0, .ref h_o), (1, .int a1)]) (by decide) (Nat.le_of_ble_eq_true rfl) rfl (fun κ hE => ?_)
  rw [fX6_check] at hf0
  refine z_iload_n 1 (pc := 0) dX6_check_0 rfl ?_
  refine z_iconst (pc := 1) (v := 3) dX6_check_1 (by decide) ?_
  obtain ⟨r1, er1, hf0⟩ := bp hf0
  rcases r1 with r1k | r1v
  · have hs := sum_inl hf0; cases hs
  replace hf0 := sum_inr hf0
  refine z_callv0S (pc := 2) (As := [.int a1, .int 3]) (rest := []) (k0X6_demandWhat l D cA   a1 3 N r1v er1) ivX6_116 ⟨rfl, rfl⟩ ⟨by decide, by decide⟩ rfl ⟨Nat.zero_le _, Nat.zero_le _⟩ [] rfl (by decide) rfl (Nat.le_of_ble_eq_true rfl) dX6_check_2 ?_
  refine z_iload_n 1 (pc := 5) dX6_check_5 rfl ?_
  by_cases w6_0 : a1 = 0
  · have hf0 := fp w6_0 hf0
    refine y_tabIn (pc := 6) (off := 26) (tgt := 32) dX6_check_6 (by rw [w6_0]; decide) (by rw [w6_0]; decide) (by rw [w6_0]; first | done | rfl) (by decide) ?_
    refine z_aload_n 0 (pc := 32) dX6_check_32 rfl ?_
    refine z_get 0 0 (pc := 33) (v := .ref h_o_grid) rfl rfl inX6 (by decide) flX6_23 rfl dX6_check_33 ?_
    refine z_iconst (pc := 36) (v := 1) dX6_check_36 (by decide) ?_
    obtain ⟨r2, er2, hf0⟩ := bp hf0
    refine z_calliV (pc := 37) (As := [.int 1]) (rest := []) (ws' := (wsX6_check cA h_o h_o_grid h_o_grid_heights h_o_grid_targets o_tools o_reader o_machine o_pieceCounter o_program o_draft o_grid_side o_grid_cells o_grid_kept o_grid_marks o_grid_disc o_grid_discSize o_grid_heights_n o_grid_heights o_grid_targets_n o_grid_targets)) (kX0_countOff l D cA h_o_grid h_o_grid_heights h_o_grid_targets o_grid_side o_grid_cells o_grid_kept o_grid_marks o_grid_disc o_grid_discSize o_grid_heights_n o_grid_heights o_grid_targets_n o_grid_targets 1 N r2 er2) ivX6_160 ⟨rfl, rfl⟩ ⟨by decide, by decide⟩ rfl ⟨Nat.zero_le _, Nat.zero_le _⟩ rfl rfl [1, 2, 3] rfl (by decide) rfl rfl rfl (Nat.le_of_ble_eq_true rfl) dX6_check_37 ?_
    obtain rfl := Sum.inr.inj (Option.some.inj hf0)
    exact z_iret hE dX6_check_40
  have hf0 := fn w6_0 hf0
  by_cases w6_1 : a1 = 1
  · have hf0 := fp w6_1 hf0
    refine y_tabIn (pc := 6) (off := 35) (tgt := 41) dX6_check_6 (by rw [w6_1]; decide) (by rw [w6_1]; decide) (by rw [w6_1]; first | done | rfl) (by decide) ?_
    refine z_aload_n 0 (pc := 41) dX6_check_41 rfl ?_
    refine z_get 0 0 (pc := 42) (v := .ref h_o_grid) rfl rfl inX6 (by decide) flX6_23 rfl dX6_check_42 ?_
    refine z_iconst (pc := 45) (v := 0) dX6_check_45 (by decide) ?_
    obtain ⟨r3, er3, hf0⟩ := bp hf0
    refine z_calliV (pc := 46) (As := [.int 0]) (rest := []) (ws' := (wsX6_check cA h_o h_o_grid h_o_grid_heights h_o_grid_targets o_tools o_reader o_machine o_pieceCounter o_program o_draft o_grid_side o_grid_cells o_grid_kept o_grid_marks o_grid_disc o_grid_discSize o_grid_heights_n o_grid_heights o_grid_targets_n o_grid_targets)) (kX0_countOff l D cA h_o_grid h_o_grid_heights h_o_grid_targets o_grid_side o_grid_cells o_grid_kept o_grid_marks o_grid_disc o_grid_discSize o_grid_heights_n o_grid_heights o_grid_targets_n o_grid_targets 0 N r3 er3) ivX6_160 ⟨rfl, rfl⟩ ⟨by decide, by decide⟩ rfl ⟨Nat.zero_le _, Nat.zero_le _⟩ rfl rfl [1, 2, 3] rfl (by decide) rfl rfl rfl (Nat.le_of_ble_eq_true rfl) dX6_check_46 ?_
    obtain rfl := Sum.inr.inj (Option.some.inj hf0)
    exact z_iret hE dX6_check_49
  have hf0 := fn w6_1 hf0
  by_cases w6_2 : a1 = 2
  · have hf0 := fp w6_2 hf0
    refine y_tabIn (pc := 6) (off := 44) (tgt := 50) dX6_check_6 (by rw [w6_2]; decide) (by rw [w6_2]; decide) (by rw [w6_2]; first | done | rfl) (by decide) ?_
    refine z_aload_n 0 (pc := 50) dX6_check_50 rfl ?_
    refine z_get 0 0 (pc := 51) (v := .ref h_o_grid) rfl rfl inX6 (by decide) flX6_23 rfl dX6_check_51 ?_
    refine z_iconst (pc := 54) (v := 1) dX6_check_54 (by decide) ?_
    obtain ⟨r4, er4, hf0⟩ := bp hf0
    refine z_calliV (pc := 55) (As := [.int 1]) (rest := []) (ws' := (wsX6_check cA h_o h_o_grid h_o_grid_heights h_o_grid_targets o_tools o_reader o_machine o_pieceCounter o_program o_draft o_grid_side o_grid_cells o_grid_kept o_grid_marks o_grid_disc o_grid_discSize o_grid_heights_n o_grid_heights o_grid_targets_n o_grid_targets)) (kX0_firstOff l D cA h_o_grid h_o_grid_heights h_o_grid_targets o_grid_side o_grid_cells o_grid_kept o_grid_marks o_grid_disc o_grid_discSize o_grid_heights_n o_grid_heights o_grid_targets_n o_grid_targets 1 N r4 er4) ivX6_164 ⟨rfl, rfl⟩ ⟨by decide, by decide⟩ rfl ⟨Nat.zero_le _, Nat.zero_le _⟩ rfl rfl [1, 2, 3] rfl (by decide) rfl rfl rfl (Nat.le_of_ble_eq_true rfl) dX6_check_55 ?_
    obtain rfl := Sum.inr.inj (Option.some.inj hf0)
    exact z_iret hE dX6_check_58
  have hf0 := fn w6_2 hf0
  refine y_tabOut (pc := 6) (tgt := 59) dX6_check_6 (by have n0 := lv_neT w6_0 (a := 0) (by decide); have n1 := lv_neT w6_1 (a := 1) (by decide); have n2 := lv_neT w6_2 (a := 2) (by decide); omega) (by decide) ?_
  refine z_aload_n 0 (pc := 59) dX6_check_59 rfl ?_
  refine z_get 0 0 (pc := 60) (v := .ref h_o_grid) rfl rfl inX6 (by decide) flX6_23 rfl dX6_check_60 ?_
  refine z_iconst (pc := 63) (v := 0) dX6_check_63 (by decide) ?_
  obtain ⟨r5, er5, hf0⟩ := bp hf0
  refine z_calliV (pc := 64) (As := [.int 0]) (rest := []) (ws' := (wsX6_check cA h_o h_o_grid h_o_grid_heights h_o_grid_targets o_tools o_reader o_machine o_pieceCounter o_program o_draft o_grid_side o_grid_cells o_grid_kept o_grid_marks o_grid_disc o_grid_discSize o_grid_heights_n o_grid_heights o_grid_targets_n o_grid_targets)) (kX0_firstOff l D cA h_o_grid h_o_grid_heights h_o_grid_targets o_grid_side o_grid_cells o_grid_kept o_grid_marks o_grid_disc o_grid_discSize o_grid_heights_n o_grid_heights o_grid_targets_n o_grid_targets 0 N r5 er5) ivX6_164 ⟨rfl, rfl⟩ ⟨by decide, by decide⟩ rfl ⟨Nat.zero_le _, Nat.zero_le _⟩ rfl rfl [1, 2, 3] rfl (by decide) rfl rfl rfl (Nat.le_of_ble_eq_true rfl) dX6_check_64 ?_
  obtain rfl := Sum.inr.inj (Option.some.inj hf0)
  exact z_iret hE dX6_check_67

set_option maxHeartbeats 4000000 in
set_option maxRecDepth 100000 in
theorem tX6_check (l : Launch) (D : va_G) (cA : Nat → ClassId) (h_o : Nat) (h_o_grid : Nat) (h_o_grid_heights : Nat) (h_o_grid_targets : Nat) (o_tools : Value) (o_reader : Value) (o_machine : Value) (o_pieceCounter : Value) (o_program : Value) (o_draft : Value) (o_grid_side : Int32) (o_grid_cells : Int32) (o_grid_kept : Value) (o_grid_marks : Value) (o_grid_disc : Value) (o_grid_discSize : Int32) (o_grid_heights_n : Nat) (o_grid_heights : Nat → Int32) (o_grid_targets_n : Nat) (o_grid_targets : Nat → Int32) (a1 : Int32) (N : Nat) (kx : Nat) (hf0 : fX6_check N a1 o_grid_cells o_grid_heights_n o_grid_heights o_grid_targets_n o_grid_targets = some (.inl kx)) (hfl : l.flags = pinnedFlags ++ [noTraceFlag]) : CtT l yX6_check (Cond.code yX6_check cX6_check 2 (some .int) :: tblG) rtX6_check D cA (wsX6_check cA h_o h_o_grid h_o_grid_heights h_o_grid_targets o_tools o_reader o_machine o_pieceCounter o_program o_draft o_grid_side o_grid_cells o_grid_kept o_grid_marks o_grid_disc o_grid_discSize o_grid_heights_n o_grid_heights o_grid_targets_n o_grid_targets) [.ref h_o, .int a1] kx := by
  refine CtT.start (lv := [(0, .ref h_o), (1, .int a1)]) (by decide) (Nat.le_of_ble_eq_true rfl) rfl (fun κ hE => ?_)
  rw [fX6_check] at hf0
  refine z_iload_n 1 (pc := 0) dX6_check_0 rfl ?_
  refine z_iconst (pc := 1) (v := 3) dX6_check_1 (by decide) ?_
  obtain ⟨r1, er1, hf0⟩ := bp hf0
  rcases r1 with r1k | r1v
  · have hs := sum_inl hf0
    obtain rfl := Sum.inl.inj (Option.some.inj hs)
    exact z_callTS (pc := 2) (As := [.int a1, .int 3]) (rest := []) (tX6_demandWhat l D cA   a1 3 N r1k er1 hfl) ivX6_116 ⟨rfl, rfl⟩ ⟨by decide, by decide⟩ rfl ⟨by decide, by decide⟩ [] rfl (by decide) rfl (Nat.le_of_ble_eq_true rfl) dX6_check_2 hE
  replace hf0 := sum_inr hf0
  refine z_callv0S (pc := 2) (As := [.int a1, .int 3]) (rest := []) (k0X6_demandWhat l D cA   a1 3 N r1v er1) ivX6_116 ⟨rfl, rfl⟩ ⟨by decide, by decide⟩ rfl ⟨Nat.zero_le _, Nat.zero_le _⟩ [] rfl (by decide) rfl (Nat.le_of_ble_eq_true rfl) dX6_check_2 ?_
  exact absurd hf0 (by repeat' (first | with_reducible exact nr_inr | with_reducible exact nr_none | with_reducible refine nr_ite ?_ ?_ | with_reducible refine nr_bind (fun _ => ?_)))
