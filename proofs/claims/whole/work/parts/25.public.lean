abbrev RBX6_target : Type := (Nat → Int32)
abbrev rtX6_target : Room := { frames := 8, cells := 1, slots := 6, locals := 136 }
abbrev RX6_target : Type := Nat ⊕ ((Nat → Int32))
abbrev rmX6_target : Room := { frames := 3, cells := 0, slots := 0, locals := 68 }
abbrev wsX6_target (cA : Nat → ClassId) (h_o : Nat) (h_o_grid : Nat) (h_o_grid_targets : Nat) (o_tools : Value) (o_reader : Value) (o_machine : Value) (o_pieceCounter : Value) (o_program : Value) (o_draft : Value) (o_grid_side : Int32) (o_grid_cells : Int32) (o_grid_heights : Value) (o_grid_kept : Value) (o_grid_marks : Value) (o_grid_disc : Value) (o_grid_discSize : Int32) (o_grid_targets_n : Nat) (o_grid_targets : Nat → Int32) : va_W := [(h_o, .inr (6, [.ref h_o_grid, o_tools, o_reader, o_machine, o_pieceCounter, o_program, o_draft])), (h_o_grid, .inr (0, [.int o_grid_side, .int o_grid_cells, o_grid_heights, .ref h_o_grid_targets, o_grid_kept, o_grid_marks, o_grid_disc, .int o_grid_discSize])), (h_o_grid_targets, .inl (cA 0, o_grid_targets_n, .inl o_grid_targets))]
def fX6_target (N : Nat) (a1 : Int32) (a2 : Int32) (a3 : Int32) (a4 : Int32) (a5 : Int32) (o_grid_side : Int32) (o_grid_targets_n : Nat) (o_grid_targets : Nat → Int32) : Option RX6_target :=
  ((fX6_demandBlock N a1 a2 a3 a4 o_grid_side).bind fun r1 => Sum.elim (fun k => some (.inl k)) (fun r1v => (if a5 < 0 then some (.inl 1) else (if a5 ≤ 100 then ((fX0_aimBlock N a1 a2 a3 a4 a5 o_grid_side o_grid_targets_n o_grid_targets).bind fun r2 => some (.inr r2)) else some (.inl 1)))) r1)
set_option maxHeartbeats 4000000 in
set_option maxRecDepth 100000 in
theorem kX6_target (l : Launch) (D : va_G) (cA : Nat → ClassId) (h_o : Nat) (h_o_grid : Nat) (h_o_grid_targets : Nat) (o_tools : Value) (o_reader : Value) (o_machine : Value) (o_pieceCounter : Value) (o_program : Value) (o_draft : Value) (o_grid_side : Int32) (o_grid_cells : Int32) (o_grid_heights : Value) (o_grid_kept : Value) (o_grid_marks : Value) (o_grid_disc : Value) (o_grid_discSize : Int32) (o_grid_targets_n : Nat) (o_grid_targets : Nat → Int32) (a1 : Int32) (a2 : Int32) (a3 : Int32) (a4 : Int32) (a5 : Int32) (N : Nat) (res : RBX6_target) (hf0 : fX6_target N a1 a2 a3 a4 a5 o_grid_side o_grid_targets_n o_grid_targets = some (.inr res)) : CtV l yX6_target (Cond.code yX6_target cX6_target 6 (none) :: tblG) rmX6_target D cA (wsX6_target cA h_o h_o_grid h_o_grid_targets o_tools o_reader o_machine o_pieceCounter o_program o_draft o_grid_side o_grid_cells o_grid_heights o_grid_kept o_grid_marks o_grid_disc o_grid_discSize o_grid_targets_n o_grid_targets) [.ref h_o, .int a1, .int a2, .int a3, .int a4, .int a5] (wsX6_target cA h_o h_o_grid h_o_grid_targets o_tools o_reader o_machine o_pieceCounter o_program o_draft o_grid_side o_grid_cells o_grid_heights o_grid_kept o_grid_marks o_grid_disc o_grid_discSize o_grid_targets_n res) := by
  refine CtV.start (lv := [(0, .ref h_o), (1, .int a1), (2, .int a2), (3, .int a3), (4, .int a4), (5, .int a5)]) (by decide) (Nat.le_of_ble_eq_true rfl) rfl (fun κ hE => ?_)
  rw [fX6_target] at hf0
  refine z_aload_n 0 (pc := 0) dX6_target_0 rfl ?_
  refine z_iload_n 1 (pc := 1) dX6_target_1 rfl ?_
  refine z_iload_n 2 (pc := 2) dX6_target_2 rfl ?_
  refine z_iload_n 3 (pc := 3) dX6_target_3 rfl ?_
  refine z_iload 4 (pc := 4) dX6_target_4 rfl ?_
  obtain ⟨r1, er1, hf0⟩ := bp hf0
  rcases r1 with r1k | r1v
  · have hs := sum_inl hf0; cases hs
  replace hf0 := sum_inr hf0
  refine z_callv0V (pc := 6) (As := [.int a1, .int a2, .int a3, .int a4]) (rest := []) (k0X6_demandBlock l D cA h_o h_o_grid o_tools o_reader o_machine o_pieceCounter o_program o_draft o_grid_side o_grid_cells o_grid_heights (.ref h_o_grid_targets) o_grid_kept o_grid_marks o_grid_disc o_grid_discSize a1 a2 a3 a4 N r1v er1) ivX6_65 ⟨rfl, rfl⟩ ⟨by decide, by decide⟩ rfl ⟨Nat.zero_le _, Nat.zero_le _⟩ rfl rfl [0, 1] rfl (by decide) rfl (Nat.le_of_ble_eq_true rfl) dX6_target_6 ?_
  refine z_iload 5 (pc := 9) dX6_target_9 rfl ?_
  refine z_if_lt (pc := 11) (tgt := 21) dX6_target_11 (by decide) hf0 (fun hf0 => ?_) (fun hf0 => ?_)
  · cases hf0
  · refine z_iload 5 (pc := 14) dX6_target_14 rfl ?_
    refine z_bipush (pc := 16) (v := 100) dX6_target_16 (by decide) ?_
    refine z_icmp_le (pc := 18) (tgt := 31) dX6_target_18 (by decide) hf0 (fun hf0 => ?_) (fun hf0 => ?_)
    · refine z_aload_n 0 (pc := 31) dX6_target_31 rfl ?_
      refine z_get 0 0 (pc := 32) (v := .ref h_o_grid) rfl rfl inX6 (by decide) flX6_23 rfl dX6_target_32 ?_
      refine z_iload_n 1 (pc := 35) dX6_target_35 rfl ?_
      refine z_iload_n 2 (pc := 36) dX6_target_36 rfl ?_
      refine z_iload_n 3 (pc := 37) dX6_target_37 rfl ?_
      refine z_iload 4 (pc := 38) dX6_target_38 rfl ?_
      refine z_iload 5 (pc := 40) dX6_target_40 rfl ?_
      obtain ⟨r2, er2, hf0⟩ := bp hf0
      refine z_callvV (pc := 42) (As := [.int a1, .int a2, .int a3, .int a4, .int a5]) (rest := []) (ws' := (wsX6_target cA h_o h_o_grid h_o_grid_targets o_tools o_reader o_machine o_pieceCounter o_program o_draft o_grid_side o_grid_cells o_grid_heights o_grid_kept o_grid_marks o_grid_disc o_grid_discSize o_grid_targets_n r2)) (kX0_aimBlock l D cA h_o_grid h_o_grid_targets o_grid_side o_grid_cells o_grid_heights o_grid_kept o_grid_marks o_grid_disc o_grid_discSize o_grid_targets_n o_grid_targets a1 a2 a3 a4 a5 N r2 er2) ivX6_76 ⟨rfl, rfl⟩ ⟨by decide, by decide⟩ rfl ⟨Nat.zero_le _, Nat.zero_le _⟩ rfl rfl [1, 2] rfl (by decide) rfl rfl rfl (Nat.le_of_ble_eq_true rfl) dX6_target_42 ?_
      obtain rfl := Sum.inr.inj (Option.some.inj hf0)
      exact z_vret hE dX6_target_45
    · cases hf0

set_option maxHeartbeats 4000000 in
set_option maxRecDepth 100000 in
theorem tX6_target (l : Launch) (D : va_G) (cA : Nat → ClassId) (h_o : Nat) (h_o_grid : Nat) (h_o_grid_targets : Nat) (o_tools : Value) (o_reader : Value) (o_machine : Value) (o_pieceCounter : Value) (o_program : Value) (o_draft : Value) (o_grid_side : Int32) (o_grid_cells : Int32) (o_grid_heights : Value) (o_grid_kept : Value) (o_grid_marks : Value) (o_grid_disc : Value) (o_grid_discSize : Int32) (o_grid_targets_n : Nat) (o_grid_targets : Nat → Int32) (a1 : Int32) (a2 : Int32) (a3 : Int32) (a4 : Int32) (a5 : Int32) (N : Nat) (kx : Nat) (hf0 : fX6_target N a1 a2 a3 a4 a5 o_grid_side o_grid_targets_n o_grid_targets = some (.inl kx)) (hfl : l.flags = pinnedFlags ++ [noTraceFlag]) : CtT l yX6_target (Cond.code yX6_target cX6_target 6 (none) :: tblG) rtX6_target D cA (wsX6_target cA h_o h_o_grid h_o_grid_targets o_tools o_reader o_machine o_pieceCounter o_program o_draft o_grid_side o_grid_cells o_grid_heights o_grid_kept o_grid_marks o_grid_disc o_grid_discSize o_grid_targets_n o_grid_targets) [.ref h_o, .int a1, .int a2, .int a3, .int a4, .int a5] kx := by
  refine CtT.start (lv := [(0, .ref h_o), (1, .int a1), (2, .int a2), (3, .int a3), (4, .int a4), (5, .int a5)]) (by decide) (Nat.le_of_ble_eq_true rfl) rfl (fun κ hE => ?_)
  rw [fX6_target] at hf0
  refine z_aload_n 0 (pc := 0) dX6_target_0 rfl ?_
  refine z_iload_n 1 (pc := 1) dX6_target_1 rfl ?_
  refine z_iload_n 2 (pc := 2) dX6_target_2 rfl ?_
  refine z_iload_n 3 (pc := 3) dX6_target_3 rfl ?_
  refine z_iload 4 (pc := 4) dX6_target_4 rfl ?_
  obtain ⟨r1, er1, hf0⟩ := bp hf0
  rcases r1 with r1k | r1v
  · have hs := sum_inl hf0
    obtain rfl := Sum.inl.inj (Option.some.inj hs)
    exact z_callTV (pc := 6) (As := [.int a1, .int a2, .int a3, .int a4]) (rest := []) (tX6_demandBlock l D cA h_o h_o_grid o_tools o_reader o_machine o_pieceCounter o_program o_draft o_grid_side o_grid_cells o_grid_heights (.ref h_o_grid_targets) o_grid_kept o_grid_marks o_grid_disc o_grid_discSize a1 a2 a3 a4 N r1k er1 hfl) ivX6_65 ⟨rfl, rfl⟩ ⟨by decide, by decide⟩ rfl ⟨by decide, by decide⟩ rfl rfl [0, 1] rfl (by decide) rfl (Nat.le_of_ble_eq_true rfl) dX6_target_6 hE
  replace hf0 := sum_inr hf0
  refine z_callv0V (pc := 6) (As := [.int a1, .int a2, .int a3, .int a4]) (rest := []) (k0X6_demandBlock l D cA h_o h_o_grid o_tools o_reader o_machine o_pieceCounter o_program o_draft o_grid_side o_grid_cells o_grid_heights (.ref h_o_grid_targets) o_grid_kept o_grid_marks o_grid_disc o_grid_discSize a1 a2 a3 a4 N r1v er1) ivX6_65 ⟨rfl, rfl⟩ ⟨by decide, by decide⟩ rfl ⟨Nat.zero_le _, Nat.zero_le _⟩ rfl rfl [0, 1] rfl (by decide) rfl (Nat.le_of_ble_eq_true rfl) dX6_target_6 ?_
  refine z_iload 5 (pc := 9) dX6_target_9 rfl ?_
  refine z_if_lt (pc := 11) (tgt := 21) dX6_target_11 (by decide) hf0 (fun hf0 => ?_) (fun hf0 => ?_)
  · obtain rfl := Sum.inl.inj (Option.some.inj hf0)
    exact z_throw (pc := 21) (li := 71) hfl rfl (by decide) (by decide +kernel) xcl_69 xin_1 xii_1 xoa_73 hE ⟨by decide, by decide, by decide, Nat.le_of_ble_eq_true rfl⟩ dX6_target_21 dX6_target_24 dX6_target_25 dX6_target_27 dX6_target_30
  · refine z_iload 5 (pc := 14) dX6_target_14 rfl ?_
    refine z_bipush (pc := 16) (v := 100) dX6_target_16 (by decide) ?_
    refine z_icmp_le (pc := 18) (tgt := 31) dX6_target_18 (by decide) hf0 (fun hf0 => ?_) (fun hf0 => ?_)
    · exact absurd hf0 (by
        intro hf0
        (repeat' (first | (cases hf0; done) | (obtain ⟨_, _, hf0⟩ := bp hf0) | (split at hf0))))
    · obtain rfl := Sum.inl.inj (Option.some.inj hf0)
      exact z_throw (pc := 21) (li := 71) hfl rfl (by decide) (by decide +kernel) xcl_69 xin_1 xii_1 xoa_73 hE ⟨by decide, by decide, by decide, Nat.le_of_ble_eq_true rfl⟩ dX6_target_21 dX6_target_24 dX6_target_25 dX6_target_27 dX6_target_30

abbrev RBX6_keep : Type := (Nat → Int32)
abbrev rtX6_keep : Room := { frames := 8, cells := 1, slots := 6, locals := 136 }
abbrev RX6_keep : Type := Nat ⊕ ((Nat → Int32))
abbrev rmX6_keep : Room := { frames := 3, cells := 0, slots := 0, locals := 68 }
abbrev wsX6_keep (cA : Nat → ClassId) (h_o : Nat) (h_o_grid : Nat) (h_o_grid_kept : Nat) (o_tools : Value) (o_reader : Value) (o_machine : Value) (o_pieceCounter : Value) (o_program : Value) (o_draft : Value) (o_grid_side : Int32) (o_grid_cells : Int32) (o_grid_heights : Value) (o_grid_targets : Value) (o_grid_marks : Value) (o_grid_disc : Value) (o_grid_discSize : Int32) (o_grid_kept_n : Nat) (o_grid_kept : Nat → Int32) : va_W := [(h_o, .inr (6, [.ref h_o_grid, o_tools, o_reader, o_machine, o_pieceCounter, o_program, o_draft])), (h_o_grid, .inr (0, [.int o_grid_side, .int o_grid_cells, o_grid_heights, o_grid_targets, .ref h_o_grid_kept, o_grid_marks, o_grid_disc, .int o_grid_discSize])), (h_o_grid_kept, .inl (cA 1, o_grid_kept_n, .inl o_grid_kept))]
def fX6_keep (N : Nat) (a1 : Int32) (a2 : Int32) (a3 : Int32) (a4 : Int32) (a5 : Int32) (o_grid_side : Int32) (o_grid_kept_n : Nat) (o_grid_kept : Nat → Int32) : Option RX6_keep :=
  ((fX6_demandBlock N a1 a2 a3 a4 o_grid_side).bind fun r1 => Sum.elim (fun k => some (.inl k)) (fun r1v => ((fX0_guardBlock N a1 a2 a3 a4 a5 o_grid_side o_grid_kept_n o_grid_kept).bind fun r2 => some (.inr r2))) r1)
set_option maxHeartbeats 4000000 in
set_option maxRecDepth 100000 in
theorem kX6_keep (l : Launch) (D : va_G) (cA : Nat → ClassId) (h_o : Nat) (h_o_grid : Nat) (h_o_grid_kept : Nat) (o_tools : Value) (o_reader : Value) (o_machine : Value) (o_pieceCounter : Value) (o_program : Value) (o_draft : Value) (o_grid_side : Int32) (o_grid_cells : Int32) (o_grid_heights : Value) (o_grid_targets : Value) (o_grid_marks : Value) (o_grid_disc : Value) (o_grid_discSize : Int32) (o_grid_kept_n : Nat) (o_grid_kept : Nat → Int32) (a1 : Int32) (a2 : Int32) (a3 : Int32) (a4 : Int32) (a5 : Int32) (N : Nat) (res : RBX6_keep) (hf0 : fX6_keep N a1 a2 a3 a4 a5 o_grid_side o_grid_kept_n o_grid_kept = some (.inr res)) : CtV l yX6_keep (Cond.code yX6_keep cX6_keep 6 (none) :: tblG) rmX6_keep D cA (wsX6_keep cA h_o h_o_grid h_o_grid_kept o_tools o_reader o_machine o_pieceCounter o_program o_draft o_grid_side o_grid_cells o_grid_heights o_grid_targets o_grid_marks o_grid_disc o_grid_discSize o_grid_kept_n o_grid_kept) [.ref h_o, .int a1, .int a2, .int a3, .int a4, .int a5] (wsX6_keep cA h_o h_o_grid h_o_grid_kept o_tools o_reader o_machine o_pieceCounter o_program o_draft o_grid_side o_grid_cells o_grid_heights o_grid_targets o_grid_marks o_grid_disc o_grid_discSize o_grid_kept_n res) := by
  refine CtV.start (lv := [(0, .ref h_o), (1, .int a1), (2, .int a2), (3, .int a3), (4, .int a4), (5, .int a5)]) (by decide) (Nat.le_of_ble_eq_true rfl) rfl (fun κ hE => ?_)
  rw [fX6_keep] at hf0
  refine z_aload_n 0 (pc := 0) dX6_keep_0 rfl ?_
  refine z_iload_n 1 (pc := 1) dX6_keep_1 rfl ?_
  refine z_iload_n 2 (pc := 2) dX6_keep_2 rfl ?_
  refine z_iload_n 3 (pc := 3) dX6_keep_3 rfl ?_
  refine z_iload 4 (pc := 4) dX6_keep_4 rfl ?_
  obtain ⟨r1, er1, hf0⟩ := bp hf0
  rcases r1 with r1k | r1v
  · have hs := sum_inl hf0; cases hs
  replace hf0 := sum_inr hf0
  refine z_callv0V (pc := 6) (As := [.int a1, .int a2, .int a3, .int a4]) (rest := []) (k0X6_demandBlock l D cA h_o h_o_grid o_tools o_reader o_machine o_pieceCounter o_program o_draft o_grid_side o_grid_cells o_grid_heights o_grid_targets (.ref h_o_grid_kept) o_grid_marks o_grid_disc o_grid_discSize a1 a2 a3 a4 N r1v er1) ivX6_65 ⟨rfl, rfl⟩ ⟨by decide, by decide⟩ rfl ⟨Nat.zero_le _, Nat.zero_le _⟩ rfl rfl [0, 1] rfl (by decide) rfl (Nat.le_of_ble_eq_true rfl) dX6_keep_6 ?_
  refine z_aload_n 0 (pc := 9) dX6_keep_9 rfl ?_
  refine z_get 0 0 (pc := 10) (v := .ref h_o_grid) rfl rfl inX6 (by decide) flX6_23 rfl dX6_keep_10 ?_
  refine z_iload_n 1 (pc := 13) dX6_keep_13 rfl ?_
  refine z_iload_n 2 (pc := 14) dX6_keep_14 rfl ?_
  refine z_iload_n 3 (pc := 15) dX6_keep_15 rfl ?_
  refine z_iload 4 (pc := 16) dX6_keep_16 rfl ?_
  refine z_iload 5 (pc := 18) dX6_keep_18 rfl ?_
  obtain ⟨r2, er2, hf0⟩ := bp hf0
  refine z_callvV (pc := 20) (As := [.int a1, .int a2, .int a3, .int a4, .int a5]) (rest := []) (ws' := (wsX6_keep cA h_o h_o_grid h_o_grid_kept o_tools o_reader o_machine o_pieceCounter o_program o_draft o_grid_side o_grid_cells o_grid_heights o_grid_targets o_grid_marks o_grid_disc o_grid_discSize o_grid_kept_n r2)) (kX0_guardBlock l D cA h_o_grid h_o_grid_kept o_grid_side o_grid_cells o_grid_heights o_grid_targets o_grid_marks o_grid_disc o_grid_discSize o_grid_kept_n o_grid_kept a1 a2 a3 a4 a5 N r2 er2) ivX6_80 ⟨rfl, rfl⟩ ⟨by decide, by decide⟩ rfl ⟨Nat.zero_le _, Nat.zero_le _⟩ rfl rfl [1, 2] rfl (by decide) rfl rfl rfl (Nat.le_of_ble_eq_true rfl) dX6_keep_20 ?_
  obtain rfl := Sum.inr.inj (Option.some.inj hf0)
  exact z_vret hE dX6_keep_23

set_option maxHeartbeats 4000000 in
set_option maxRecDepth 100000 in
theorem tX6_keep (l : Launch) (D : va_G) (cA : Nat → ClassId) (h_o : Nat) (h_o_grid : Nat) (h_o_grid_kept : Nat) (o_tools : Value) (o_reader : Value) (o_machine : Value) (o_pieceCounter : Value) (o_program : Value) (o_draft : Value) (o_grid_side : Int32) (o_grid_cells : Int32) (o_grid_heights : Value) (o_grid_targets : Value) (o_grid_marks : Value) (o_grid_disc : Value) (o_grid_discSize : Int32) (o_grid_kept_n : Nat) (o_grid_kept : Nat → Int32) (a1 : Int32) (a2 : Int32) (a3 : Int32) (a4 : Int32) (a5 : Int32) (N : Nat) (kx : Nat) (hf0 : fX6_keep N a1 a2 a3 a4 a5 o_grid_side o_grid_kept_n o_grid_kept = some (.inl kx)) (hfl : l.flags = pinnedFlags ++ [noTraceFlag]) : CtT l yX6_keep (Cond.code yX6_keep cX6_keep 6 (none) :: tblG) rtX6_keep D cA (wsX6_keep cA h_o h_o_grid h_o_grid_kept o_tools o_reader o_machine o_pieceCounter o_program o_draft o_grid_side o_grid_cells o_grid_heights o_grid_targets o_grid_marks o_grid_disc o_grid_discSize o_grid_kept_n o_grid_kept) [.ref h_o, .int a1, .int a2, .int a3, .int a4, .int a5] kx := by
  refine CtT.start (lv := [(0, .ref h_o), (1, .int a1), (2, .int a2), (3, .int a3), (4, .int a4), (5, .int a5)]) (by decide) (Nat.le_of_ble_eq_true rfl) rfl (fun κ hE => ?_)
  rw [fX6_keep] at hf0
  refine z_aload_n 0 (pc := 0) dX6_keep_0 rfl ?_
  refine z_iload_n 1 (pc := 1) dX6_keep_1 rfl ?_
  refine z_iload_n 2 (pc := 2) dX6_keep_2 rfl ?_
  refine z_iload_n 3 (pc := 3) dX6_keep_3 rfl ?_
  refine z_iload 4 (pc := 4) dX6_keep_4 rfl ?_
  obtain ⟨r1, er1, hf0⟩ := bp hf0
  rcases r1 with r1k | r1v
  · have hs := sum_inl hf0
    obtain rfl := Sum.inl.inj (Option.some.inj hs)
    exact z_callTV (pc := 6) (As := [.int a1, .int a2, .int a3, .int a4]) (rest := []) (tX6_demandBlock l D cA h_o h_o_grid o_tools o_reader o_machine o_pieceCounter o_program o_draft o_grid_side o_grid_cells o_grid_heights o_grid_targets (.ref h_o_grid_kept) o_grid_marks o_grid_disc o_grid_discSize a1 a2 a3 a4 N r1k er1 hfl) ivX6_65 ⟨rfl, rfl⟩ ⟨by decide, by decide⟩ rfl ⟨by decide, by decide⟩ rfl rfl [0, 1] rfl (by decide) rfl (Nat.le_of_ble_eq_true rfl) dX6_keep_6 hE
  replace hf0 := sum_inr hf0
  refine z_callv0V (pc := 6) (As := [.int a1, .int a2, .int a3, .int a4]) (rest := []) (k0X6_demandBlock l D cA h_o h_o_grid o_tools o_reader o_machine o_pieceCounter o_program o_draft o_grid_side o_grid_cells o_grid_heights o_grid_targets (.ref h_o_grid_kept) o_grid_marks o_grid_disc o_grid_discSize a1 a2 a3 a4 N r1v er1) ivX6_65 ⟨rfl, rfl⟩ ⟨by decide, by decide⟩ rfl ⟨Nat.zero_le _, Nat.zero_le _⟩ rfl rfl [0, 1] rfl (by decide) rfl (Nat.le_of_ble_eq_true rfl) dX6_keep_6 ?_
  exact absurd hf0 (by
    intro hf0
    (repeat' (first | (cases hf0; done) | (obtain ⟨_, _, hf0⟩ := bp hf0) | (split at hf0))))

abbrev RBX6_tool : Type := (Nat → Int32) × (Nat → Int32) × (Nat → Nat → Int32)
abbrev rtX6_tool : Room := { frames := 7, cells := 1, slots := 6, locals := 110 }
abbrev RX6_tool : Type := Nat ⊕ ((Nat → Int32) × (Nat → Int32) × (Nat → Nat → Int32))
abbrev rmX6_tool : Room := { frames := 2, cells := 0, slots := 0, locals := 46 }
abbrev wsX6_tool (cA : Nat → ClassId) (h_o : Nat) (h_o_tools : Nat) (h_o_tools_0 : Nat) (h_o_tools_1 : Nat) (h_o_tools_2 : Nat) (h_o_tools_3 : Nat) (h_o_tools_0_halfWidths : Nat) (h_o_tools_1_halfWidths : Nat) (h_o_tools_2_halfWidths : Nat) (h_o_tools_3_halfWidths : Nat) (o_grid : Value) (o_reader : Value) (o_machine : Value) (o_pieceCounter : Value) (o_program : Value) (o_draft : Value) (o_tools_radius : Nat → Int32) (o_tools_feed : Nat → Int32) (o_tools_halfWidths_n : Nat) (o_tools_halfWidths : Nat → Nat → Int32) : va_W := [(h_o, .inr (6, [o_grid, .ref h_o_tools, o_reader, o_machine, o_pieceCounter, o_program, o_draft])), (h_o_tools, .inl (cA 4, 4, .inr (.inr (.inr (.inr (rk4 h_o_tools_0 h_o_tools_1 h_o_tools_2 h_o_tools_3)))))), (h_o_tools_0, .inr (5, [.int (o_tools_radius 0), .int (o_tools_feed 0), .ref h_o_tools_0_halfWidths])), (h_o_tools_1, .inr (5, [.int (o_tools_radius 1), .int (o_tools_feed 1), .ref h_o_tools_1_halfWidths])), (h_o_tools_2, .inr (5, [.int (o_tools_radius 2), .int (o_tools_feed 2), .ref h_o_tools_2_halfWidths])), (h_o_tools_3, .inr (5, [.int (o_tools_radius 3), .int (o_tools_feed 3), .ref h_o_tools_3_halfWidths])), (h_o_tools_0_halfWidths, .inl (cA 0, o_tools_halfWidths_n, .inl (o_tools_halfWidths 0))), (h_o_tools_1_halfWidths, .inl (cA 0, o_tools_halfWidths_n, .inl (o_tools_halfWidths 1))), (h_o_tools_2_halfWidths, .inl (cA 0, o_tools_halfWidths_n, .inl (o_tools_halfWidths 2))), (h_o_tools_3_halfWidths, .inl (cA 0, o_tools_halfWidths_n, .inl (o_tools_halfWidths 3)))]
def fX6_tool (N : Nat) (a1 : Int32) (a2 : Int32) (a3 : Int32) (o_tools_radius : Nat → Int32) (o_tools_feed : Nat → Int32) (o_tools_halfWidths_n : Nat) (o_tools_halfWidths : Nat → Nat → Int32) : Option RX6_tool :=
  ((fX6_demandTool N a1).bind fun r1 => Sum.elim (fun k => some (.inl k)) (fun r1v => (if a2 < 0 then some (.inl 1) else (if a2 ≤ 6 then (if a3 < 1 then some (.inl 1) else (if a3 ≤ 10 then (if a1 < 0 ∨ 4 ≤ a1.toNatClampNeg then none else ((fX5_become N a2 a3 (o_tools_radius a1.toNatClampNeg) (o_tools_feed a1.toNatClampNeg) o_tools_halfWidths_n (o_tools_halfWidths a1.toNatClampNeg)).bind fun r2 => some (.inr (va_up o_tools_radius a1.toNatClampNeg r2.1, va_up o_tools_feed a1.toNatClampNeg r2.2.1, va_up o_tools_halfWidths a1.toNatClampNeg r2.2.2)))) else some (.inl 1))) else some (.inl 1)))) r1)
set_option maxHeartbeats 4000000 in
set_option maxRecDepth 100000 in
theorem kX6_tool (l : Launch) (D : va_G) (cA : Nat → ClassId) (h_o : Nat) (h_o_tools : Nat) (h_o_tools_0 : Nat) (h_o_tools_1 : Nat) (h_o_tools_2 : Nat) (h_o_tools_3 : Nat) (h_o_tools_0_halfWidths : Nat) (h_o_tools_1_halfWidths : Nat) (h_o_tools_2_halfWidths : Nat) (h_o_tools_3_halfWidths : Nat) (o_grid : Value) (o_reader : Value) (o_machine : Value) (o_pieceCounter : Value) (o_program : Value) (o_draft : Value) (o_tools_radius : Nat → Int32) (o_tools_feed : Nat → Int32) (o_tools_halfWidths_n : Nat) (o_tools_halfWidths : Nat → Nat → Int32) (a1 : Int32) (a2 : Int32) (a3 : Int32) (N : Nat) (res : RBX6_tool) (hf0 : fX6_tool N a1 a2 a3 o_tools_radius o_tools_feed o_tools_halfWidths_n o_tools_halfWidths = some (.inr res)) : CtV l yX6_tool (Cond.code yX6_tool cX6_tool 4 (none) :: tblG) rmX6_tool D cA (wsX6_tool cA h_o h_o_tools h_o_tools_0 h_o_tools_1 h_o_tools_2 h_o_tools_3 h_o_tools_0_halfWidths h_o_tools_1_halfWidths h_o_tools_2_halfWidths h_o_tools_3_halfWidths o_grid o_reader o_machine o_pieceCounter o_program o_draft o_tools_radius o_tools_feed o_tools_halfWidths_n o_tools_halfWidths) [.ref h_o, .int a1, .int a2, .int a3] (wsX6_tool cA h_o h_o_tools h_o_tools_0 h_o_tools_1 h_o_tools_2 h_o_tools_3 h_o_tools_0_halfWidths h_o_tools_1_halfWidths h_o_tools_2_halfWidths h_o_tools_3_halfWidths o_grid o_reader o_machine o_pieceCounter o_program o_draft res.1 res.2.1 o_tools_halfWidths_n res.2.2) := by
  refine CtV.start (lv := [(0, .ref h_o), (1, .int a1), (2, .int a2), (3, .int a3)]) (by decide) (Nat.le_of_ble_eq_true rfl) rfl (fun κ hE => ?_)
  rw [fX6_tool] at hf0
  refine z_iload_n 1 (pc := 0) dX6_tool_0 rfl ?_
  obtain ⟨r1, er1, hf0⟩ := bp hf0
  rcases r1 with r1k | r1v
  · have hs := sum_inl hf0; cases hs
  replace hf0 := sum_inr hf0
  refine z_callv0S (pc := 1) (As := [.int a1]) (rest := []) (k0X6_demandTool l D cA   a1 N r1v er1) ivX6_84 ⟨rfl, rfl⟩ ⟨by decide, by decide⟩ rfl ⟨Nat.zero_le _, Nat.zero_le _⟩ [] rfl (by decide) rfl (Nat.le_of_ble_eq_true rfl) dX6_tool_1 ?_
  refine z_iload_n 2 (pc := 4) dX6_tool_4 rfl ?_
  refine z_if_lt (pc := 5) (tgt := 14) dX6_tool_5 (by decide) hf0 (fun hf0 => ?_) (fun hf0 => ?_)
  · cases hf0
  · refine z_iload_n 2 (pc := 8) dX6_tool_8 rfl ?_
    refine z_bipush (pc := 9) (v := 6) dX6_tool_9 (by decide) ?_
    refine z_icmp_le (pc := 11) (tgt := 24) dX6_tool_11 (by decide) hf0 (fun hf0 => ?_) (fun hf0 => ?_)
    · refine z_iload_n 3 (pc := 24) dX6_tool_24 rfl ?_
      refine z_iconst (pc := 25) (v := 1) dX6_tool_25 (by decide) ?_
      refine z_icmp_lt (pc := 26) (tgt := 35) dX6_tool_26 (by decide) hf0 (fun hf0 => ?_) (fun hf0 => ?_)
      · cases hf0
      · refine z_iload_n 3 (pc := 29) dX6_tool_29 rfl ?_
        refine z_bipush (pc := 30) (v := 10) dX6_tool_30 (by decide) ?_
        refine z_icmp_le (pc := 32) (tgt := 45) dX6_tool_32 (by decide) hf0 (fun hf0 => ?_) (fun hf0 => ?_)
        · refine z_aload_n 0 (pc := 45) dX6_tool_45 rfl ?_
          refine z_get 0 1 (pc := 46) (v := .ref h_o_tools) rfl rfl inX6 (by decide) flX6_29 rfl dX6_tool_46 ?_
          refine z_iload_n 1 (pc := 49) dX6_tool_49 rfl ?_
          refine z_aaload 1 4 (pc := 50) rfl rfl dX6_tool_50 hf0 (fun hf0 hk50 => ?_)
          rcases fam4 hk50 with ek50 | ek50 | ek50 | ek50
          · rw [ek50] at hf0 ⊢
            refine z_stk (stk' := [.ref h_o_tools_0]) rfl ?_
            refine z_iload_n 2 (pc := 51) dX6_tool_51 rfl ?_
            refine z_iload_n 3 (pc := 52) dX6_tool_52 rfl ?_
            obtain ⟨r2, er2, hf0⟩ := bp hf0
            refine z_callvV (pc := 53) (As := [.int a2, .int a3]) (rest := []) (ws' := (wsX6_tool cA h_o h_o_tools h_o_tools_0 h_o_tools_1 h_o_tools_2 h_o_tools_3 h_o_tools_0_halfWidths h_o_tools_1_halfWidths h_o_tools_2_halfWidths h_o_tools_3_halfWidths o_grid o_reader o_machine o_pieceCounter o_program o_draft (va_up o_tools_radius 0 r2.1) (va_up o_tools_feed 0 r2.2.1) o_tools_halfWidths_n (va_up o_tools_halfWidths 0 r2.2.2))) (kX5_become l D cA h_o_tools_0 h_o_tools_0_halfWidths (o_tools_radius 0) (o_tools_feed 0) o_tools_halfWidths_n (o_tools_halfWidths 0) a2 a3 N r2 er2) ivX6_91 ⟨rfl, rfl⟩ ⟨by decide, by decide⟩ rfl ⟨Nat.zero_le _, Nat.zero_le _⟩ rfl rfl [2, 6] rfl (by decide) rfl rfl rfl (Nat.le_of_ble_eq_true rfl) dX6_tool_53 ?_
            obtain rfl := Sum.inr.inj (Option.some.inj hf0)
            exact z_vret hE dX6_tool_56
          · rw [ek50] at hf0 ⊢
            refine z_stk (stk' := [.ref h_o_tools_1]) rfl ?_
            refine z_iload_n 2 (pc := 51) dX6_tool_51 rfl ?_
            refine z_iload_n 3 (pc := 52) dX6_tool_52 rfl ?_
            obtain ⟨r2, er2, hf0⟩ := bp hf0
            refine z_callvV (pc := 53) (As := [.int a2, .int a3]) (rest := []) (ws' := (wsX6_tool cA h_o h_o_tools h_o_tools_0 h_o_tools_1 h_o_tools_2 h_o_tools_3 h_o_tools_0_halfWidths h_o_tools_1_halfWidths h_o_tools_2_halfWidths h_o_tools_3_halfWidths o_grid o_reader o_machine o_pieceCounter o_program o_draft (va_up o_tools_radius 1 r2.1) (va_up o_tools_feed 1 r2.2.1) o_tools_halfWidths_n (va_up o_tools_halfWidths 1 r2.2.2))) (kX5_become l D cA h_o_tools_1 h_o_tools_1_halfWidths (o_tools_radius 1) (o_tools_feed 1) o_tools_halfWidths_n (o_tools_halfWidths 1) a2 a3 N r2 er2) ivX6_91 ⟨rfl, rfl⟩ ⟨by decide, by decide⟩ rfl ⟨Nat.zero_le _, Nat.zero_le _⟩ rfl rfl [3, 7] rfl (by decide) rfl rfl rfl (Nat.le_of_ble_eq_true rfl) dX6_tool_53 ?_
            obtain rfl := Sum.inr.inj (Option.some.inj hf0)
            exact z_vret hE dX6_tool_56
          · rw [ek50] at hf0 ⊢
            refine z_stk (stk' := [.ref h_o_tools_2]) rfl ?_
            refine z_iload_n 2 (pc := 51) dX6_tool_51 rfl ?_
            refine z_iload_n 3 (pc := 52) dX6_tool_52 rfl ?_
            obtain ⟨r2, er2, hf0⟩ := bp hf0
            refine z_callvV (pc := 53) (As := [.int a2, .int a3]) (rest := []) (ws' := (wsX6_tool cA h_o h_o_tools h_o_tools_0 h_o_tools_1 h_o_tools_2 h_o_tools_3 h_o_tools_0_halfWidths h_o_tools_1_halfWidths h_o_tools_2_halfWidths h_o_tools_3_halfWidths o_grid o_reader o_machine o_pieceCounter o_program o_draft (va_up o_tools_radius 2 r2.1) (va_up o_tools_feed 2 r2.2.1) o_tools_halfWidths_n (va_up o_tools_halfWidths 2 r2.2.2))) (kX5_become l D cA h_o_tools_2 h_o_tools_2_halfWidths (o_tools_radius 2) (o_tools_feed 2) o_tools_halfWidths_n (o_tools_halfWidths 2) a2 a3 N r2 er2) ivX6_91 ⟨rfl, rfl⟩ ⟨by decide, by decide⟩ rfl ⟨Nat.zero_le _, Nat.zero_le _⟩ rfl rfl [4, 8] rfl (by decide) rfl rfl rfl (Nat.le_of_ble_eq_true rfl) dX6_tool_53 ?_
            obtain rfl := Sum.inr.inj (Option.some.inj hf0)
            exact z_vret hE dX6_tool_56
          · rw [ek50] at hf0 ⊢
            refine z_stk (stk' := [.ref h_o_tools_3]) rfl ?_
            refine z_iload_n 2 (pc := 51) dX6_tool_51 rfl ?_
            refine z_iload_n 3 (pc := 52) dX6_tool_52 rfl ?_
            obtain ⟨r2, er2, hf0⟩ := bp hf0
            refine z_callvV (pc := 53) (As := [.int a2, .int a3]) (rest := []) (ws' := (wsX6_tool cA h_o h_o_tools h_o_tools_0 h_o_tools_1 h_o_tools_2 h_o_tools_3 h_o_tools_0_halfWidths h_o_tools_1_halfWidths h_o_tools_2_halfWidths h_o_tools_3_halfWidths o_grid o_reader o_machine o_pieceCounter o_program o_draft (va_up o_tools_radius 3 r2.1) (va_up o_tools_feed 3 r2.2.1) o_tools_halfWidths_n (va_up o_tools_halfWidths 3 r2.2.2))) (kX5_become l D cA h_o_tools_3 h_o_tools_3_halfWidths (o_tools_radius 3) (o_tools_feed 3) o_tools_halfWidths_n (o_tools_halfWidths 3) a2 a3 N r2 er2) ivX6_91 ⟨rfl, rfl⟩ ⟨by decide, by decide⟩ rfl ⟨Nat.zero_le _, Nat.zero_le _⟩ rfl rfl [5, 9] rfl (by decide) rfl rfl rfl (Nat.le_of_ble_eq_true rfl) dX6_tool_53 ?_
            obtain rfl := Sum.inr.inj (Option.some.inj hf0)
            exact z_vret hE dX6_tool_56
        · cases hf0
    · cases hf0

set_option maxHeartbeats 4000000 in
set_option maxRecDepth 100000 in
theorem tX6_tool (l : Launch) (D : va_G) (cA : Nat → ClassId) (h_o : Nat) (h_o_tools : Nat) (h_o_tools_0 : Nat) (h_o_tools_1 : Nat) (h_o_tools_2 : Nat) (h_o_tools_3 : Nat) (h_o_tools_0_halfWidths : Nat) (h_o_tools_1_halfWidths : Nat) (h_o_tools_2_halfWidths : Nat) (h_o_tools_3_halfWidths : Nat) (o_grid : Value) (o_reader : Value) (o_machine : Value) (o_pieceCounter : Value) (o_program : Value) (o_draft : Value) (o_tools_radius : Nat → Int32) (o_tools_feed : Nat → Int32) (o_tools_halfWidths_n : Nat) (o_tools_halfWidths : Nat → Nat → Int32) (a1 : Int32) (a2 : Int32) (a3 : Int32) (N : Nat) (kx : Nat) (hf0 : fX6_tool N a1 a2 a3 o_tools_radius o_tools_feed o_tools_halfWidths_n o_tools_halfWidths = some (.inl kx)) (hfl : l.flags = pinnedFlags ++ [noTraceFlag]) : CtT l yX6_tool (Cond.code yX6_tool cX6_tool 4 (none) :: tblG) rtX6_tool D cA (wsX6_tool cA h_o h_o_tools h_o_tools_0 h_o_tools_1 h_o_tools_2 h_o_tools_3 h_o_tools_0_halfWidths h_o_tools_1_halfWidths h_o_tools_2_halfWidths h_o_tools_3_halfWidths o_grid o_reader o_machine o_pieceCounter o_program o_draft o_tools_radius o_tools_feed o_tools_halfWidths_n o_tools_halfWidths) [.ref h_o, .int a1, .int a2, .int a3] kx := by
  refine CtT.start (lv := [(0, .ref h_o), (1, .int a1), (2, .int a2), (3, .int a3)]) (by decide) (Nat.le_of_ble_eq_true rfl) rfl (fun κ hE => ?_)
  rw [fX6_tool] at hf0
  refine z_iload_n 1 (pc := 0) dX6_tool_0 rfl ?_
  obtain ⟨r1, er1, hf0⟩ := bp hf0
  rcases r1 with r1k | r1v
  · have hs := sum_inl hf0
    obtain rfl := Sum.inl.inj (Option.some.inj hs)
    exact z_callTS (pc := 1) (As := [.int a1]) (rest := []) (tX6_demandTool l D cA   a1 N r1k er1 hfl) ivX6_84 ⟨rfl, rfl⟩ ⟨by decide, by decide⟩ rfl ⟨by decide, by decide⟩ [] rfl (by decide) rfl (Nat.le_of_ble_eq_true rfl) dX6_tool_1 hE
  replace hf0 := sum_inr hf0
  refine z_callv0S (pc := 1) (As := [.int a1]) (rest := []) (k0X6_demandTool l D cA   a1 N r1v er1) ivX6_84 ⟨rfl, rfl⟩ ⟨by decide, by decide⟩ rfl ⟨Nat.zero_le _, Nat.zero_le _⟩ [] rfl (by decide) rfl (Nat.le_of_ble_eq_true rfl) dX6_tool_1 ?_
  refine z_iload_n 2 (pc := 4) dX6_tool_4 rfl ?_
  refine z_if_lt (pc := 5) (tgt := 14) dX6_tool_5 (by decide) hf0 (fun hf0 => ?_) (fun hf0 => ?_)
  · obtain rfl := Sum.inl.inj (Option.some.inj hf0)
    exact z_throw (pc := 14) (li := 87) hfl rfl (by decide) (by decide +kernel) xcl_69 xin_1 xii_1 xoa_73 hE ⟨by decide, by decide, by decide, Nat.le_of_ble_eq_true rfl⟩ dX6_tool_14 dX6_tool_17 dX6_tool_18 dX6_tool_20 dX6_tool_23
  · refine z_iload_n 2 (pc := 8) dX6_tool_8 rfl ?_
    refine z_bipush (pc := 9) (v := 6) dX6_tool_9 (by decide) ?_
    refine z_icmp_le (pc := 11) (tgt := 24) dX6_tool_11 (by decide) hf0 (fun hf0 => ?_) (fun hf0 => ?_)
    · refine z_iload_n 3 (pc := 24) dX6_tool_24 rfl ?_
      refine z_iconst (pc := 25) (v := 1) dX6_tool_25 (by decide) ?_
      refine z_icmp_lt (pc := 26) (tgt := 35) dX6_tool_26 (by decide) hf0 (fun hf0 => ?_) (fun hf0 => ?_)
      · obtain rfl := Sum.inl.inj (Option.some.inj hf0)
        exact z_throw (pc := 35) (li := 89) hfl rfl (by decide) (by decide +kernel) xcl_69 xin_1 xii_1 xoa_73 hE ⟨by decide, by decide, by decide, Nat.le_of_ble_eq_true rfl⟩ dX6_tool_35 dX6_tool_38 dX6_tool_39 dX6_tool_41 dX6_tool_44
      · refine z_iload_n 3 (pc := 29) dX6_tool_29 rfl ?_
        refine z_bipush (pc := 30) (v := 10) dX6_tool_30 (by decide) ?_
        refine z_icmp_le (pc := 32) (tgt := 45) dX6_tool_32 (by decide) hf0 (fun hf0 => ?_) (fun hf0 => ?_)
        · exact absurd hf0 (by
            intro hf0
            (repeat' (first | (cases hf0; done) | (obtain ⟨_, _, hf0⟩ := bp hf0) | (split at hf0))))
        · obtain rfl := Sum.inl.inj (Option.some.inj hf0)
          exact z_throw (pc := 35) (li := 89) hfl rfl (by decide) (by decide +kernel) xcl_69 xin_1 xii_1 xoa_73 hE ⟨by decide, by decide, by decide, Nat.le_of_ble_eq_true rfl⟩ dX6_tool_35 dX6_tool_38 dX6_tool_39 dX6_tool_41 dX6_tool_44
    · obtain rfl := Sum.inl.inj (Option.some.inj hf0)
      exact z_throw (pc := 14) (li := 87) hfl rfl (by decide) (by decide +kernel) xcl_69 xin_1 xii_1 xoa_73 hE ⟨by decide, by decide, by decide, Nat.le_of_ble_eq_true rfl⟩ dX6_tool_14 dX6_tool_17 dX6_tool_18 dX6_tool_20 dX6_tool_23

abbrev RBX6_run : Type := Int32 × Int32 × Int32 × Int32 × Int32 × Int32 × Int32 × Int32 × Int32 × Int32 × (Nat → Int32) × (Nat → Int32)
abbrev rtX6_run : Room := { frames := 6, cells := 1, slots := 6, locals := 134 }
abbrev RX6_run : Type := Nat ⊕ (Int32 × Int32 × Int32 × Int32 × Int32 × Int32 × Int32 × Int32 × Int32 × Int32 × (Nat → Int32) × (Nat → Int32))
abbrev rmX6_run : Room := { frames := 5, cells := 0, slots := 0, locals := 134 }
abbrev wsX6_run (cA : Nat → ClassId) (h_o : Nat) (h_o_program : Nat) (h_o_machine : Nat) (h_o_grid : Nat) (h_o_tools : Nat) (h_o_program_letters : Nat) (h_o_program_digits : Nat) (h_o_program_xs : Nat) (h_o_program_ys : Nat) (h_o_program_zs : Nat) (h_o_tools_0 : Nat) (h_o_tools_1 : Nat) (h_o_tools_2 : Nat) (h_o_tools_3 : Nat) (h_o_tools_0_halfWidths : Nat) (h_o_tools_1_halfWidths : Nat) (h_o_tools_2_halfWidths : Nat) (h_o_tools_3_halfWidths : Nat) (h_o_grid_disc : Nat) (h_o_grid_kept : Nat) (h_o_grid_heights : Nat) (o_reader : Value) (o_pieceCounter : Value) (o_draft : Value) (o_program_count : Int32) (o_machine_hasRun : Int32) (o_machine_time : Int32) (o_machine_ended : Int32) (o_machine_x : Int32) (o_machine_y : Int32) (o_machine_z : Int32) (o_machine_cut : Int32) (o_machine_held : Int32) (o_grid_side : Int32) (o_grid_cells : Int32) (o_grid_targets : Value) (o_grid_marks : Value) (o_grid_discSize : Int32) (o_program_letters_n : Nat) (o_program_letters : Nat → Int32) (o_program_digits_n : Nat) (o_program_digits : Nat → Int32) (o_program_xs_n : Nat) (o_program_xs : Nat → Int32) (o_program_ys_n : Nat) (o_program_ys : Nat → Int32) (o_program_zs_n : Nat) (o_program_zs : Nat → Int32) (o_tools_radius : Nat → Int32) (o_tools_feed : Nat → Int32) (o_tools_halfWidths_n : Nat) (o_tools_halfWidths : Nat → Nat → Int32) (o_grid_disc_n : Nat) (o_grid_disc : Nat → Int32) (o_grid_kept_n : Nat) (o_grid_kept : Nat → Int32) (o_grid_heights_n : Nat) (o_grid_heights : Nat → Int32) : va_W := [(h_o, .inr (6, [.ref h_o_grid, .ref h_o_tools, o_reader, .ref h_o_machine, o_pieceCounter, .ref h_o_program, o_draft])), (h_o_program, .inr (3, [.int o_program_count, .ref h_o_program_letters, .ref h_o_program_digits, .ref h_o_program_xs, .ref h_o_program_ys, .ref h_o_program_zs])), (h_o_machine, .inr (1, [.int o_machine_hasRun, .int o_machine_time, .int o_machine_ended, .int o_machine_x, .int o_machine_y, .int o_machine_z, .int o_machine_cut, .int o_machine_held])), (h_o_grid, .inr (0, [.int o_grid_side, .int o_grid_cells, .ref h_o_grid_heights, o_grid_targets, .ref h_o_grid_kept, o_grid_marks, .ref h_o_grid_disc, .int o_grid_discSize])), (h_o_tools, .inl (cA 4, 4, .inr (.inr (.inr (.inr (rk4 h_o_tools_0 h_o_tools_1 h_o_tools_2 h_o_tools_3)))))), (h_o_program_letters, .inl (cA 2, o_program_letters_n, .inl o_program_letters)), (h_o_program_digits, .inl (cA 0, o_program_digits_n, .inl o_program_digits)), (h_o_program_xs, .inl (cA 0, o_program_xs_n, .inl o_program_xs)), (h_o_program_ys, .inl (cA 0, o_program_ys_n, .inl o_program_ys)), (h_o_program_zs, .inl (cA 0, o_program_zs_n, .inl o_program_zs)), (h_o_tools_0, .inr (5, [.int (o_tools_radius 0), .int (o_tools_feed 0), .ref h_o_tools_0_halfWidths])), (h_o_tools_1, .inr (5, [.int (o_tools_radius 1), .int (o_tools_feed 1), .ref h_o_tools_1_halfWidths])), (h_o_tools_2, .inr (5, [.int (o_tools_radius 2), .int (o_tools_feed 2), .ref h_o_tools_2_halfWidths])), (h_o_tools_3, .inr (5, [.int (o_tools_radius 3), .int (o_tools_feed 3), .ref h_o_tools_3_halfWidths])), (h_o_tools_0_halfWidths, .inl (cA 0, o_tools_halfWidths_n, .inl (o_tools_halfWidths 0))), (h_o_tools_1_halfWidths, .inl (cA 0, o_tools_halfWidths_n, .inl (o_tools_halfWidths 1))), (h_o_tools_2_halfWidths, .inl (cA 0, o_tools_halfWidths_n, .inl (o_tools_halfWidths 2))), (h_o_tools_3_halfWidths, .inl (cA 0, o_tools_halfWidths_n, .inl (o_tools_halfWidths 3))), (h_o_grid_disc, .inl (cA 0, o_grid_disc_n, .inl o_grid_disc)), (h_o_grid_kept, .inl (cA 1, o_grid_kept_n, .inl o_grid_kept)), (h_o_grid_heights, .inl (cA 0, o_grid_heights_n, .inl o_grid_heights))]
def fX6_run (N : Nat)  (o_program_count : Int32) (o_machine_hasRun : Int32) (o_machine_time : Int32) (o_machine_ended : Int32) (o_machine_x : Int32) (o_machine_y : Int32) (o_machine_z : Int32) (o_machine_cut : Int32) (o_machine_held : Int32) (o_grid_side : Int32) (o_grid_discSize : Int32) (o_program_letters_n : Nat) (o_program_letters : Nat → Int32) (o_program_digits_n : Nat) (o_program_digits : Nat → Int32) (o_program_xs_n : Nat) (o_program_xs : Nat → Int32) (o_program_ys_n : Nat) (o_program_ys : Nat → Int32) (o_program_zs_n : Nat) (o_program_zs : Nat → Int32) (o_tools_radius : Nat → Int32) (o_tools_feed : Nat → Int32) (o_tools_halfWidths_n : Nat) (o_tools_halfWidths : Nat → Nat → Int32) (o_grid_disc_n : Nat) (o_grid_disc : Nat → Int32) (o_grid_kept_n : Nat) (o_grid_kept : Nat → Int32) (o_grid_heights_n : Nat) (o_grid_heights : Nat → Int32) : Option RX6_run :=
  (if o_program_count = 0 then some (.inl 2) else ((fX1_follow N o_machine_hasRun o_machine_time o_machine_ended o_machine_x o_machine_y o_machine_z o_machine_cut o_machine_held o_program_count o_grid_side o_grid_discSize o_program_letters_n o_program_letters o_program_digits_n o_program_digits o_program_xs_n o_program_xs o_program_ys_n o_program_ys o_program_zs_n o_program_zs o_tools_radius o_tools_feed o_tools_halfWidths_n o_tools_halfWidths o_grid_disc_n o_grid_disc o_grid_kept_n o_grid_kept o_grid_heights_n o_grid_heights).bind fun r1 => some (.inr (r1.1, r1.2.1, r1.2.2.1, r1.2.2.2.1, r1.2.2.2.2.1, r1.2.2.2.2.2.1, r1.2.2.2.2.2.2.1, r1.2.2.2.2.2.2.2.1, r1.2.2.2.2.2.2.2.2.1, r1.2.2.2.2.2.2.2.2.2.1, r1.2.2.2.2.2.2.2.2.2.2.1, r1.2.2.2.2.2.2.2.2.2.2.2))))
set_option maxHeartbeats 4000000 in
set_option maxRecDepth 100000 in
theorem kX6_run (l : Launch) (D : va_G) (cA : Nat → ClassId) (h_o : Nat) (h_o_program : Nat) (h_o_machine : Nat) (h_o_grid : Nat) (h_o_tools : Nat) (h_o_program_letters : Nat) (h_o_program_digits : Nat) (h_o_program_xs : Nat) (h_o_program_ys : Nat) (h_o_program_zs : Nat) (h_o_tools_0 : Nat) (h_o_tools_1 : Nat) (h_o_tools_2 : Nat) (h_o_tools_3 : Nat) (h_o_tools_0_halfWidths : Nat) (h_o_tools_1_halfWidths : Nat) (h_o_tools_2_halfWidths : Nat) (h_o_tools_3_halfWidths : Nat) (h_o_grid_disc : Nat) (h_o_grid_kept : Nat) (h_o_grid_heights : Nat) (o_reader : Value) (o_pieceCounter : Value) (o_draft : Value) (o_program_count : Int32) (o_machine_hasRun : Int32) (o_machine_time : Int32) (o_machine_ended : Int32) (o_machine_x : Int32) (o_machine_y : Int32) (o_machine_z : Int32) (o_machine_cut : Int32) (o_machine_held : Int32) (o_grid_side : Int32) (o_grid_cells : Int32) (o_grid_targets : Value) (o_grid_marks : Value) (o_grid_discSize : Int32) (o_program_letters_n : Nat) (o_program_letters : Nat → Int32) (o_program_digits_n : Nat) (o_program_digits : Nat → Int32) (o_program_xs_n : Nat) (o_program_xs : Nat → Int32) (o_program_ys_n : Nat) (o_program_ys : Nat → Int32) (o_program_zs_n : Nat) (o_program_zs : Nat → Int32) (o_tools_radius : Nat → Int32) (o_tools_feed : Nat → Int32) (o_tools_halfWidths_n : Nat) (o_tools_halfWidths : Nat → Nat → Int32) (o_grid_disc_n : Nat) (o_grid_disc : Nat → Int32) (o_grid_kept_n : Nat) (o_grid_kept : Nat → Int32) (o_grid_heights_n : Nat) (o_grid_heights : Nat → Int32)  (N : Nat) (res : RBX6_run) (hf0 : fX6_run N o_program_count o_machine_hasRun o_machine_time o_machine_ended o_machine_x o_machine_y o_machine_z o_machine_cut o_machine_held o_grid_side o_grid_discSize o_program_letters_n o_program_letters o_program_digits_n o_program_digits o_program_xs_n o_program_xs o_program_ys_n o_program_ys o_program_zs_n o_program_zs o_tools_radius o_tools_feed o_tools_halfWidths_n o_tools_halfWidths o_grid_disc_n o_grid_disc o_grid_kept_n o_grid_kept o_grid_heights_n o_grid_heights = some (.inr res)) : CtI l yX6_run (Cond.code yX6_run cX6_run 1 (some .int) :: tblG) rmX6_run D cA (wsX6_run cA h_o h_o_program h_o_machine h_o_grid h_o_tools h_o_program_letters h_o_program_digits h_o_program_xs h_o_program_ys h_o_program_zs h_o_tools_0 h_o_tools_1 h_o_tools_2 h_o_tools_3 h_o_tools_0_halfWidths h_o_tools_1_halfWidths h_o_tools_2_halfWidths h_o_tools_3_halfWidths h_o_grid_disc h_o_grid_kept h_o_grid_heights o_reader o_pieceCounter o_draft o_program_count o_machine_hasRun o_machine_time o_machine_ended o_machine_x o_machine_y o_machine_z o_machine_cut o_machine_held o_grid_side o_grid_cells o_grid_targets o_grid_marks o_grid_discSize o_program_letters_n o_program_letters o_program_digits_n o_program_digits o_program_xs_n o_program_xs o_program_ys_n o_program_ys o_program_zs_n o_program_zs o_tools_radius o_tools_feed o_tools_halfWidths_n o_tools_halfWidths o_grid_disc_n o_grid_disc o_grid_kept_n o_grid_kept o_grid_heights_n o_grid_heights) [.ref h_o] res.1 (wsX6_run cA h_o h_o_program h_o_machine h_o_grid h_o_tools h_o_program_letters h_o_program_digits h_o_program_xs h_o_program_ys h_o_program_zs h_o_tools_0 h_o_tools_1 h_o_tools_2 h_o_tools_3 h_o_tools_0_halfWidths h_o_tools_1_halfWidths h_o_tools_2_halfWidths h_o_tools_3_halfWidths h_o_grid_disc h_o_grid_kept h_o_grid_heights o_reader o_pieceCounter o_draft o_program_count res.2.1 res.2.2.1 res.2.2.2.1 res.2.2.2.2.1 res.2.2.2.2.2.1 res.2.2.2.2.2.2.1 res.2.2.2.2.2.2.2.1 res.2.2.2.2.2.2.2.2.1 o_grid_side o_grid_cells o_grid_targets o_grid_marks res.2.2.2.2.2.2.2.2.2.1 o_program_letters_n o_program_letters o_program_digits_n o_program_digits o_program_xs_n o_program_xs o_program_ys_n o_program_ys o_program_zs_n o_program_zs o_tools_radius o_tools_feed o_tools_halfWidths_n o_tools_halfWidths o_grid_disc_n res.2.2.2.2.2.2.2.2.2.2.1 o_grid_kept_n o_grid_kept o_grid_heights_n res.2.2.2.2.2.2.2.2.2.2.2) := by
  refine CtI.start (lv := [(0, .ref h_o)]) (by decide) (Nat.le_of_ble_eq_true rfl) rfl (fun κ hE => ?_)
  rw [fX6_run] at hf0
  refine z_aload_n 0 (pc := 0) dX6_run_0 rfl ?_
  refine z_get 0 5 (pc := 1) (v := .ref h_o_program) rfl rfl inX6 (by decide) flX6_58 rfl dX6_run_1 ?_
  refine z_get 1 0 (pc := 4) (v := .int o_program_count) rfl rfl inX3 (by decide) flX6_103 rfl dX6_run_4 ?_
  refine z_if_ne (pc := 7) (tgt := 20) dX6_run_7 (by decide) hf0 (fun hf0 => ?_) (fun hf0 => ?_)
  · refine z_aload_n 0 (pc := 20) dX6_run_20 rfl ?_
    refine z_get 0 3 (pc := 21) (v := .ref h_o_machine) rfl rfl inX6 (by decide) flX6_44 rfl dX6_run_21 ?_
    refine z_aload_n 0 (pc := 24) dX6_run_24 rfl ?_
    refine z_get 0 5 (pc := 25) (v := .ref h_o_program) rfl rfl inX6 (by decide) flX6_58 rfl dX6_run_25 ?_
    refine z_aload_n 0 (pc := 28) dX6_run_28 rfl ?_
    refine z_get 0 0 (pc := 29) (v := .ref h_o_grid) rfl rfl inX6 (by decide) flX6_23 rfl dX6_run_29 ?_
    refine z_aload_n 0 (pc := 32) dX6_run_32 rfl ?_
    refine z_get 0 1 (pc := 33) (v := .ref h_o_tools) rfl rfl inX6 (by decide) flX6_29 rfl dX6_run_33 ?_
    obtain ⟨r1, er1, hf0⟩ := bp hf0
    refine z_calliV (pc := 36) (As := [.ref h_o_program, .ref h_o_grid, .ref h_o_tools]) (rest := []) (ws' := (wsX6_run cA h_o h_o_program h_o_machine h_o_grid h_o_tools h_o_program_letters h_o_program_digits h_o_program_xs h_o_program_ys h_o_program_zs h_o_tools_0 h_o_tools_1 h_o_tools_2 h_o_tools_3 h_o_tools_0_halfWidths h_o_tools_1_halfWidths h_o_tools_2_halfWidths h_o_tools_3_halfWidths h_o_grid_disc h_o_grid_kept h_o_grid_heights o_reader o_pieceCounter o_draft o_program_count r1.2.1 r1.2.2.1 r1.2.2.2.1 r1.2.2.2.2.1 r1.2.2.2.2.2.1 r1.2.2.2.2.2.2.1 r1.2.2.2.2.2.2.2.1 r1.2.2.2.2.2.2.2.2.1 o_grid_side o_grid_cells o_grid_targets o_grid_marks r1.2.2.2.2.2.2.2.2.2.1 o_program_letters_n o_program_letters o_program_digits_n o_program_digits o_program_xs_n o_program_xs o_program_ys_n o_program_ys o_program_zs_n o_program_zs o_tools_radius o_tools_feed o_tools_halfWidths_n o_tools_halfWidths o_grid_disc_n r1.2.2.2.2.2.2.2.2.2.2.1 o_grid_kept_n o_grid_kept o_grid_heights_n r1.2.2.2.2.2.2.2.2.2.2.2)) (kX1_follow l D cA h_o_machine h_o_program h_o_grid h_o_tools h_o_program_letters h_o_program_digits h_o_program_xs h_o_program_ys h_o_program_zs h_o_tools_0 h_o_tools_1 h_o_tools_2 h_o_tools_3 h_o_tools_0_halfWidths h_o_tools_1_halfWidths h_o_tools_2_halfWidths h_o_tools_3_halfWidths h_o_grid_disc h_o_grid_kept h_o_grid_heights o_machine_hasRun o_machine_time o_machine_ended o_machine_x o_machine_y o_machine_z o_machine_cut o_machine_held o_program_count o_grid_side o_grid_cells o_grid_targets o_grid_marks o_grid_discSize o_program_letters_n o_program_letters o_program_digits_n o_program_digits o_program_xs_n o_program_xs o_program_ys_n o_program_ys o_program_zs_n o_program_zs o_tools_radius o_tools_feed o_tools_halfWidths_n o_tools_halfWidths o_grid_disc_n o_grid_disc o_grid_kept_n o_grid_kept o_grid_heights_n o_grid_heights  N r1 er1) ivX6_112 ⟨rfl, rfl⟩ ⟨by decide, by decide⟩ rfl ⟨Nat.zero_le _, Nat.zero_le _⟩ rfl rfl [2, 1, 3, 4, 5, 6, 7, 8, 9, 10, 11, 12, 13, 14, 15, 16, 17, 18, 19, 20] rfl (by decide) rfl rfl rfl (Nat.le_of_ble_eq_true rfl) dX6_run_36 ?_
    obtain rfl := Sum.inr.inj (Option.some.inj hf0)
    exact z_iret hE dX6_run_39
  · cases hf0

set_option maxHeartbeats 4000000 in
set_option maxRecDepth 100000 in
theorem tX6_run (l : Launch) (D : va_G) (cA : Nat → ClassId) (h_o : Nat) (h_o_program : Nat) (h_o_machine : Nat) (h_o_grid : Nat) (h_o_tools : Nat) (h_o_program_letters : Nat) (h_o_program_digits : Nat) (h_o_program_xs : Nat) (h_o_program_ys : Nat) (h_o_program_zs : Nat) (h_o_tools_0 : Nat) (h_o_tools_1 : Nat) (h_o_tools_2 : Nat) (h_o_tools_3 : Nat) (h_o_tools_0_halfWidths : Nat) (h_o_tools_1_halfWidths : Nat) (h_o_tools_2_halfWidths : Nat) (h_o_tools_3_halfWidths : Nat) (h_o_grid_disc : Nat) (h_o_grid_kept : Nat) (h_o_grid_heights : Nat) (o_reader : Value) (o_pieceCounter : Value) (o_draft : Value) (o_program_count : Int32) (o_machine_hasRun : Int32) (o_machine_time : Int32) (o_machine_ended : Int32) (o_machine_x : Int32) (o_machine_y : Int32) (o_machine_z : Int32) (o_machine_cut : Int32) (o_machine_held : Int32) (o_grid_side : Int32) (o_grid_cells : Int32) (o_grid_targets : Value) (o_grid_marks : Value) (o_grid_discSize : Int32) (o_program_letters_n : Nat) (o_program_letters : Nat → Int32) (o_program_digits_n : Nat) (o_program_digits : Nat → Int32) (o_program_xs_n : Nat) (o_program_xs : Nat → Int32) (o_program_ys_n : Nat) (o_program_ys : Nat → Int32) (o_program_zs_n : Nat) (o_program_zs : Nat → Int32) (o_tools_radius : Nat → Int32) (o_tools_feed : Nat → Int32) (o_tools_halfWidths_n : Nat) (o_tools_halfWidths : Nat → Nat → Int32) (o_grid_disc_n : Nat) (o_grid_disc : Nat → Int32) (o_grid_kept_n : Nat) (o_grid_kept : Nat → Int32) (o_grid_heights_n : Nat) (o_grid_heights : Nat → Int32)  (N : Nat) (kx : Nat) (hf0 : fX6_run N o_program_count o_machine_hasRun o_machine_time o_machine_ended o_machine_x o_machine_y o_machine_z o_machine_cut o_machine_held o_grid_side o_grid_discSize o_program_letters_n o_program_letters o_program_digits_n o_program_digits o_program_xs_n o_program_xs o_program_ys_n o_program_ys o_program_zs_n o_program_zs o_tools_radius o_tools_feed o_tools_halfWidths_n o_tools_halfWidths o_grid_disc_n o_grid_disc o_grid_kept_n o_grid_kept o_grid_heights_n o_grid_heights = some (.inl kx)) (hfl : l.flags = pinnedFlags ++ [noTraceFlag]) : CtT l yX6_run (Cond.code yX6_run cX6_run 1 (some .int) :: tblG) rtX6_run D cA (wsX6_run cA h_o h_o_program h_o_machine h_o_grid h_o_tools h_o_program_letters h_o_program_digits h_o_program_xs h_o_program_ys h_o_program_zs h_o_tools_0 h_o_tools_1 h_o_tools_2 h_o_tools_3 h_o_tools_0_halfWidths h_o_tools_1_halfWidths h_o_tools_2_halfWidths h_o_tools_3_halfWidths h_o_grid_disc h_o_grid_kept h_o_grid_heights o_reader o_pieceCounter o_draft o_program_count o_machine_hasRun o_machine_time o_machine_ended o_machine_x o_machine_y o_machine_z o_machine_cut o_machine_held o_grid_side o_grid_cells o_grid_targets o_grid_marks o_grid_discSize o_program_letters_n o_program_letters o_program_digits_n o_program_digits o_program_xs_n o_program_xs o_program_ys_n o_program_ys o_program_zs_n o_program_zs o_tools_radius o_tools_feed o_tools_halfWidths_n o_tools_halfWidths o_grid_disc_n o_grid_disc o_grid_kept_n o_grid_kept o_grid_heights_n o_grid_heights) [.ref h_o] kx := by
  refine CtT.start (lv := [(0, .ref h_o)]) (by decide) (Nat.le_of_ble_eq_true rfl) rfl (fun κ hE => ?_)
  rw [fX6_run] at hf0
  refine z_aload_n 0 (pc := 0) dX6_run_0 rfl ?_
  refine z_get 0 5 (pc := 1) (v := .ref h_o_program) rfl rfl inX6 (by decide) flX6_58 rfl dX6_run_1 ?_
  refine z_get 1 0 (pc := 4) (v := .int o_program_count) rfl rfl inX3 (by decide) flX6_103 rfl dX6_run_4 ?_
  refine z_if_ne (pc := 7) (tgt := 20) dX6_run_7 (by decide) hf0 (fun hf0 => ?_) (fun hf0 => ?_)
  · exact absurd hf0 (by
      intro hf0
      (repeat' (first | (cases hf0; done) | (obtain ⟨_, _, hf0⟩ := bp hf0) | (split at hf0))))
  · obtain rfl := Sum.inl.inj (Option.some.inj hf0)
    exact z_throw (pc := 10) (li := 109) hfl rfl (by decide) (by decide +kernel) xcl_107 xin_2 xii_2 xoa_111 hE ⟨by decide, by decide, by decide, Nat.le_of_ble_eq_true rfl⟩ dX6_run_10 dX6_run_13 dX6_run_14 dX6_run_16 dX6_run_19

abbrev RBX6_about : Type := Int32
abbrev rtX6_about : Room := { frames := 7, cells := 1, slots := 6, locals := 111 }
abbrev RX6_about : Type := Nat ⊕ (Int32)
abbrev rmX6_about : Room := { frames := 1, cells := 0, slots := 0, locals := 21 }
abbrev wsX6_about (cA : Nat → ClassId) (h_o : Nat) (h_o_machine : Nat) (o_grid : Value) (o_tools : Value) (o_reader : Value) (o_pieceCounter : Value) (o_program : Value) (o_draft : Value) (o_machine_hasRun : Int32) (o_machine_time : Int32) (o_machine_ended : Int32) (o_machine_x : Int32) (o_machine_y : Int32) (o_machine_z : Int32) (o_machine_cut : Int32) (o_machine_held : Int32) : va_W := [(h_o, .inr (6, [o_grid, o_tools, o_reader, .ref h_o_machine, o_pieceCounter, o_program, o_draft])), (h_o_machine, .inr (1, [.int o_machine_hasRun, .int o_machine_time, .int o_machine_ended, .int o_machine_x, .int o_machine_y, .int o_machine_z, .int o_machine_cut, .int o_machine_held]))]
def fX6_about (N : Nat) (a1 : Int32) (o_machine_hasRun : Int32) (o_machine_time : Int32) (o_machine_ended : Int32) (o_machine_x : Int32) (o_machine_y : Int32) (o_machine_z : Int32) (o_machine_cut : Int32) : Option RX6_about :=
  ((fX6_demandWhat N a1 5).bind fun r1 => Sum.elim (fun k => some (.inl k)) (fun r1v => (if o_machine_hasRun = 0 then some (.inl 2) else (if a1 = 0 then some (.inr o_machine_time) else (if a1 = 1 then some (.inr o_machine_ended) else (if a1 = 2 then some (.inr o_machine_x) else (if a1 = 3 then some (.inr o_machine_y) else (if a1 = 4 then some (.inr o_machine_z) else some (.inr o_machine_cut)))))))) r1)
set_option maxHeartbeats 4000000 in
set_option maxRecDepth 100000 in
theorem kX6_about (l : Launch) (D : va_G) (cA : Nat → ClassId) (h_o : Nat) (h_o_machine : Nat) (o_grid : Value) (o_tools : Value) (o_reader : Value) (o_pieceCounter : Value) (o_program : Value) (o_draft : Value) (o_machine_hasRun : Int32) (o_machine_time : Int32) (o_machine_ended : Int32) (o_machine_x : Int32) (o_machine_y : Int32) (o_machine_z : Int32) (o_machine_cut : Int32) (o_machine_held : Int32) (a1 : Int32) (N : Nat) (res : RBX6_about) (hf0 : fX6_about N a1 o_machine_hasRun o_machine_time o_machine_ended o_machine_x o_machine_y o_machine_z o_machine_cut = some (.inr res)) : CtI l yX6_about (Cond.code yX6_about cX6_about 2 (some .int) :: tblG) rmX6_about D cA (wsX6_about cA h_o h_o_machine o_grid o_tools o_reader o_pieceCounter o_program o_draft o_machine_hasRun o_machine_time o_machine_ended o_machine_x o_machine_y o_machine_z o_machine_cut o_machine_held) [.ref h_o, .int a1] res (wsX6_about cA h_o h_o_machine o_grid o_tools o_reader o_pieceCounter o_program o_draft o_machine_hasRun o_machine_time o_machine_ended o_machine_x o_machine_y o_machine_z o_machine_cut o_machine_held) := by
  refine CtI.start (lv := [(0, .ref h_o), (1, .int a1)]) (by decide) (Nat.le_of_ble_eq_true rfl) rfl (fun κ hE => ?_)
  rw [fX6_about] at hf0
  refine z_iload_n 1 (pc := 0) dX6_about_0 rfl ?_
  refine z_iconst (pc := 1) (v := 5) dX6_about_1 (by decide) ?_
  obtain ⟨r1, er1, hf0⟩ := bp hf0
  rcases r1 with r1k | r1v
  · have hs := sum_inl hf0; cases hs
  replace hf0 := sum_inr hf0
  refine z_callv0S (pc := 2) (As := [.int a1, .int 5]) (rest := []) (k0X6_demandWhat l D cA   a1 5 N r1v er1) ivX6_116 ⟨rfl, rfl⟩ ⟨by decide, by decide⟩ rfl ⟨Nat.zero_le _, Nat.zero_le _⟩ [] rfl (by decide) rfl (Nat.le_of_ble_eq_true rfl) dX6_about_2 ?_
  refine z_aload_n 0 (pc := 5) dX6_about_5 rfl ?_
  refine z_get 0 3 (pc := 6) (v := .ref h_o_machine) rfl rfl inX6 (by decide) flX6_44 rfl dX6_about_6 ?_
  refine z_get 1 0 (pc := 9) (v := .int o_machine_hasRun) rfl rfl inX1 (by decide) flX6_119 rfl dX6_about_9 ?_
  refine z_if_ne (pc := 12) (tgt := 25) dX6_about_12 (by decide) hf0 (fun hf0 => ?_) (fun hf0 => ?_)
  · refine z_iload_n 1 (pc := 25) dX6_about_25 rfl ?_
    by_cases w26_0 : a1 = 0
    · have hf0 := fp w26_0 hf0
      refine y_tabIn (pc := 26) (off := 34) (tgt := 60) dX6_about_26 (by rw [w26_0]; decide) (by rw [w26_0]; decide) (by rw [w26_0]; first | done | rfl) (by decide) ?_
      refine z_aload_n 0 (pc := 60) dX6_about_60 rfl ?_
      refine z_get 0 3 (pc := 61) (v := .ref h_o_machine) rfl rfl inX6 (by decide) flX6_44 rfl dX6_about_61 ?_
      refine z_get 1 1 (pc := 64) (v := .int o_machine_time) rfl rfl inX1 (by decide) flX6_125 rfl dX6_about_64 ?_
      obtain rfl := Sum.inr.inj (Option.some.inj hf0)
      exact z_iret hE dX6_about_67
    have hf0 := fn w26_0 hf0
    by_cases w26_1 : a1 = 1
    · have hf0 := fp w26_1 hf0
      refine y_tabIn (pc := 26) (off := 42) (tgt := 68) dX6_about_26 (by rw [w26_1]; decide) (by rw [w26_1]; decide) (by rw [w26_1]; first | done | rfl) (by decide) ?_
      refine z_aload_n 0 (pc := 68) dX6_about_68 rfl ?_
      refine z_get 0 3 (pc := 69) (v := .ref h_o_machine) rfl rfl inX6 (by decide) flX6_44 rfl dX6_about_69 ?_
      refine z_get 1 2 (pc := 72) (v := .int o_machine_ended) rfl rfl inX1 (by decide) flX6_128 rfl dX6_about_72 ?_
      obtain rfl := Sum.inr.inj (Option.some.inj hf0)
      exact z_iret hE dX6_about_75
    have hf0 := fn w26_1 hf0
    by_cases w26_2 : a1 = 2
    · have hf0 := fp w26_2 hf0
      refine y_tabIn (pc := 26) (off := 50) (tgt := 76) dX6_about_26 (by rw [w26_2]; decide) (by rw [w26_2]; decide) (by rw [w26_2]; first | done | rfl) (by decide) ?_
      refine z_aload_n 0 (pc := 76) dX6_about_76 rfl ?_
      refine z_get 0 3 (pc := 77) (v := .ref h_o_machine) rfl rfl inX6 (by decide) flX6_44 rfl dX6_about_77 ?_
      refine z_get 1 3 (pc := 80) (v := .int o_machine_x) rfl rfl inX1 (by decide) flX6_131 rfl dX6_about_80 ?_
      obtain rfl := Sum.inr.inj (Option.some.inj hf0)
      exact z_iret hE dX6_about_83
    have hf0 := fn w26_2 hf0
    by_cases w26_3 : a1 = 3
    · have hf0 := fp w26_3 hf0
      refine y_tabIn (pc := 26) (off := 58) (tgt := 84) dX6_about_26 (by rw [w26_3]; decide) (by rw [w26_3]; decide) (by rw [w26_3]; first | done | rfl) (by decide) ?_
      refine z_aload_n 0 (pc := 84) dX6_about_84 rfl ?_
      refine z_get 0 3 (pc := 85) (v := .ref h_o_machine) rfl rfl inX6 (by decide) flX6_44 rfl dX6_about_85 ?_
      refine z_get 1 4 (pc := 88) (v := .int o_machine_y) rfl rfl inX1 (by decide) flX6_134 rfl dX6_about_88 ?_
      obtain rfl := Sum.inr.inj (Option.some.inj hf0)
      exact z_iret hE dX6_about_91
    have hf0 := fn w26_3 hf0
    by_cases w26_4 : a1 = 4
    · have hf0 := fp w26_4 hf0
      refine y_tabIn (pc := 26) (off := 66) (tgt := 92) dX6_about_26 (by rw [w26_4]; decide) (by rw [w26_4]; decide) (by rw [w26_4]; first | done | rfl) (by decide) ?_
      refine z_aload_n 0 (pc := 92) dX6_about_92 rfl ?_
      refine z_get 0 3 (pc := 93) (v := .ref h_o_machine) rfl rfl inX6 (by decide) flX6_44 rfl dX6_about_93 ?_
      refine z_get 1 5 (pc := 96) (v := .int o_machine_z) rfl rfl inX1 (by decide) flX6_137 rfl dX6_about_96 ?_
      obtain rfl := Sum.inr.inj (Option.some.inj hf0)
      exact z_iret hE dX6_about_99
    have hf0 := fn w26_4 hf0
    refine y_tabOut (pc := 26) (tgt := 100) dX6_about_26 (by have n0 := lv_neT w26_0 (a := 0) (by decide); have n1 := lv_neT w26_1 (a := 1) (by decide); have n2 := lv_neT w26_2 (a := 2) (by decide); have n3 := lv_neT w26_3 (a := 3) (by decide); have n4 := lv_neT w26_4 (a := 4) (by decide); omega) (by decide) ?_
    refine z_aload_n 0 (pc := 100) dX6_about_100 rfl ?_
    refine z_get 0 3 (pc := 101) (v := .ref h_o_machine) rfl rfl inX6 (by decide) flX6_44 rfl dX6_about_101 ?_
    refine z_get 1 6 (pc := 104) (v := .int o_machine_cut) rfl rfl inX1 (by decide) flX6_140 rfl dX6_about_104 ?_
    obtain rfl := Sum.inr.inj (Option.some.inj hf0)
    exact z_iret hE dX6_about_107
  · cases hf0

set_option maxHeartbeats 4000000 in
set_option maxRecDepth 100000 in
theorem tX6_about (l : Launch) (D : va_G) (cA : Nat → ClassId) (h_o : Nat) (h_o_machine : Nat) (o_grid : Value) (o_tools : Value) (o_reader : Value) (o_pieceCounter : Value) (o_program : Value) (o_draft : Value) (o_machine_hasRun : Int32) (o_machine_time : Int32) (o_machine_ended : Int32) (o_machine_x : Int32) (o_machine_y : Int32) (o_machine_z : Int32) (o_machine_cut : Int32) (o_machine_held : Int32) (a1 : Int32) (N : Nat) (kx : Nat) (hf0 : fX6_about N a1 o_machine_hasRun o_machine_time o_machine_ended o_machine_x o_machine_y o_machine_z o_machine_cut = some (.inl kx)) (hfl : l.flags = pinnedFlags ++ [noTraceFlag]) : CtT l yX6_about (Cond.code yX6_about cX6_about 2 (some .int) :: tblG) rtX6_about D cA (wsX6_about cA h_o h_o_machine o_grid o_tools o_reader o_pieceCounter o_program o_draft o_machine_hasRun o_machine_time o_machine_ended o_machine_x o_machine_y o_machine_z o_machine_cut o_machine_held) [.ref h_o, .int a1] kx := by
  refine CtT.start (lv := [(0, .ref h_o), (1, .int a1)]) (by decide) (Nat.le_of_ble_eq_true rfl) rfl (fun κ hE => ?_)
  rw [fX6_about] at hf0
  refine z_iload_n 1 (pc := 0) dX6_about_0 rfl ?_
  refine z_iconst (pc := 1) (v := 5) dX6_about_1 (by decide) ?_
  obtain ⟨r1, er1, hf0⟩ := bp hf0
  rcases r1 with r1k | r1v
  · have hs := sum_inl hf0
    obtain rfl := Sum.inl.inj (Option.some.inj hs)
    exact z_callTS (pc := 2) (As := [.int a1, .int 5]) (rest := []) (tX6_demandWhat l D cA   a1 5 N r1k er1 hfl) ivX6_116 ⟨rfl, rfl⟩ ⟨by decide, by decide⟩ rfl ⟨by decide, by decide⟩ [] rfl (by decide) rfl (Nat.le_of_ble_eq_true rfl) dX6_about_2 hE
  replace hf0 := sum_inr hf0
  refine z_callv0S (pc := 2) (As := [.int a1, .int 5]) (rest := []) (k0X6_demandWhat l D cA   a1 5 N r1v er1) ivX6_116 ⟨rfl, rfl⟩ ⟨by decide, by decide⟩ rfl ⟨Nat.zero_le _, Nat.zero_le _⟩ [] rfl (by decide) rfl (Nat.le_of_ble_eq_true rfl) dX6_about_2 ?_
  refine z_aload_n 0 (pc := 5) dX6_about_5 rfl ?_
  refine z_get 0 3 (pc := 6) (v := .ref h_o_machine) rfl rfl inX6 (by decide) flX6_44 rfl dX6_about_6 ?_
  refine z_get 1 0 (pc := 9) (v := .int o_machine_hasRun) rfl rfl inX1 (by decide) flX6_119 rfl dX6_about_9 ?_
  refine z_if_ne (pc := 12) (tgt := 25) dX6_about_12 (by decide) hf0 (fun hf0 => ?_) (fun hf0 => ?_)
  · exact absurd hf0 (by
      intro hf0
      (repeat' (first | (cases hf0; done) | (obtain ⟨_, _, hf0⟩ := bp hf0) | (split at hf0))))
  · obtain rfl := Sum.inl.inj (Option.some.inj hf0)
    exact z_throw (pc := 15) (li := 123) hfl rfl (by decide) (by decide +kernel) xcl_107 xin_2 xii_2 xoa_111 hE ⟨by decide, by decide, by decide, Nat.le_of_ble_eq_true rfl⟩ dX6_about_15 dX6_about_18 dX6_about_19 dX6_about_21 dX6_about_24

abbrev RBX6_cell : Type := Int32
abbrev rtX6_cell : Room := { frames := 7, cells := 1, slots := 6, locals := 112 }
abbrev RX6_cell : Type := Nat ⊕ (Int32)
abbrev rmX6_cell : Room := { frames := 2, cells := 0, slots := 0, locals := 44 }
abbrev wsX6_cell (cA : Nat → ClassId) (h_o : Nat) (h_o_grid : Nat) (h_o_grid_kept : Nat) (h_o_grid_targets : Nat) (h_o_grid_heights : Nat) (o_tools : Value) (o_reader : Value) (o_machine : Value) (o_pieceCounter : Value) (o_program : Value) (o_draft : Value) (o_grid_side : Int32) (o_grid_cells : Int32) (o_grid_marks : Value) (o_grid_disc : Value) (o_grid_discSize : Int32) (o_grid_kept_n : Nat) (o_grid_kept : Nat → Int32) (o_grid_targets_n : Nat) (o_grid_targets : Nat → Int32) (o_grid_heights_n : Nat) (o_grid_heights : Nat → Int32) : va_W := [(h_o, .inr (6, [.ref h_o_grid, o_tools, o_reader, o_machine, o_pieceCounter, o_program, o_draft])), (h_o_grid, .inr (0, [.int o_grid_side, .int o_grid_cells, .ref h_o_grid_heights, .ref h_o_grid_targets, .ref h_o_grid_kept, o_grid_marks, o_grid_disc, .int o_grid_discSize])), (h_o_grid_kept, .inl (cA 1, o_grid_kept_n, .inl o_grid_kept)), (h_o_grid_targets, .inl (cA 0, o_grid_targets_n, .inl o_grid_targets)), (h_o_grid_heights, .inl (cA 0, o_grid_heights_n, .inl o_grid_heights))]
def fX6_cell (N : Nat) (a1 : Int32) (a2 : Int32) (a3 : Int32) (o_grid_side : Int32) (o_grid_kept_n : Nat) (o_grid_kept : Nat → Int32) (o_grid_targets_n : Nat) (o_grid_targets : Nat → Int32) (o_grid_heights_n : Nat) (o_grid_heights : Nat → Int32) : Option RX6_cell :=
  ((fX6_demandCell N a1 a2 o_grid_side).bind fun r1 => Sum.elim (fun k => some (.inl k)) (fun r1v => ((fX6_demandWhat N a3 2).bind fun r2 => Sum.elim (fun k => some (.inl k)) (fun r2v => ((fX0_placeOf N a1 a2 o_grid_side).bind fun r3 => (if a3 = 0 then (if r3 < 0 ∨ o_grid_heights_n ≤ r3.toNatClampNeg then none else some (.inr (o_grid_heights r3.toNatClampNeg))) else (if a3 = 1 then (if r3 < 0 ∨ o_grid_targets_n ≤ r3.toNatClampNeg then none else some (.inr (o_grid_targets r3.toNatClampNeg))) else (if r3 < 0 ∨ o_grid_kept_n ≤ r3.toNatClampNeg then none else (if (o_grid_kept r3.toNatClampNeg) = 0 then some (.inr 0) else some (.inr 1))))))) r2)) r1)
set_option maxHeartbeats 4000000 in
set_option maxRecDepth 100000 in
theorem kX6_cell (l : Launch) (D : va_G) (cA : Nat → ClassId) (h_o : Nat) (h_o_grid : Nat) (h_o_grid_kept : Nat) (h_o_grid_targets : Nat) (h_o_grid_heights : Nat) (o_tools : Value) (o_reader : Value) (o_machine : Value) (o_pieceCounter : Value) (o_program : Value) (o_draft : Value) (o_grid_side : Int32) (o_grid_cells : Int32) (o_grid_marks : Value) (o_grid_disc : Value) (o_grid_discSize : Int32) (o_grid_kept_n : Nat) (o_grid_kept : Nat → Int32) (o_grid_targets_n : Nat) (o_grid_targets : Nat → Int32) (o_grid_heights_n : Nat) (o_grid_heights : Nat → Int32) (a1 : Int32) (a2 : Int32) (a3 : Int32) (N : Nat) (res : RBX6_cell) (hf0 : fX6_cell N a1 a2 a3 o_grid_side o_grid_kept_n o_grid_kept o_grid_targets_n o_grid_targets o_grid_heights_n o_grid_heights = some (.inr res)) : CtI l yX6_cell (Cond.code yX6_cell cX6_cell 5 (some .int) :: tblG) rmX6_cell D cA (wsX6_cell cA h_o h_o_grid h_o_grid_kept h_o_grid_targets h_o_grid_heights o_tools o_reader o_machine o_pieceCounter o_program o_draft o_grid_side o_grid_cells o_grid_marks o_grid_disc o_grid_discSize o_grid_kept_n o_grid_kept o_grid_targets_n o_grid_targets o_grid_heights_n o_grid_heights) [.ref h_o, .int a1, .int a2, .int a3] res (wsX6_cell cA h_o h_o_grid h_o_grid_kept h_o_grid_targets h_o_grid_heights o_tools o_reader o_machine o_pieceCounter o_program o_draft o_grid_side o_grid_cells o_grid_marks o_grid_disc o_grid_discSize o_grid_kept_n o_grid_kept o_grid_targets_n o_grid_targets o_grid_heights_n o_grid_heights) := by
  refine CtI.start (lv := [(0, .ref h_o), (1, .int a1), (2, .int a2), (3, .int a3)]) (by decide) (Nat.le_of_ble_eq_true rfl) rfl (fun κ hE => ?_)
  rw [fX6_cell] at hf0
  refine z_aload_n 0 (pc := 0) dX6_cell_0 rfl ?_
  refine z_iload_n 1 (pc := 1) dX6_cell_1 rfl ?_
  refine z_iload_n 2 (pc := 2) dX6_cell_2 rfl ?_
  obtain ⟨r1, er1, hf0⟩ := bp hf0
  rcases r1 with r1k | r1v
  · have hs := sum_inl hf0; cases hs
  replace hf0 := sum_inr hf0
  refine z_callv0V (pc := 3) (As := [.int a1, .int a2]) (rest := []) (k0X6_demandCell l D cA h_o h_o_grid o_tools o_reader o_machine o_pieceCounter o_program o_draft o_grid_side o_grid_cells (.ref h_o_grid_heights) (.ref h_o_grid_targets) (.ref h_o_grid_kept) o_grid_marks o_grid_disc o_grid_discSize a1 a2 N r1v er1) ivX6_143 ⟨rfl, rfl⟩ ⟨by decide, by decide⟩ rfl ⟨Nat.zero_le _, Nat.zero_le _⟩ rfl rfl [0, 1] rfl (by decide) rfl (Nat.le_of_ble_eq_true rfl) dX6_cell_3 ?_
  refine z_iload_n 3 (pc := 6) dX6_cell_6 rfl ?_
  refine z_iconst (pc := 7) (v := 2) dX6_cell_7 (by decide) ?_
  obtain ⟨r2, er2, hf0⟩ := bp hf0
  rcases r2 with r2k | r2v
  · have hs := sum_inl hf0; cases hs
  replace hf0 := sum_inr hf0
  refine z_callv0S (pc := 8) (As := [.int a3, .int 2]) (rest := []) (k0X6_demandWhat l D cA   a3 2 N r2v er2) ivX6_116 ⟨rfl, rfl⟩ ⟨by decide, by decide⟩ rfl ⟨Nat.zero_le _, Nat.zero_le _⟩ [] rfl (by decide) rfl (Nat.le_of_ble_eq_true rfl) dX6_cell_8 ?_
  refine z_aload_n 0 (pc := 11) dX6_cell_11 rfl ?_
  refine z_get 0 0 (pc := 12) (v := .ref h_o_grid) rfl rfl inX6 (by decide) flX6_23 rfl dX6_cell_12 ?_
  refine z_iload_n 1 (pc := 15) dX6_cell_15 rfl ?_
  refine z_iload_n 2 (pc := 16) dX6_cell_16 rfl ?_
  obtain ⟨r3, er3, hf0⟩ := bp hf0
  refine z_calliV (pc := 17) (As := [.int a1, .int a2]) (rest := []) (ws' := (wsX6_cell cA h_o h_o_grid h_o_grid_kept h_o_grid_targets h_o_grid_heights o_tools o_reader o_machine o_pieceCounter o_program o_draft o_grid_side o_grid_cells o_grid_marks o_grid_disc o_grid_discSize o_grid_kept_n o_grid_kept o_grid_targets_n o_grid_targets o_grid_heights_n o_grid_heights)) (kX0_placeOf l D cA h_o_grid o_grid_side o_grid_cells (.ref h_o_grid_heights) (.ref h_o_grid_targets) (.ref h_o_grid_kept) o_grid_marks o_grid_disc o_grid_discSize a1 a2 N r3 er3) ivX6_146 ⟨rfl, rfl⟩ ⟨by decide, by decide⟩ rfl ⟨Nat.zero_le _, Nat.zero_le _⟩ rfl rfl [1] rfl (by decide) rfl rfl rfl (Nat.le_of_ble_eq_true rfl) dX6_cell_17 ?_
  refine z_istore (pc := 20) (lv' := [(4, .int r3), (0, .ref h_o), (1, .int a1), (2, .int a2), (3, .int a3)]) dX6_cell_20 (by decide) rfl ?_
  refine z_iload_n 4 (pc := 22) dX6_cell_22 rfl ?_
  by_cases w23_0 : a3 = 0
  · have hf0 := fp w23_0 hf0
    refine y_lookup (pc := 23) (off := 25) (tgt := 48) dX6_cell_23 (by decide) (by rw [w23_0]; first | done | rfl) (by decide) ?_
    refine z_aload_n 1 (pc := 48) dX6_cell_48 rfl ?_
    refine z_get 0 0 (pc := 49) (v := .ref h_o_grid) rfl rfl inX6 (by decide) flX6_23 rfl dX6_cell_49 ?_
    refine z_get 1 2 (pc := 52) (v := .ref h_o_grid_heights) rfl rfl inX0 (by decide) flX6_149 rfl dX6_cell_52 ?_
    refine z_iload 0 (pc := 55) dX6_cell_55 rfl ?_
    refine z_iaload 4 0 (pc := 57) rfl rfl dX6_cell_57 hf0 (fun hf0 => ?_)
    obtain rfl := Sum.inr.inj (Option.some.inj hf0)
    exact z_iret hE dX6_cell_58
  have hf0 := fn w23_0 hf0
  by_cases w23_1 : a3 = 1
  · have hf0 := fp w23_1 hf0
    refine y_lookup (pc := 23) (off := 36) (tgt := 59) dX6_cell_23 (by decide) (by rw [w23_1]; first | done | rfl) (by decide) ?_
    refine z_aload_n 1 (pc := 59) dX6_cell_59 rfl ?_
    refine z_get 0 0 (pc := 60) (v := .ref h_o_grid) rfl rfl inX6 (by decide) flX6_23 rfl dX6_cell_60 ?_
    refine z_get 1 3 (pc := 63) (v := .ref h_o_grid_targets) rfl rfl inX0 (by decide) flX6_153 rfl dX6_cell_63 ?_
    refine z_iload 0 (pc := 66) dX6_cell_66 rfl ?_
    refine z_iaload 3 0 (pc := 68) rfl rfl dX6_cell_68 hf0 (fun hf0 => ?_)
    obtain rfl := Sum.inr.inj (Option.some.inj hf0)
    exact z_iret hE dX6_cell_69
  have hf0 := fn w23_1 hf0
  refine y_lookup (pc := 23) (off := 47) (tgt := 70) dX6_cell_23 (by decide) ((lv_osw w23_0 (by decide)).trans ((lv_osw w23_1 (by decide)).trans rfl)) (by decide) ?_
  refine z_aload_n 1 (pc := 70) dX6_cell_70 rfl ?_
  refine z_get 0 0 (pc := 71) (v := .ref h_o_grid) rfl rfl inX6 (by decide) flX6_23 rfl dX6_cell_71 ?_
  refine z_get 1 4 (pc := 74) (v := .ref h_o_grid_kept) rfl rfl inX0 (by decide) flX6_156 rfl dX6_cell_74 ?_
  refine z_iload 0 (pc := 77) dX6_cell_77 rfl ?_
  refine z_zaload 2 1 (pc := 79) rfl rfl dX6_cell_79 hf0 (fun hf0 => ?_)
  refine z_if_eq (pc := 80) (tgt := 87) dX6_cell_80 (by decide) hf0 (fun hf0 => ?_) (fun hf0 => ?_)
  · refine z_iconst (pc := 87) (v := 0) dX6_cell_87 (by decide) ?_
    obtain rfl := Sum.inr.inj (Option.some.inj hf0)
    exact z_iret hE dX6_cell_88
  · refine z_iconst (pc := 83) (v := 1) dX6_cell_83 (by decide) ?_
    refine z_goto (pc := 84) (tgt := 88) dX6_cell_84 (by decide) ?_
    obtain rfl := Sum.inr.inj (Option.some.inj hf0)
    exact z_iret hE dX6_cell_88

set_option maxHeartbeats 4000000 in
set_option maxRecDepth 100000 in
theorem tX6_cell (l : Launch) (D : va_G) (cA : Nat → ClassId) (h_o : Nat) (h_o_grid : Nat) (h_o_grid_kept : Nat) (h_o_grid_targets : Nat) (h_o_grid_heights : Nat) (o_tools : Value) (o_reader : Value) (o_machine : Value) (o_pieceCounter : Value) (o_program : Value) (o_draft : Value) (o_grid_side : Int32) (o_grid_cells : Int32) (o_grid_marks : Value) (o_grid_disc : Value) (o_grid_discSize : Int32) (o_grid_kept_n : Nat) (o_grid_kept : Nat → Int32) (o_grid_targets_n : Nat) (o_grid_targets : Nat → Int32) (o_grid_heights_n : Nat) (o_grid_heights : Nat → Int32) (a1 : Int32) (a2 : Int32) (a3 : Int32) (N : Nat) (kx : Nat) (hf0 : fX6_cell N a1 a2 a3 o_grid_side o_grid_kept_n o_grid_kept o_grid_targets_n o_grid_targets o_grid_heights_n o_grid_heights = some (.inl kx)) (hfl : l.flags = pinnedFlags ++ [noTraceFlag]) : CtT l yX6_cell (Cond.code yX6_cell cX6_cell 5 (some .int) :: tblG) rtX6_cell D cA (wsX6_cell cA h_o h_o_grid h_o_grid_kept h_o_grid_targets h_o_grid_heights o_tools o_reader o_machine o_pieceCounter o_program o_draft o_grid_side o_grid_cells o_grid_marks o_grid_disc o_grid_discSize o_grid_kept_n o_grid_kept o_grid_targets_n o_grid_targets o_grid_heights_n o_grid_heights) [.ref h_o, .int a1, .int a2, .int a3] kx := by
  refine CtT.start (lv := [(0, .ref h_o), (1, .int a1), (2, .int a2), (3, .int a3)]) (by decide) (Nat.le_of_ble_eq_true rfl) rfl (fun κ hE => ?_)
  rw [fX6_cell] at hf0
  refine z_aload_n 0 (pc := 0) dX6_cell_0 rfl ?_
  refine z_iload_n 1 (pc := 1) dX6_cell_1 rfl ?_
  refine z_iload_n 2 (pc := 2) dX6_cell_2 rfl ?_
  obtain ⟨r1, er1, hf0⟩ := bp hf0
  rcases r1 with r1k | r1v
  · have hs := sum_inl hf0
    obtain rfl := Sum.inl.inj (Option.some.inj hs)
    exact z_callTV (pc := 3) (As := [.int a1, .int a2]) (rest := []) (tX6_demandCell l D cA h_o h_o_grid o_tools o_reader o_machine o_pieceCounter o_program o_draft o_grid_side o_grid_cells (.ref h_o_grid_heights) (.ref h_o_grid_targets) (.ref h_o_grid_kept) o_grid_marks o_grid_disc o_grid_discSize a1 a2 N r1k er1 hfl) ivX6_143 ⟨rfl, rfl⟩ ⟨by decide, by decide⟩ rfl ⟨by decide, by decide⟩ rfl rfl [0, 1] rfl (by decide) rfl (Nat.le_of_ble_eq_true rfl) dX6_cell_3 hE
  replace hf0 := sum_inr hf0
  refine z_callv0V (pc := 3) (As := [.int a1, .int a2]) (rest := []) (k0X6_demandCell l D cA h_o h_o_grid o_tools o_reader o_machine o_pieceCounter o_program o_draft o_grid_side o_grid_cells (.ref h_o_grid_heights) (.ref h_o_grid_targets) (.ref h_o_grid_kept) o_grid_marks o_grid_disc o_grid_discSize a1 a2 N r1v er1) ivX6_143 ⟨rfl, rfl⟩ ⟨by decide, by decide⟩ rfl ⟨Nat.zero_le _, Nat.zero_le _⟩ rfl rfl [0, 1] rfl (by decide) rfl (Nat.le_of_ble_eq_true rfl) dX6_cell_3 ?_
  refine z_iload_n 3 (pc := 6) dX6_cell_6 rfl ?_
  refine z_iconst (pc := 7) (v := 2) dX6_cell_7 (by decide) ?_
  obtain ⟨r2, er2, hf0⟩ := bp hf0
  rcases r2 with r2k | r2v
  · have hs := sum_inl hf0
    obtain rfl := Sum.inl.inj (Option.some.inj hs)
    exact z_callTS (pc := 8) (As := [.int a3, .int 2]) (rest := []) (tX6_demandWhat l D cA   a3 2 N r2k er2 hfl) ivX6_116 ⟨rfl, rfl⟩ ⟨by decide, by decide⟩ rfl ⟨by decide, by decide⟩ [] rfl (by decide) rfl (Nat.le_of_ble_eq_true rfl) dX6_cell_8 hE
  replace hf0 := sum_inr hf0
  refine z_callv0S (pc := 8) (As := [.int a3, .int 2]) (rest := []) (k0X6_demandWhat l D cA   a3 2 N r2v er2) ivX6_116 ⟨rfl, rfl⟩ ⟨by decide, by decide⟩ rfl ⟨Nat.zero_le _, Nat.zero_le _⟩ [] rfl (by decide) rfl (Nat.le_of_ble_eq_true rfl) dX6_cell_8 ?_
  exact absurd hf0 (by
    intro hf0
    (repeat' (first | (cases hf0; done) | (obtain ⟨_, _, hf0⟩ := bp hf0) | (split at hf0))))

abbrev RBX6_check : Type := Int32
abbrev rtX6_check : Room := { frames := 7, cells := 1, slots := 6, locals := 111 }
abbrev RX6_check : Type := Nat ⊕ (Int32)
abbrev rmX6_check : Room := { frames := 2, cells := 0, slots := 0, locals := 45 }
abbrev wsX6_check (cA : Nat → ClassId) (h_o : Nat) (h_o_grid : Nat) (h_o_grid_heights : Nat) (h_o_grid_targets : Nat) (o_tools : Value) (o_reader : Value) (o_machine : Value) (o_pieceCounter : Value) (o_program : Value) (o_draft : Value) (o_grid_side : Int32) (o_grid_cells : Int32) (o_grid_kept : Value) (o_grid_marks : Value) (o_grid_disc : Value) (o_grid_discSize : Int32) (o_grid_heights_n : Nat) (o_grid_heights : Nat → Int32) (o_grid_targets_n : Nat) (o_grid_targets : Nat → Int32) : va_W := [(h_o, .inr (6, [.ref h_o_grid, o_tools, o_reader, o_machine, o_pieceCounter, o_program, o_draft])), (h_o_grid, .inr (0, [.int o_grid_side, .int o_grid_cells, .ref h_o_grid_heights, .ref h_o_grid_targets, o_grid_kept, o_grid_marks, o_grid_disc, .int o_grid_discSize])), (h_o_grid_heights, .inl (cA 0, o_grid_heights_n, .inl o_grid_heights)), (h_o_grid_targets, .inl (cA 0, o_grid_targets_n, .inl o_grid_targets))]
def fX6_check (N : Nat) (a1 : Int32) (o_grid_cells : Int32) (o_grid_heights_n : Nat) (o_grid_heights : Nat → Int32) (o_grid_targets_n : Nat) (o_grid_targets : Nat → Int32) : Option RX6_check :=
  ((fX6_demandWhat N a1 3).bind fun r1 => Sum.elim (fun k => some (.inl k)) (fun r1v => (if a1 = 0 then ((fX0_countOff N 1 o_grid_cells o_grid_heights_n o_grid_heights o_grid_targets_n o_grid_targets).bind fun r2 => some (.inr r2)) else (if a1 = 1 then ((fX0_countOff N 0 o_grid_cells o_grid_heights_n o_grid_heights o_grid_targets_n o_grid_targets).bind fun r3 => some (.inr r3)) else (if a1 = 2 then ((fX0_firstOff N 1 o_grid_cells o_grid_heights_n o_grid_heights o_grid_targets_n o_grid_targets).bind fun r4 => some (.inr r4)) else ((fX0_firstOff N 0 o_grid_cells o_grid_heights_n o_grid_heights o_grid_targets_n o_grid_targets).bind fun r5 => some (.inr r5)))))) r1)
set_option maxHeartbeats 4000000 in
set_option maxRecDepth 100000 in
theorem kX6_check (l : Launch) (D : va_G) (cA : Nat → ClassId) (h_o : Nat) (h_o_grid : Nat) (h_o_grid_heights : Nat) (h_o_grid_targets : Nat) (o_tools : Value) (o_reader : Value) (o_machine : Value) (o_pieceCounter : Value) (o_program : Value) (o_draft : Value) (o_grid_side : Int32) (o_grid_cells : Int32) (o_grid_kept : Value) (o_grid_marks : Value) (o_grid_disc : Value) (o_grid_discSize : Int32) (o_grid_heights_n : Nat) (o_grid_heights : Nat → Int32) (o_grid_targets_n : Nat) (o_grid_targets : Nat → Int32) (a1 : Int32) (N : Nat) (res : RBX6_check) (hf0 : fX6_check N a1 o_grid_cells o_grid_heights_n o_grid_heights o_grid_targets_n o_grid_targets = some (.inr res)) : CtI l yX6_check (Cond.code yX6_check cX6_check 2 (some .int) :: tblG) rmX6_check D cA (wsX6_check cA h_o h_o_grid h_o_grid_heights h_o_grid_targets o_tools o_reader o_machine o_pieceCounter o_program o_draft o_grid_side o_grid_cells o_grid_kept o_grid_marks o_grid_disc o_grid_discSize o_grid_heights_n o_grid_heights o_grid_targets_n o_grid_targets) [.ref h_o, .int a1] res (wsX6_check cA h_o h_o_grid h_o_grid_heights h_o_grid_targets o_tools o_reader o_machine o_pieceCounter o_program o_draft o_grid_side o_grid_cells o_grid_kept o_grid_marks o_grid_disc o_grid_discSize o_grid_heights_n o_grid_heights o_grid_targets_n o_grid_targets) := by
  refine CtI.start (lv := [(0, .ref h_o), (1, .int a1)]) (by decide) (Nat.le_of_ble_eq_true rfl) rfl (fun κ hE => ?_)
  rw [fX6_check] at hf0
  refine z_iload_n 1 (pc := 0) dX6_check_0 rfl ?_
  refine z_iconst (pc := 1) (v := 3) dX6_check_1 (by decide) ?_
  obtain ⟨r1, er1, hf0⟩ := bp hf0
  rcases r1 with r1k | r1v
  · have hs := sum_inl hf0; cases hs
  replace hf0 := sum_inr hf0
  refine z_callv0S (pc := 2) (As := [.int a1, .int 3]) (rest := []) (k0X6_demandWhat l D cA   a1 3 N r1v er1) ivX6_116 ⟨rfl, rfl⟩ ⟨by decide, by decide⟩ rfl ⟨Nat.zero_le _, Nat.zero_le _⟩ [] rfl (by decide) rfl (Nat.le_of_ble_eq_true rfl) dX6_check_2 ?_
  refine z_iload_n 1 (pc := 5) dX6_check_5 rfl ?_
  by_cases w6_0 : a1 = 0
  · have hf0 := fp w6_0 hf0
    refine y_tabIn (pc := 6) (off := 26) (tgt := 32) dX6_check_6 (by rw [w6_0]; decide) (by rw [w6_0]; decide) (by rw [w6_0]; first | done | rfl) (by decide) ?_
    refine z_aload_n 0 (pc := 32) dX6_check_32 rfl ?_
    refine z_get 0 0 (pc := 33) (v := .ref h_o_grid) rfl rfl inX6 (by decide) flX6_23 rfl dX6_check_33 ?_
    refine z_iconst (pc := 36) (v := 1) dX6_check_36 (by decide) ?_
    obtain ⟨r2, er2, hf0⟩ := bp hf0
    refine z_calliV (pc := 37) (As := [.int 1]) (rest := []) (ws' := (wsX6_check cA h_o h_o_grid h_o_grid_heights h_o_grid_targets o_tools o_reader o_machine o_pieceCounter o_program o_draft o_grid_side o_grid_cells o_grid_kept o_grid_marks o_grid_disc o_grid_discSize o_grid_heights_n o_grid_heights o_grid_targets_n o_grid_targets)) (kX0_countOff l D cA h_o_grid h_o_grid_heights h_o_grid_targets o_grid_side o_grid_cells o_grid_kept o_grid_marks o_grid_disc o_grid_discSize o_grid_heights_n o_grid_heights o_grid_targets_n o_grid_targets 1 N r2 er2) ivX6_160 ⟨rfl, rfl⟩ ⟨by decide, by decide⟩ rfl ⟨Nat.zero_le _, Nat.zero_le _⟩ rfl rfl [1, 2, 3] rfl (by decide) rfl rfl rfl (Nat.le_of_ble_eq_true rfl) dX6_check_37 ?_
    obtain rfl := Sum.inr.inj (Option.some.inj hf0)
    exact z_iret hE dX6_check_40
  have hf0 := fn w6_0 hf0
  by_cases w6_1 : a1 = 1
  · have hf0 := fp w6_1 hf0
    refine y_tabIn (pc := 6) (off := 35) (tgt := 41) dX6_check_6 (by rw [w6_1]; decide) (by rw [w6_1]; decide) (by rw [w6_1]; first | done | rfl) (by decide) ?_
    refine z_aload_n 0 (pc := 41) dX6_check_41 rfl ?_
    refine z_get 0 0 (pc := 42) (v := .ref h_o_grid) rfl rfl inX6 (by decide) flX6_23 rfl dX6_check_42 ?_
    refine z_iconst (pc := 45) (v := 0) dX6_check_45 (by decide) ?_
    obtain ⟨r3, er3, hf0⟩ := bp hf0
    refine z_calliV (pc := 46) (As := [.int 0]) (rest := []) (ws' := (wsX6_check cA h_o h_o_grid h_o_grid_heights h_o_grid_targets o_tools o_reader o_machine o_pieceCounter o_program o_draft o_grid_side o_grid_cells o_grid_kept o_grid_marks o_grid_disc o_grid_discSize o_grid_heights_n o_grid_heights o_grid_targets_n o_grid_targets)) (kX0_countOff l D cA h_o_grid h_o_grid_heights h_o_grid_targets o_grid_side o_grid_cells o_grid_kept o_grid_marks o_grid_disc o_grid_discSize o_grid_heights_n o_grid_heights o_grid_targets_n o_grid_targets 0 N r3 er3) ivX6_160 ⟨rfl, rfl⟩ ⟨by decide, by decide⟩ rfl ⟨Nat.zero_le _, Nat.zero_le _⟩ rfl rfl [1, 2, 3] rfl (by decide) rfl rfl rfl (Nat.le_of_ble_eq_true rfl) dX6_check_46 ?_
    obtain rfl := Sum.inr.inj (Option.some.inj hf0)
    exact z_iret hE dX6_check_49
  have hf0 := fn w6_1 hf0
  by_cases w6_2 : a1 = 2
  · have hf0 := fp w6_2 hf0
    refine y_tabIn (pc := 6) (off := 44) (tgt := 50) dX6_check_6 (by rw [w6_2]; decide) (by rw [w6_2]; decide) (by rw [w6_2]; first | done | rfl) (by decide) ?_
    refine z_aload_n 0 (pc := 50) dX6_check_50 rfl ?_
    refine z_get 0 0 (pc := 51) (v := .ref h_o_grid) rfl rfl inX6 (by decide) flX6_23 rfl dX6_check_51 ?_
    refine z_iconst (pc := 54) (v := 1) dX6_check_54 (by decide) ?_
    obtain ⟨r4, er4, hf0⟩ := bp hf0
    refine z_calliV (pc := 55) (As := [.int 1]) (rest := []) (ws' := (wsX6_check cA h_o h_o_grid h_o_grid_heights h_o_grid_targets o_tools o_reader o_machine o_pieceCounter o_program o_draft o_grid_side o_grid_cells o_grid_kept o_grid_marks o_grid_disc o_grid_discSize o_grid_heights_n o_grid_heights o_grid_targets_n o_grid_targets)) (kX0_firstOff l D cA h_o_grid h_o_grid_heights h_o_grid_targets o_grid_side o_grid_cells o_grid_kept o_grid_marks o_grid_disc o_grid_discSize o_grid_heights_n o_grid_heights o_grid_targets_n o_grid_targets 1 N r4 er4) ivX6_164 ⟨rfl, rfl⟩ ⟨by decide, by decide⟩ rfl ⟨Nat.zero_le _, Nat.zero_le _⟩ rfl rfl [1, 2, 3] rfl (by decide) rfl rfl rfl (Nat.le_of_ble_eq_true rfl) dX6_check_55 ?_
    obtain rfl := Sum.inr.inj (Option.some.inj hf0)
    exact z_iret hE dX6_check_58
  have hf0 := fn w6_2 hf0
  refine y_tabOut (pc := 6) (tgt := 59) dX6_check_6 (by have n0 := lv_neT w6_0 (a := 0) (by decide); have n1 := lv_neT w6_1 (a := 1) (by decide); have n2 := lv_neT w6_2 (a := 2) (by decide); omega) (by decide) ?_
  refine z_aload_n 0 (pc := 59) dX6_check_59 rfl ?_
  refine z_get 0 0 (pc := 60) (v := .ref h_o_grid) rfl rfl inX6 (by decide) flX6_23 rfl dX6_check_60 ?_
  refine z_iconst (pc := 63) (v := 0) dX6_check_63 (by decide) ?_
  obtain ⟨r5, er5, hf0⟩ := bp hf0
  refine z_calliV (pc := 64) (As := [.int 0]) (rest := []) (ws' := (wsX6_check cA h_o h_o_grid h_o_grid_heights h_o_grid_targets o_tools o_reader o_machine o_pieceCounter o_program o_draft o_grid_side o_grid_cells o_grid_kept o_grid_marks o_grid_disc o_grid_discSize o_grid_heights_n o_grid_heights o_grid_targets_n o_grid_targets)) (kX0_firstOff l D cA h_o_grid h_o_grid_heights h_o_grid_targets o_grid_side o_grid_cells o_grid_kept o_grid_marks o_grid_disc o_grid_discSize o_grid_heights_n o_grid_heights o_grid_targets_n o_grid_targets 0 N r5 er5) ivX6_164 ⟨rfl, rfl⟩ ⟨by decide, by decide⟩ rfl ⟨Nat.zero_le _, Nat.zero_le _⟩ rfl rfl [1, 2, 3] rfl (by decide) rfl rfl rfl (Nat.le_of_ble_eq_true rfl) dX6_check_64 ?_
  obtain rfl := Sum.inr.inj (Option.some.inj hf0)
  exact z_iret hE dX6_check_67

set_option maxHeartbeats 4000000 in
set_option maxRecDepth 100000 in
theorem tX6_check (l : Launch) (D : va_G) (cA : Nat → ClassId) (h_o : Nat) (h_o_grid : Nat) (h_o_grid_heights : Nat) (h_o_grid_targets : Nat) (o_tools : Value) (o_reader : Value) (o_machine : Value) (o_pieceCounter : Value) (o_program : Value) (o_draft : Value) (o_grid_side : Int32) (o_grid_cells : Int32) (o_grid_kept : Value) (o_grid_marks : Value) (o_grid_disc : Value) (o_grid_discSize : Int32) (o_grid_heights_n : Nat) (o_grid_heights : Nat → Int32) (o_grid_targets_n : Nat) (o_grid_targets : Nat → Int32) (a1 : Int32) (N : Nat) (kx : Nat) (hf0 : fX6_check N a1 o_grid_cells o_grid_heights_n o_grid_heights o_grid_targets_n o_grid_targets = some (.inl kx)) (hfl : l.flags = pinnedFlags ++ [noTraceFlag]) : CtT l yX6_check (Cond.code yX6_check cX6_check 2 (some .int) :: tblG) rtX6_check D cA (wsX6_check cA h_o h_o_grid h_o_grid_heights h_o_grid_targets o_tools o_reader o_machine o_pieceCounter o_program o_draft o_grid_side o_grid_cells o_grid_kept o_grid_marks o_grid_disc o_grid_discSize o_grid_heights_n o_grid_heights o_grid_targets_n o_grid_targets) [.ref h_o, .int a1] kx := by
  refine CtT.start (lv := [(0, .ref h_o), (1, .int a1)]) (by decide) (Nat.le_of_ble_eq_true rfl) rfl (fun κ hE => ?_)
  rw [fX6_check] at hf0
  refine z_iload_n 1 (pc := 0) dX6_check_0 rfl ?_
  refine z_iconst (pc := 1) (v := 3) dX6_check_1 (by decide) ?_
  obtain ⟨r1, er1, hf0⟩ := bp hf0
  rcases r1 with r1k | r1v
  · have hs := sum_inl hf0
    obtain rfl := Sum.inl.inj (Option.some.inj hs)
    exact z_callTS (pc := 2) (As := [.int a1, .int 3]) (rest := []) (tX6_demandWhat l D cA   a1 3 N r1k er1 hfl) ivX6_116 ⟨rfl, rfl⟩ ⟨by decide, by decide⟩ rfl ⟨by decide, by decide⟩ [] rfl (by decide) rfl (Nat.le_of_ble_eq_true rfl) dX6_check_2 hE
  replace hf0 := sum_inr hf0
  refine z_callv0S (pc := 2) (As := [.int a1, .int 3]) (rest := []) (k0X6_demandWhat l D cA   a1 3 N r1v er1) ivX6_116 ⟨rfl, rfl⟩ ⟨by decide, by decide⟩ rfl ⟨Nat.zero_le _, Nat.zero_le _⟩ [] rfl (by decide) rfl (Nat.le_of_ble_eq_true rfl) dX6_check_2 ?_
  exact absurd hf0 (by
    intro hf0
    (repeat' (first | (cases hf0; done) | (obtain ⟨_, _, hf0⟩ := bp hf0) | (split at hf0))))

abbrev RBX6_reached : Type := Int32 × Int32 × (Nat → Int32) × (Nat → Int32)
abbrev rtX6_reached : Room := { frames := 7, cells := 1, slots := 6, locals := 110 }
abbrev RX6_reached : Type := Nat ⊕ (Int32 × Int32 × (Nat → Int32) × (Nat → Int32))
abbrev rmX6_reached : Room := { frames := 3, cells := 0, slots := 0, locals := 74 }
abbrev wsX6_reached (cA : Nat → ClassId) (h_o : Nat) (h_o_grid : Nat) (h_o_tools : Nat) (h_o_tools_0 : Nat) (h_o_tools_1 : Nat) (h_o_tools_2 : Nat) (h_o_tools_3 : Nat) (h_o_grid_marks : Nat) (h_o_tools_0_halfWidths : Nat) (h_o_tools_1_halfWidths : Nat) (h_o_tools_2_halfWidths : Nat) (h_o_tools_3_halfWidths : Nat) (h_o_grid_disc : Nat) (h_o_grid_kept : Nat) (h_o_grid_targets : Nat) (h_o_grid_heights : Nat) (o_reader : Value) (o_machine : Value) (o_pieceCounter : Value) (o_program : Value) (o_draft : Value) (o_grid_side : Int32) (o_grid_cells : Int32) (o_grid_discSize : Int32) (o_tools_radius : Nat → Int32) (o_tools_feed : Nat → Int32) (o_grid_marks_n : Nat) (o_grid_marks : Nat → Int32) (o_tools_halfWidths_n : Nat) (o_tools_halfWidths : Nat → Nat → Int32) (o_grid_disc_n : Nat) (o_grid_disc : Nat → Int32) (o_grid_kept_n : Nat) (o_grid_kept : Nat → Int32) (o_grid_targets_n : Nat) (o_grid_targets : Nat → Int32) (o_grid_heights_n : Nat) (o_grid_heights : Nat → Int32) : va_W := [(h_o, .inr (6, [.ref h_o_grid, .ref h_o_tools, o_reader, o_machine, o_pieceCounter, o_program, o_draft])), (h_o_grid, .inr (0, [.int o_grid_side, .int o_grid_cells, .ref h_o_grid_heights, .ref h_o_grid_targets, .ref h_o_grid_kept, .ref h_o_grid_marks, .ref h_o_grid_disc, .int o_grid_discSize])), (h_o_tools, .inl (cA 4, 4, .inr (.inr (.inr (.inr (rk4 h_o_tools_0 h_o_tools_1 h_o_tools_2 h_o_tools_3)))))), (h_o_tools_0, .inr (5, [.int (o_tools_radius 0), .int (o_tools_feed 0), .ref h_o_tools_0_halfWidths])), (h_o_tools_1, .inr (5, [.int (o_tools_radius 1), .int (o_tools_feed 1), .ref h_o_tools_1_halfWidths])), (h_o_tools_2, .inr (5, [.int (o_tools_radius 2), .int (o_tools_feed 2), .ref h_o_tools_2_halfWidths])), (h_o_tools_3, .inr (5, [.int (o_tools_radius 3), .int (o_tools_feed 3), .ref h_o_tools_3_halfWidths])), (h_o_grid_marks, .inl (cA 1, o_grid_marks_n, .inl o_grid_marks)), (h_o_tools_0_halfWidths, .inl (cA 0, o_tools_halfWidths_n, .inl (o_tools_halfWidths 0))), (h_o_tools_1_halfWidths, .inl (cA 0, o_tools_halfWidths_n, .inl (o_tools_halfWidths 1))), (h_o_tools_2_halfWidths, .inl (cA 0, o_tools_halfWidths_n, .inl (o_tools_halfWidths 2))), (h_o_tools_3_halfWidths, .inl (cA 0, o_tools_halfWidths_n, .inl (o_tools_halfWidths 3))), (h_o_grid_disc, .inl (cA 0, o_grid_disc_n, .inl o_grid_disc)), (h_o_grid_kept, .inl (cA 1, o_grid_kept_n, .inl o_grid_kept)), (h_o_grid_targets, .inl (cA 0, o_grid_targets_n, .inl o_grid_targets)), (h_o_grid_heights, .inl (cA 0, o_grid_heights_n, .inl o_grid_heights))]
def fX6_reached (N : Nat) (a1 : Int32) (o_grid_side : Int32) (o_grid_cells : Int32) (o_grid_discSize : Int32) (o_tools_radius : Nat → Int32) (o_grid_marks_n : Nat) (o_grid_marks : Nat → Int32) (o_tools_halfWidths_n : Nat) (o_tools_halfWidths : Nat → Nat → Int32) (o_grid_disc_n : Nat) (o_grid_disc : Nat → Int32) (o_grid_kept_n : Nat) (o_grid_kept : Nat → Int32) (o_grid_targets_n : Nat) (o_grid_targets : Nat → Int32) (o_grid_heights_n : Nat) (o_grid_heights : Nat → Int32) : Option RX6_reached :=
  ((fX6_demandTool N a1).bind fun r1 => Sum.elim (fun k => some (.inl k)) (fun r1v => (if a1 < 0 ∨ 4 ≤ a1.toNatClampNeg then none else ((fX0_countReached N o_grid_side o_grid_cells o_grid_discSize (o_tools_radius a1.toNatClampNeg) o_grid_marks_n o_grid_marks o_tools_halfWidths_n (o_tools_halfWidths a1.toNatClampNeg) o_grid_disc_n o_grid_disc o_grid_kept_n o_grid_kept o_grid_targets_n o_grid_targets o_grid_heights_n o_grid_heights).bind fun r2 => some (.inr (r2.1, r2.2.1, r2.2.2.1, r2.2.2.2))))) r1)
set_option maxHeartbeats 4000000 in
set_option maxRecDepth 100000 in
theorem kX6_reached (l : Launch) (D : va_G) (cA : Nat → ClassId) (h_o : Nat) (h_o_grid : Nat) (h_o_tools : Nat) (h_o_tools_0 : Nat) (h_o_tools_1 : Nat) (h_o_tools_2 : Nat) (h_o_tools_3 : Nat) (h_o_grid_marks : Nat) (h_o_tools_0_halfWidths : Nat) (h_o_tools_1_halfWidths : Nat) (h_o_tools_2_halfWidths : Nat) (h_o_tools_3_halfWidths : Nat) (h_o_grid_disc : Nat) (h_o_grid_kept : Nat) (h_o_grid_targets : Nat) (h_o_grid_heights : Nat) (o_reader : Value) (o_machine : Value) (o_pieceCounter : Value) (o_program : Value) (o_draft : Value) (o_grid_side : Int32) (o_grid_cells : Int32) (o_grid_discSize : Int32) (o_tools_radius : Nat → Int32) (o_tools_feed : Nat → Int32) (o_grid_marks_n : Nat) (o_grid_marks : Nat → Int32) (o_tools_halfWidths_n : Nat) (o_tools_halfWidths : Nat → Nat → Int32) (o_grid_disc_n : Nat) (o_grid_disc : Nat → Int32) (o_grid_kept_n : Nat) (o_grid_kept : Nat → Int32) (o_grid_targets_n : Nat) (o_grid_targets : Nat → Int32) (o_grid_heights_n : Nat) (o_grid_heights : Nat → Int32) (a1 : Int32) (N : Nat) (res : RBX6_reached) (hf0 : fX6_reached N a1 o_grid_side o_grid_cells o_grid_discSize o_tools_radius o_grid_marks_n o_grid_marks o_tools_halfWidths_n o_tools_halfWidths o_grid_disc_n o_grid_disc o_grid_kept_n o_grid_kept o_grid_targets_n o_grid_targets o_grid_heights_n o_grid_heights = some (.inr res)) : CtI l yX6_reached (Cond.code yX6_reached cX6_reached 2 (some .int) :: tblG) rmX6_reached D cA (wsX6_reached cA h_o h_o_grid h_o_tools h_o_tools_0 h_o_tools_1 h_o_tools_2 h_o_tools_3 h_o_grid_marks h_o_tools_0_halfWidths h_o_tools_1_halfWidths h_o_tools_2_halfWidths h_o_tools_3_halfWidths h_o_grid_disc h_o_grid_kept h_o_grid_targets h_o_grid_heights o_reader o_machine o_pieceCounter o_program o_draft o_grid_side o_grid_cells o_grid_discSize o_tools_radius o_tools_feed o_grid_marks_n o_grid_marks o_tools_halfWidths_n o_tools_halfWidths o_grid_disc_n o_grid_disc o_grid_kept_n o_grid_kept o_grid_targets_n o_grid_targets o_grid_heights_n o_grid_heights) [.ref h_o, .int a1] res.1 (wsX6_reached cA h_o h_o_grid h_o_tools h_o_tools_0 h_o_tools_1 h_o_tools_2 h_o_tools_3 h_o_grid_marks h_o_tools_0_halfWidths h_o_tools_1_halfWidths h_o_tools_2_halfWidths h_o_tools_3_halfWidths h_o_grid_disc h_o_grid_kept h_o_grid_targets h_o_grid_heights o_reader o_machine o_pieceCounter o_program o_draft o_grid_side o_grid_cells res.2.1 o_tools_radius o_tools_feed o_grid_marks_n res.2.2.1 o_tools_halfWidths_n o_tools_halfWidths o_grid_disc_n res.2.2.2 o_grid_kept_n o_grid_kept o_grid_targets_n o_grid_targets o_grid_heights_n o_grid_heights) := by
  refine CtI.start (lv := [(0, .ref h_o), (1, .int a1)]) (by decide) (Nat.le_of_ble_eq_true rfl) rfl (fun κ hE => ?_)
  rw [fX6_reached] at hf0
  refine z_iload_n 1 (pc := 0) dX6_reached_0 rfl ?_
  obtain ⟨r1, er1, hf0⟩ := bp hf0
  rcases r1 with r1k | r1v
  · have hs := sum_inl hf0; cases hs
  replace hf0 := sum_inr hf0
  refine z_callv0S (pc := 1) (As := [.int a1]) (rest := []) (k0X6_demandTool l D cA   a1 N r1v er1) ivX6_84 ⟨rfl, rfl⟩ ⟨by decide, by decide⟩ rfl ⟨Nat.zero_le _, Nat.zero_le _⟩ [] rfl (by decide) rfl (Nat.le_of_ble_eq_true rfl) dX6_reached_1 ?_
  refine z_aload_n 0 (pc := 4) dX6_reached_4 rfl ?_
  refine z_get 0 0 (pc := 5) (v := .ref h_o_grid) rfl rfl inX6 (by decide) flX6_23 rfl dX6_reached_5 ?_
  refine z_aload_n 0 (pc := 8) dX6_reached_8 rfl ?_
  refine z_get 0 1 (pc := 9) (v := .ref h_o_tools) rfl rfl inX6 (by decide) flX6_29 rfl dX6_reached_9 ?_
  refine z_iload_n 1 (pc := 12) dX6_reached_12 rfl ?_
  refine z_aaload 2 4 (pc := 13) rfl rfl dX6_reached_13 hf0 (fun hf0 hk13 => ?_)
  rcases fam4 hk13 with ek13 | ek13 | ek13 | ek13
  · rw [ek13] at hf0 ⊢
    refine z_stk (stk' := [.ref h_o_tools_0, .ref h_o_grid]) rfl ?_
    obtain ⟨r2, er2, hf0⟩ := bp hf0
    refine z_calliV (pc := 14) (As := [.ref h_o_tools_0]) (rest := []) (ws' := (wsX6_reached cA h_o h_o_grid h_o_tools h_o_tools_0 h_o_tools_1 h_o_tools_2 h_o_tools_3 h_o_grid_marks h_o_tools_0_halfWidths h_o_tools_1_halfWidths h_o_tools_2_halfWidths h_o_tools_3_halfWidths h_o_grid_disc h_o_grid_kept h_o_grid_targets h_o_grid_heights o_reader o_machine o_pieceCounter o_program o_draft o_grid_side o_grid_cells r2.2.1 o_tools_radius o_tools_feed o_grid_marks_n r2.2.2.1 o_tools_halfWidths_n o_tools_halfWidths o_grid_disc_n r2.2.2.2 o_grid_kept_n o_grid_kept o_grid_targets_n o_grid_targets o_grid_heights_n o_grid_heights)) (kX0_countReached l D cA h_o_grid h_o_tools_0 h_o_grid_marks h_o_tools_0_halfWidths h_o_grid_disc h_o_grid_kept h_o_grid_targets h_o_grid_heights o_grid_side o_grid_cells o_grid_discSize (o_tools_radius 0) (o_tools_feed 0) o_grid_marks_n o_grid_marks o_tools_halfWidths_n (o_tools_halfWidths 0) o_grid_disc_n o_grid_disc o_grid_kept_n o_grid_kept o_grid_targets_n o_grid_targets o_grid_heights_n o_grid_heights  N r2 er2) ivX6_167 ⟨rfl, rfl⟩ ⟨by decide, by decide⟩ rfl ⟨Nat.zero_le _, Nat.zero_le _⟩ rfl rfl [1, 3, 7, 8, 12, 13, 14, 15] rfl (by decide) rfl rfl rfl (Nat.le_of_ble_eq_true rfl) dX6_reached_14 ?_
    obtain rfl := Sum.inr.inj (Option.some.inj hf0)
    exact z_iret hE dX6_reached_17
  · rw [ek13] at hf0 ⊢
    refine z_stk (stk' := [.ref h_o_tools_1, .ref h_o_grid]) rfl ?_
    obtain ⟨r2, er2, hf0⟩ := bp hf0
    refine z_calliV (pc := 14) (As := [.ref h_o_tools_1]) (rest := []) (ws' := (wsX6_reached cA h_o h_o_grid h_o_tools h_o_tools_0 h_o_tools_1 h_o_tools_2 h_o_tools_3 h_o_grid_marks h_o_tools_0_halfWidths h_o_tools_1_halfWidths h_o_tools_2_halfWidths h_o_tools_3_halfWidths h_o_grid_disc h_o_grid_kept h_o_grid_targets h_o_grid_heights o_reader o_machine o_pieceCounter o_program o_draft o_grid_side o_grid_cells r2.2.1 o_tools_radius o_tools_feed o_grid_marks_n r2.2.2.1 o_tools_halfWidths_n o_tools_halfWidths o_grid_disc_n r2.2.2.2 o_grid_kept_n o_grid_kept o_grid_targets_n o_grid_targets o_grid_heights_n o_grid_heights)) (kX0_countReached l D cA h_o_grid h_o_tools_1 h_o_grid_marks h_o_tools_1_halfWidths h_o_grid_disc h_o_grid_kept h_o_grid_targets h_o_grid_heights o_grid_side o_grid_cells o_grid_discSize (o_tools_radius 1) (o_tools_feed 1) o_grid_marks_n o_grid_marks o_tools_halfWidths_n (o_tools_halfWidths 1) o_grid_disc_n o_grid_disc o_grid_kept_n o_grid_kept o_grid_targets_n o_grid_targets o_grid_heights_n o_grid_heights  N r2 er2) ivX6_167 ⟨rfl, rfl⟩ ⟨by decide, by decide⟩ rfl ⟨Nat.zero_le _, Nat.zero_le _⟩ rfl rfl [1, 4, 7, 9, 12, 13, 14, 15] rfl (by decide) rfl rfl rfl (Nat.le_of_ble_eq_true rfl) dX6_reached_14 ?_
    obtain rfl := Sum.inr.inj (Option.some.inj hf0)
    exact z_iret hE dX6_reached_17
  · rw [ek13] at hf0 ⊢
    refine z_stk (stk' := [.ref h_o_tools_2, .ref h_o_grid]) rfl ?_
    obtain ⟨r2, er2, hf0⟩ := bp hf0
    refine z_calliV (pc := 14) (As := [.ref h_o_tools_2]) (rest := []) (ws' := (wsX6_reached cA h_o h_o_grid h_o_tools h_o_tools_0 h_o_tools_1 h_o_tools_2 h_o_tools_3 h_o_grid_marks h_o_tools_0_halfWidths h_o_tools_1_halfWidths h_o_tools_2_halfWidths h_o_tools_3_halfWidths h_o_grid_disc h_o_grid_kept h_o_grid_targets h_o_grid_heights o_reader o_machine o_pieceCounter o_program o_draft o_grid_side o_grid_cells r2.2.1 o_tools_radius o_tools_feed o_grid_marks_n r2.2.2.1 o_tools_halfWidths_n o_tools_halfWidths o_grid_disc_n r2.2.2.2 o_grid_kept_n o_grid_kept o_grid_targets_n o_grid_targets o_grid_heights_n o_grid_heights)) (kX0_countReached l D cA h_o_grid h_o_tools_2 h_o_grid_marks h_o_tools_2_halfWidths h_o_grid_disc h_o_grid_kept h_o_grid_targets h_o_grid_heights o_grid_side o_grid_cells o_grid_discSize (o_tools_radius 2) (o_tools_feed 2) o_grid_marks_n o_grid_marks o_tools_halfWidths_n (o_tools_halfWidths 2) o_grid_disc_n o_grid_disc o_grid_kept_n o_grid_kept o_grid_targets_n o_grid_targets o_grid_heights_n o_grid_heights  N r2 er2) ivX6_167 ⟨rfl, rfl⟩ ⟨by decide, by decide⟩ rfl ⟨Nat.zero_le _, Nat.zero_le _⟩ rfl rfl [1, 5, 7, 10, 12, 13, 14, 15] rfl (by decide) rfl rfl rfl (Nat.le_of_ble_eq_true rfl) dX6_reached_14 ?_
    obtain rfl := Sum.inr.inj (Option.some.inj hf0)
    exact z_iret hE dX6_reached_17
  · rw [ek13] at hf0 ⊢
    refine z_stk (stk' := [.ref h_o_tools_3, .ref h_o_grid]) rfl ?_
    obtain ⟨r2, er2, hf0⟩ := bp hf0
    refine z_calliV (pc := 14) (As := [.ref h_o_tools_3]) (rest := []) (ws' := (wsX6_reached cA h_o h_o_grid h_o_tools h_o_tools_0 h_o_tools_1 h_o_tools_2 h_o_tools_3 h_o_grid_marks h_o_tools_0_halfWidths h_o_tools_1_halfWidths h_o_tools_2_halfWidths h_o_tools_3_halfWidths h_o_grid_disc h_o_grid_kept h_o_grid_targets h_o_grid_heights o_reader o_machine o_pieceCounter o_program o_draft o_grid_side o_grid_cells r2.2.1 o_tools_radius o_tools_feed o_grid_marks_n r2.2.2.1 o_tools_halfWidths_n o_tools_halfWidths o_grid_disc_n r2.2.2.2 o_grid_kept_n o_grid_kept o_grid_targets_n o_grid_targets o_grid_heights_n o_grid_heights)) (kX0_countReached l D cA h_o_grid h_o_tools_3 h_o_grid_marks h_o_tools_3_halfWidths h_o_grid_disc h_o_grid_kept h_o_grid_targets h_o_grid_heights o_grid_side o_grid_cells o_grid_discSize (o_tools_radius 3) (o_tools_feed 3) o_grid_marks_n o_grid_marks o_tools_halfWidths_n (o_tools_halfWidths 3) o_grid_disc_n o_grid_disc o_grid_kept_n o_grid_kept o_grid_targets_n o_grid_targets o_grid_heights_n o_grid_heights  N r2 er2) ivX6_167 ⟨rfl, rfl⟩ ⟨by decide, by decide⟩ rfl ⟨Nat.zero_le _, Nat.zero_le _⟩ rfl rfl [1, 6, 7, 11, 12, 13, 14, 15] rfl (by decide) rfl rfl rfl (Nat.le_of_ble_eq_true rfl) dX6_reached_14 ?_
    obtain rfl := Sum.inr.inj (Option.some.inj hf0)
    exact z_iret hE dX6_reached_17

set_option maxHeartbeats 4000000 in
set_option maxRecDepth 100000 in
theorem tX6_reached (l : Launch) (D : va_G) (cA : Nat → ClassId) (h_o : Nat) (h_o_grid : Nat) (h_o_tools : Nat) (h_o_tools_0 : Nat) (h_o_tools_1 : Nat) (h_o_tools_2 : Nat) (h_o_tools_3 : Nat) (h_o_grid_marks : Nat) (h_o_tools_0_halfWidths : Nat) (h_o_tools_1_halfWidths : Nat) (h_o_tools_2_halfWidths : Nat) (h_o_tools_3_halfWidths : Nat) (h_o_grid_disc : Nat) (h_o_grid_kept : Nat) (h_o_grid_targets : Nat) (h_o_grid_heights : Nat) (o_reader : Value) (o_machine : Value) (o_pieceCounter : Value) (o_program : Value) (o_draft : Value) (o_grid_side : Int32) (o_grid_cells : Int32) (o_grid_discSize : Int32) (o_tools_radius : Nat → Int32) (o_tools_feed : Nat → Int32) (o_grid_marks_n : Nat) (o_grid_marks : Nat → Int32) (o_tools_halfWidths_n : Nat) (o_tools_halfWidths : Nat → Nat → Int32) (o_grid_disc_n : Nat) (o_grid_disc : Nat → Int32) (o_grid_kept_n : Nat) (o_grid_kept : Nat → Int32) (o_grid_targets_n : Nat) (o_grid_targets : Nat → Int32) (o_grid_heights_n : Nat) (o_grid_heights : Nat → Int32) (a1 : Int32) (N : Nat) (kx : Nat) (hf0 : fX6_reached N a1 o_grid_side o_grid_cells o_grid_discSize o_tools_radius o_grid_marks_n o_grid_marks o_tools_halfWidths_n o_tools_halfWidths o_grid_disc_n o_grid_disc o_grid_kept_n o_grid_kept o_grid_targets_n o_grid_targets o_grid_heights_n o_grid_heights = some (.inl kx)) (hfl : l.flags = pinnedFlags ++ [noTraceFlag]) : CtT l yX6_reached (Cond.code yX6_reached cX6_reached 2 (some .int) :: tblG) rtX6_reached D cA (wsX6_reached cA h_o h_o_grid h_o_tools h_o_tools_0 h_o_tools_1 h_o_tools_2 h_o_tools_3 h_o_grid_marks h_o_tools_0_halfWidths h_o_tools_1_halfWidths h_o_tools_2_halfWidths h_o_tools_3_halfWidths h_o_grid_disc h_o_grid_kept h_o_grid_targets h_o_grid_heights o_reader o_machine o_pieceCounter o_program o_draft o_grid_side o_grid_cells o_grid_discSize o_tools_radius o_tools_feed o_grid_marks_n o_grid_marks o_tools_halfWidths_n o_tools_halfWidths o_grid_disc_n o_grid_disc o_grid_kept_n o_grid_kept o_grid_targets_n o_grid_targets o_grid_heights_n o_grid_heights) [.ref h_o, .int a1] kx := by
  refine CtT.start (lv := [(0, .ref h_o), (1, .int a1)]) (by decide) (Nat.le_of_ble_eq_true rfl) rfl (fun κ hE => ?_)
  rw [fX6_reached] at hf0
  refine z_iload_n 1 (pc := 0) dX6_reached_0 rfl ?_
  obtain ⟨r1, er1, hf0⟩ := bp hf0
  rcases r1 with r1k | r1v
  · have hs := sum_inl hf0
    obtain rfl := Sum.inl.inj (Option.some.inj hs)
    exact z_callTS (pc := 1) (As := [.int a1]) (rest := []) (tX6_demandTool l D cA   a1 N r1k er1 hfl) ivX6_84 ⟨rfl, rfl⟩ ⟨by decide, by decide⟩ rfl ⟨by decide, by decide⟩ [] rfl (by decide) rfl (Nat.le_of_ble_eq_true rfl) dX6_reached_1 hE
  replace hf0 := sum_inr hf0
  refine z_callv0S (pc := 1) (As := [.int a1]) (rest := []) (k0X6_demandTool l D cA   a1 N r1v er1) ivX6_84 ⟨rfl, rfl⟩ ⟨by decide, by decide⟩ rfl ⟨Nat.zero_le _, Nat.zero_le _⟩ [] rfl (by decide) rfl (Nat.le_of_ble_eq_true rfl) dX6_reached_1 ?_
  exact absurd hf0 (by
    intro hf0
    (repeat' (first | (cases hf0; done) | (obtain ⟨_, _, hf0⟩ := bp hf0) | (split at hf0))))
