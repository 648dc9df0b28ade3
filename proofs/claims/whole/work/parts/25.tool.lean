abbrev RBX6_tool : Type := (Nat → Int32) × (Nat → Int32) × (Nat → Nat → Int32)
abbrev rtX6_tool : Room := { frames := 7, cells := 1, slots := 6, locals := 110 }
abbrev RX6_tool : Type := Nat ⊕ ((Nat → Int32) × (Nat → Int32) × (Nat → Nat → Int32))
abbrev rmX6_tool : Room := { frames := 2, cells := 0, slots := 0, locals := 46 }
abbrev wsX6_tool (cA : Nat → ClassId) (h_o : Nat) (h_o_tools : Nat) (h_o_tools_0 : Nat) (h_o_tools_1 : Nat) (h_o_tools_2 : Nat) (h_o_tools_3 : Nat) (h_o_tools_0_halfWidths : Nat) (h_o_tools_1_halfWidths : Nat) (h_o_tools_2_halfWidths : Nat) (h_o_tools_3_halfWidths : Nat) (o_grid : Value) (o_reader : Value) (o_machine : Value) (o_pieceCounter : Value) (o_program : Value) (o_draft : Value) (o_tools_radius : Nat → Int32) (o_tools_feed : Nat → Int32) (o_tools_halfWidths_n : Nat) (o_tools_halfWidths : Nat → Nat → Int32) : va_W := [(h_o, .inr (6, [o_grid, .ref h_o_tools, o_reader, o_machine, o_pieceCounter, o_program, o_draft])), (h_o_tools, .inl (cA 4, 4, .inr (.inr (.inr (.inr (rk4 h_o_tools_0 h_o_tools_1 h_o_tools_2 h_o_tools_3)))))), (h_o_tools_0, .inr (5, [.int (o_tools_radius 0), .int (o_tools_feed 0), .ref h_o_tools_0_halfWidths])), (h_o_tools_1, .inr (5, [.int (o_tools_radius 1), .int (o_tools_feed 1), .ref h_o_tools_1_halfWidths])), (h_o_tools_2, .inr (5, [.int (o_tools_radius 2), .int (o_tools_feed 2), .ref h_o_tools_2_halfWidths])), (h_o_tools_3, .inr (5, [.int (o_tools_radius 3), .int (o_tools_feed 3), .ref h_o_tools_3_halfWidths])), (h_o_tools_0_halfWidths, .inl (cA 0, o_tools_halfWidths_n, .inl (o_tools_halfWidths 0))), (h_o_tools_1_halfWidths, .inl (cA 0, o_tools_halfWidths_n, .inl (o_tools_halfWidths 1))), (h_o_tools_2_halfWidths, .inl (cA 0, o_tools_halfWidths_n, .inl (o_tools_halfWidths 2))), (h_o_tools_3_halfWidths, .inl (cA 0, o_tools_halfWidths_n, .inl (o_tools_halfWidths 3)))]
def fX6_tool (N : Nat) (a1 : Int32) (a2 : Int32) (a3 : Int32) (o_tools_radius : Nat → Int32) (o_tools_feed : Nat → Int32) (o_tools_halfWidths_n : Nat) (o_tools_halfWidths : Nat → Nat → Int32) : Option RX6_tool :=
  ((fX6_demandTool N a1).bind fun r1 => Sum.elim (fun k => some (.inl k)) (fun r1v => (if a2 < 0 then some (.inl 1) else (if a2 ≤ 6 then (if a3 < 1 then some (.inl 1) else (if a3 ≤ 10 then (if a1 < 0 ∨ 4 ≤ a1.toNatClampNeg then none else ((fX5_become N a2 a3 (o_tools_radius a1.toNatClampNeg) (o_tools_feed a1.toNatClampNeg) o_tools_halfWidths_n (o_tools_halfWidths a1.toNatClampNeg)).bind fun r2 => some (.inr (va_up o_tools_radius a1.toNatClampNeg r2.1, va_up o_tools_feed a1.toNatClampNeg r2.2.1, va_up o_tools_halfWidths a1.toNatClampNeg r2.2.2)))) else some (.inl 1))) else some (.inl 1)))) r1)
set_option maxHeartbeats 4000000 in
set_option maxRecDepth 100000 in
theorem kX6_tool (l : Launch) (D : va_G) (cA : Nat → ClassId) (h_o : Nat) (h_o_tools : Nat) (h_o_tools_0 : Nat) (h_o_tools_1 : Nat) (h_o_tools_2 : Nat) (h_o_tools_3 : Nat) (h_o_tools_0_halfWidths : Nat) (h_o_tools_1_halfWidths : Nat) (h_o_tools_2_halfWidths : Nat) (h_o_tools_3_halfWidths : Nat) (o_grid : Value) (o_reader : Value) (o_machine : Value) (o_pieceCounter : Value) (o_program : Value) (o_draft : Value) (o_tools_radius : Nat → Int32) (o_tools_feed : Nat → Int32) (o_tools_halfWidths_n : Nat) (o_tools_halfWidths : Nat → Nat → Int32) (a1 : Int32) (a2 : Int32) (a3 : Int32) (N : Nat) (res : RBX6_tool) (hf0 : fX6_tool N a1 a2 a3 o_tools_radius o_tools_feed o_tools_halfWidths_n o_tools_halfWidths = some (.inr res)) : CtV l yX6_tool (Cond.code yX6_tool cX6_tool 4 (none) :: tblG) rmX6_tool D cA (wsX6_tool cA h_o h_o_tools h_o_tools_0 h_o_tools_1 h_o_tools_2 h_o_tools_3 h_o_tools_0_halfWidths h_o_tools_1_halfWidths h_o_tools_2_halfWidths h_o_tools_3_halfWidths o_grid o_reader o_machine o_pieceCounter o_program o_draft o_tools_radius o_tools_feed o_tools_halfWidths_n o_tools_halfWidths) [.ref h_o, .int a1, .int a2, .int a3] (wsX6_tool cA h_o h_o_tools h_o_tools_0 h_o_tools_1 h_o_tools_2 h_o_tools_3 h_o_tools_0_halfWidths h_o_tools_1_halfWidths h_o_tools_2_halfWidths h_o_tools_3_halfWidths o_grid o_reader o_machine o_pieceCounter o_program o_draft res.1 res.2.1 o_tools_halfWidths_n res.2.2) := by
  refine CtV.start (lv := [(0, .ref h_o), (1, .int a1), (2, .int a2), (3, .int a3)]) (by decide) (Nat.le_of_ble_eq_true rfl) rfl (fun κ hE => ?_)
  rw [fX6_tool] at hf0
  refine z_iload_n 1 (pc := 0) dX6_tool_0 rfl ?_
  obtain ⟨r1, er1, hf0⟩ := bp hf0
  rcases r1 with r1k | r1v
  · have hs := sum_inl hf0; cases hs
  replace hf0 := sum_inr hf0
  refine z_callv0S (pc := 1) (As := [.int a1]) (rest := []) (k0X6_demandTool l D cA   a1 N r1v er1) ivX6_84 ⟨rfl, rfl⟩ ⟨by decide, by decide⟩ rfl ⟨Nat.zero_le _, Nat.zero_le _⟩ [] rfl (by decide) rfl (Nat.le_of_ble_eq_true rfl) dX6_tool_1 ?_
  refine z_iload_n 2 (pc := 4) dX6_tool_4 rfl ?_
  refine z_if_lt (pc := 5) (tgt := 14) dX6_tool_5 (by decide) hf0 (fun hf0 => ?_) (fun hf0 => ?_)
  · cases hf0
  · refine z_iload_n 2 (pc := 8) dX6_tool_8 rfl ?_
    refine z_bipush (pc := 9) (v := 6) dX6_tool_9 (by decide) ?_
    refine z_icmp_le (pc := 11) (tgt := 24) dX6_tool_11 (by decide) hf0 (fun hf0 => ?_) (fun hf0 => ?_)
    · refine z_iload_n 3 (pc := 24) dX6_tool_24 rfl ?_
      refine z_iconst (pc := 25) (v := 1) dX6_tool_25 (by decide) ?_
      refine z_icmp_lt (pc := 26) (tgt := 35) dX6_tool_26 (by decide) hf0 (fun hf0 => ?_) (fun hf0 => ?_)
      · cases hf0
      · refine z_iload_n 3 (pc := 29) dX6_tool_29 rfl ?_
        refine z_bipush (pc := 30) (v := 10) dX6_tool_30 (by decide) ?_
        refine z_icmp_le (pc := 32) (tgt := 45) dX6_tool_32 (by decide) hf0 (fun hf0 => ?_) (fun hf0 => ?_)
        · refine z_aload_n 0 (pc := 45) dX6_tool_45 rfl ?_
          refine z_get 0 1 (pc := 46) (v := .ref h_o_tools) rfl rfl inX6 (by decide) flX6_29 rfl dX6_tool_46 ?_
          refine z_iload_n 1 (pc := 49) dX6_tool_49 rfl ?_
          refine z_aaload 1 4 (pc := 50) rfl rfl dX6_tool_50 hf0 (fun hf0 hk50 => ?_)
          rcases fam4 hk50 with ek50 | ek50 | ek50 | ek50
          · rw [ek50] at hf0 ⊢
            refine z_stk (stk' := [.ref h_o_tools_0]) rfl ?_
            refine z_iload_n 2 (pc := 51) dX6_tool_51 rfl ?_
            refine z_iload_n 3 (pc := 52) dX6_tool_52 rfl ?_
            obtain ⟨r2, er2, hf0⟩ := bp hf0
            refine z_callvV (pc := 53) (As := [.int a2, .int a3]) (rest := []) (ws' := (wsX6_tool cA h_o h_o_tools h_o_tools_0 h_o_tools_1 h_o_tools_2 h_o_tools_3 h_o_tools_0_halfWidths h_o_tools_1_halfWidths h_o_tools_2_halfWidths h_o_tools_3_halfWidths o_grid o_reader o_machine o_pieceCounter o_program o_draft (va_up o_tools_radius 0 r2.1) (va_up o_tools_feed 0 r2.2.1) o_tools_halfWidths_n (va_up o_tools_halfWidths 0 r2.2.2))) (kX5_become l D cA h_o_tools_0 h_o_tools_0_halfWidths (o_tools_radius 0) (o_tools_feed 0) o_tools_halfWidths_n (o_tools_halfWidths 0) a2 a3 N r2 er2) ivX6_91 ⟨rfl, rfl⟩ ⟨by decide, by decide⟩ rfl ⟨Nat.zero_le _, Nat.zero_le _⟩ rfl rfl [2, 6] rfl (by decide) rfl rfl rfl (Nat.le_of_ble_eq_true rfl) dX6_tool_53 ?_
            obtain rfl := Sum.inr.inj (Option.some.inj hf0)
            exact z_vret hE dX6_tool_56
          · rw [ek50] at hf0 ⊢
            refine z_stk (stk' := [.ref h_o_tools_1]) rfl ?_
            refine z_iload_n 2 (pc := 51) dX6_tool_51 rfl ?_
            refine z_iload_n 3 (pc := 52) dX6_tool_52 rfl ?_
            obtain ⟨r2, er2, hf0⟩ := bp hf0
            refine z_callvV (pc := 53) (As := [.int a2, .int a3]) (rest := []) (ws' := (wsX6_tool cA h_o h_o_tools h_o_tools_0 h_o_tools_1 h_o_tools_2 h_o_tools_3 h_o_tools_0_halfWidths h_o_tools_1_halfWidths h_o_tools_2_halfWidths h_o_tools_3_halfWidths o_grid o_reader o_machine o_pieceCounter o_program o_draft (va_up o_tools_radius 1 r2.1) (va_up o_tools_feed 1 r2.2.1) o_tools_halfWidths_n (va_up o_tools_halfWidths 1 r2.2.2))) (kX5_become l D cA h_o_tools_1 h_o_tools_1_halfWidths (o_tools_radius 1) (o_tools_feed 1) o_tools_halfWidths_n (o_tools_halfWidths 1) a2 a3 N r2 er2) ivX6_91 ⟨rfl, rfl⟩ ⟨by decide, by decide⟩ rfl ⟨Nat.zero_le _, Nat.zero_le _⟩ rfl rfl [3, 7] rfl (by decide) rfl rfl rfl (Nat.le_of_ble_eq_true rfl) dX6_tool_53 ?_
            obtain rfl := Sum.inr.inj (Option.some.inj hf0)
            exact z_vret hE dX6_tool_56
          · rw [ek50] at hf0 ⊢
            refine z_stk (stk' := [.ref h_o_tools_2]) rfl ?_
            refine z_iload_n 2 (pc := 51) dX6_tool_51 rfl ?_
            refine z_iload_n 3 (pc := 52) dX6_tool_52 rfl ?_
            obtain ⟨r2, er2, hf0⟩ := bp hf0
            refine z_callvV (pc := 53) (As := [.int a2, .int a3]) (rest := []) (ws' := (wsX6_tool cA h_o h_o_tools h_o_tools_0 h_o_tools_1 h_o_tools_2 h_o_tools_3 h_o_tools_0_halfWidths h_o_tools_1_halfWidths h_o_tools_2_halfWidths h_o_tools_3_halfWidths o_grid o_reader o_machine o_pieceCounter o_program o_draft (va_up o_tools_radius 2 r2.1) (va_up o_tools_feed 2 r2.2.1) o_tools_halfWidths_n (va_up o_tools_halfWidths 2 r2.2.2))) (kX5_become l D cA h_o_tools_2 h_o_tools_2_halfWidths (o_tools_radius 2) (o_tools_feed 2) o_tools_halfWidths_n (o_tools_halfWidths 2) a2 a3 N r2 er2) ivX6_91 ⟨rfl, rfl⟩ ⟨by decide, by decide⟩ rfl ⟨Nat.zero_le _, Nat.zero_le _⟩ rfl rfl [4, 8] rfl (by decide) rfl rfl rfl (Nat.le_of_ble_eq_true rfl) dX6_tool_53 ?_
            obtain rfl := Sum.inr.inj (Option.some.inj hf0)
            exact z_vret hE dX6_tool_56
          · rw [ek50] at hf0 ⊢
            refine z_stk (stk' := [.ref h_o_tools_3]) rfl ?_
            refine z_iload_n 2 (pc := 51) dX6_tool_51 rfl ?_
            refine z_iload_n 3 (pc := 52) dX6_tool_52 rfl ?_
            obtain ⟨r2, er2, hf0⟩ := bp hf0
            refine z_callvV (pc := 53) (As := [.int a2, .int a3]) (rest := []) (ws' := (wsX6_tool cA h_o h_o_tools h_o_tools_0 h_o_tools_1 h_o_tools_2 h_o_tools_3 h_o_tools_0_halfWidths h_o_tools_1_halfWidths h_o_tools_2_halfWidths h_o_tools_3_halfWidths o_grid o_reader o_machine o_pieceCounter o_program o_draft (va_up o_tools_radius 3 r2.1) (va_up o_tools_feed 3 r2.2.1) o_tools_halfWidths_n (va_up o_tools_halfWidths 3 r2.2.2))) (kX5_become l D cA h_o_tools_3 h_o_tools_3_halfWidths (o_tools_radius 3) (o_tools_feed 3) o_tools_halfWidths_n (o_tools_halfWidths 3) a2 a3 N r2 er2) ivX6_91 ⟨rfl, rfl⟩ ⟨by decide, by decide⟩ rfl ⟨Nat.zero_le _, Nat.zero_le _⟩ rfl rfl [5, 9] rfl (by decide) rfl rfl rfl (Nat.le_of_ble_eq_true rfl) dX6_tool_53 ?_
            obtain rfl := Sum.inr.inj (Option.some.inj hf0)
            exact z_vret hE dX6_tool_56
        · cases hf0
    · cases hf0

set_option maxHeartbeats 4000000 in
set_option maxRecDepth 100000 in
theorem tX6_tool (l : Launch) (D : va_G) (cA : Nat → ClassId) (h_o : Nat) (h_o_tools : Nat) (h_o_tools_0 : Nat) (h_o_tools_1 : Nat) (h_o_tools_2 : Nat) (h_o_tools_3 : Nat) (h_o_tools_0_halfWidths : Nat) (h_o_tools_1_halfWidths : Nat) (h_o_tools_2_halfWidths : Nat) (h_o_tools_3_halfWidths : Nat) (o_grid : Value) (o_reader : Value) (o_machine : Value) (o_pieceCounter : Value) (o_program : Value) (o_draft : Value) (o_tools_radius : Nat → Int32) (o_tools_feed : Nat → Int32) (o_tools_halfWidths_n : Nat) (o_tools_halfWidths : Nat → Nat → Int32) (a1 : Int32) (a2 : Int32) (a3 : Int32) (N : Nat) (kx : Nat) (hf0 : fX6_tool N a1 a2 a3 o_tools_radius o_tools_feed o_tools_halfWidths_n o_tools_halfWidths = some (.inl kx)) (hfl : l.flags = pinnedFlags ++ [noTraceFlag]) : CtT l yX6_tool (Cond.code yX6_tool cX6_tool 4 (none) :: tblG) rtX6_tool D cA (wsX6_tool cA h_o h_o_tools h_o_tools_0 h_o_tools_1 h_o_tools_2 h_o_tools_3 h_o_tools_0_halfWidths h_o_tools_1_halfWidths h_o_tools_2_halfWidths h_o_tools_3_halfWidths o_grid o_reader o_machine o_pieceCounter o_program o_draft o_tools_radius o_tools_feed o_tools_halfWidths_n o_tools_halfWidths) [.ref h_o, .int a1, .int a2, .int a3] kx := by
  refine CtT.start (lv := [(0, .ref h_o), (1, .int a1), (2, .int a2), (3, .int a3)]) (by decide) (Nat.le_of_ble_eq_true rfl) rfl (fun κ hE => ?_)
  rw [fX6_tool] at hf0
  refine z_iload_n 1 (pc := 0) dX6_tool_0 rfl ?_
  obtain ⟨r1, er1, hf0⟩ := bp hf0
  rcases r1 with r1k | r1v
  · have hs := sum_inl hf0
    obtain rfl := Sum.inl.inj (Option.some.inj hs)
    exact z_callTS (pc := 1) (As := [.int a1]) (rest := []) (tX6_demandTool l D cA   a1 N r1k er1 hfl) ivX6_84 ⟨rfl, rfl⟩ ⟨by decide, by decide⟩ rfl ⟨by decide, by decide⟩ [] rfl (by decide) rfl (Nat.le_of_ble_eq_true rfl) dX6_tool_1 hE
  replace hf0 := sum_inr hf0
  refine z_callv0S (pc := 1) (As := [.int a1]) (rest := []) (k0X6_demandTool l D cA   a1 N r1v er1) ivX6_84 ⟨rfl, rfl⟩ ⟨by decide, by decide⟩ rfl ⟨Nat.zero_le _, Nat.zero_le _⟩ [] rfl (by decide) rfl (Nat.le_of_ble_eq_true rfl) dX6_tool_1 ?_
  refine z_iload_n 2 (pc := 4) dX6_tool_4 rfl ?_
  refine z_if_lt (pc := 5) (tgt := 14) dX6_tool_5 (by decide) hf0 (fun hf0 => ?_) (fun hf0 => ?_)
  · obtain rfl := Sum.inl.inj (Option.some.inj hf0)
    exact z_throw (pc := 14) (li := 87) hfl rfl (by decide) (by decide +kernel) xcl_69 xin_1 xii_1 xoa_73 hE ⟨by decide, by decide, by decide, Nat.le_of_ble_eq_true rfl⟩ dX6_tool_14 dX6_tool_17 dX6_tool_18 dX6_tool_20 dX6_tool_23
  · refine z_iload_n 2 (pc := 8) dX6_tool_8 rfl ?_
    refine z_bipush (pc := 9) (v := 6) dX6_tool_9 (by decide) ?_
    refine z_icmp_le (pc := 11) (tgt := 24) dX6_tool_11 (by decide) hf0 (fun hf0 => ?_) (fun hf0 => ?_)
    · refine z_iload_n 3 (pc := 24) dX6_tool_24 rfl ?_
      refine z_iconst (pc := 25) (v := 1) dX6_tool_25 (by decide) ?_
      refine z_icmp_lt (pc := 26) (tgt := 35) dX6_tool_26 (by decide) hf0 (fun hf0 => ?_) (fun hf0 => ?_)
      · obtain rfl := Sum.inl.inj (Option.some.inj hf0)
        exact z_throw (pc := 35) (li := 89) hfl rfl (by decide) (by decide +kernel) xcl_69 xin_1 xii_1 xoa_73 hE ⟨by decide, by decide, by decide, Nat.le_of_ble_eq_true rfl⟩ dX6_tool_35 dX6_tool_38 dX6_tool_39 dX6_tool_41 dX6_tool_44
      · refine z_iload_n 3 (pc := 29) dX6_tool_29 rfl ?_
        refine z_bipush (pc := 30) (v := 10) dX6_tool_30 (by decide) ?_
        refine z_icmp_le (pc := 32) (tgt := 45) dX6_tool_32 (by decide) hf0 (fun hf0 => ?_) (fun hf0 => ?_)
        · exact absurd hf0 (by repeat' (first | with_reducible exact nr_inr | with_reducible exact nr_none | with_reducible refine nr_ite ?_ ?_ | with_reducible refine nr_bind (fun _ => ?_)))
        · obtain rfl := Sum.inl.inj (Option.some.inj hf0)
          exact z_throw (pc := 35) (li := 89) hfl rfl (by decide) (by decide +kernel) xcl_69 xin_1 xii_1 xoa_73 hE ⟨by decide, by decide, by decide, Nat.le_of_ble_eq_true rfl⟩ dX6_tool_35 dX6_tool_38 dX6_tool_39 dX6_tool_41 dX6_tool_44
    · obtain rfl := Sum.inl.inj (Option.some.inj hf0)
      exact z_throw (pc := 14) (li := 87) hfl rfl (by decide) (by decide +kernel) xcl_69 xin_1 xii_1 xoa_73 hE ⟨by decide, by decide, by decide, Nat.le_of_ble_eq_true rfl⟩ dX6_tool_14 dX6_tool_17 dX6_tool_18 dX6_tool_20 dX6_tool_23
