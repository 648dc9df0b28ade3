abbrev RX7_thrown : Type := Int32
abbrev rmX7_thrown : Room := { frames := 0, cells := 0, slots := 0, locals := 0 }
abbrev wsX7_thrown (cA : Nat → ClassId) (h_o : Nat) (o_thrown : Int32) (o_side : Int32) (o_heights : Value) (o_targets : Value) (o_kept : Value) (o_radius : Value) (o_feeds : Value) (o_text : Value) (o_size : Int32) (o_at : Int32) (o_fault : Int32) (o_program : Value) (o_draft : Value) (o_statements : Int32) (o_hasProgram : Int32) (o_hasRun : Int32) (o_where : Value) (o_tool : Int32) (o_about : Value) (o_stack : Value) (o_seen : Value) (o_begin : Value) (o_gap : Value) : va_W := [(h_o, .inr (7, [.int o_thrown, .int o_side, o_heights, o_targets, o_kept, o_radius, o_feeds, o_text, .int o_size, .int o_at, .int o_fault, o_program, o_draft, .int o_statements, .int o_hasProgram, .int o_hasRun, o_where, .int o_tool, o_about, o_stack, o_seen, o_begin, o_gap]))]
def fX7_thrown (N : Nat)  (o_thrown : Int32) : Option RX7_thrown :=
  some o_thrown
set_option maxHeartbeats 4000000 in
set_option maxRecDepth 100000 in
theorem kX7_thrown (l : Launch) (D : va_G) (cA : Nat → ClassId) (h_o : Nat) (o_thrown : Int32) (o_side : Int32) (o_heights : Value) (o_targets : Value) (o_kept : Value) (o_radius : Value) (o_feeds : Value) (o_text : Value) (o_size : Int32) (o_at : Int32) (o_fault : Int32) (o_program : Value) (o_draft : Value) (o_statements : Int32) (o_hasProgram : Int32) (o_hasRun : Int32) (o_where : Value) (o_tool : Int32) (o_about : Value) (o_stack : Value) (o_seen : Value) (o_begin : Value) (o_gap : Value)  (N : Nat) (res : RX7_thrown) (hf0 : fX7_thrown N o_thrown = some res) : CtI l yX7_thrown (Cond.code yX7_thrown cX7_thrown 1 (some .int) :: tblG) rmX7_thrown D cA (wsX7_thrown cA h_o o_thrown o_side o_heights o_targets o_kept o_radius o_feeds o_text o_size o_at o_fault o_program o_draft o_statements o_hasProgram o_hasRun o_where o_tool o_about o_stack o_seen o_begin o_gap) [.ref h_o] res (wsX7_thrown cA h_o o_thrown o_side o_heights o_targets o_kept o_radius o_feeds o_text o_size o_at o_fault o_program o_draft o_statements o_hasProgram o_hasRun o_where o_tool o_about o_stack o_seen o_begin o_gap) := by
  refine CtI.start (lv := [(0, .ref h_o)]) (by decide) (Nat.le_of_ble_eq_true rfl) rfl (fun κ hE => ?_)
  rw [fX7_thrown] at hf0
  refine z_aload_n 0 (pc := 0) dX7_thrown_0 rfl ?_
  refine z_get 0 0 (pc := 1) (v := .int o_thrown) rfl rfl inX7 (by decide) flX7_57 rfl dX7_thrown_1 ?_
  obtain rfl := Option.some.inj hf0
  exact z_iret hE dX7_thrown_4

abbrev RX7_isIn : Type := Int32
abbrev rmX7_isIn : Room := { frames := 0, cells := 0, slots := 0, locals := 0 }
abbrev wsX7_isIn (cA : Nat → ClassId)   : va_W := []
def fX7_isIn (N : Nat) (a0 : Int32) (a1 : Int32) (a2 : Int32)  : Option RX7_isIn :=
  (if a0 < a1 then some 0 else (if a2 < a0 then some 0 else some 1))
set_option maxHeartbeats 4000000 in
set_option maxRecDepth 100000 in
theorem kX7_isIn (l : Launch) (D : va_G) (cA : Nat → ClassId)   (a0 : Int32) (a1 : Int32) (a2 : Int32) (N : Nat) (res : RX7_isIn) (hf0 : fX7_isIn N a0 a1 a2 = some res) : CtI l yX7_isIn (Cond.code yX7_isIn cX7_isIn 3 (some .boolean) :: tblG) rmX7_isIn D cA (wsX7_isIn cA ) [.int a0, .int a1, .int a2] res (wsX7_isIn cA ) := by
  refine CtI.start (lv := [(0, .int a0), (1, .int a1), (2, .int a2)]) (by decide) (Nat.le_of_ble_eq_true rfl) rfl (fun κ hE => ?_)
  rw [fX7_isIn] at hf0
  refine z_iload_n 0 (pc := 0) dX7_isIn_0 rfl ?_
  refine z_iload_n 1 (pc := 1) dX7_isIn_1 rfl ?_
  refine z_icmp_lt (pc := 2) (tgt := 14) dX7_isIn_2 (by decide) hf0 (fun hf0 => ?_) (fun hf0 => ?_)
  · refine z_iconst (pc := 14) (v := 0) dX7_isIn_14 (by decide) ?_
    obtain rfl := Option.some.inj hf0
    exact z_zretL (by decide) hE dX7_isIn_15
  · refine z_iload_n 0 (pc := 5) dX7_isIn_5 rfl ?_
    refine z_iload_n 2 (pc := 6) dX7_isIn_6 rfl ?_
    refine z_icmp_gt (pc := 7) (tgt := 14) dX7_isIn_7 (by decide) hf0 (fun hf0 => ?_) (fun hf0 => ?_)
    · refine z_iconst (pc := 14) (v := 0) dX7_isIn_14 (by decide) ?_
      obtain rfl := Option.some.inj hf0
      exact z_zretL (by decide) hE dX7_isIn_15
    · refine z_iconst (pc := 10) (v := 1) dX7_isIn_10 (by decide) ?_
      refine z_goto (pc := 11) (tgt := 15) dX7_isIn_11 (by decide) ?_
      obtain rfl := Option.some.inj hf0
      exact z_zretL (by decide) hE dX7_isIn_15

abbrev RX7_isCell : Type := Int32
abbrev rmX7_isCell : Room := { frames := 1, cells := 0, slots := 0, locals := 22 }
abbrev wsX7_isCell (cA : Nat → ClassId) (h_o : Nat) (o_thrown : Int32) (o_side : Int32) (o_heights : Value) (o_targets : Value) (o_kept : Value) (o_radius : Value) (o_feeds : Value) (o_text : Value) (o_size : Int32) (o_at : Int32) (o_fault : Int32) (o_program : Value) (o_draft : Value) (o_statements : Int32) (o_hasProgram : Int32) (o_hasRun : Int32) (o_where : Value) (o_tool : Int32) (o_about : Value) (o_stack : Value) (o_seen : Value) (o_begin : Value) (o_gap : Value) : va_W := [(h_o, .inr (7, [.int o_thrown, .int o_side, o_heights, o_targets, o_kept, o_radius, o_feeds, o_text, .int o_size, .int o_at, .int o_fault, o_program, o_draft, .int o_statements, .int o_hasProgram, .int o_hasRun, o_where, .int o_tool, o_about, o_stack, o_seen, o_begin, o_gap]))]
def fX7_isCell (N : Nat) (a1 : Int32) (a2 : Int32) (o_side : Int32) : Option RX7_isCell :=
  ((fX7_isIn N a1 0 (o_side - 1)).bind fun r1 => (if r1 = 0 then some 0 else ((fX7_isIn N a2 0 (o_side - 1)).bind fun r2 => (if r2 = 0 then some 0 else some 1))))
set_option maxHeartbeats 4000000 in
set_option maxRecDepth 100000 in
theorem kX7_isCell (l : Launch) (D : va_G) (cA : Nat → ClassId) (h_o : Nat) (o_thrown : Int32) (o_side : Int32) (o_heights : Value) (o_targets : Value) (o_kept : Value) (o_radius : Value) (o_feeds : Value) (o_text : Value) (o_size : Int32) (o_at : Int32) (o_fault : Int32) (o_program : Value) (o_draft : Value) (o_statements : Int32) (o_hasProgram : Int32) (o_hasRun : Int32) (o_where : Value) (o_tool : Int32) (o_about : Value) (o_stack : Value) (o_seen : Value) (o_begin : Value) (o_gap : Value) (a1 : Int32) (a2 : Int32) (N : Nat) (res : RX7_isCell) (hf0 : fX7_isCell N a1 a2 o_side = some res) : CtI l yX7_isCell (Cond.code yX7_isCell cX7_isCell 3 (some .boolean) :: tblG) rmX7_isCell D cA (wsX7_isCell cA h_o o_thrown o_side o_heights o_targets o_kept o_radius o_feeds o_text o_size o_at o_fault o_program o_draft o_statements o_hasProgram o_hasRun o_where o_tool o_about o_stack o_seen o_begin o_gap) [.ref h_o, .int a1, .int a2] res (wsX7_isCell cA h_o o_thrown o_side o_heights o_targets o_kept o_radius o_feeds o_text o_size o_at o_fault o_program o_draft o_statements o_hasProgram o_hasRun o_where o_tool o_about o_stack o_seen o_begin o_gap) := by
  refine CtI.start (lv := [(0, .ref h_o), (1, .int a1), (2, .int a2)]) (by decide) (Nat.le_of_ble_eq_true rfl) rfl (fun κ hE => ?_)
  rw [fX7_isCell] at hf0
  refine z_iload_n 1 (pc := 0) dX7_isCell_0 rfl ?_
  refine z_iconst (pc := 1) (v := 0) dX7_isCell_1 (by decide) ?_
  refine z_aload_n 0 (pc := 2) dX7_isCell_2 rfl ?_
  refine z_get 0 1 (pc := 3) (v := .int o_side) rfl rfl inX7 (by decide) flX7_53 rfl dX7_isCell_3 ?_
  refine z_iconst (pc := 6) (v := 1) dX7_isCell_6 (by decide) ?_
  refine z_isub (pc := 7) dX7_isCell_7 ?_
  obtain ⟨r1, er1, hf0⟩ := bp hf0
  refine z_calliS (pc := 8) (As := [.int a1, .int 0, .int (o_side - 1)]) (rest := []) (ws' := (wsX7_isCell cA h_o o_thrown o_side o_heights o_targets o_kept o_radius o_feeds o_text o_size o_at o_fault o_program o_draft o_statements o_hasProgram o_hasRun o_where o_tool o_about o_stack o_seen o_begin o_gap)) (kX7_isIn l D cA   a1 0 (o_side - 1) N r1 er1) ivX7_60 ⟨rfl, rfl⟩ ⟨by decide, by decide⟩ rfl ⟨Nat.zero_le _, Nat.zero_le _⟩ [] rfl (by decide) rfl rfl rfl (Nat.le_of_ble_eq_true rfl) dX7_isCell_8 ?_
  refine z_if_eq (pc := 11) (tgt := 32) dX7_isCell_11 (by decide) hf0 (fun hf0 => ?_) (fun hf0 => ?_)
  · refine z_iconst (pc := 32) (v := 0) dX7_isCell_32 (by decide) ?_
    obtain rfl := Option.some.inj hf0
    exact z_zretL (by decide) hE dX7_isCell_33
  · refine z_iload_n 2 (pc := 14) dX7_isCell_14 rfl ?_
    refine z_iconst (pc := 15) (v := 0) dX7_isCell_15 (by decide) ?_
    refine z_aload_n 0 (pc := 16) dX7_isCell_16 rfl ?_
    refine z_get 0 1 (pc := 17) (v := .int o_side) rfl rfl inX7 (by decide) flX7_53 rfl dX7_isCell_17 ?_
    refine z_iconst (pc := 20) (v := 1) dX7_isCell_20 (by decide) ?_
    refine z_isub (pc := 21) dX7_isCell_21 ?_
    obtain ⟨r2, er2, hf0⟩ := bp hf0
    refine z_calliS (pc := 22) (As := [.int a2, .int 0, .int (o_side - 1)]) (rest := []) (ws' := (wsX7_isCell cA h_o o_thrown o_side o_heights o_targets o_kept o_radius o_feeds o_text o_size o_at o_fault o_program o_draft o_statements o_hasProgram o_hasRun o_where o_tool o_about o_stack o_seen o_begin o_gap)) (kX7_isIn l D cA   a2 0 (o_side - 1) N r2 er2) ivX7_60 ⟨rfl, rfl⟩ ⟨by decide, by decide⟩ rfl ⟨Nat.zero_le _, Nat.zero_le _⟩ [] rfl (by decide) rfl rfl rfl (Nat.le_of_ble_eq_true rfl) dX7_isCell_22 ?_
    refine z_if_eq (pc := 25) (tgt := 32) dX7_isCell_25 (by decide) hf0 (fun hf0 => ?_) (fun hf0 => ?_)
    · refine z_iconst (pc := 32) (v := 0) dX7_isCell_32 (by decide) ?_
      obtain rfl := Option.some.inj hf0
      exact z_zretL (by decide) hE dX7_isCell_33
    · refine z_iconst (pc := 28) (v := 1) dX7_isCell_28 (by decide) ?_
      refine z_goto (pc := 29) (tgt := 33) dX7_isCell_29 (by decide) ?_
      obtain rfl := Option.some.inj hf0
      exact z_zretL (by decide) hE dX7_isCell_33

abbrev RX7_spanFault : Type := Int32
abbrev rmX7_spanFault : Room := { frames := 2, cells := 0, slots := 0, locals := 44 }
abbrev wsX7_spanFault (cA : Nat → ClassId) (h_o : Nat) (o_thrown : Int32) (o_side : Int32) (o_heights : Value) (o_targets : Value) (o_kept : Value) (o_radius : Value) (o_feeds : Value) (o_text : Value) (o_size : Int32) (o_at : Int32) (o_fault : Int32) (o_program : Value) (o_draft : Value) (o_statements : Int32) (o_hasProgram : Int32) (o_hasRun : Int32) (o_where : Value) (o_tool : Int32) (o_about : Value) (o_stack : Value) (o_seen : Value) (o_begin : Value) (o_gap : Value) : va_W := [(h_o, .inr (7, [.int o_thrown, .int o_side, o_heights, o_targets, o_kept, o_radius, o_feeds, o_text, .int o_size, .int o_at, .int o_fault, o_program, o_draft, .int o_statements, .int o_hasProgram, .int o_hasRun, o_where, .int o_tool, o_about, o_stack, o_seen, o_begin, o_gap]))]
def fX7_spanFault (N : Nat) (a1 : Int32) (a2 : Int32) (a3 : Int32) (a4 : Int32) (a5 : Int32) (o_side : Int32) : Option RX7_spanFault :=
  ((fX7_isCell N a1 a2 o_side).bind fun r1 => (if r1 = 0 then some 1 else ((fX7_isCell N a3 a4 o_side).bind fun r2 => (if r2 = 0 then some 1 else (if a3 < a1 then some 2 else (if a4 < a2 then some 2 else (if a5 = 0 then some 2 else some 0)))))))
set_option maxHeartbeats 4000000 in
set_option maxRecDepth 100000 in
theorem kX7_spanFault (l : Launch) (D : va_G) (cA : Nat → ClassId) (h_o : Nat) (o_thrown : Int32) (o_side : Int32) (o_heights : Value) (o_targets : Value) (o_kept : Value) (o_radius : Value) (o_feeds : Value) (o_text : Value) (o_size : Int32) (o_at : Int32) (o_fault : Int32) (o_program : Value) (o_draft : Value) (o_statements : Int32) (o_hasProgram : Int32) (o_hasRun : Int32) (o_where : Value) (o_tool : Int32) (o_about : Value) (o_stack : Value) (o_seen : Value) (o_begin : Value) (o_gap : Value) (a1 : Int32) (a2 : Int32) (a3 : Int32) (a4 : Int32) (a5 : Int32) (N : Nat) (res : RX7_spanFault) (hf0 : fX7_spanFault N a1 a2 a3 a4 a5 o_side = some res) : CtI l yX7_spanFault (Cond.code yX7_spanFault cX7_spanFault 6 (some .int) :: tblG) rmX7_spanFault D cA (wsX7_spanFault cA h_o o_thrown o_side o_heights o_targets o_kept o_radius o_feeds o_text o_size o_at o_fault o_program o_draft o_statements o_hasProgram o_hasRun o_where o_tool o_about o_stack o_seen o_begin o_gap) [.ref h_o, .int a1, .int a2, .int a3, .int a4, .int a5] res (wsX7_spanFault cA h_o o_thrown o_side o_heights o_targets o_kept o_radius o_feeds o_text o_size o_at o_fault o_program o_draft o_statements o_hasProgram o_hasRun o_where o_tool o_about o_stack o_seen o_begin o_gap) := by
  refine CtI.start (lv := [(0, .ref h_o), (1, .int a1), (2, .int a2), (3, .int a3), (4, .int a4), (5, .int a5)]) (by decide) (Nat.le_of_ble_eq_true rfl) rfl (fun κ hE => ?_)
  rw [fX7_spanFault] at hf0
  refine z_aload_n 0 (pc := 0) dX7_spanFault_0 rfl ?_
  refine z_iload_n 1 (pc := 1) dX7_spanFault_1 rfl ?_
  refine z_iload_n 2 (pc := 2) dX7_spanFault_2 rfl ?_
  obtain ⟨r1, er1, hf0⟩ := bp hf0
  refine z_calliV (pc := 3) (As := [.int a1, .int a2]) (rest := []) (ws' := (wsX7_spanFault cA h_o o_thrown o_side o_heights o_targets o_kept o_radius o_feeds o_text o_size o_at o_fault o_program o_draft o_statements o_hasProgram o_hasRun o_where o_tool o_about o_stack o_seen o_begin o_gap)) (kX7_isCell l D cA h_o o_thrown o_side o_heights o_targets o_kept o_radius o_feeds o_text o_size o_at o_fault o_program o_draft o_statements o_hasProgram o_hasRun o_where o_tool o_about o_stack o_seen o_begin o_gap a1 a2 N r1 er1) ivX7_64 ⟨rfl, rfl⟩ ⟨by decide, by decide⟩ rfl ⟨Nat.zero_le _, Nat.zero_le _⟩ rfl rfl [0] rfl (by decide) rfl rfl rfl (Nat.le_of_ble_eq_true rfl) dX7_spanFault_3 ?_
  refine z_if_eq (pc := 6) (tgt := 19) dX7_spanFault_6 (by decide) hf0 (fun hf0 => ?_) (fun hf0 => ?_)
  · refine z_iconst (pc := 19) (v := 1) dX7_spanFault_19 (by decide) ?_
    refine z_goto (pc := 20) (tgt := 44) dX7_spanFault_20 (by decide) ?_
    obtain rfl := Option.some.inj hf0
    exact z_iret hE dX7_spanFault_44
  · refine z_aload_n 0 (pc := 9) dX7_spanFault_9 rfl ?_
    refine z_iload_n 3 (pc := 10) dX7_spanFault_10 rfl ?_
    refine z_iload 4 (pc := 11) dX7_spanFault_11 rfl ?_
    obtain ⟨r2, er2, hf0⟩ := bp hf0
    refine z_calliV (pc := 13) (As := [.int a3, .int a4]) (rest := []) (ws' := (wsX7_spanFault cA h_o o_thrown o_side o_heights o_targets o_kept o_radius o_feeds o_text o_size o_at o_fault o_program o_draft o_statements o_hasProgram o_hasRun o_where o_tool o_about o_stack o_seen o_begin o_gap)) (kX7_isCell l D cA h_o o_thrown o_side o_heights o_targets o_kept o_radius o_feeds o_text o_size o_at o_fault o_program o_draft o_statements o_hasProgram o_hasRun o_where o_tool o_about o_stack o_seen o_begin o_gap a3 a4 N r2 er2) ivX7_64 ⟨rfl, rfl⟩ ⟨by decide, by decide⟩ rfl ⟨Nat.zero_le _, Nat.zero_le _⟩ rfl rfl [0] rfl (by decide) rfl rfl rfl (Nat.le_of_ble_eq_true rfl) dX7_spanFault_13 ?_
    refine z_if_ne (pc := 16) (tgt := 23) dX7_spanFault_16 (by decide) hf0 (fun hf0 => ?_) (fun hf0 => ?_)
    · refine z_iload_n 3 (pc := 23) dX7_spanFault_23 rfl ?_
      refine z_iload_n 1 (pc := 24) dX7_spanFault_24 rfl ?_
      refine z_icmp_lt (pc := 25) (tgt := 43) dX7_spanFault_25 (by decide) hf0 (fun hf0 => ?_) (fun hf0 => ?_)
      · refine z_iconst (pc := 43) (v := 2) dX7_spanFault_43 (by decide) ?_
        obtain rfl := Option.some.inj hf0
        exact z_iret hE dX7_spanFault_44
      · refine z_iload 4 (pc := 28) dX7_spanFault_28 rfl ?_
        refine z_iload_n 2 (pc := 30) dX7_spanFault_30 rfl ?_
        refine z_icmp_lt (pc := 31) (tgt := 43) dX7_spanFault_31 (by decide) hf0 (fun hf0 => ?_) (fun hf0 => ?_)
        · refine z_iconst (pc := 43) (v := 2) dX7_spanFault_43 (by decide) ?_
          obtain rfl := Option.some.inj hf0
          exact z_iret hE dX7_spanFault_44
        · refine z_iload 5 (pc := 34) dX7_spanFault_34 rfl ?_
          refine z_if_eq (pc := 36) (tgt := 43) dX7_spanFault_36 (by decide) hf0 (fun hf0 => ?_) (fun hf0 => ?_)
          · refine z_iconst (pc := 43) (v := 2) dX7_spanFault_43 (by decide) ?_
            obtain rfl := Option.some.inj hf0
            exact z_iret hE dX7_spanFault_44
          · refine z_iconst (pc := 39) (v := 0) dX7_spanFault_39 (by decide) ?_
            refine z_goto (pc := 40) (tgt := 44) dX7_spanFault_40 (by decide) ?_
            obtain rfl := Option.some.inj hf0
            exact z_iret hE dX7_spanFault_44
    · refine z_iconst (pc := 19) (v := 1) dX7_spanFault_19 (by decide) ?_
      refine z_goto (pc := 20) (tgt := 44) dX7_spanFault_20 (by decide) ?_
      obtain rfl := Option.some.inj hf0
      exact z_iret hE dX7_spanFault_44

abbrev RX7_target : Type := Int32 × (Nat → Int32)
abbrev rmX7_target : Room := { frames := 3, cells := 0, slots := 0, locals := 69 }
abbrev wsX7_target (cA : Nat → ClassId) (h_o : Nat) (h_o_targets : Nat) (o_thrown : Int32) (o_side : Int32) (o_heights : Value) (o_kept : Value) (o_radius : Value) (o_feeds : Value) (o_text : Value) (o_size : Int32) (o_at : Int32) (o_fault : Int32) (o_program : Value) (o_draft : Value) (o_statements : Int32) (o_hasProgram : Int32) (o_hasRun : Int32) (o_where : Value) (o_tool : Int32) (o_about : Value) (o_stack : Value) (o_seen : Value) (o_begin : Value) (o_gap : Value) (o_targets_n : Nat) (o_targets : Nat → Int32) : va_W := [(h_o, .inr (7, [.int o_thrown, .int o_side, o_heights, .ref h_o_targets, o_kept, o_radius, o_feeds, o_text, .int o_size, .int o_at, .int o_fault, o_program, o_draft, .int o_statements, .int o_hasProgram, .int o_hasRun, o_where, .int o_tool, o_about, o_stack, o_seen, o_begin, o_gap])), (h_o_targets, .inl (cA 0, o_targets_n, .inl o_targets))]
def LX7_target_41 (a3 : Int32) (x6_24 : Int32) (o_targets_n : Nat) (a5 : Int32) : Nat → Int32 → (Nat → Int32) → Option (Int32 × (Nat → Int32))
  | 0, _, _ => none
  | n + 1, x7_41, o_targets_41 => (if a3 < x7_41 then some (x7_41, o_targets_41) else (if ((20 * x6_24) + x7_41) < 0 ∨ o_targets_n ≤ ((20 * x6_24) + x7_41).toNatClampNeg then none else LX7_target_41 a3 x6_24 o_targets_n a5 n (x7_41 + 1) (upd o_targets_41 ((20 * x6_24) + x7_41).toNatClampNeg a5)))
def LX7_target_24 (r2 : RX7_spanFault) (a4 : Int32) (a3 : Int32) (o_targets_n : Nat) (a5 : Int32) (N : Nat) (a1 : Int32) : Nat → Int32 → (Nat → Int32) → Option (Int32 × (Nat → Int32))
  | 0, _, _ => none
  | n + 1, x6_24, o_targets_24 => (if r2 = 0 then (if a4 < x6_24 then some (x6_24, o_targets_24) else ((LX7_target_41 a3 x6_24 o_targets_n a5 N a1 o_targets_24).bind fun r4 => LX7_target_24 r2 a4 a3 o_targets_n a5 N a1 n (x6_24 + 1) r4.2)) else some (x6_24, o_targets_24))
def fX7_target (N : Nat) (a1 : Int32) (a2 : Int32) (a3 : Int32) (a4 : Int32) (a5 : Int32) (o_thrown : Int32) (o_side : Int32) (o_targets_n : Nat) (o_targets : Nat → Int32) : Option RX7_target :=
  ((fX7_isIn N a5 0 100).bind fun r1 => ((fX7_spanFault N a1 a2 a3 a4 r1 o_side).bind fun r2 => ((LX7_target_24 r2 a4 a3 o_targets_n a5 N a1 N a2 o_targets).bind fun r3 => some (r2, r3.2))))
set_option maxHeartbeats 4000000 in
set_option maxRecDepth 100000 in
theorem kX7_target (l : Launch) (D : va_G) (cA : Nat → ClassId) (h_o : Nat) (h_o_targets : Nat) (o_thrown : Int32) (o_side : Int32) (o_heights : Value) (o_kept : Value) (o_radius : Value) (o_feeds : Value) (o_text : Value) (o_size : Int32) (o_at : Int32) (o_fault : Int32) (o_program : Value) (o_draft : Value) (o_statements : Int32) (o_hasProgram : Int32) (o_hasRun : Int32) (o_where : Value) (o_tool : Int32) (o_about : Value) (o_stack : Value) (o_seen : Value) (o_begin : Value) (o_gap : Value) (o_targets_n : Nat) (o_targets : Nat → Int32) (a1 : Int32) (a2 : Int32) (a3 : Int32) (a4 : Int32) (a5 : Int32) (N : Nat) (res : RX7_target) (hf0 : fX7_target N a1 a2 a3 a4 a5 o_thrown o_side o_targets_n o_targets = some res) : CtV l yX7_target (Cond.code yX7_target cX7_target 8 (none) :: tblG) rmX7_target D cA (wsX7_target cA h_o h_o_targets o_thrown o_side o_heights o_kept o_radius o_feeds o_text o_size o_at o_fault o_program o_draft o_statements o_hasProgram o_hasRun o_where o_tool o_about o_stack o_seen o_begin o_gap o_targets_n o_targets) [.ref h_o, .int a1, .int a2, .int a3, .int a4, .int a5] (wsX7_target cA h_o h_o_targets res.1 o_side o_heights o_kept o_radius o_feeds o_text o_size o_at o_fault o_program o_draft o_statements o_hasProgram o_hasRun o_where o_tool o_about o_stack o_seen o_begin o_gap o_targets_n res.2) := by
  refine CtV.start (lv := [(0, .ref h_o), (1, .int a1), (2, .int a2), (3, .int a3), (4, .int a4), (5, .int a5)]) (by decide) (Nat.le_of_ble_eq_true rfl) rfl (fun κ hE => ?_)
  rw [fX7_target] at hf0
  refine z_aload_n 0 (pc := 0) dX7_target_0 rfl ?_
  refine z_aload_n 0 (pc := 1) dX7_target_1 rfl ?_
  refine z_iload_n 1 (pc := 2) dX7_target_2 rfl ?_
  refine z_iload_n 2 (pc := 3) dX7_target_3 rfl ?_
  refine z_iload_n 3 (pc := 4) dX7_target_4 rfl ?_
  refine z_iload 4 (pc := 5) dX7_target_5 rfl ?_
  refine z_iload 5 (pc := 7) dX7_target_7 rfl ?_
  refine z_iconst (pc := 9) (v := 0) dX7_target_9 (by decide) ?_
  refine z_bipush (pc := 10) (v := 100) dX7_target_10 (by decide) ?_
  obtain ⟨r1, er1, hf0⟩ := bp hf0
  refine z_calliS (pc := 12) (As := [.int a5, .int 0, .int 100]) (rest := [.int a4, .int a3, .int a2, .int a1, .ref h_o, .ref h_o]) (ws' := (wsX7_target cA h_o h_o_targets o_thrown o_side o_heights o_kept o_radius o_feeds o_text o_size o_at o_fault o_program o_draft o_statements o_hasProgram o_hasRun o_where o_tool o_about o_stack o_seen o_begin o_gap o_targets_n o_targets)) (kX7_isIn l D cA   a5 0 100 N r1 er1) ivX7_60 ⟨rfl, rfl⟩ ⟨by decide, by decide⟩ rfl ⟨Nat.zero_le _, Nat.zero_le _⟩ [] rfl (by decide) rfl rfl rfl (Nat.le_of_ble_eq_true rfl) dX7_target_12 ?_
  obtain ⟨r2, er2, hf0⟩ := bp hf0
  refine z_calliV (pc := 15) (As := [.int a1, .int a2, .int a3, .int a4, .int r1]) (rest := [.ref h_o]) (ws' := (wsX7_target cA h_o h_o_targets o_thrown o_side o_heights o_kept o_radius o_feeds o_text o_size o_at o_fault o_program o_draft o_statements o_hasProgram o_hasRun o_where o_tool o_about o_stack o_seen o_begin o_gap o_targets_n o_targets)) (kX7_spanFault l D cA h_o o_thrown o_side o_heights (.ref h_o_targets) o_kept o_radius o_feeds o_text o_size o_at o_fault o_program o_draft o_statements o_hasProgram o_hasRun o_where o_tool o_about o_stack o_seen o_begin o_gap a1 a2 a3 a4 r1 N r2 er2) ivX7_68 ⟨rfl, rfl⟩ ⟨by decide, by decide⟩ rfl ⟨Nat.zero_le _, Nat.zero_le _⟩ rfl rfl [0] rfl (by decide) rfl rfl rfl (Nat.le_of_ble_eq_true rfl) dX7_target_15 ?_
  refine z_put 0 0 (pc := 18) (ws' := (wsX7_target cA h_o h_o_targets r2 o_side o_heights o_kept o_radius o_feeds o_text o_size o_at o_fault o_program o_draft o_statements o_hasProgram o_hasRun o_where o_tool o_about o_stack o_seen o_begin o_gap o_targets_n o_targets)) rfl rfl inX7 tyX7 tyX7_ok nmX7 (by decide) flX7_57 rfl rfl rfl rfl (Nat.le_of_ble_eq_true rfl) dX7_target_18 rfl ?_
  refine z_iload_n 2 (pc := 21) dX7_target_21 rfl ?_
  refine z_istore (pc := 22) (lv' := [(6, .int a2), (0, .ref h_o), (1, .int a1), (2, .int a2), (3, .int a3), (4, .int a4), (5, .int a5)]) dX7_target_22 (by decide) rfl ?_
  obtain ⟨y24, hf0_24, hf0⟩ := bp hf0
  have lp24 : ∀ (n : Nat) (x6_24 : Int32) (o_targets_24 : Nat → Int32), LX7_target_24 r2 a4 a3 o_targets_n a5 N a1 n x6_24 o_targets_24 = some y24 → V κ false l D cA rmX7_target cX7_target 8 RX7 (none) 0 0 24 [(0, .ref h_o), (1, .int a1), (2, .int a2), (3, .int a3), (4, .int a4), (5, .int a5), (6, .int x6_24)] [] (wsX7_target cA h_o h_o_targets r2 o_side o_heights o_kept o_radius o_feeds o_text o_size o_at o_fault o_program o_draft o_statements o_hasProgram o_hasRun o_where o_tool o_about o_stack o_seen o_begin o_gap o_targets_n o_targets_24) := by
    intro n
    induction n with
    | zero => intro x6_24 o_targets_24 hf0_24; rw [LX7_target_24] at hf0_24; cases hf0_24
    | succ n24 ih24 =>
      intro x6_24 o_targets_24 hf0_24
      rw [LX7_target_24] at hf0_24
      refine z_aload_n 0 (pc := 24) dX7_target_24 rfl ?_
      refine z_get 0 0 (pc := 25) (v := .int r2) rfl rfl inX7 (by decide) flX7_57 rfl dX7_target_25 ?_
      refine z_if_ne (pc := 28) (tgt := 74) dX7_target_28 (by decide) hf0_24 (fun hf0_24 => ?_) (fun hf0_24 => ?_)
      · obtain rfl := Option.some.inj hf0_24
        obtain rfl := Option.some.inj hf0
        exact z_vret hE dX7_target_74
      · refine z_iload 6 (pc := 31) dX7_target_31 rfl ?_
        refine z_iload 4 (pc := 33) dX7_target_33 rfl ?_
        refine z_icmp_gt (pc := 35) (tgt := 74) dX7_target_35 (by decide) hf0_24 (fun hf0_24 => ?_) (fun hf0_24 => ?_)
        · obtain rfl := Option.some.inj hf0_24
          obtain rfl := Option.some.inj hf0
          exact z_vret hE dX7_target_74
        · refine z_iload_n 1 (pc := 38) dX7_target_38 rfl ?_
          refine z_istore (pc := 39) (lv' := [(7, .int a1), (0, .ref h_o), (1, .int a1), (2, .int a2), (3, .int a3), (4, .int a4), (5, .int a5), (6, .int x6_24)]) dX7_target_39 (by decide) rfl ?_
          obtain ⟨y41, hf0_24_41, hf0_24⟩ := bp hf0_24
          have lp41 : ∀ (n : Nat) (x7_41 : Int32) (o_targets_41 : Nat → Int32), LX7_target_41 a3 x6_24 o_targets_n a5 n x7_41 o_targets_41 = some y41 → V κ false l D cA rmX7_target cX7_target 8 RX7 (none) 0 0 41 [(0, .ref h_o), (1, .int a1), (2, .int a2), (3, .int a3), (4, .int a4), (5, .int a5), (6, .int x6_24), (7, .int x7_41)] [] (wsX7_target cA h_o h_o_targets r2 o_side o_heights o_kept o_radius o_feeds o_text o_size o_at o_fault o_program o_draft o_statements o_hasProgram o_hasRun o_where o_tool o_about o_stack o_seen o_begin o_gap o_targets_n o_targets_41) := by
            intro n
            induction n with
            | zero => intro x7_41 o_targets_41 hf0_24_41; rw [LX7_target_41] at hf0_24_41; cases hf0_24_41
            | succ n41 ih41 =>
              intro x7_41 o_targets_41 hf0_24_41
              rw [LX7_target_41] at hf0_24_41
              refine z_iload 7 (pc := 41) dX7_target_41 rfl ?_
              refine z_iload_n 3 (pc := 43) dX7_target_43 rfl ?_
              refine z_icmp_gt (pc := 44) (tgt := 68) dX7_target_44 (by decide) hf0_24_41 (fun hf0_24_41 => ?_) (fun hf0_24_41 => ?_)
              · obtain rfl := Option.some.inj hf0_24_41
                refine z_iinc 6 (pc := 68) (v := x6_24 + 1) (lv' := [(6, .int (x6_24 + 1)), (0, .ref h_o), (1, .int a1), (2, .int a2), (3, .int a3), (4, .int a4), (5, .int a5), (7, .int x7_41)]) dX7_target_68 rfl rfl (by decide) rfl ?_
                refine z_goto (pc := 71) (tgt := 24) dX7_target_71 (by decide) ?_
                exact z_lv [1, 2, 3, 4, 5, 6, 0] rfl (ih24 (x6_24 + 1) o_targets_41 hf0_24)
              · refine z_aload_n 0 (pc := 47) dX7_target_47 rfl ?_
                refine z_get 0 3 (pc := 48) (v := .ref h_o_targets) rfl rfl inX7 (by decide) flX7_13 rfl dX7_target_48 ?_
                refine z_bipush (pc := 51) (v := 20) dX7_target_51 (by decide) ?_
                refine z_iload 6 (pc := 53) dX7_target_53 rfl ?_
                refine z_imul (pc := 55) dX7_target_55 ?_
                refine z_iload 7 (pc := 56) dX7_target_56 rfl ?_
                refine z_iadd (pc := 58) dX7_target_58 ?_
                refine z_iload 5 (pc := 59) dX7_target_59 rfl ?_
                refine z_iastore 1 0 (pc := 61) (ws' := (wsX7_target cA h_o h_o_targets r2 o_side o_heights o_kept o_radius o_feeds o_text o_size o_at o_fault o_program o_draft o_statements o_hasProgram o_hasRun o_where o_tool o_about o_stack o_seen o_begin o_gap o_targets_n (upd o_targets_41 ((20 * x6_24) + x7_41).toNatClampNeg a5))) rfl rfl dX7_target_61 rfl hf0_24_41 (fun hf0_24_41 => ?_)
                refine z_iinc 7 (pc := 62) (v := x7_41 + 1) (lv' := [(7, .int (x7_41 + 1)), (0, .ref h_o), (1, .int a1), (2, .int a2), (3, .int a3), (4, .int a4), (5, .int a5), (6, .int x6_24)]) dX7_target_62 rfl rfl (by decide) rfl ?_
                refine z_goto (pc := 65) (tgt := 41) dX7_target_65 (by decide) ?_
                exact z_lv [1, 2, 3, 4, 5, 6, 7, 0] rfl (ih41 (x7_41 + 1) (upd o_targets_41 ((20 * x6_24) + x7_41).toNatClampNeg a5) hf0_24_41)
          exact z_lv [1, 2, 3, 4, 5, 6, 7, 0] rfl (lp41 N a1 o_targets_24 hf0_24_41)
  exact z_lv [1, 2, 3, 4, 5, 6, 0] rfl (lp24 N a2 o_targets hf0_24)

abbrev RX7_keep : Type := Int32 × (Nat → Int32)
abbrev rmX7_keep : Room := { frames := 3, cells := 0, slots := 0, locals := 69 }
abbrev wsX7_keep (cA : Nat → ClassId) (h_o : Nat) (h_o_kept : Nat) (o_thrown : Int32) (o_side : Int32) (o_heights : Value) (o_targets : Value) (o_radius : Value) (o_feeds : Value) (o_text : Value) (o_size : Int32) (o_at : Int32) (o_fault : Int32) (o_program : Value) (o_draft : Value) (o_statements : Int32) (o_hasProgram : Int32) (o_hasRun : Int32) (o_where : Value) (o_tool : Int32) (o_about : Value) (o_stack : Value) (o_seen : Value) (o_begin : Value) (o_gap : Value) (o_kept_n : Nat) (o_kept : Nat → Int32) : va_W := [(h_o, .inr (7, [.int o_thrown, .int o_side, o_heights, o_targets, .ref h_o_kept, o_radius, o_feeds, o_text, .int o_size, .int o_at, .int o_fault, o_program, o_draft, .int o_statements, .int o_hasProgram, .int o_hasRun, o_where, .int o_tool, o_about, o_stack, o_seen, o_begin, o_gap])), (h_o_kept, .inl (cA 1, o_kept_n, .inl o_kept))]
def LX7_keep_34 (a3 : Int32) (x6_17 : Int32) (o_kept_n : Nat) (a5 : Int32) : Nat → Int32 → (Nat → Int32) → Option (Int32 × (Nat → Int32))
  | 0, _, _ => none
  | n + 1, x7_34, o_kept_34 => (if a3 < x7_34 then some (x7_34, o_kept_34) else (if ((20 * x6_17) + x7_34) < 0 ∨ o_kept_n ≤ ((20 * x6_17) + x7_34).toNatClampNeg then none else LX7_keep_34 a3 x6_17 o_kept_n a5 n (x7_34 + 1) (upd o_kept_34 ((20 * x6_17) + x7_34).toNatClampNeg (vp_nar .boolean a5))))
def LX7_keep_17 (r1 : RX7_spanFault) (a4 : Int32) (a3 : Int32) (o_kept_n : Nat) (a5 : Int32) (N : Nat) (a1 : Int32) : Nat → Int32 → (Nat → Int32) → Option (Int32 × (Nat → Int32))
  | 0, _, _ => none
  | n + 1, x6_17, o_kept_17 => (if r1 = 0 then (if a4 < x6_17 then some (x6_17, o_kept_17) else ((LX7_keep_34 a3 x6_17 o_kept_n a5 N a1 o_kept_17).bind fun r3 => LX7_keep_17 r1 a4 a3 o_kept_n a5 N a1 n (x6_17 + 1) r3.2)) else some (x6_17, o_kept_17))
def fX7_keep (N : Nat) (a1 : Int32) (a2 : Int32) (a3 : Int32) (a4 : Int32) (a5 : Int32) (o_thrown : Int32) (o_side : Int32) (o_kept_n : Nat) (o_kept : Nat → Int32) : Option RX7_keep :=
  ((fX7_spanFault N a1 a2 a3 a4 1 o_side).bind fun r1 => ((LX7_keep_17 r1 a4 a3 o_kept_n a5 N a1 N a2 o_kept).bind fun r2 => some (r1, r2.2)))
set_option maxHeartbeats 4000000 in
set_option maxRecDepth 100000 in
theorem kX7_keep (l : Launch) (D : va_G) (cA : Nat → ClassId) (h_o : Nat) (h_o_kept : Nat) (o_thrown : Int32) (o_side : Int32) (o_heights : Value) (o_targets : Value) (o_radius : Value) (o_feeds : Value) (o_text : Value) (o_size : Int32) (o_at : Int32) (o_fault : Int32) (o_program : Value) (o_draft : Value) (o_statements : Int32) (o_hasProgram : Int32) (o_hasRun : Int32) (o_where : Value) (o_tool : Int32) (o_about : Value) (o_stack : Value) (o_seen : Value) (o_begin : Value) (o_gap : Value) (o_kept_n : Nat) (o_kept : Nat → Int32) (a1 : Int32) (a2 : Int32) (a3 : Int32) (a4 : Int32) (a5 : Int32) (N : Nat) (res : RX7_keep) (hf0 : fX7_keep N a1 a2 a3 a4 a5 o_thrown o_side o_kept_n o_kept = some res) : CtV l yX7_keep (Cond.code yX7_keep cX7_keep 8 (none) :: tblG) rmX7_keep D cA (wsX7_keep cA h_o h_o_kept o_thrown o_side o_heights o_targets o_radius o_feeds o_text o_size o_at o_fault o_program o_draft o_statements o_hasProgram o_hasRun o_where o_tool o_about o_stack o_seen o_begin o_gap o_kept_n o_kept) [.ref h_o, .int a1, .int a2, .int a3, .int a4, .int a5] (wsX7_keep cA h_o h_o_kept res.1 o_side o_heights o_targets o_radius o_feeds o_text o_size o_at o_fault o_program o_draft o_statements o_hasProgram o_hasRun o_where o_tool o_about o_stack o_seen o_begin o_gap o_kept_n res.2) := by
  refine CtV.start (lv := [(0, .ref h_o), (1, .int a1), (2, .int a2), (3, .int a3), (4, .int a4), (5, .int a5)]) (by decide) (Nat.le_of_ble_eq_true rfl) rfl (fun κ hE => ?_)
  rw [fX7_keep] at hf0
  refine z_aload_n 0 (pc := 0) dX7_keep_0 rfl ?_
  refine z_aload_n 0 (pc := 1) dX7_keep_1 rfl ?_
  refine z_iload_n 1 (pc := 2) dX7_keep_2 rfl ?_
  refine z_iload_n 2 (pc := 3) dX7_keep_3 rfl ?_
  refine z_iload_n 3 (pc := 4) dX7_keep_4 rfl ?_
  refine z_iload 4 (pc := 5) dX7_keep_5 rfl ?_
  refine z_iconst (pc := 7) (v := 1) dX7_keep_7 (by decide) ?_
  obtain ⟨r1, er1, hf0⟩ := bp hf0
  refine z_calliV (pc := 8) (As := [.int a1, .int a2, .int a3, .int a4, .int 1]) (rest := [.ref h_o]) (ws' := (wsX7_keep cA h_o h_o_kept o_thrown o_side o_heights o_targets o_radius o_feeds o_text o_size o_at o_fault o_program o_draft o_statements o_hasProgram o_hasRun o_where o_tool o_about o_stack o_seen o_begin o_gap o_kept_n o_kept)) (kX7_spanFault l D cA h_o o_thrown o_side o_heights o_targets (.ref h_o_kept) o_radius o_feeds o_text o_size o_at o_fault o_program o_draft o_statements o_hasProgram o_hasRun o_where o_tool o_about o_stack o_seen o_begin o_gap a1 a2 a3 a4 1 N r1 er1) ivX7_68 ⟨rfl, rfl⟩ ⟨by decide, by decide⟩ rfl ⟨Nat.zero_le _, Nat.zero_le _⟩ rfl rfl [0] rfl (by decide) rfl rfl rfl (Nat.le_of_ble_eq_true rfl) dX7_keep_8 ?_
  refine z_put 0 0 (pc := 11) (ws' := (wsX7_keep cA h_o h_o_kept r1 o_side o_heights o_targets o_radius o_feeds o_text o_size o_at o_fault o_program o_draft o_statements o_hasProgram o_hasRun o_where o_tool o_about o_stack o_seen o_begin o_gap o_kept_n o_kept)) rfl rfl inX7 tyX7 tyX7_ok nmX7 (by decide) flX7_57 rfl rfl rfl rfl (Nat.le_of_ble_eq_true rfl) dX7_keep_11 rfl ?_
  refine z_iload_n 2 (pc := 14) dX7_keep_14 rfl ?_
  refine z_istore (pc := 15) (lv' := [(6, .int a2), (0, .ref h_o), (1, .int a1), (2, .int a2), (3, .int a3), (4, .int a4), (5, .int a5)]) dX7_keep_15 (by decide) rfl ?_
  obtain ⟨y17, hf0_17, hf0⟩ := bp hf0
  have lp17 : ∀ (n : Nat) (x6_17 : Int32) (o_kept_17 : Nat → Int32), LX7_keep_17 r1 a4 a3 o_kept_n a5 N a1 n x6_17 o_kept_17 = some y17 → V κ false l D cA rmX7_keep cX7_keep 8 RX7 (none) 0 0 17 [(0, .ref h_o), (1, .int a1), (2, .int a2), (3, .int a3), (4, .int a4), (5, .int a5), (6, .int x6_17)] [] (wsX7_keep cA h_o h_o_kept r1 o_side o_heights o_targets o_radius o_feeds o_text o_size o_at o_fault o_program o_draft o_statements o_hasProgram o_hasRun o_where o_tool o_about o_stack o_seen o_begin o_gap o_kept_n o_kept_17) := by
    intro n
    induction n with
    | zero => intro x6_17 o_kept_17 hf0_17; rw [LX7_keep_17] at hf0_17; cases hf0_17
    | succ n17 ih17 =>
      intro x6_17 o_kept_17 hf0_17
      rw [LX7_keep_17] at hf0_17
      refine z_aload_n 0 (pc := 17) dX7_keep_17 rfl ?_
      refine z_get 0 0 (pc := 18) (v := .int r1) rfl rfl inX7 (by decide) flX7_57 rfl dX7_keep_18 ?_
      refine z_if_ne (pc := 21) (tgt := 67) dX7_keep_21 (by decide) hf0_17 (fun hf0_17 => ?_) (fun hf0_17 => ?_)
      · obtain rfl := Option.some.inj hf0_17
        obtain rfl := Option.some.inj hf0
        exact z_vret hE dX7_keep_67
      · refine z_iload 6 (pc := 24) dX7_keep_24 rfl ?_
        refine z_iload 4 (pc := 26) dX7_keep_26 rfl ?_
        refine z_icmp_gt (pc := 28) (tgt := 67) dX7_keep_28 (by decide) hf0_17 (fun hf0_17 => ?_) (fun hf0_17 => ?_)
        · obtain rfl := Option.some.inj hf0_17
          obtain rfl := Option.some.inj hf0
          exact z_vret hE dX7_keep_67
        · refine z_iload_n 1 (pc := 31) dX7_keep_31 rfl ?_
          refine z_istore (pc := 32) (lv' := [(7, .int a1), (0, .ref h_o), (1, .int a1), (2, .int a2), (3, .int a3), (4, .int a4), (5, .int a5), (6, .int x6_17)]) dX7_keep_32 (by decide) rfl ?_
          obtain ⟨y34, hf0_17_34, hf0_17⟩ := bp hf0_17
          have lp34 : ∀ (n : Nat) (x7_34 : Int32) (o_kept_34 : Nat → Int32), LX7_keep_34 a3 x6_17 o_kept_n a5 n x7_34 o_kept_34 = some y34 → V κ false l D cA rmX7_keep cX7_keep 8 RX7 (none) 0 0 34 [(0, .ref h_o), (1, .int a1), (2, .int a2), (3, .int a3), (4, .int a4), (5, .int a5), (6, .int x6_17), (7, .int x7_34)] [] (wsX7_keep cA h_o h_o_kept r1 o_side o_heights o_targets o_radius o_feeds o_text o_size o_at o_fault o_program o_draft o_statements o_hasProgram o_hasRun o_where o_tool o_about o_stack o_seen o_begin o_gap o_kept_n o_kept_34) := by
            intro n
            induction n with
            | zero => intro x7_34 o_kept_34 hf0_17_34; rw [LX7_keep_34] at hf0_17_34; cases hf0_17_34
            | succ n34 ih34 =>
              intro x7_34 o_kept_34 hf0_17_34
              rw [LX7_keep_34] at hf0_17_34
              refine z_iload 7 (pc := 34) dX7_keep_34 rfl ?_
              refine z_iload_n 3 (pc := 36) dX7_keep_36 rfl ?_
              refine z_icmp_gt (pc := 37) (tgt := 61) dX7_keep_37 (by decide) hf0_17_34 (fun hf0_17_34 => ?_) (fun hf0_17_34 => ?_)
              · obtain rfl := Option.some.inj hf0_17_34
                refine z_iinc 6 (pc := 61) (v := x6_17 + 1) (lv' := [(6, .int (x6_17 + 1)), (0, .ref h_o), (1, .int a1), (2, .int a2), (3, .int a3), (4, .int a4), (5, .int a5), (7, .int x7_34)]) dX7_keep_61 rfl rfl (by decide) rfl ?_
                refine z_goto (pc := 64) (tgt := 17) dX7_keep_64 (by decide) ?_
                exact z_lv [1, 2, 3, 4, 5, 6, 0] rfl (ih17 (x6_17 + 1) o_kept_34 hf0_17)
              · refine z_aload_n 0 (pc := 40) dX7_keep_40 rfl ?_
                refine z_get 0 4 (pc := 41) (v := .ref h_o_kept) rfl rfl inX7 (by decide) flX7_16 rfl dX7_keep_41 ?_
                refine z_bipush (pc := 44) (v := 20) dX7_keep_44 (by decide) ?_
                refine z_iload 6 (pc := 46) dX7_keep_46 rfl ?_
                refine z_imul (pc := 48) dX7_keep_48 ?_
                refine z_iload 7 (pc := 49) dX7_keep_49 rfl ?_
                refine z_iadd (pc := 51) dX7_keep_51 ?_
                refine z_iload 5 (pc := 52) dX7_keep_52 rfl ?_
                refine z_zastore 1 1 (pc := 54) (ws' := (wsX7_keep cA h_o h_o_kept r1 o_side o_heights o_targets o_radius o_feeds o_text o_size o_at o_fault o_program o_draft o_statements o_hasProgram o_hasRun o_where o_tool o_about o_stack o_seen o_begin o_gap o_kept_n (upd o_kept_34 ((20 * x6_17) + x7_34).toNatClampNeg (vp_nar .boolean a5)))) rfl rfl dX7_keep_54 rfl hf0_17_34 (fun hf0_17_34 => ?_)
                refine z_iinc 7 (pc := 55) (v := x7_34 + 1) (lv' := [(7, .int (x7_34 + 1)), (0, .ref h_o), (1, .int a1), (2, .int a2), (3, .int a3), (4, .int a4), (5, .int a5), (6, .int x6_17)]) dX7_keep_55 rfl rfl (by decide) rfl ?_
                refine z_goto (pc := 58) (tgt := 34) dX7_keep_58 (by decide) ?_
                exact z_lv [1, 2, 3, 4, 5, 6, 7, 0] rfl (ih34 (x7_34 + 1) (upd o_kept_34 ((20 * x6_17) + x7_34).toNatClampNeg (vp_nar .boolean a5)) hf0_17_34)
          exact z_lv [1, 2, 3, 4, 5, 6, 7, 0] rfl (lp34 N a1 o_kept_17 hf0_17_34)
  exact z_lv [1, 2, 3, 4, 5, 6, 0] rfl (lp17 N a2 o_kept hf0_17)

abbrev RX7_tool : Type := Int32 × (Nat → Int32) × (Nat → Int32)
abbrev rmX7_tool : Room := { frames := 1, cells := 0, slots := 0, locals := 22 }
abbrev wsX7_tool (cA : Nat → ClassId) (h_o : Nat) (h_o_radius : Nat) (h_o_feeds : Nat) (o_thrown : Int32) (o_side : Int32) (o_heights : Value) (o_targets : Value) (o_kept : Value) (o_text : Value) (o_size : Int32) (o_at : Int32) (o_fault : Int32) (o_program : Value) (o_draft : Value) (o_statements : Int32) (o_hasProgram : Int32) (o_hasRun : Int32) (o_where : Value) (o_tool : Int32) (o_about : Value) (o_stack : Value) (o_seen : Value) (o_begin : Value) (o_gap : Value) (o_radius_n : Nat) (o_radius : Nat → Int32) (o_feeds_n : Nat) (o_feeds : Nat → Int32) : va_W := [(h_o, .inr (7, [.int o_thrown, .int o_side, o_heights, o_targets, o_kept, .ref h_o_radius, .ref h_o_feeds, o_text, .int o_size, .int o_at, .int o_fault, o_program, o_draft, .int o_statements, .int o_hasProgram, .int o_hasRun, o_where, .int o_tool, o_about, o_stack, o_seen, o_begin, o_gap])), (h_o_radius, .inl (cA 0, o_radius_n, .inl o_radius)), (h_o_feeds, .inl (cA 0, o_feeds_n, .inl o_feeds))]
def JX7_tool_39 (a1 : Int32) (o_radius_n : Nat) (o_feeds_n : Nat) (o_radius : Nat → Int32) (a2 : Int32) (o_feeds : Nat → Int32) (a3 : Int32) (s_39 : Int32) : Option (RX7_tool) :=
  (if s_39 = 0 then (if a1 < 0 ∨ o_radius_n ≤ a1.toNatClampNeg then none else (if a1 < 0 ∨ o_feeds_n ≤ a1.toNatClampNeg then none else some (s_39, upd o_radius a1.toNatClampNeg a2, upd o_feeds a1.toNatClampNeg a3))) else some (s_39, o_radius, o_feeds))
def fX7_tool (N : Nat) (a1 : Int32) (a2 : Int32) (a3 : Int32) (o_thrown : Int32) (o_radius_n : Nat) (o_radius : Nat → Int32) (o_feeds_n : Nat) (o_feeds : Nat → Int32) : Option RX7_tool :=
  ((fX7_isIn N a1 0 3).bind fun r1 => (if r1 = 0 then JX7_tool_39 a1 o_radius_n o_feeds_n o_radius a2 o_feeds a3 1 else ((fX7_isIn N a2 0 6).bind fun r2 => (if r2 = 0 then JX7_tool_39 a1 o_radius_n o_feeds_n o_radius a2 o_feeds a3 2 else ((fX7_isIn N a3 1 10).bind fun r3 => (if r3 = 0 then JX7_tool_39 a1 o_radius_n o_feeds_n o_radius a2 o_feeds a3 2 else JX7_tool_39 a1 o_radius_n o_feeds_n o_radius a2 o_feeds a3 0))))))
set_option maxHeartbeats 4000000 in
set_option maxRecDepth 100000 in
theorem kX7_tool (l : Launch) (D : va_G) (cA : Nat → ClassId) (h_o : Nat) (h_o_radius : Nat) (h_o_feeds : Nat) (o_thrown : Int32) (o_side : Int32) (o_heights : Value) (o_targets : Value) (o_kept : Value) (o_text : Value) (o_size : Int32) (o_at : Int32) (o_fault : Int32) (o_program : Value) (o_draft : Value) (o_statements : Int32) (o_hasProgram : Int32) (o_hasRun : Int32) (o_where : Value) (o_tool : Int32) (o_about : Value) (o_stack : Value) (o_seen : Value) (o_begin : Value) (o_gap : Value) (o_radius_n : Nat) (o_radius : Nat → Int32) (o_feeds_n : Nat) (o_feeds : Nat → Int32) (a1 : Int32) (a2 : Int32) (a3 : Int32) (N : Nat) (res : RX7_tool) (hf0 : fX7_tool N a1 a2 a3 o_thrown o_radius_n o_radius o_feeds_n o_feeds = some res) : CtV l yX7_tool (Cond.code yX7_tool cX7_tool 4 (none) :: tblG) rmX7_tool D cA (wsX7_tool cA h_o h_o_radius h_o_feeds o_thrown o_side o_heights o_targets o_kept o_text o_size o_at o_fault o_program o_draft o_statements o_hasProgram o_hasRun o_where o_tool o_about o_stack o_seen o_begin o_gap o_radius_n o_radius o_feeds_n o_feeds) [.ref h_o, .int a1, .int a2, .int a3] (wsX7_tool cA h_o h_o_radius h_o_feeds res.1 o_side o_heights o_targets o_kept o_text o_size o_at o_fault o_program o_draft o_statements o_hasProgram o_hasRun o_where o_tool o_about o_stack o_seen o_begin o_gap o_radius_n res.2.1 o_feeds_n res.2.2) := by
  refine CtV.start (lv := [(0, .ref h_o), (1, .int a1), (2, .int a2), (3, .int a3)]) (by decide) (Nat.le_of_ble_eq_true rfl) rfl (fun κ hE => ?_)
  rw [fX7_tool] at hf0
  refine z_aload_n 0 (pc := 0) dX7_tool_0 rfl ?_
  refine z_iload_n 1 (pc := 1) dX7_tool_1 rfl ?_
  refine z_iconst (pc := 2) (v := 0) dX7_tool_2 (by decide) ?_
  refine z_iconst (pc := 3) (v := 3) dX7_tool_3 (by decide) ?_
  obtain ⟨r1, er1, hf0⟩ := bp hf0
  refine z_calliS (pc := 4) (As := [.int a1, .int 0, .int 3]) (rest := [.ref h_o]) (ws' := (wsX7_tool cA h_o h_o_radius h_o_feeds o_thrown o_side o_heights o_targets o_kept o_text o_size o_at o_fault o_program o_draft o_statements o_hasProgram o_hasRun o_where o_tool o_about o_stack o_seen o_begin o_gap o_radius_n o_radius o_feeds_n o_feeds)) (kX7_isIn l D cA   a1 0 3 N r1 er1) ivX7_60 ⟨rfl, rfl⟩ ⟨by decide, by decide⟩ rfl ⟨Nat.zero_le _, Nat.zero_le _⟩ [] rfl (by decide) rfl rfl rfl (Nat.le_of_ble_eq_true rfl) dX7_tool_4 ?_
  have j39 : ∀ (s_39 : Int32), JX7_tool_39 a1 o_radius_n o_feeds_n o_radius a2 o_feeds a3 s_39 = some res → V κ false l D cA rmX7_tool cX7_tool 4 RX7 (none) 0 0 39 [(0, .ref h_o), (1, .int a1), (2, .int a2), (3, .int a3)] [.int s_39, .ref h_o] (wsX7_tool cA h_o h_o_radius h_o_feeds o_thrown o_side o_heights o_targets o_kept o_text o_size o_at o_fault o_program o_draft o_statements o_hasProgram o_hasRun o_where o_tool o_about o_stack o_seen o_begin o_gap o_radius_n o_radius o_feeds_n o_feeds) := by
    intro s_39 hf0
    rw [JX7_tool_39] at hf0
    refine z_put 0 0 (pc := 39) (ws' := (wsX7_tool cA h_o h_o_radius h_o_feeds s_39 o_side o_heights o_targets o_kept o_text o_size o_at o_fault o_program o_draft o_statements o_hasProgram o_hasRun o_where o_tool o_about o_stack o_seen o_begin o_gap o_radius_n o_radius o_feeds_n o_feeds)) rfl rfl inX7 tyX7 tyX7_ok nmX7 (by decide) flX7_57 rfl rfl rfl rfl (Nat.le_of_ble_eq_true rfl) dX7_tool_39 rfl ?_
    refine z_aload_n 0 (pc := 42) dX7_tool_42 rfl ?_
    refine z_get 0 0 (pc := 43) (v := .int s_39) rfl rfl inX7 (by decide) flX7_57 rfl dX7_tool_43 ?_
    refine z_if_ne (pc := 46) (tgt := 63) dX7_tool_46 (by decide) hf0 (fun hf0 => ?_) (fun hf0 => ?_)
    · obtain rfl := Option.some.inj hf0
      exact z_vret hE dX7_tool_63
    · refine z_aload_n 0 (pc := 49) dX7_tool_49 rfl ?_
      refine z_get 0 5 (pc := 50) (v := .ref h_o_radius) rfl rfl inX7 (by decide) flX7_20 rfl dX7_tool_50 ?_
      refine z_iload_n 1 (pc := 53) dX7_tool_53 rfl ?_
      refine z_iload_n 2 (pc := 54) dX7_tool_54 rfl ?_
      refine z_iastore 1 0 (pc := 55) (ws' := (wsX7_tool cA h_o h_o_radius h_o_feeds s_39 o_side o_heights o_targets o_kept o_text o_size o_at o_fault o_program o_draft o_statements o_hasProgram o_hasRun o_where o_tool o_about o_stack o_seen o_begin o_gap o_radius_n (upd o_radius a1.toNatClampNeg a2) o_feeds_n o_feeds)) rfl rfl dX7_tool_55 rfl hf0 (fun hf0 => ?_)
      refine z_aload_n 0 (pc := 56) dX7_tool_56 rfl ?_
      refine z_get 0 6 (pc := 57) (v := .ref h_o_feeds) rfl rfl inX7 (by decide) flX7_23 rfl dX7_tool_57 ?_
      refine z_iload_n 1 (pc := 60) dX7_tool_60 rfl ?_
      refine z_iload_n 3 (pc := 61) dX7_tool_61 rfl ?_
      refine z_iastore 2 0 (pc := 62) (ws' := (wsX7_tool cA h_o h_o_radius h_o_feeds s_39 o_side o_heights o_targets o_kept o_text o_size o_at o_fault o_program o_draft o_statements o_hasProgram o_hasRun o_where o_tool o_about o_stack o_seen o_begin o_gap o_radius_n (upd o_radius a1.toNatClampNeg a2) o_feeds_n (upd o_feeds a1.toNatClampNeg a3))) rfl rfl dX7_tool_62 rfl hf0 (fun hf0 => ?_)
      obtain rfl := Option.some.inj hf0
      exact z_vret hE dX7_tool_63
  refine z_if_ne (pc := 7) (tgt := 14) dX7_tool_7 (by decide) hf0 (fun hf0 => ?_) (fun hf0 => ?_)
  · refine z_iload_n 2 (pc := 14) dX7_tool_14 rfl ?_
    refine z_iconst (pc := 15) (v := 0) dX7_tool_15 (by decide) ?_
    refine z_bipush (pc := 16) (v := 6) dX7_tool_16 (by decide) ?_
    obtain ⟨r2, er2, hf0⟩ := bp hf0
    refine z_calliS (pc := 18) (As := [.int a2, .int 0, .int 6]) (rest := [.ref h_o]) (ws' := (wsX7_tool cA h_o h_o_radius h_o_feeds o_thrown o_side o_heights o_targets o_kept o_text o_size o_at o_fault o_program o_draft o_statements o_hasProgram o_hasRun o_where o_tool o_about o_stack o_seen o_begin o_gap o_radius_n o_radius o_feeds_n o_feeds)) (kX7_isIn l D cA   a2 0 6 N r2 er2) ivX7_60 ⟨rfl, rfl⟩ ⟨by decide, by decide⟩ rfl ⟨Nat.zero_le _, Nat.zero_le _⟩ [] rfl (by decide) rfl rfl rfl (Nat.le_of_ble_eq_true rfl) dX7_tool_18 ?_
    refine z_if_eq (pc := 21) (tgt := 38) dX7_tool_21 (by decide) hf0 (fun hf0 => ?_) (fun hf0 => ?_)
    · refine z_iconst (pc := 38) (v := 2) dX7_tool_38 (by decide) ?_
      exact z_lv [0, 1, 2, 3] rfl (j39 2 hf0)
    · refine z_iload_n 3 (pc := 24) dX7_tool_24 rfl ?_
      refine z_iconst (pc := 25) (v := 1) dX7_tool_25 (by decide) ?_
      refine z_bipush (pc := 26) (v := 10) dX7_tool_26 (by decide) ?_
      obtain ⟨r3, er3, hf0⟩ := bp hf0
      refine z_calliS (pc := 28) (As := [.int a3, .int 1, .int 10]) (rest := [.ref h_o]) (ws' := (wsX7_tool cA h_o h_o_radius h_o_feeds o_thrown o_side o_heights o_targets o_kept o_text o_size o_at o_fault o_program o_draft o_statements o_hasProgram o_hasRun o_where o_tool o_about o_stack o_seen o_begin o_gap o_radius_n o_radius o_feeds_n o_feeds)) (kX7_isIn l D cA   a3 1 10 N r3 er3) ivX7_60 ⟨rfl, rfl⟩ ⟨by decide, by decide⟩ rfl ⟨Nat.zero_le _, Nat.zero_le _⟩ [] rfl (by decide) rfl rfl rfl (Nat.le_of_ble_eq_true rfl) dX7_tool_28 ?_
      refine z_if_eq (pc := 31) (tgt := 38) dX7_tool_31 (by decide) hf0 (fun hf0 => ?_) (fun hf0 => ?_)
      · refine z_iconst (pc := 38) (v := 2) dX7_tool_38 (by decide) ?_
        exact z_lv [0, 1, 2, 3] rfl (j39 2 hf0)
      · refine z_iconst (pc := 34) (v := 0) dX7_tool_34 (by decide) ?_
        refine z_goto (pc := 35) (tgt := 39) dX7_tool_35 (by decide) ?_
        exact z_lv [0, 1, 2, 3] rfl (j39 0 hf0)
  · refine z_iconst (pc := 10) (v := 1) dX7_tool_10 (by decide) ?_
    refine z_goto (pc := 11) (tgt := 39) dX7_tool_11 (by decide) ?_
    exact z_lv [0, 1, 2, 3] rfl (j39 1 hf0)

abbrev RX7_unit : Type := Int32 × Int32 × Int32 × (Nat → Int32)
abbrev rmX7_unit : Room := { frames := 1, cells := 0, slots := 0, locals := 22 }
abbrev wsX7_unit (cA : Nat → ClassId) (h_o : Nat) (h_o_text : Nat) (o_thrown : Int32) (o_side : Int32) (o_heights : Value) (o_targets : Value) (o_kept : Value) (o_radius : Value) (o_feeds : Value) (o_size : Int32) (o_at : Int32) (o_fault : Int32) (o_program : Value) (o_draft : Value) (o_statements : Int32) (o_hasProgram : Int32) (o_hasRun : Int32) (o_where : Value) (o_tool : Int32) (o_about : Value) (o_stack : Value) (o_seen : Value) (o_begin : Value) (o_gap : Value) (o_text_n : Nat) (o_text : Nat → Int32) : va_W := [(h_o, .inr (7, [.int o_thrown, .int o_side, o_heights, o_targets, o_kept, o_radius, o_feeds, .ref h_o_text, .int o_size, .int o_at, .int o_fault, o_program, o_draft, .int o_statements, .int o_hasProgram, .int o_hasRun, o_where, .int o_tool, o_about, o_stack, o_seen, o_begin, o_gap])), (h_o_text, .inl (cA 0, o_text_n, .inl o_text))]
def JX7_unit_31 (o_size : Int32) (o_text : Nat → Int32) (o_text_n : Nat) (a1 : Int32) (s_31 : Int32) : Option (RX7_unit) :=
  (if s_31 = 0 then (if s_31 = 0 ∨ s_31 = 1 then some (s_31, 0, o_size, o_text) else none) else (if o_size < 0 ∨ o_text_n ≤ o_size.toNatClampNeg then none else (if s_31 = 0 ∨ s_31 = 1 then some (s_31, 0, o_size + 1, upd o_text o_size.toNatClampNeg a1) else none)))
def JX7_unit_30 (o_size : Int32) (o_text : Nat → Int32) (o_text_n : Nat) (a1 : Int32)  : Option (RX7_unit) :=
  JX7_unit_31 o_size o_text o_text_n a1 0
def fX7_unit (N : Nat) (a1 : Int32) (o_thrown : Int32) (o_size : Int32) (o_text_n : Nat) (o_text : Nat → Int32) : Option RX7_unit :=
  ((fX7_isIn N a1 32 126).bind fun r1 => (if r1 = 0 then JX7_unit_30 o_size o_text o_text_n a1  else (if 240 ≤ o_size then JX7_unit_30 o_size o_text o_text_n a1  else JX7_unit_31 o_size o_text o_text_n a1 1)))
set_option maxHeartbeats 4000000 in
set_option maxRecDepth 100000 in
theorem kX7_unit (l : Launch) (D : va_G) (cA : Nat → ClassId) (h_o : Nat) (h_o_text : Nat) (o_thrown : Int32) (o_side : Int32) (o_heights : Value) (o_targets : Value) (o_kept : Value) (o_radius : Value) (o_feeds : Value) (o_size : Int32) (o_at : Int32) (o_fault : Int32) (o_program : Value) (o_draft : Value) (o_statements : Int32) (o_hasProgram : Int32) (o_hasRun : Int32) (o_where : Value) (o_tool : Int32) (o_about : Value) (o_stack : Value) (o_seen : Value) (o_begin : Value) (o_gap : Value) (o_text_n : Nat) (o_text : Nat → Int32) (a1 : Int32) (N : Nat) (res : RX7_unit) (hf0 : fX7_unit N a1 o_thrown o_size o_text_n o_text = some res) : CtI l yX7_unit (Cond.code yX7_unit cX7_unit 3 (some .boolean) :: tblG) rmX7_unit D cA (wsX7_unit cA h_o h_o_text o_thrown o_side o_heights o_targets o_kept o_radius o_feeds o_size o_at o_fault o_program o_draft o_statements o_hasProgram o_hasRun o_where o_tool o_about o_stack o_seen o_begin o_gap o_text_n o_text) [.ref h_o, .int a1] res.1 (wsX7_unit cA h_o h_o_text res.2.1 o_side o_heights o_targets o_kept o_radius o_feeds res.2.2.1 o_at o_fault o_program o_draft o_statements o_hasProgram o_hasRun o_where o_tool o_about o_stack o_seen o_begin o_gap o_text_n res.2.2.2) := by
  refine CtI.start (lv := [(0, .ref h_o), (1, .int a1)]) (by decide) (Nat.le_of_ble_eq_true rfl) rfl (fun κ hE => ?_)
  rw [fX7_unit] at hf0
  refine z_aload_n 0 (pc := 0) dX7_unit_0 rfl ?_
  refine z_iconst (pc := 1) (v := 0) dX7_unit_1 (by decide) ?_
  refine z_put 0 0 (pc := 2) (ws' := (wsX7_unit cA h_o h_o_text 0 o_side o_heights o_targets o_kept o_radius o_feeds o_size o_at o_fault o_program o_draft o_statements o_hasProgram o_hasRun o_where o_tool o_about o_stack o_seen o_begin o_gap o_text_n o_text)) rfl rfl inX7 tyX7 tyX7_ok nmX7 (by decide) flX7_57 rfl rfl rfl rfl (Nat.le_of_ble_eq_true rfl) dX7_unit_2 rfl ?_
  refine z_iload_n 1 (pc := 5) dX7_unit_5 rfl ?_
  refine z_bipush (pc := 6) (v := 32) dX7_unit_6 (by decide) ?_
  refine z_bipush (pc := 8) (v := 126) dX7_unit_8 (by decide) ?_
  obtain ⟨r1, er1, hf0⟩ := bp hf0
  refine z_calliS (pc := 10) (As := [.int a1, .int 32, .int 126]) (rest := []) (ws' := (wsX7_unit cA h_o h_o_text 0 o_side o_heights o_targets o_kept o_radius o_feeds o_size o_at o_fault o_program o_draft o_statements o_hasProgram o_hasRun o_where o_tool o_about o_stack o_seen o_begin o_gap o_text_n o_text)) (kX7_isIn l D cA   a1 32 126 N r1 er1) ivX7_60 ⟨rfl, rfl⟩ ⟨by decide, by decide⟩ rfl ⟨Nat.zero_le _, Nat.zero_le _⟩ [] rfl (by decide) rfl rfl rfl (Nat.le_of_ble_eq_true rfl) dX7_unit_10 ?_
  have j31 : ∀ (s_31 : Int32), JX7_unit_31 o_size o_text o_text_n a1 s_31 = some res → V κ false l D cA rmX7_unit cX7_unit 3 RX7 (some .boolean) 0 0 31 [(0, .ref h_o), (1, .int a1)] [.int s_31] (wsX7_unit cA h_o h_o_text 0 o_side o_heights o_targets o_kept o_radius o_feeds o_size o_at o_fault o_program o_draft o_statements o_hasProgram o_hasRun o_where o_tool o_about o_stack o_seen o_begin o_gap o_text_n o_text) := by
    intro s_31 hf0
    rw [JX7_unit_31] at hf0
    refine z_istore_n (pc := 31) (lv' := [(2, .int s_31), (0, .ref h_o), (1, .int a1)]) dX7_unit_31 (by decide) rfl ?_
    refine z_iload_n 0 (pc := 32) dX7_unit_32 rfl ?_
    refine z_if_eq (pc := 33) (tgt := 56) dX7_unit_33 (by decide) hf0 (fun hf0 => ?_) (fun hf0 => ?_)
    · refine z_iload_n 0 (pc := 56) dX7_unit_56 rfl ?_
      exact z_zret dX7_unit_57 hf0 (fun hf0 => by obtain rfl := Option.some.inj hf0; exact hE)
    · refine z_aload_n 1 (pc := 36) dX7_unit_36 rfl ?_
      refine z_get 0 7 (pc := 37) (v := .ref h_o_text) rfl rfl inX7 (by decide) flX7_26 rfl dX7_unit_37 ?_
      refine z_aload_n 1 (pc := 40) dX7_unit_40 rfl ?_
      refine z_get 0 8 (pc := 41) (v := .int o_size) rfl rfl inX7 (by decide) flX7_72 rfl dX7_unit_41 ?_
      refine z_iload_n 2 (pc := 44) dX7_unit_44 rfl ?_
      refine z_iastore 1 0 (pc := 45) (ws' := (wsX7_unit cA h_o h_o_text 0 o_side o_heights o_targets o_kept o_radius o_feeds o_size o_at o_fault o_program o_draft o_statements o_hasProgram o_hasRun o_where o_tool o_about o_stack o_seen o_begin o_gap o_text_n (upd o_text o_size.toNatClampNeg a1))) rfl rfl dX7_unit_45 rfl hf0 (fun hf0 => ?_)
      refine z_aload_n 1 (pc := 46) dX7_unit_46 rfl ?_
      refine z_dup (pc := 47) dX7_unit_47 rfl ?_
      refine z_get 0 8 (pc := 48) (v := .int o_size) rfl rfl inX7 (by decide) flX7_72 rfl dX7_unit_48 ?_
      refine z_iconst (pc := 51) (v := 1) dX7_unit_51 (by decide) ?_
      refine z_iadd (pc := 52) dX7_unit_52 ?_
      refine z_put 0 8 (pc := 53) (ws' := (wsX7_unit cA h_o h_o_text 0 o_side o_heights o_targets o_kept o_radius o_feeds (o_size + 1) o_at o_fault o_program o_draft o_statements o_hasProgram o_hasRun o_where o_tool o_about o_stack o_seen o_begin o_gap o_text_n (upd o_text o_size.toNatClampNeg a1))) rfl rfl inX7 tyX7 tyX7_ok nmX7 (by decide) flX7_72 rfl rfl rfl rfl (Nat.le_of_ble_eq_true rfl) dX7_unit_53 rfl ?_
      refine z_iload_n 0 (pc := 56) dX7_unit_56 rfl ?_
      exact z_zret dX7_unit_57 hf0 (fun hf0 => by obtain rfl := Option.some.inj hf0; exact hE)
  have j30 : JX7_unit_30 o_size o_text o_text_n a1  = some res → V κ false l D cA rmX7_unit cX7_unit 3 RX7 (some .boolean) 0 0 30 [(0, .ref h_o), (1, .int a1)] [] (wsX7_unit cA h_o h_o_text 0 o_side o_heights o_targets o_kept o_radius o_feeds o_size o_at o_fault o_program o_draft o_statements o_hasProgram o_hasRun o_where o_tool o_about o_stack o_seen o_begin o_gap o_text_n o_text) := by
    intro hf0
    rw [JX7_unit_30] at hf0
    refine z_iconst (pc := 30) (v := 0) dX7_unit_30 (by decide) ?_
    exact z_lv [0, 1] rfl (j31 0 hf0)
  refine z_if_eq (pc := 13) (tgt := 30) dX7_unit_13 (by decide) hf0 (fun hf0 => ?_) (fun hf0 => ?_)
  · exact z_lv [0, 1] rfl (j30  hf0)
  · refine z_aload_n 0 (pc := 16) dX7_unit_16 rfl ?_
    refine z_get 0 8 (pc := 17) (v := .int o_size) rfl rfl inX7 (by decide) flX7_72 rfl dX7_unit_17 ?_
    refine z_sipush (pc := 20) (v := 240) dX7_unit_20 (by decide) ?_
    refine z_icmp_ge (pc := 23) (tgt := 30) dX7_unit_23 (by decide) hf0 (fun hf0 => ?_) (fun hf0 => ?_)
    · exact z_lv [0, 1] rfl (j30  hf0)
    · refine z_iconst (pc := 26) (v := 1) dX7_unit_26 (by decide) ?_
      refine z_goto (pc := 27) (tgt := 31) dX7_unit_27 (by decide) ?_
      exact z_lv [0, 1] rfl (j31 1 hf0)

abbrev RX7_now : Type := Int32
abbrev rmX7_now : Room := { frames := 0, cells := 0, slots := 0, locals := 0 }
abbrev wsX7_now (cA : Nat → ClassId) (h_o : Nat) (h_o_text : Nat) (o_thrown : Int32) (o_side : Int32) (o_heights : Value) (o_targets : Value) (o_kept : Value) (o_radius : Value) (o_feeds : Value) (o_size : Int32) (o_at : Int32) (o_fault : Int32) (o_program : Value) (o_draft : Value) (o_statements : Int32) (o_hasProgram : Int32) (o_hasRun : Int32) (o_where : Value) (o_tool : Int32) (o_about : Value) (o_stack : Value) (o_seen : Value) (o_begin : Value) (o_gap : Value) (o_text_n : Nat) (o_text : Nat → Int32) : va_W := [(h_o, .inr (7, [.int o_thrown, .int o_side, o_heights, o_targets, o_kept, o_radius, o_feeds, .ref h_o_text, .int o_size, .int o_at, .int o_fault, o_program, o_draft, .int o_statements, .int o_hasProgram, .int o_hasRun, o_where, .int o_tool, o_about, o_stack, o_seen, o_begin, o_gap])), (h_o_text, .inl (cA 0, o_text_n, .inl o_text))]
def fX7_now (N : Nat)  (o_size : Int32) (o_at : Int32) (o_text_n : Nat) (o_text : Nat → Int32) : Option RX7_now :=
  (if o_size ≤ o_at then some (-1) else (if o_at < 0 ∨ o_text_n ≤ o_at.toNatClampNeg then none else some (o_text o_at.toNatClampNeg)))
set_option maxHeartbeats 4000000 in
set_option maxRecDepth 100000 in
theorem kX7_now (l : Launch) (D : va_G) (cA : Nat → ClassId) (h_o : Nat) (h_o_text : Nat) (o_thrown : Int32) (o_side : Int32) (o_heights : Value) (o_targets : Value) (o_kept : Value) (o_radius : Value) (o_feeds : Value) (o_size : Int32) (o_at : Int32) (o_fault : Int32) (o_program : Value) (o_draft : Value) (o_statements : Int32) (o_hasProgram : Int32) (o_hasRun : Int32) (o_where : Value) (o_tool : Int32) (o_about : Value) (o_stack : Value) (o_seen : Value) (o_begin : Value) (o_gap : Value) (o_text_n : Nat) (o_text : Nat → Int32)  (N : Nat) (res : RX7_now) (hf0 : fX7_now N o_size o_at o_text_n o_text = some res) : CtI l yX7_now (Cond.code yX7_now cX7_now 1 (some .int) :: tblG) rmX7_now D cA (wsX7_now cA h_o h_o_text o_thrown o_side o_heights o_targets o_kept o_radius o_feeds o_size o_at o_fault o_program o_draft o_statements o_hasProgram o_hasRun o_where o_tool o_about o_stack o_seen o_begin o_gap o_text_n o_text) [.ref h_o] res (wsX7_now cA h_o h_o_text o_thrown o_side o_heights o_targets o_kept o_radius o_feeds o_size o_at o_fault o_program o_draft o_statements o_hasProgram o_hasRun o_where o_tool o_about o_stack o_seen o_begin o_gap o_text_n o_text) := by
  refine CtI.start (lv := [(0, .ref h_o)]) (by decide) (Nat.le_of_ble_eq_true rfl) rfl (fun κ hE => ?_)
  rw [fX7_now] at hf0
  refine z_aload_n 0 (pc := 0) dX7_now_0 rfl ?_
  refine z_get 0 9 (pc := 1) (v := .int o_at) rfl rfl inX7 (by decide) flX7_75 rfl dX7_now_1 ?_
  refine z_aload_n 0 (pc := 4) dX7_now_4 rfl ?_
  refine z_get 0 8 (pc := 5) (v := .int o_size) rfl rfl inX7 (by decide) flX7_72 rfl dX7_now_5 ?_
  refine z_icmp_ge (pc := 8) (tgt := 23) dX7_now_8 (by decide) hf0 (fun hf0 => ?_) (fun hf0 => ?_)
  · refine z_iconst (pc := 23) (v := (-1)) dX7_now_23 (by decide) ?_
    obtain rfl := Option.some.inj hf0
    exact z_iret hE dX7_now_24
  · refine z_aload_n 0 (pc := 11) dX7_now_11 rfl ?_
    refine z_get 0 7 (pc := 12) (v := .ref h_o_text) rfl rfl inX7 (by decide) flX7_26 rfl dX7_now_12 ?_
    refine z_aload_n 0 (pc := 15) dX7_now_15 rfl ?_
    refine z_get 0 9 (pc := 16) (v := .int o_at) rfl rfl inX7 (by decide) flX7_75 rfl dX7_now_16 ?_
    refine z_iaload 1 0 (pc := 19) rfl rfl dX7_now_19 hf0 (fun hf0 => ?_)
    refine z_goto (pc := 20) (tgt := 24) dX7_now_20 (by decide) ?_
    obtain rfl := Option.some.inj hf0
    exact z_iret hE dX7_now_24

abbrev RX7_must : Type := Int32 × Int32
abbrev rmX7_must : Room := { frames := 0, cells := 0, slots := 0, locals := 0 }
abbrev wsX7_must (cA : Nat → ClassId) (h_o : Nat) (o_thrown : Int32) (o_side : Int32) (o_heights : Value) (o_targets : Value) (o_kept : Value) (o_radius : Value) (o_feeds : Value) (o_text : Value) (o_size : Int32) (o_at : Int32) (o_fault : Int32) (o_program : Value) (o_draft : Value) (o_statements : Int32) (o_hasProgram : Int32) (o_hasRun : Int32) (o_where : Value) (o_tool : Int32) (o_about : Value) (o_stack : Value) (o_seen : Value) (o_begin : Value) (o_gap : Value) : va_W := [(h_o, .inr (7, [.int o_thrown, .int o_side, o_heights, o_targets, o_kept, o_radius, o_feeds, o_text, .int o_size, .int o_at, .int o_fault, o_program, o_draft, .int o_statements, .int o_hasProgram, .int o_hasRun, o_where, .int o_tool, o_about, o_stack, o_seen, o_begin, o_gap]))]
def fX7_must (N : Nat) (a1 : Int32) (o_at : Int32) (o_fault : Int32) : Option RX7_must :=
  (if o_fault = (-1) then (if a1 = 0 then (if o_at = (-1) then some (o_at + 1, o_at) else some (o_at, o_at)) else (if o_fault = (-1) then some (o_at + 1, o_fault) else some (o_at, o_fault))) else (if o_fault = (-1) then some (o_at + 1, o_fault) else some (o_at, o_fault)))
set_option maxHeartbeats 4000000 in
set_option maxRecDepth 100000 in
theorem kX7_must (l : Launch) (D : va_G) (cA : Nat → ClassId) (h_o : Nat) (o_thrown : Int32) (o_side : Int32) (o_heights : Value) (o_targets : Value) (o_kept : Value) (o_radius : Value) (o_feeds : Value) (o_text : Value) (o_size : Int32) (o_at : Int32) (o_fault : Int32) (o_program : Value) (o_draft : Value) (o_statements : Int32) (o_hasProgram : Int32) (o_hasRun : Int32) (o_where : Value) (o_tool : Int32) (o_about : Value) (o_stack : Value) (o_seen : Value) (o_begin : Value) (o_gap : Value) (a1 : Int32) (N : Nat) (res : RX7_must) (hf0 : fX7_must N a1 o_at o_fault = some res) : CtV l yX7_must (Cond.code yX7_must cX7_must 2 (none) :: tblG) rmX7_must D cA (wsX7_must cA h_o o_thrown o_side o_heights o_targets o_kept o_radius o_feeds o_text o_size o_at o_fault o_program o_draft o_statements o_hasProgram o_hasRun o_where o_tool o_about o_stack o_seen o_begin o_gap) [.ref h_o, .int a1] (wsX7_must cA h_o o_thrown o_side o_heights o_targets o_kept o_radius o_feeds o_text o_size res.1 res.2 o_program o_draft o_statements o_hasProgram o_hasRun o_where o_tool o_about o_stack o_seen o_begin o_gap) := by
  refine CtV.start (lv := [(0, .ref h_o), (1, .int a1)]) (by decide) (Nat.le_of_ble_eq_true rfl) rfl (fun κ hE => ?_)
  rw [fX7_must] at hf0
  refine z_aload_n 0 (pc := 0) dX7_must_0 rfl ?_
  refine z_get 0 10 (pc := 1) (v := .int o_fault) rfl rfl inX7 (by decide) flX7_78 rfl dX7_must_1 ?_
  refine z_iconst (pc := 4) (v := (-1)) dX7_must_4 (by decide) ?_
  refine z_icmp_ne (pc := 5) (tgt := 20) dX7_must_5 (by decide) hf0 (fun hf0 => ?_) (fun hf0 => ?_)
  · refine z_aload_n 0 (pc := 20) dX7_must_20 rfl ?_
    refine z_get 0 10 (pc := 21) (v := .int o_fault) rfl rfl inX7 (by decide) flX7_78 rfl dX7_must_21 ?_
    refine z_iconst (pc := 24) (v := (-1)) dX7_must_24 (by decide) ?_
    refine z_icmp_ne (pc := 25) (tgt := 38) dX7_must_25 (by decide) hf0 (fun hf0 => ?_) (fun hf0 => ?_)
    · obtain rfl := Option.some.inj hf0
      exact z_vret hE dX7_must_38
    · refine z_aload_n 0 (pc := 28) dX7_must_28 rfl ?_
      refine z_dup (pc := 29) dX7_must_29 rfl ?_
      refine z_get 0 9 (pc := 30) (v := .int o_at) rfl rfl inX7 (by decide) flX7_75 rfl dX7_must_30 ?_
      refine z_iconst (pc := 33) (v := 1) dX7_must_33 (by decide) ?_
      refine z_iadd (pc := 34) dX7_must_34 ?_
      refine z_put 0 9 (pc := 35) (ws' := (wsX7_must cA h_o o_thrown o_side o_heights o_targets o_kept o_radius o_feeds o_text o_size (o_at + 1) o_fault o_program o_draft o_statements o_hasProgram o_hasRun o_where o_tool o_about o_stack o_seen o_begin o_gap)) rfl rfl inX7 tyX7 tyX7_ok nmX7 (by decide) flX7_75 rfl rfl rfl rfl (Nat.le_of_ble_eq_true rfl) dX7_must_35 rfl ?_
      obtain rfl := Option.some.inj hf0
      exact z_vret hE dX7_must_38
  · refine z_iload_n 1 (pc := 8) dX7_must_8 rfl ?_
    refine z_if_ne (pc := 9) (tgt := 20) dX7_must_9 (by decide) hf0 (fun hf0 => ?_) (fun hf0 => ?_)
    · refine z_aload_n 0 (pc := 20) dX7_must_20 rfl ?_
      refine z_get 0 10 (pc := 21) (v := .int o_fault) rfl rfl inX7 (by decide) flX7_78 rfl dX7_must_21 ?_
      refine z_iconst (pc := 24) (v := (-1)) dX7_must_24 (by decide) ?_
      refine z_icmp_ne (pc := 25) (tgt := 38) dX7_must_25 (by decide) hf0 (fun hf0 => ?_) (fun hf0 => ?_)
      · obtain rfl := Option.some.inj hf0
        exact z_vret hE dX7_must_38
      · refine z_aload_n 0 (pc := 28) dX7_must_28 rfl ?_
        refine z_dup (pc := 29) dX7_must_29 rfl ?_
        refine z_get 0 9 (pc := 30) (v := .int o_at) rfl rfl inX7 (by decide) flX7_75 rfl dX7_must_30 ?_
        refine z_iconst (pc := 33) (v := 1) dX7_must_33 (by decide) ?_
        refine z_iadd (pc := 34) dX7_must_34 ?_
        refine z_put 0 9 (pc := 35) (ws' := (wsX7_must cA h_o o_thrown o_side o_heights o_targets o_kept o_radius o_feeds o_text o_size (o_at + 1) o_fault o_program o_draft o_statements o_hasProgram o_hasRun o_where o_tool o_about o_stack o_seen o_begin o_gap)) rfl rfl inX7 tyX7 tyX7_ok nmX7 (by decide) flX7_75 rfl rfl rfl rfl (Nat.le_of_ble_eq_true rfl) dX7_must_35 rfl ?_
        obtain rfl := Option.some.inj hf0
        exact z_vret hE dX7_must_38
    · refine z_aload_n 0 (pc := 12) dX7_must_12 rfl ?_
      refine z_aload_n 0 (pc := 13) dX7_must_13 rfl ?_
      refine z_get 0 9 (pc := 14) (v := .int o_at) rfl rfl inX7 (by decide) flX7_75 rfl dX7_must_14 ?_
      refine z_put 0 10 (pc := 17) (ws' := (wsX7_must cA h_o o_thrown o_side o_heights o_targets o_kept o_radius o_feeds o_text o_size o_at o_at o_program o_draft o_statements o_hasProgram o_hasRun o_where o_tool o_about o_stack o_seen o_begin o_gap)) rfl rfl inX7 tyX7 tyX7_ok nmX7 (by decide) flX7_78 rfl rfl rfl rfl (Nat.le_of_ble_eq_true rfl) dX7_must_17 rfl ?_
      refine z_aload_n 0 (pc := 20) dX7_must_20 rfl ?_
      refine z_get 0 10 (pc := 21) (v := .int o_at) rfl rfl inX7 (by decide) flX7_78 rfl dX7_must_21 ?_
      refine z_iconst (pc := 24) (v := (-1)) dX7_must_24 (by decide) ?_
      refine z_icmp_ne (pc := 25) (tgt := 38) dX7_must_25 (by decide) hf0 (fun hf0 => ?_) (fun hf0 => ?_)
      · obtain rfl := Option.some.inj hf0
        exact z_vret hE dX7_must_38
      · refine z_aload_n 0 (pc := 28) dX7_must_28 rfl ?_
        refine z_dup (pc := 29) dX7_must_29 rfl ?_
        refine z_get 0 9 (pc := 30) (v := .int o_at) rfl rfl inX7 (by decide) flX7_75 rfl dX7_must_30 ?_
        refine z_iconst (pc := 33) (v := 1) dX7_must_33 (by decide) ?_
        refine z_iadd (pc := 34) dX7_must_34 ?_
        refine z_put 0 9 (pc := 35) (ws' := (wsX7_must cA h_o o_thrown o_side o_heights o_targets o_kept o_radius o_feeds o_text o_size (o_at + 1) o_at o_program o_draft o_statements o_hasProgram o_hasRun o_where o_tool o_about o_stack o_seen o_begin o_gap)) rfl rfl inX7 tyX7 tyX7_ok nmX7 (by decide) flX7_75 rfl rfl rfl rfl (Nat.le_of_ble_eq_true rfl) dX7_must_35 rfl ?_
        obtain rfl := Option.some.inj hf0
        exact z_vret hE dX7_must_38

abbrev RX7_spaces : Type := Int32
abbrev rmX7_spaces : Room := { frames := 1, cells := 0, slots := 0, locals := 20 }
abbrev wsX7_spaces (cA : Nat → ClassId) (h_o : Nat) (h_o_text : Nat) (o_thrown : Int32) (o_side : Int32) (o_heights : Value) (o_targets : Value) (o_kept : Value) (o_radius : Value) (o_feeds : Value) (o_size : Int32) (o_at : Int32) (o_fault : Int32) (o_program : Value) (o_draft : Value) (o_statements : Int32) (o_hasProgram : Int32) (o_hasRun : Int32) (o_where : Value) (o_tool : Int32) (o_about : Value) (o_stack : Value) (o_seen : Value) (o_begin : Value) (o_gap : Value) (o_text_n : Nat) (o_text : Nat → Int32) : va_W := [(h_o, .inr (7, [.int o_thrown, .int o_side, o_heights, o_targets, o_kept, o_radius, o_feeds, .ref h_o_text, .int o_size, .int o_at, .int o_fault, o_program, o_draft, .int o_statements, .int o_hasProgram, .int o_hasRun, o_where, .int o_tool, o_about, o_stack, o_seen, o_begin, o_gap])), (h_o_text, .inl (cA 0, o_text_n, .inl o_text))]
def LX7_spaces_0 (o_fault : Int32) (N : Nat) (o_size : Int32) (o_text_n : Nat) (o_text : Nat → Int32) : Nat → Int32 → Option (Int32)
  | 0, _ => none
  | n + 1, o_at_0 => (if o_fault = (-1) then ((fX7_now N o_size o_at_0 o_text_n o_text).bind fun r2 => (if r2 = 32 then LX7_spaces_0 o_fault N o_size o_text_n o_text n (o_at_0 + 1) else some o_at_0)) else some o_at_0)
def fX7_spaces (N : Nat)  (o_size : Int32) (o_at : Int32) (o_fault : Int32) (o_text_n : Nat) (o_text : Nat → Int32) : Option RX7_spaces :=
  ((LX7_spaces_0 o_fault N o_size o_text_n o_text N o_at).bind fun r1 => some r1)
set_option maxHeartbeats 4000000 in
set_option maxRecDepth 100000 in
theorem kX7_spaces (l : Launch) (D : va_G) (cA : Nat → ClassId) (h_o : Nat) (h_o_text : Nat) (o_thrown : Int32) (o_side : Int32) (o_heights : Value) (o_targets : Value) (o_kept : Value) (o_radius : Value) (o_feeds : Value) (o_size : Int32) (o_at : Int32) (o_fault : Int32) (o_program : Value) (o_draft : Value) (o_statements : Int32) (o_hasProgram : Int32) (o_hasRun : Int32) (o_where : Value) (o_tool : Int32) (o_about : Value) (o_stack : Value) (o_seen : Value) (o_begin : Value) (o_gap : Value) (o_text_n : Nat) (o_text : Nat → Int32)  (N : Nat) (res : RX7_spaces) (hf0 : fX7_spaces N o_size o_at o_fault o_text_n o_text = some res) : CtV l yX7_spaces (Cond.code yX7_spaces cX7_spaces 1 (none) :: tblG) rmX7_spaces D cA (wsX7_spaces cA h_o h_o_text o_thrown o_side o_heights o_targets o_kept o_radius o_feeds o_size o_at o_fault o_program o_draft o_statements o_hasProgram o_hasRun o_where o_tool o_about o_stack o_seen o_begin o_gap o_text_n o_text) [.ref h_o] (wsX7_spaces cA h_o h_o_text o_thrown o_side o_heights o_targets o_kept o_radius o_feeds o_size res o_fault o_program o_draft o_statements o_hasProgram o_hasRun o_where o_tool o_about o_stack o_seen o_begin o_gap o_text_n o_text) := by
  refine CtV.start (lv := [(0, .ref h_o)]) (by decide) (Nat.le_of_ble_eq_true rfl) rfl (fun κ hE => ?_)
  rw [fX7_spaces] at hf0
  obtain ⟨y0, hf0_0, hf0⟩ := bp hf0
  have lp0 : ∀ (n : Nat) (o_at_0 : Int32), LX7_spaces_0 o_fault N o_size o_text_n o_text n o_at_0 = some y0 → V κ false l D cA rmX7_spaces cX7_spaces 1 RX7 (none) 0 0 0 [(0, .ref h_o)] [] (wsX7_spaces cA h_o h_o_text o_thrown o_side o_heights o_targets o_kept o_radius o_feeds o_size o_at_0 o_fault o_program o_draft o_statements o_hasProgram o_hasRun o_where o_tool o_about o_stack o_seen o_begin o_gap o_text_n o_text) := by
    intro n
    induction n with
    | zero => intro o_at_0 hf0_0; rw [LX7_spaces_0] at hf0_0; cases hf0_0
    | succ n0 ih0 =>
      intro o_at_0 hf0_0
      rw [LX7_spaces_0] at hf0_0
      refine z_aload_n 0 (pc := 0) dX7_spaces_0 rfl ?_
      refine z_get 0 10 (pc := 1) (v := .int o_fault) rfl rfl inX7 (by decide) flX7_78 rfl dX7_spaces_1 ?_
      refine z_iconst (pc := 4) (v := (-1)) dX7_spaces_4 (by decide) ?_
      refine z_icmp_ne (pc := 5) (tgt := 30) dX7_spaces_5 (by decide) hf0_0 (fun hf0_0 => ?_) (fun hf0_0 => ?_)
      · obtain rfl := Option.some.inj hf0_0
        obtain rfl := Option.some.inj hf0
        exact z_vret hE dX7_spaces_30
      · refine z_aload_n 0 (pc := 8) dX7_spaces_8 rfl ?_
        obtain ⟨r2, er2, hf0_0⟩ := bp hf0_0
        refine z_calliV (pc := 9) (As := []) (rest := []) (ws' := (wsX7_spaces cA h_o h_o_text o_thrown o_side o_heights o_targets o_kept o_radius o_feeds o_size o_at_0 o_fault o_program o_draft o_statements o_hasProgram o_hasRun o_where o_tool o_about o_stack o_seen o_begin o_gap o_text_n o_text)) (kX7_now l D cA h_o h_o_text o_thrown o_side o_heights o_targets o_kept o_radius o_feeds o_size o_at_0 o_fault o_program o_draft o_statements o_hasProgram o_hasRun o_where o_tool o_about o_stack o_seen o_begin o_gap o_text_n o_text  N r2 er2) ivX7_81 ⟨rfl, rfl⟩ ⟨by decide, by decide⟩ rfl ⟨Nat.zero_le _, Nat.zero_le _⟩ rfl rfl [0, 1] rfl (by decide) rfl rfl rfl (Nat.le_of_ble_eq_true rfl) dX7_spaces_9 ?_
        refine z_bipush (pc := 12) (v := 32) dX7_spaces_12 (by decide) ?_
        refine z_icmp_ne (pc := 14) (tgt := 30) dX7_spaces_14 (by decide) hf0_0 (fun hf0_0 => ?_) (fun hf0_0 => ?_)
        · obtain rfl := Option.some.inj hf0_0
          obtain rfl := Option.some.inj hf0
          exact z_vret hE dX7_spaces_30
        · refine z_aload_n 0 (pc := 17) dX7_spaces_17 rfl ?_
          refine z_dup (pc := 18) dX7_spaces_18 rfl ?_
          refine z_get 0 9 (pc := 19) (v := .int o_at_0) rfl rfl inX7 (by decide) flX7_75 rfl dX7_spaces_19 ?_
          refine z_iconst (pc := 22) (v := 1) dX7_spaces_22 (by decide) ?_
          refine z_iadd (pc := 23) dX7_spaces_23 ?_
          refine z_put 0 9 (pc := 24) (ws' := (wsX7_spaces cA h_o h_o_text o_thrown o_side o_heights o_targets o_kept o_radius o_feeds o_size (o_at_0 + 1) o_fault o_program o_draft o_statements o_hasProgram o_hasRun o_where o_tool o_about o_stack o_seen o_begin o_gap o_text_n o_text)) rfl rfl inX7 tyX7 tyX7_ok nmX7 (by decide) flX7_75 rfl rfl rfl rfl (Nat.le_of_ble_eq_true rfl) dX7_spaces_24 rfl ?_
          refine z_goto (pc := 27) (tgt := 0) dX7_spaces_27 (by decide) ?_
          exact z_lv [0] rfl (ih0 (o_at_0 + 1) hf0_0)
  exact z_lv [0] rfl (lp0 N o_at hf0_0)

abbrev RX7_digit : Type := Int32 × Int32 × Int32
abbrev rmX7_digit : Room := { frames := 1, cells := 0, slots := 0, locals := 22 }
abbrev wsX7_digit (cA : Nat → ClassId) (h_o : Nat) (h_o_text : Nat) (o_thrown : Int32) (o_side : Int32) (o_heights : Value) (o_targets : Value) (o_kept : Value) (o_radius : Value) (o_feeds : Value) (o_size : Int32) (o_at : Int32) (o_fault : Int32) (o_program : Value) (o_draft : Value) (o_statements : Int32) (o_hasProgram : Int32) (o_hasRun : Int32) (o_where : Value) (o_tool : Int32) (o_about : Value) (o_stack : Value) (o_seen : Value) (o_begin : Value) (o_gap : Value) (o_text_n : Nat) (o_text : Nat → Int32) : va_W := [(h_o, .inr (7, [.int o_thrown, .int o_side, o_heights, o_targets, o_kept, o_radius, o_feeds, .ref h_o_text, .int o_size, .int o_at, .int o_fault, o_program, o_draft, .int o_statements, .int o_hasProgram, .int o_hasRun, o_where, .int o_tool, o_about, o_stack, o_seen, o_begin, o_gap])), (h_o_text, .inl (cA 0, o_text_n, .inl o_text))]
def fX7_digit (N : Nat) (a1 : Int32) (o_size : Int32) (o_at : Int32) (o_fault : Int32) (o_text_n : Nat) (o_text : Nat → Int32) : Option RX7_digit :=
  ((fX7_now N o_size o_at o_text_n o_text).bind fun r1 => ((fX7_isIn N (r1 - 48) 0 a1).bind fun r2 => ((fX7_must N r2 o_at o_fault).bind fun r3 => some (r1 - 48, r3.1, r3.2))))
set_option maxHeartbeats 4000000 in
set_option maxRecDepth 100000 in
theorem kX7_digit (l : Launch) (D : va_G) (cA : Nat → ClassId) (h_o : Nat) (h_o_text : Nat) (o_thrown : Int32) (o_side : Int32) (o_heights : Value) (o_targets : Value) (o_kept : Value) (o_radius : Value) (o_feeds : Value) (o_size : Int32) (o_at : Int32) (o_fault : Int32) (o_program : Value) (o_draft : Value) (o_statements : Int32) (o_hasProgram : Int32) (o_hasRun : Int32) (o_where : Value) (o_tool : Int32) (o_about : Value) (o_stack : Value) (o_seen : Value) (o_begin : Value) (o_gap : Value) (o_text_n : Nat) (o_text : Nat → Int32) (a1 : Int32) (N : Nat) (res : RX7_digit) (hf0 : fX7_digit N a1 o_size o_at o_fault o_text_n o_text = some res) : CtI l yX7_digit (Cond.code yX7_digit cX7_digit 3 (some .int) :: tblG) rmX7_digit D cA (wsX7_digit cA h_o h_o_text o_thrown o_side o_heights o_targets o_kept o_radius o_feeds o_size o_at o_fault o_program o_draft o_statements o_hasProgram o_hasRun o_where o_tool o_about o_stack o_seen o_begin o_gap o_text_n o_text) [.ref h_o, .int a1] res.1 (wsX7_digit cA h_o h_o_text o_thrown o_side o_heights o_targets o_kept o_radius o_feeds o_size res.2.1 res.2.2 o_program o_draft o_statements o_hasProgram o_hasRun o_where o_tool o_about o_stack o_seen o_begin o_gap o_text_n o_text) := by
  refine CtI.start (lv := [(0, .ref h_o), (1, .int a1)]) (by decide) (Nat.le_of_ble_eq_true rfl) rfl (fun κ hE => ?_)
  rw [fX7_digit] at hf0
  refine z_aload_n 0 (pc := 0) dX7_digit_0 rfl ?_
  obtain ⟨r1, er1, hf0⟩ := bp hf0
  refine z_calliV (pc := 1) (As := []) (rest := []) (ws' := (wsX7_digit cA h_o h_o_text o_thrown o_side o_heights o_targets o_kept o_radius o_feeds o_size o_at o_fault o_program o_draft o_statements o_hasProgram o_hasRun o_where o_tool o_about o_stack o_seen o_begin o_gap o_text_n o_text)) (kX7_now l D cA h_o h_o_text o_thrown o_side o_heights o_targets o_kept o_radius o_feeds o_size o_at o_fault o_program o_draft o_statements o_hasProgram o_hasRun o_where o_tool o_about o_stack o_seen o_begin o_gap o_text_n o_text  N r1 er1) ivX7_81 ⟨rfl, rfl⟩ ⟨by decide, by decide⟩ rfl ⟨Nat.zero_le _, Nat.zero_le _⟩ rfl rfl [0, 1] rfl (by decide) rfl rfl rfl (Nat.le_of_ble_eq_true rfl) dX7_digit_1 ?_
  refine z_bipush (pc := 4) (v := 48) dX7_digit_4 (by decide) ?_
  refine z_isub (pc := 6) dX7_digit_6 ?_
  refine z_istore_n (pc := 7) (lv' := [(2, .int (r1 - 48)), (0, .ref h_o), (1, .int a1)]) dX7_digit_7 (by decide) rfl ?_
  refine z_aload_n 1 (pc := 8) dX7_digit_8 rfl ?_
  refine z_iload_n 0 (pc := 9) dX7_digit_9 rfl ?_
  refine z_iconst (pc := 10) (v := 0) dX7_digit_10 (by decide) ?_
  refine z_iload_n 2 (pc := 11) dX7_digit_11 rfl ?_
  obtain ⟨r2, er2, hf0⟩ := bp hf0
  refine z_calliS (pc := 12) (As := [.int (r1 - 48), .int 0, .int a1]) (rest := [.ref h_o]) (ws' := (wsX7_digit cA h_o h_o_text o_thrown o_side o_heights o_targets o_kept o_radius o_feeds o_size o_at o_fault o_program o_draft o_statements o_hasProgram o_hasRun o_where o_tool o_about o_stack o_seen o_begin o_gap o_text_n o_text)) (kX7_isIn l D cA   (r1 - 48) 0 a1 N r2 er2) ivX7_60 ⟨rfl, rfl⟩ ⟨by decide, by decide⟩ rfl ⟨Nat.zero_le _, Nat.zero_le _⟩ [] rfl (by decide) rfl rfl rfl (Nat.le_of_ble_eq_true rfl) dX7_digit_12 ?_
  obtain ⟨r3, er3, hf0⟩ := bp hf0
  refine z_callvV (pc := 15) (As := [.int r2]) (rest := []) (ws' := (wsX7_digit cA h_o h_o_text o_thrown o_side o_heights o_targets o_kept o_radius o_feeds o_size r3.1 r3.2 o_program o_draft o_statements o_hasProgram o_hasRun o_where o_tool o_about o_stack o_seen o_begin o_gap o_text_n o_text)) (kX7_must l D cA h_o o_thrown o_side o_heights o_targets o_kept o_radius o_feeds (.ref h_o_text) o_size o_at o_fault o_program o_draft o_statements o_hasProgram o_hasRun o_where o_tool o_about o_stack o_seen o_begin o_gap r2 N r3 er3) ivX7_85 ⟨rfl, rfl⟩ ⟨by decide, by decide⟩ rfl ⟨Nat.zero_le _, Nat.zero_le _⟩ rfl rfl [0] rfl (by decide) rfl rfl rfl (Nat.le_of_ble_eq_true rfl) dX7_digit_15 ?_
  refine z_iload_n 0 (pc := 18) dX7_digit_18 rfl ?_
  obtain rfl := Option.some.inj hf0
  exact z_iret hE dX7_digit_19

abbrev RX7_number : Type := Int32 × Int32 × Int32
abbrev rmX7_number : Room := { frames := 2, cells := 0, slots := 0, locals := 44 }
abbrev wsX7_number (cA : Nat → ClassId) (h_o : Nat) (h_o_text : Nat) (o_thrown : Int32) (o_side : Int32) (o_heights : Value) (o_targets : Value) (o_kept : Value) (o_radius : Value) (o_feeds : Value) (o_size : Int32) (o_at : Int32) (o_fault : Int32) (o_program : Value) (o_draft : Value) (o_statements : Int32) (o_hasProgram : Int32) (o_hasRun : Int32) (o_where : Value) (o_tool : Int32) (o_about : Value) (o_stack : Value) (o_seen : Value) (o_begin : Value) (o_gap : Value) (o_text_n : Nat) (o_text : Nat → Int32) : va_W := [(h_o, .inr (7, [.int o_thrown, .int o_side, o_heights, o_targets, o_kept, o_radius, o_feeds, .ref h_o_text, .int o_size, .int o_at, .int o_fault, o_program, o_draft, .int o_statements, .int o_hasProgram, .int o_hasRun, o_where, .int o_tool, o_about, o_stack, o_seen, o_begin, o_gap])), (h_o_text, .inl (cA 0, o_text_n, .inl o_text))]
def JX7_number_61 (a1 : Int32) (o_at : Int32) (x3_61 : Int32) (o_at_61 : Int32) (o_fault_61 : Int32) : Option (RX7_number) :=
  (if o_fault_61 = (-1) then (if x3_61 ≤ a1 then some (x3_61, o_at_61, o_fault_61) else some (x3_61, o_at_61, o_at)) else some (x3_61, o_at_61, o_fault_61))
def LX7_number_15 (N : Nat) (o_size : Int32) (o_text_n : Nat) (o_text : Nat → Int32) : Nat → Int32 → Int32 → Int32 → Int32 → Option (Int32 × Int32 × Int32 × Int32)
  | 0, _, _, _, _ => none
  | n + 1, x3_15, x4_15, o_at_15, o_fault_15 => (if o_fault_15 = (-1) then (if 3 ≤ x4_15 then some (x3_15, x4_15, o_at_15, o_fault_15) else ((fX7_now N o_size o_at_15 o_text_n o_text).bind fun r3 => ((fX7_isIn N r3 48 57).bind fun r4 => (if r4 = 0 then some (x3_15, x4_15, o_at_15, o_fault_15) else ((fX7_digit N 9 o_size o_at_15 o_fault_15 o_text_n o_text).bind fun r5 => LX7_number_15 N o_size o_text_n o_text n ((10 * x3_15) + r5.1) (x4_15 + 1) r5.2.1 r5.2.2))))) else some (x3_15, x4_15, o_at_15, o_fault_15))
def fX7_number (N : Nat) (a1 : Int32) (o_size : Int32) (o_at : Int32) (o_fault : Int32) (o_text_n : Nat) (o_text : Nat → Int32) : Option RX7_number :=
  ((fX7_digit N 9 o_size o_at o_fault o_text_n o_text).bind fun r1 => ((LX7_number_15 N o_size o_text_n o_text N r1.1 1 r1.2.1 r1.2.2).bind fun r2 => JX7_number_61 a1 o_at r2.1 r2.2.2.1 r2.2.2.2))
set_option maxHeartbeats 4000000 in
set_option maxRecDepth 100000 in
theorem kX7_number (l : Launch) (D : va_G) (cA : Nat → ClassId) (h_o : Nat) (h_o_text : Nat) (o_thrown : Int32) (o_side : Int32) (o_heights : Value) (o_targets : Value) (o_kept : Value) (o_radius : Value) (o_feeds : Value) (o_size : Int32) (o_at : Int32) (o_fault : Int32) (o_program : Value) (o_draft : Value) (o_statements : Int32) (o_hasProgram : Int32) (o_hasRun : Int32) (o_where : Value) (o_tool : Int32) (o_about : Value) (o_stack : Value) (o_seen : Value) (o_begin : Value) (o_gap : Value) (o_text_n : Nat) (o_text : Nat → Int32) (a1 : Int32) (N : Nat) (res : RX7_number) (hf0 : fX7_number N a1 o_size o_at o_fault o_text_n o_text = some res) : CtI l yX7_number (Cond.code yX7_number cX7_number 5 (some .int) :: tblG) rmX7_number D cA (wsX7_number cA h_o h_o_text o_thrown o_side o_heights o_targets o_kept o_radius o_feeds o_size o_at o_fault o_program o_draft o_statements o_hasProgram o_hasRun o_where o_tool o_about o_stack o_seen o_begin o_gap o_text_n o_text) [.ref h_o, .int a1] res.1 (wsX7_number cA h_o h_o_text o_thrown o_side o_heights o_targets o_kept o_radius o_feeds o_size res.2.1 res.2.2 o_program o_draft o_statements o_hasProgram o_hasRun o_where o_tool o_about o_stack o_seen o_begin o_gap o_text_n o_text) := by
  refine CtI.start (lv := [(0, .ref h_o), (1, .int a1)]) (by decide) (Nat.le_of_ble_eq_true rfl) rfl (fun κ hE => ?_)
  rw [fX7_number] at hf0
  refine z_aload_n 0 (pc := 0) dX7_number_0 rfl ?_
  refine z_get 0 9 (pc := 1) (v := .int o_at) rfl rfl inX7 (by decide) flX7_75 rfl dX7_number_1 ?_
  refine z_istore_n (pc := 4) (lv' := [(2, .int o_at), (0, .ref h_o), (1, .int a1)]) dX7_number_4 (by decide) rfl ?_
  refine z_aload_n 1 (pc := 5) dX7_number_5 rfl ?_
  refine z_bipush (pc := 6) (v := 9) dX7_number_6 (by decide) ?_
  obtain ⟨r1, er1, hf0⟩ := bp hf0
  refine z_calliV (pc := 8) (As := [.int 9]) (rest := []) (ws' := (wsX7_number cA h_o h_o_text o_thrown o_side o_heights o_targets o_kept o_radius o_feeds o_size r1.2.1 r1.2.2 o_program o_draft o_statements o_hasProgram o_hasRun o_where o_tool o_about o_stack o_seen o_begin o_gap o_text_n o_text)) (kX7_digit l D cA h_o h_o_text o_thrown o_side o_heights o_targets o_kept o_radius o_feeds o_size o_at o_fault o_program o_draft o_statements o_hasProgram o_hasRun o_where o_tool o_about o_stack o_seen o_begin o_gap o_text_n o_text 9 N r1 er1) ivX7_89 ⟨rfl, rfl⟩ ⟨by decide, by decide⟩ rfl ⟨Nat.zero_le _, Nat.zero_le _⟩ rfl rfl [0, 1] rfl (by decide) rfl rfl rfl (Nat.le_of_ble_eq_true rfl) dX7_number_8 ?_
  refine z_istore_n (pc := 11) (lv' := [(3, .int r1.1), (2, .int o_at), (0, .ref h_o), (1, .int a1)]) dX7_number_11 (by decide) rfl ?_
  refine z_iconst (pc := 12) (v := 1) dX7_number_12 (by decide) ?_
  refine z_istore (pc := 13) (lv' := [(4, .int 1), (3, .int r1.1), (2, .int o_at), (0, .ref h_o), (1, .int a1)]) dX7_number_13 (by decide) rfl ?_
  have j61 : ∀ (x3_61 : Int32) (o_at_61 : Int32) (o_fault_61 : Int32), JX7_number_61 a1 o_at x3_61 o_at_61 o_fault_61 = some res → V κ false l D cA rmX7_number cX7_number 5 RX7 (some .int) 0 0 61 [(2, .int o_at), (0, .ref h_o), (1, .int a1), (3, .int x3_61)] [] (wsX7_number cA h_o h_o_text o_thrown o_side o_heights o_targets o_kept o_radius o_feeds o_size o_at_61 o_fault_61 o_program o_draft o_statements o_hasProgram o_hasRun o_where o_tool o_about o_stack o_seen o_begin o_gap o_text_n o_text) := by
    intro x3_61 o_at_61 o_fault_61 hf0
    rw [JX7_number_61] at hf0
    refine z_aload_n 1 (pc := 61) dX7_number_61 rfl ?_
    refine z_get 0 10 (pc := 62) (v := .int o_fault_61) rfl rfl inX7 (by decide) flX7_78 rfl dX7_number_62 ?_
    refine z_iconst (pc := 65) (v := (-1)) dX7_number_65 (by decide) ?_
    refine z_icmp_ne (pc := 66) (tgt := 79) dX7_number_66 (by decide) hf0 (fun hf0 => ?_) (fun hf0 => ?_)
    · refine z_iload_n 3 (pc := 79) dX7_number_79 rfl ?_
      obtain rfl := Option.some.inj hf0
      exact z_iret hE dX7_number_80
    · refine z_iload_n 3 (pc := 69) dX7_number_69 rfl ?_
      refine z_iload_n 2 (pc := 70) dX7_number_70 rfl ?_
      refine z_icmp_le (pc := 71) (tgt := 79) dX7_number_71 (by decide) hf0 (fun hf0 => ?_) (fun hf0 => ?_)
      · refine z_iload_n 3 (pc := 79) dX7_number_79 rfl ?_
        obtain rfl := Option.some.inj hf0
        exact z_iret hE dX7_number_80
      · refine z_aload_n 1 (pc := 74) dX7_number_74 rfl ?_
        refine z_iload_n 0 (pc := 75) dX7_number_75 rfl ?_
        refine z_put 0 10 (pc := 76) (ws' := (wsX7_number cA h_o h_o_text o_thrown o_side o_heights o_targets o_kept o_radius o_feeds o_size o_at_61 o_at o_program o_draft o_statements o_hasProgram o_hasRun o_where o_tool o_about o_stack o_seen o_begin o_gap o_text_n o_text)) rfl rfl inX7 tyX7 tyX7_ok nmX7 (by decide) flX7_78 rfl rfl rfl rfl (Nat.le_of_ble_eq_true rfl) dX7_number_76 rfl ?_
        refine z_iload_n 3 (pc := 79) dX7_number_79 rfl ?_
        obtain rfl := Option.some.inj hf0
        exact z_iret hE dX7_number_80
  obtain ⟨y15, hf0_15, hf0⟩ := bp hf0
  have lp15 : ∀ (n : Nat) (x3_15 : Int32) (x4_15 : Int32) (o_at_15 : Int32) (o_fault_15 : Int32), LX7_number_15 N o_size o_text_n o_text n x3_15 x4_15 o_at_15 o_fault_15 = some y15 → V κ false l D cA rmX7_number cX7_number 5 RX7 (some .int) 0 0 15 [(2, .int o_at), (0, .ref h_o), (1, .int a1), (3, .int x3_15), (4, .int x4_15)] [] (wsX7_number cA h_o h_o_text o_thrown o_side o_heights o_targets o_kept o_radius o_feeds o_size o_at_15 o_fault_15 o_program o_draft o_statements o_hasProgram o_hasRun o_where o_tool o_about o_stack o_seen o_begin o_gap o_text_n o_text) := by
    intro n
    induction n with
    | zero => intro x3_15 x4_15 o_at_15 o_fault_15 hf0_15; rw [LX7_number_15] at hf0_15; cases hf0_15
    | succ n15 ih15 =>
      intro x3_15 x4_15 o_at_15 o_fault_15 hf0_15
      rw [LX7_number_15] at hf0_15
      refine z_aload_n 1 (pc := 15) dX7_number_15 rfl ?_
      refine z_get 0 10 (pc := 16) (v := .int o_fault_15) rfl rfl inX7 (by decide) flX7_78 rfl dX7_number_16 ?_
      refine z_iconst (pc := 19) (v := (-1)) dX7_number_19 (by decide) ?_
      refine z_icmp_ne (pc := 20) (tgt := 61) dX7_number_20 (by decide) hf0_15 (fun hf0_15 => ?_) (fun hf0_15 => ?_)
      · obtain rfl := Option.some.inj hf0_15
        exact z_lv [0, 1, 2, 3] rfl (j61 x3_15 o_at_15 o_fault_15 hf0)
      · refine z_iload 4 (pc := 23) dX7_number_23 rfl ?_
        refine z_iconst (pc := 25) (v := 3) dX7_number_25 (by decide) ?_
        refine z_icmp_ge (pc := 26) (tgt := 61) dX7_number_26 (by decide) hf0_15 (fun hf0_15 => ?_) (fun hf0_15 => ?_)
        · obtain rfl := Option.some.inj hf0_15
          exact z_lv [0, 1, 2, 3] rfl (j61 x3_15 o_at_15 o_fault_15 hf0)
        · refine z_aload_n 1 (pc := 29) dX7_number_29 rfl ?_
          obtain ⟨r3, er3, hf0_15⟩ := bp hf0_15
          refine z_calliV (pc := 30) (As := []) (rest := []) (ws' := (wsX7_number cA h_o h_o_text o_thrown o_side o_heights o_targets o_kept o_radius o_feeds o_size o_at_15 o_fault_15 o_program o_draft o_statements o_hasProgram o_hasRun o_where o_tool o_about o_stack o_seen o_begin o_gap o_text_n o_text)) (kX7_now l D cA h_o h_o_text o_thrown o_side o_heights o_targets o_kept o_radius o_feeds o_size o_at_15 o_fault_15 o_program o_draft o_statements o_hasProgram o_hasRun o_where o_tool o_about o_stack o_seen o_begin o_gap o_text_n o_text  N r3 er3) ivX7_81 ⟨rfl, rfl⟩ ⟨by decide, by decide⟩ rfl ⟨Nat.zero_le _, Nat.zero_le _⟩ rfl rfl [0, 1] rfl (by decide) rfl rfl rfl (Nat.le_of_ble_eq_true rfl) dX7_number_30 ?_
          refine z_bipush (pc := 33) (v := 48) dX7_number_33 (by decide) ?_
          refine z_bipush (pc := 35) (v := 57) dX7_number_35 (by decide) ?_
          obtain ⟨r4, er4, hf0_15⟩ := bp hf0_15
          refine z_calliS (pc := 37) (As := [.int r3, .int 48, .int 57]) (rest := []) (ws' := (wsX7_number cA h_o h_o_text o_thrown o_side o_heights o_targets o_kept o_radius o_feeds o_size o_at_15 o_fault_15 o_program o_draft o_statements o_hasProgram o_hasRun o_where o_tool o_about o_stack o_seen o_begin o_gap o_text_n o_text)) (kX7_isIn l D cA   r3 48 57 N r4 er4) ivX7_60 ⟨rfl, rfl⟩ ⟨by decide, by decide⟩ rfl ⟨Nat.zero_le _, Nat.zero_le _⟩ [] rfl (by decide) rfl rfl rfl (Nat.le_of_ble_eq_true rfl) dX7_number_37 ?_
          refine z_if_eq (pc := 40) (tgt := 61) dX7_number_40 (by decide) hf0_15 (fun hf0_15 => ?_) (fun hf0_15 => ?_)
          · obtain rfl := Option.some.inj hf0_15
            exact z_lv [0, 1, 2, 3] rfl (j61 x3_15 o_at_15 o_fault_15 hf0)
          · refine z_bipush (pc := 43) (v := 10) dX7_number_43 (by decide) ?_
            refine z_iload_n 3 (pc := 45) dX7_number_45 rfl ?_
            refine z_imul (pc := 46) dX7_number_46 ?_
            refine z_aload_n 1 (pc := 47) dX7_number_47 rfl ?_
            refine z_bipush (pc := 48) (v := 9) dX7_number_48 (by decide) ?_
            obtain ⟨r5, er5, hf0_15⟩ := bp hf0_15
            refine z_calliV (pc := 50) (As := [.int 9]) (rest := [.int (10 * x3_15)]) (ws' := (wsX7_number cA h_o h_o_text o_thrown o_side o_heights o_targets o_kept o_radius o_feeds o_size r5.2.1 r5.2.2 o_program o_draft o_statements o_hasProgram o_hasRun o_where o_tool o_about o_stack o_seen o_begin o_gap o_text_n o_text)) (kX7_digit l D cA h_o h_o_text o_thrown o_side o_heights o_targets o_kept o_radius o_feeds o_size o_at_15 o_fault_15 o_program o_draft o_statements o_hasProgram o_hasRun o_where o_tool o_about o_stack o_seen o_begin o_gap o_text_n o_text 9 N r5 er5) ivX7_89 ⟨rfl, rfl⟩ ⟨by decide, by decide⟩ rfl ⟨Nat.zero_le _, Nat.zero_le _⟩ rfl rfl [0, 1] rfl (by decide) rfl rfl rfl (Nat.le_of_ble_eq_true rfl) dX7_number_50 ?_
            refine z_iadd (pc := 53) dX7_number_53 ?_
            refine z_istore_n (pc := 54) (lv' := [(3, .int ((10 * x3_15) + r5.1)), (2, .int o_at), (0, .ref h_o), (1, .int a1), (4, .int x4_15)]) dX7_number_54 (by decide) rfl ?_
            refine z_iinc 4 (pc := 55) (v := x4_15 + 1) (lv' := [(4, .int (x4_15 + 1)), (3, .int ((10 * x3_15) + r5.1)), (2, .int o_at), (0, .ref h_o), (1, .int a1)]) dX7_number_55 rfl rfl (by decide) rfl ?_
            refine z_goto (pc := 58) (tgt := 15) dX7_number_58 (by decide) ?_
            exact z_lv [2, 3, 4, 1, 0] rfl (ih15 ((10 * x3_15) + r5.1) (x4_15 + 1) r5.2.1 r5.2.2 hf0_15)
  exact z_lv [2, 3, 4, 1, 0] rfl (lp15 N r1.1 1 r1.2.1 r1.2.2 hf0_15)

abbrev RX7_statement : Type := Int32 × Int32 × (Nat → Int32)
abbrev rmX7_statement : Room := { frames := 3, cells := 0, slots := 0, locals := 68 }
abbrev wsX7_statement (cA : Nat → ClassId) (h_o : Nat) (h_o_text : Nat) (h_o_draft : Nat) (o_thrown : Int32) (o_side : Int32) (o_heights : Value) (o_targets : Value) (o_kept : Value) (o_radius : Value) (o_feeds : Value) (o_size : Int32) (o_at : Int32) (o_fault : Int32) (o_program : Value) (o_statements : Int32) (o_hasProgram : Int32) (o_hasRun : Int32) (o_where : Value) (o_tool : Int32) (o_about : Value) (o_stack : Value) (o_seen : Value) (o_begin : Value) (o_gap : Value) (o_text_n : Nat) (o_text : Nat → Int32) (o_draft_n : Nat) (o_draft : Nat → Int32) : va_W := [(h_o, .inr (7, [.int o_thrown, .int o_side, o_heights, o_targets, o_kept, o_radius, o_feeds, .ref h_o_text, .int o_size, .int o_at, .int o_fault, o_program, .ref h_o_draft, .int o_statements, .int o_hasProgram, .int o_hasRun, o_where, .int o_tool, o_about, o_stack, o_seen, o_begin, o_gap])), (h_o_text, .inl (cA 0, o_text_n, .inl o_text)), (h_o_draft, .inl (cA 0, o_draft_n, .inl o_draft))]
def JX7_statement_206 (N : Nat) (o_size : Int32) (o_text_n : Nat) (o_text : Nat → Int32) (o_at_206 : Int32) (o_draft_206 : Nat → Int32) (o_fault_206 : Int32) : Option (RX7_statement) :=
  ((fX7_now N o_size o_at_206 o_text_n o_text).bind fun r4 => (if r4 = 59 then ((fX7_must N 1 o_at_206 o_fault_206).bind fun r6 => some (r6.1, r6.2, o_draft_206)) else ((fX7_must N 0 o_at_206 o_fault_206).bind fun r5 => some (r5.1, r5.2, o_draft_206))))
def JX7_statement_168 (rec : Int32 → Int32 → (Nat → Int32) → Int32 → Option (Int32 × Int32 × (Nat → Int32) × Int32)) (N : Nat) (o_size : Int32) (r12 : RX7_must) (o_text_n : Nat) (o_text : Nat → Int32) (a1 : Int32) (k13 : Int32) (o_draft_n : Nat) (o_draft_106 : Nat → Int32) (x3_106 : Int32) (s_168 : Int32) : Option (Int32 × Int32 × (Nat → Int32) × Int32) :=
  ((fX7_number N s_168 o_size r12.1 r12.2 o_text_n o_text).bind fun r14 => (if r14.2.2 = (-1) then (if (((5 * a1) + 1) + k13) < 0 ∨ o_draft_n ≤ (((5 * a1) + 1) + k13).toNatClampNeg then none else ((fX7_spaces N o_size r14.2.1 r14.2.2 o_text_n o_text).bind fun r16 => rec k13 r16 (upd o_draft_106 (((5 * a1) + 1) + k13).toNatClampNeg r14.1) r14.2.2)) else ((fX7_spaces N o_size r14.2.1 r14.2.2 o_text_n o_text).bind fun r15 => rec x3_106 r15 o_draft_106 r14.2.2)))
def JX7_statement_128 (rec : Int32 → Int32 → (Nat → Int32) → Int32 → Option (Int32 × Int32 × (Nat → Int32) × Int32)) (N : Nat) (o_size : Int32) (o_at_106 : Int32) (o_text_n : Nat) (o_text : Nat → Int32) (x3_106 : Int32) (o_fault_106 : Int32) (a1 : Int32) (o_draft_n : Nat) (o_draft_106 : Nat → Int32) (o_side : Int32)  : Option (Int32 × Int32 × (Nat → Int32) × Int32) :=
  ((fX7_now N o_size o_at_106 o_text_n o_text).bind fun r10 => ((fX7_isIn N (r10 - 88) (x3_106 + 1) 2).bind fun r11 => ((fX7_must N r11 o_at_106 o_fault_106).bind fun r12 => (if (r10 - 88) = 2 then JX7_statement_168 (fun b0 b1 b2 b3 => rec b0 b1 b2 b3) N o_size r12 o_text_n o_text a1 (r10 - 88) o_draft_n o_draft_106 x3_106 100 else JX7_statement_168 (fun b0 b1 b2 b3 => rec b0 b1 b2 b3) N o_size r12 o_text_n o_text a1 (r10 - 88) o_draft_n o_draft_106 x3_106 (o_side - 1)))))
def LX7_statement_106 (N : Nat) (o_size : Int32) (o_text_n : Nat) (o_text : Nat → Int32) (a1 : Int32) (o_draft_n : Nat) (o_side : Int32) : Nat → Int32 → Int32 → (Nat → Int32) → Int32 → Option (Int32 × Int32 × (Nat → Int32) × Int32)
  | 0, _, _, _, _ => none
  | n + 1, x3_106, o_at_106, o_draft_106, o_fault_106 => (if o_fault_106 = (-1) then (if x3_106 = (-1) then JX7_statement_128 (fun b0 b1 b2 b3 => LX7_statement_106 N o_size o_text_n o_text a1 o_draft_n o_side n b0 b1 b2 b3) N o_size o_at_106 o_text_n o_text x3_106 o_fault_106 a1 o_draft_n o_draft_106 o_side  else ((fX7_now N o_size o_at_106 o_text_n o_text).bind fun r17 => (if r17 = 59 then some (x3_106, o_at_106, o_draft_106, o_fault_106) else JX7_statement_128 (fun b0 b1 b2 b3 => LX7_statement_106 N o_size o_text_n o_text a1 o_draft_n o_side n b0 b1 b2 b3) N o_size o_at_106 o_text_n o_text x3_106 o_fault_106 a1 o_draft_n o_draft_106 o_side ))) else some (x3_106, o_at_106, o_draft_106, o_fault_106))
def LX7_statement_28 (a1 : Int32) (o_draft_n : Nat) : Nat → Int32 → (Nat → Int32) → Option (Int32 × (Nat → Int32))
  | 0, _, _ => none
  | n + 1, x3_28, o_draft_28 => (if 5 ≤ x3_28 then some (x3_28, o_draft_28) else (if ((5 * a1) + x3_28) < 0 ∨ o_draft_n ≤ ((5 * a1) + x3_28).toNatClampNeg then none else LX7_statement_28 a1 o_draft_n n (x3_28 + 1) (upd o_draft_28 ((5 * a1) + x3_28).toNatClampNeg (-1))))
def JX7_statement_23 (N : Nat) (o_at : Int32) (o_fault : Int32) (a1 : Int32) (o_draft_n : Nat) (o_draft : Nat → Int32) (r1 : RX7_now) (o_size : Int32) (o_text_n : Nat) (o_text : Nat → Int32) (o_side : Int32) (s_23 : Int32) : Option (RX7_statement) :=
  ((fX7_must N s_23 o_at o_fault).bind fun r2 => ((LX7_statement_28 a1 o_draft_n N 1 o_draft).bind fun r3 => (if r1 = 84 then (if (5 * a1) < 0 ∨ o_draft_n ≤ (5 * a1).toNatClampNeg then none else ((fX7_digit N 3 o_size r2.1 r2.2 o_text_n o_text).bind fun r18 => (if ((5 * a1) + 4) < 0 ∨ o_draft_n ≤ ((5 * a1) + 4).toNatClampNeg then none else ((fX7_spaces N o_size r18.2.1 r18.2.2 o_text_n o_text).bind fun r19 => JX7_statement_206 N o_size o_text_n o_text r19 (upd (upd r3.2 (5 * a1).toNatClampNeg 2) ((5 * a1) + 4).toNatClampNeg r18.1) r18.2.2)))) else ((fX7_digit N 1 o_size r2.1 r2.2 o_text_n o_text).bind fun r7 => (if (5 * a1) < 0 ∨ o_draft_n ≤ (5 * a1).toNatClampNeg then none else ((fX7_spaces N o_size r7.2.1 r7.2.2 o_text_n o_text).bind fun r8 => ((LX7_statement_106 N o_size o_text_n o_text a1 o_draft_n o_side N (-1) r8 (upd r3.2 (5 * a1).toNatClampNeg r7.1) r7.2.2).bind fun r9 => JX7_statement_206 N o_size o_text_n o_text r9.2.1 r9.2.2.1 r9.2.2.2)))))))
def JX7_statement_18 (N : Nat) (o_at : Int32) (o_fault : Int32) (a1 : Int32) (o_draft_n : Nat) (o_draft : Nat → Int32) (r1 : RX7_now) (o_size : Int32) (o_text_n : Nat) (o_text : Nat → Int32) (o_side : Int32)  : Option (RX7_statement) :=
  JX7_statement_23 N o_at o_fault a1 o_draft_n o_draft r1 o_size o_text_n o_text o_side 1
def fX7_statement (N : Nat) (a1 : Int32) (o_side : Int32) (o_size : Int32) (o_at : Int32) (o_fault : Int32) (o_text_n : Nat) (o_text : Nat → Int32) (o_draft_n : Nat) (o_draft : Nat → Int32) : Option RX7_statement :=
  ((fX7_now N o_size o_at o_text_n o_text).bind fun r1 => (if r1 = 84 then JX7_statement_18 N o_at o_fault a1 o_draft_n o_draft r1 o_size o_text_n o_text o_side  else (if r1 = 71 then JX7_statement_18 N o_at o_fault a1 o_draft_n o_draft r1 o_size o_text_n o_text o_side  else JX7_statement_23 N o_at o_fault a1 o_draft_n o_draft r1 o_size o_text_n o_text o_side 0)))
set_option maxHeartbeats 4000000 in
set_option maxRecDepth 100000 in
theorem kX7_statement (l : Launch) (D : va_G) (cA : Nat → ClassId) (h_o : Nat) (h_o_text : Nat) (h_o_draft : Nat) (o_thrown : Int32) (o_side : Int32) (o_heights : Value) (o_targets : Value) (o_kept : Value) (o_radius : Value) (o_feeds : Value) (o_size : Int32) (o_at : Int32) (o_fault : Int32) (o_program : Value) (o_statements : Int32) (o_hasProgram : Int32) (o_hasRun : Int32) (o_where : Value) (o_tool : Int32) (o_about : Value) (o_stack : Value) (o_seen : Value) (o_begin : Value) (o_gap : Value) (o_text_n : Nat) (o_text : Nat → Int32) (o_draft_n : Nat) (o_draft : Nat → Int32) (a1 : Int32) (N : Nat) (res : RX7_statement) (hf0 : fX7_statement N a1 o_side o_size o_at o_fault o_text_n o_text o_draft_n o_draft = some res) : CtV l yX7_statement (Cond.code yX7_statement cX7_statement 6 (none) :: tblG) rmX7_statement D cA (wsX7_statement cA h_o h_o_text h_o_draft o_thrown o_side o_heights o_targets o_kept o_radius o_feeds o_size o_at o_fault o_program o_statements o_hasProgram o_hasRun o_where o_tool o_about o_stack o_seen o_begin o_gap o_text_n o_text o_draft_n o_draft) [.ref h_o, .int a1] (wsX7_statement cA h_o h_o_text h_o_draft o_thrown o_side o_heights o_targets o_kept o_radius o_feeds o_size res.1 res.2.1 o_program o_statements o_hasProgram o_hasRun o_where o_tool o_about o_stack o_seen o_begin o_gap o_text_n o_text o_draft_n res.2.2) := by
  refine CtV.start (lv := [(0, .ref h_o), (1, .int a1)]) (by decide) (Nat.le_of_ble_eq_true rfl) rfl (fun κ hE => ?_)
  rw [fX7_statement] at hf0
  refine z_aload_n 0 (pc := 0) dX7_statement_0 rfl ?_
  obtain ⟨r1, er1, hf0⟩ := bp hf0
  refine z_calliV (pc := 1) (As := []) (rest := []) (ws' := (wsX7_statement cA h_o h_o_text h_o_draft o_thrown o_side o_heights o_targets o_kept o_radius o_feeds o_size o_at o_fault o_program o_statements o_hasProgram o_hasRun o_where o_tool o_about o_stack o_seen o_begin o_gap o_text_n o_text o_draft_n o_draft)) (kX7_now l D cA h_o h_o_text o_thrown o_side o_heights o_targets o_kept o_radius o_feeds o_size o_at o_fault o_program (.ref h_o_draft) o_statements o_hasProgram o_hasRun o_where o_tool o_about o_stack o_seen o_begin o_gap o_text_n o_text  N r1 er1) ivX7_81 ⟨rfl, rfl⟩ ⟨by decide, by decide⟩ rfl ⟨Nat.zero_le _, Nat.zero_le _⟩ rfl rfl [0, 1] rfl (by decide) rfl rfl rfl (Nat.le_of_ble_eq_true rfl) dX7_statement_1 ?_
  refine z_istore_n (pc := 4) (lv' := [(2, .int r1), (0, .ref h_o), (1, .int a1)]) dX7_statement_4 (by decide) rfl ?_
  refine z_aload_n 1 (pc := 5) dX7_statement_5 rfl ?_
  refine z_iload_n 0 (pc := 6) dX7_statement_6 rfl ?_
  refine z_bipush (pc := 7) (v := 84) dX7_statement_7 (by decide) ?_
  have j23 : ∀ (s_23 : Int32), JX7_statement_23 N o_at o_fault a1 o_draft_n o_draft r1 o_size o_text_n o_text o_side s_23 = some res → V κ false l D cA rmX7_statement cX7_statement 6 RX7 (none) 0 0 23 [(2, .int r1), (0, .ref h_o), (1, .int a1)] [.int s_23, .ref h_o] (wsX7_statement cA h_o h_o_text h_o_draft o_thrown o_side o_heights o_targets o_kept o_radius o_feeds o_size o_at o_fault o_program o_statements o_hasProgram o_hasRun o_where o_tool o_about o_stack o_seen o_begin o_gap o_text_n o_text o_draft_n o_draft) := by
    intro s_23 hf0
    rw [JX7_statement_23] at hf0
    obtain ⟨r2, er2, hf0⟩ := bp hf0
    refine z_callvV (pc := 23) (As := [.int s_23]) (rest := []) (ws' := (wsX7_statement cA h_o h_o_text h_o_draft o_thrown o_side o_heights o_targets o_kept o_radius o_feeds o_size r2.1 r2.2 o_program o_statements o_hasProgram o_hasRun o_where o_tool o_about o_stack o_seen o_begin o_gap o_text_n o_text o_draft_n o_draft)) (kX7_must l D cA h_o o_thrown o_side o_heights o_targets o_kept o_radius o_feeds (.ref h_o_text) o_size o_at o_fault o_program (.ref h_o_draft) o_statements o_hasProgram o_hasRun o_where o_tool o_about o_stack o_seen o_begin o_gap s_23 N r2 er2) ivX7_85 ⟨rfl, rfl⟩ ⟨by decide, by decide⟩ rfl ⟨Nat.zero_le _, Nat.zero_le _⟩ rfl rfl [0] rfl (by decide) rfl rfl rfl (Nat.le_of_ble_eq_true rfl) dX7_statement_23 ?_
    refine z_iconst (pc := 26) (v := 1) dX7_statement_26 (by decide) ?_
    refine z_istore_n (pc := 27) (lv' := [(3, .int 1), (2, .int r1), (0, .ref h_o), (1, .int a1)]) dX7_statement_27 (by decide) rfl ?_
    obtain ⟨y28, hf0_28, hf0⟩ := bp hf0
    have lp28 : ∀ (n : Nat) (x3_28 : Int32) (o_draft_28 : Nat → Int32), LX7_statement_28 a1 o_draft_n n x3_28 o_draft_28 = some y28 → V κ false l D cA rmX7_statement cX7_statement 6 RX7 (none) 0 0 28 [(2, .int r1), (0, .ref h_o), (1, .int a1), (3, .int x3_28)] [] (wsX7_statement cA h_o h_o_text h_o_draft o_thrown o_side o_heights o_targets o_kept o_radius o_feeds o_size r2.1 r2.2 o_program o_statements o_hasProgram o_hasRun o_where o_tool o_about o_stack o_seen o_begin o_gap o_text_n o_text o_draft_n o_draft_28) := by
      intro n
      induction n with
      | zero => intro x3_28 o_draft_28 hf0_28; rw [LX7_statement_28] at hf0_28; cases hf0_28
      | succ n28 ih28 =>
        intro x3_28 o_draft_28 hf0_28
        rw [LX7_statement_28] at hf0_28
        refine z_iload_n 3 (pc := 28) dX7_statement_28 rfl ?_
        refine z_iconst (pc := 29) (v := 5) dX7_statement_29 (by decide) ?_
        refine z_icmp_ge (pc := 30) (tgt := 50) dX7_statement_30 (by decide) hf0_28 (fun hf0_28 => ?_) (fun hf0_28 => ?_)
        · obtain rfl := Option.some.inj hf0_28
          refine z_iload_n 0 (pc := 50) dX7_statement_50 rfl ?_
          refine z_bipush (pc := 51) (v := 84) dX7_statement_51 (by decide) ?_
          have j206 : ∀ (o_at_206 : Int32) (o_draft_206 : Nat → Int32) (o_fault_206 : Int32), JX7_statement_206 N o_size o_text_n o_text o_at_206 o_draft_206 o_fault_206 = some res → V κ false l D cA rmX7_statement cX7_statement 6 RX7 (none) 0 0 206 [(2, .int r1), (0, .ref h_o), (1, .int a1)] [] (wsX7_statement cA h_o h_o_text h_o_draft o_thrown o_side o_heights o_targets o_kept o_radius o_feeds o_size o_at_206 o_fault_206 o_program o_statements o_hasProgram o_hasRun o_where o_tool o_about o_stack o_seen o_begin o_gap o_text_n o_text o_draft_n o_draft_206) := by
            intro o_at_206 o_draft_206 o_fault_206 hf0
            rw [JX7_statement_206] at hf0
            refine z_aload_n 1 (pc := 206) dX7_statement_206 rfl ?_
            refine z_aload_n 1 (pc := 207) dX7_statement_207 rfl ?_
            obtain ⟨r4, er4, hf0⟩ := bp hf0
            refine z_calliV (pc := 208) (As := []) (rest := [.ref h_o]) (ws' := (wsX7_statement cA h_o h_o_text h_o_draft o_thrown o_side o_heights o_targets o_kept o_radius o_feeds o_size o_at_206 o_fault_206 o_program o_statements o_hasProgram o_hasRun o_where o_tool o_about o_stack o_seen o_begin o_gap o_text_n o_text o_draft_n o_draft_206)) (kX7_now l D cA h_o h_o_text o_thrown o_side o_heights o_targets o_kept o_radius o_feeds o_size o_at_206 o_fault_206 o_program (.ref h_o_draft) o_statements o_hasProgram o_hasRun o_where o_tool o_about o_stack o_seen o_begin o_gap o_text_n o_text  N r4 er4) ivX7_81 ⟨rfl, rfl⟩ ⟨by decide, by decide⟩ rfl ⟨Nat.zero_le _, Nat.zero_le _⟩ rfl rfl [0, 1] rfl (by decide) rfl rfl rfl (Nat.le_of_ble_eq_true rfl) dX7_statement_208 ?_
            refine z_bipush (pc := 211) (v := 59) dX7_statement_211 (by decide) ?_
            refine z_icmp_ne (pc := 213) (tgt := 220) dX7_statement_213 (by decide) hf0 (fun hf0 => ?_) (fun hf0 => ?_)
            · refine z_iconst (pc := 220) (v := 0) dX7_statement_220 (by decide) ?_
              obtain ⟨r5, er5, hf0⟩ := bp hf0
              refine z_callvV (pc := 221) (As := [.int 0]) (rest := []) (ws' := (wsX7_statement cA h_o h_o_text h_o_draft o_thrown o_side o_heights o_targets o_kept o_radius o_feeds o_size r5.1 r5.2 o_program o_statements o_hasProgram o_hasRun o_where o_tool o_about o_stack o_seen o_begin o_gap o_text_n o_text o_draft_n o_draft_206)) (kX7_must l D cA h_o o_thrown o_side o_heights o_targets o_kept o_radius o_feeds (.ref h_o_text) o_size o_at_206 o_fault_206 o_program (.ref h_o_draft) o_statements o_hasProgram o_hasRun o_where o_tool o_about o_stack o_seen o_begin o_gap 0 N r5 er5) ivX7_85 ⟨rfl, rfl⟩ ⟨by decide, by decide⟩ rfl ⟨Nat.zero_le _, Nat.zero_le _⟩ rfl rfl [0] rfl (by decide) rfl rfl rfl (Nat.le_of_ble_eq_true rfl) dX7_statement_221 ?_
              obtain rfl := Option.some.inj hf0
              exact z_vret hE dX7_statement_224
            · refine z_iconst (pc := 216) (v := 1) dX7_statement_216 (by decide) ?_
              refine z_goto (pc := 217) (tgt := 221) dX7_statement_217 (by decide) ?_
              obtain ⟨r6, er6, hf0⟩ := bp hf0
              refine z_callvV (pc := 221) (As := [.int 1]) (rest := []) (ws' := (wsX7_statement cA h_o h_o_text h_o_draft o_thrown o_side o_heights o_targets o_kept o_radius o_feeds o_size r6.1 r6.2 o_program o_statements o_hasProgram o_hasRun o_where o_tool o_about o_stack o_seen o_begin o_gap o_text_n o_text o_draft_n o_draft_206)) (kX7_must l D cA h_o o_thrown o_side o_heights o_targets o_kept o_radius o_feeds (.ref h_o_text) o_size o_at_206 o_fault_206 o_program (.ref h_o_draft) o_statements o_hasProgram o_hasRun o_where o_tool o_about o_stack o_seen o_begin o_gap 1 N r6 er6) ivX7_85 ⟨rfl, rfl⟩ ⟨by decide, by decide⟩ rfl ⟨Nat.zero_le _, Nat.zero_le _⟩ rfl rfl [0] rfl (by decide) rfl rfl rfl (Nat.le_of_ble_eq_true rfl) dX7_statement_221 ?_
              obtain rfl := Option.some.inj hf0
              exact z_vret hE dX7_statement_224
          refine z_icmp_ne (pc := 53) (tgt := 87) dX7_statement_53 (by decide) hf0 (fun hf0 => ?_) (fun hf0 => ?_)
          · refine z_aload_n 1 (pc := 87) dX7_statement_87 rfl ?_
            refine z_get 0 12 (pc := 88) (v := .ref h_o_draft) rfl rfl inX7 (by decide) flX7_32 rfl dX7_statement_88 ?_
            refine z_iconst (pc := 91) (v := 5) dX7_statement_91 (by decide) ?_
            refine z_iload_n 2 (pc := 92) dX7_statement_92 rfl ?_
            refine z_imul (pc := 93) dX7_statement_93 ?_
            refine z_aload_n 1 (pc := 94) dX7_statement_94 rfl ?_
            refine z_iconst (pc := 95) (v := 1) dX7_statement_95 (by decide) ?_
            obtain ⟨r7, er7, hf0⟩ := bp hf0
            refine z_calliV (pc := 96) (As := [.int 1]) (rest := [.int (5 * a1), .ref h_o_draft]) (ws' := (wsX7_statement cA h_o h_o_text h_o_draft o_thrown o_side o_heights o_targets o_kept o_radius o_feeds o_size r7.2.1 r7.2.2 o_program o_statements o_hasProgram o_hasRun o_where o_tool o_about o_stack o_seen o_begin o_gap o_text_n o_text o_draft_n o_draft_28)) (kX7_digit l D cA h_o h_o_text o_thrown o_side o_heights o_targets o_kept o_radius o_feeds o_size r2.1 r2.2 o_program (.ref h_o_draft) o_statements o_hasProgram o_hasRun o_where o_tool o_about o_stack o_seen o_begin o_gap o_text_n o_text 1 N r7 er7) ivX7_89 ⟨rfl, rfl⟩ ⟨by decide, by decide⟩ rfl ⟨Nat.zero_le _, Nat.zero_le _⟩ rfl rfl [0, 1] rfl (by decide) rfl rfl rfl (Nat.le_of_ble_eq_true rfl) dX7_statement_96 ?_
            refine z_iastore 2 0 (pc := 99) (ws' := (wsX7_statement cA h_o h_o_text h_o_draft o_thrown o_side o_heights o_targets o_kept o_radius o_feeds o_size r7.2.1 r7.2.2 o_program o_statements o_hasProgram o_hasRun o_where o_tool o_about o_stack o_seen o_begin o_gap o_text_n o_text o_draft_n (upd o_draft_28 (5 * a1).toNatClampNeg r7.1))) rfl rfl dX7_statement_99 rfl hf0 (fun hf0 => ?_)
            refine z_aload_n 1 (pc := 100) dX7_statement_100 rfl ?_
            obtain ⟨r8, er8, hf0⟩ := bp hf0
            refine z_callvV (pc := 101) (As := []) (rest := []) (ws' := (wsX7_statement cA h_o h_o_text h_o_draft o_thrown o_side o_heights o_targets o_kept o_radius o_feeds o_size r8 r7.2.2 o_program o_statements o_hasProgram o_hasRun o_where o_tool o_about o_stack o_seen o_begin o_gap o_text_n o_text o_draft_n (upd o_draft_28 (5 * a1).toNatClampNeg r7.1))) (kX7_spaces l D cA h_o h_o_text o_thrown o_side o_heights o_targets o_kept o_radius o_feeds o_size r7.2.1 r7.2.2 o_program (.ref h_o_draft) o_statements o_hasProgram o_hasRun o_where o_tool o_about o_stack o_seen o_begin o_gap o_text_n o_text  N r8 er8) ivX7_93 ⟨rfl, rfl⟩ ⟨by decide, by decide⟩ rfl ⟨Nat.zero_le _, Nat.zero_le _⟩ rfl rfl [0, 1] rfl (by decide) rfl rfl rfl (Nat.le_of_ble_eq_true rfl) dX7_statement_101 ?_
            refine z_iconst (pc := 104) (v := (-1)) dX7_statement_104 (by decide) ?_
            refine z_istore_n (pc := 105) (lv' := [(3, .int (-1)), (2, .int r1), (0, .ref h_o), (1, .int a1)]) dX7_statement_105 (by decide) rfl ?_
            obtain ⟨y106, hf0_106, hf0⟩ := bp hf0
            have lp106 : ∀ (n : Nat) (x3_106 : Int32) (o_at_106 : Int32) (o_draft_106 : Nat → Int32) (o_fault_106 : Int32), LX7_statement_106 N o_size o_text_n o_text a1 o_draft_n o_side n x3_106 o_at_106 o_draft_106 o_fault_106 = some y106 → V κ false l D cA rmX7_statement cX7_statement 6 RX7 (none) 0 0 106 [(2, .int r1), (0, .ref h_o), (1, .int a1), (3, .int x3_106)] [] (wsX7_statement cA h_o h_o_text h_o_draft o_thrown o_side o_heights o_targets o_kept o_radius o_feeds o_size o_at_106 o_fault_106 o_program o_statements o_hasProgram o_hasRun o_where o_tool o_about o_stack o_seen o_begin o_gap o_text_n o_text o_draft_n o_draft_106) := by
              intro n
              induction n with
              | zero => intro x3_106 o_at_106 o_draft_106 o_fault_106 hf0_106; rw [LX7_statement_106] at hf0_106; cases hf0_106
              | succ n106 ih106 =>
                intro x3_106 o_at_106 o_draft_106 o_fault_106 hf0_106
                rw [LX7_statement_106] at hf0_106
                refine z_aload_n 1 (pc := 106) dX7_statement_106 rfl ?_
                refine z_get 0 10 (pc := 107) (v := .int o_fault_106) rfl rfl inX7 (by decide) flX7_78 rfl dX7_statement_107 ?_
                refine z_iconst (pc := 110) (v := (-1)) dX7_statement_110 (by decide) ?_
                refine z_icmp_ne (pc := 111) (tgt := 206) dX7_statement_111 (by decide) hf0_106 (fun hf0_106 => ?_) (fun hf0_106 => ?_)
                · obtain rfl := Option.some.inj hf0_106
                  exact z_lv [0, 1, 2] rfl (j206 o_at_106 o_draft_106 o_fault_106 hf0)
                · refine z_iload_n 3 (pc := 114) dX7_statement_114 rfl ?_
                  refine z_iconst (pc := 115) (v := (-1)) dX7_statement_115 (by decide) ?_
                  have j128 : JX7_statement_128 (fun b0 b1 b2 b3 => LX7_statement_106 N o_size o_text_n o_text a1 o_draft_n o_side n106 b0 b1 b2 b3) N o_size o_at_106 o_text_n o_text x3_106 o_fault_106 a1 o_draft_n o_draft_106 o_side  = some y106 → V κ false l D cA rmX7_statement cX7_statement 6 RX7 (none) 0 0 128 [(2, .int r1), (0, .ref h_o), (1, .int a1), (3, .int x3_106)] [] (wsX7_statement cA h_o h_o_text h_o_draft o_thrown o_side o_heights o_targets o_kept o_radius o_feeds o_size o_at_106 o_fault_106 o_program o_statements o_hasProgram o_hasRun o_where o_tool o_about o_stack o_seen o_begin o_gap o_text_n o_text o_draft_n o_draft_106) := by
                    intro hf0_106
                    rw [JX7_statement_128] at hf0_106
                    refine z_aload_n 1 (pc := 128) dX7_statement_128 rfl ?_
                    obtain ⟨r10, er10, hf0_106⟩ := bp hf0_106
                    refine z_calliV (pc := 129) (As := []) (rest := []) (ws' := (wsX7_statement cA h_o h_o_text h_o_draft o_thrown o_side o_heights o_targets o_kept o_radius o_feeds o_size o_at_106 o_fault_106 o_program o_statements o_hasProgram o_hasRun o_where o_tool o_about o_stack o_seen o_begin o_gap o_text_n o_text o_draft_n o_draft_106)) (kX7_now l D cA h_o h_o_text o_thrown o_side o_heights o_targets o_kept o_radius o_feeds o_size o_at_106 o_fault_106 o_program (.ref h_o_draft) o_statements o_hasProgram o_hasRun o_where o_tool o_about o_stack o_seen o_begin o_gap o_text_n o_text  N r10 er10) ivX7_81 ⟨rfl, rfl⟩ ⟨by decide, by decide⟩ rfl ⟨Nat.zero_le _, Nat.zero_le _⟩ rfl rfl [0, 1] rfl (by decide) rfl rfl rfl (Nat.le_of_ble_eq_true rfl) dX7_statement_129 ?_
                    refine z_bipush (pc := 132) (v := 88) dX7_statement_132 (by decide) ?_
                    refine z_isub (pc := 134) dX7_statement_134 ?_
                    refine z_istore (pc := 135) (lv' := [(4, .int (r10 - 88)), (2, .int r1), (0, .ref h_o), (1, .int a1), (3, .int x3_106)]) dX7_statement_135 (by decide) rfl ?_
                    refine z_aload_n 2 (pc := 137) dX7_statement_137 rfl ?_
                    refine z_iload 0 (pc := 138) dX7_statement_138 rfl ?_
                    refine z_iload_n 4 (pc := 140) dX7_statement_140 rfl ?_
                    refine z_iconst (pc := 141) (v := 1) dX7_statement_141 (by decide) ?_
                    refine z_iadd (pc := 142) dX7_statement_142 ?_
                    refine z_iconst (pc := 143) (v := 2) dX7_statement_143 (by decide) ?_
                    obtain ⟨r11, er11, hf0_106⟩ := bp hf0_106
                    refine z_calliS (pc := 144) (As := [.int (r10 - 88), .int (x3_106 + 1), .int 2]) (rest := [.ref h_o]) (ws' := (wsX7_statement cA h_o h_o_text h_o_draft o_thrown o_side o_heights o_targets o_kept o_radius o_feeds o_size o_at_106 o_fault_106 o_program o_statements o_hasProgram o_hasRun o_where o_tool o_about o_stack o_seen o_begin o_gap o_text_n o_text o_draft_n o_draft_106)) (kX7_isIn l D cA   (r10 - 88) (x3_106 + 1) 2 N r11 er11) ivX7_60 ⟨rfl, rfl⟩ ⟨by decide, by decide⟩ rfl ⟨Nat.zero_le _, Nat.zero_le _⟩ [] rfl (by decide) rfl rfl rfl (Nat.le_of_ble_eq_true rfl) dX7_statement_144 ?_
                    obtain ⟨r12, er12, hf0_106⟩ := bp hf0_106
                    refine z_callvV (pc := 147) (As := [.int r11]) (rest := []) (ws' := (wsX7_statement cA h_o h_o_text h_o_draft o_thrown o_side o_heights o_targets o_kept o_radius o_feeds o_size r12.1 r12.2 o_program o_statements o_hasProgram o_hasRun o_where o_tool o_about o_stack o_seen o_begin o_gap o_text_n o_text o_draft_n o_draft_106)) (kX7_must l D cA h_o o_thrown o_side o_heights o_targets o_kept o_radius o_feeds (.ref h_o_text) o_size o_at_106 o_fault_106 o_program (.ref h_o_draft) o_statements o_hasProgram o_hasRun o_where o_tool o_about o_stack o_seen o_begin o_gap r11 N r12 er12) ivX7_85 ⟨rfl, rfl⟩ ⟨by decide, by decide⟩ rfl ⟨Nat.zero_le _, Nat.zero_le _⟩ rfl rfl [0] rfl (by decide) rfl rfl rfl (Nat.le_of_ble_eq_true rfl) dX7_statement_147 ?_
                    refine z_aload_n 2 (pc := 150) dX7_statement_150 rfl ?_
                    refine z_iload 0 (pc := 151) dX7_statement_151 rfl ?_
                    refine z_iconst (pc := 153) (v := 2) dX7_statement_153 (by decide) ?_
                    have j168 : ∀ (s_168 : Int32), JX7_statement_168 (fun b0 b1 b2 b3 => LX7_statement_106 N o_size o_text_n o_text a1 o_draft_n o_side n106 b0 b1 b2 b3) N o_size r12 o_text_n o_text a1 (r10 - 88) o_draft_n o_draft_106 x3_106 s_168 = some y106 → V κ false l D cA rmX7_statement cX7_statement 6 RX7 (none) 0 0 168 [(4, .int (r10 - 88)), (2, .int r1), (0, .ref h_o), (1, .int a1), (3, .int x3_106)] [.int s_168, .ref h_o] (wsX7_statement cA h_o h_o_text h_o_draft o_thrown o_side o_heights o_targets o_kept o_radius o_feeds o_size r12.1 r12.2 o_program o_statements o_hasProgram o_hasRun o_where o_tool o_about o_stack o_seen o_begin o_gap o_text_n o_text o_draft_n o_draft_106) := by
                      intro s_168 hf0_106
                      rw [JX7_statement_168] at hf0_106
                      obtain ⟨r14, er14, hf0_106⟩ := bp hf0_106
                      refine z_calliV (pc := 168) (As := [.int s_168]) (rest := []) (ws' := (wsX7_statement cA h_o h_o_text h_o_draft o_thrown o_side o_heights o_targets o_kept o_radius o_feeds o_size r14.2.1 r14.2.2 o_program o_statements o_hasProgram o_hasRun o_where o_tool o_about o_stack o_seen o_begin o_gap o_text_n o_text o_draft_n o_draft_106)) (kX7_number l D cA h_o h_o_text o_thrown o_side o_heights o_targets o_kept o_radius o_feeds o_size r12.1 r12.2 o_program (.ref h_o_draft) o_statements o_hasProgram o_hasRun o_where o_tool o_about o_stack o_seen o_begin o_gap o_text_n o_text s_168 N r14 er14) ivX7_96 ⟨rfl, rfl⟩ ⟨by decide, by decide⟩ rfl ⟨Nat.zero_le _, Nat.zero_le _⟩ rfl rfl [0, 1] rfl (by decide) rfl rfl rfl (Nat.le_of_ble_eq_true rfl) dX7_statement_168 ?_
                      refine z_istore (pc := 171) (lv' := [(5, .int r14.1), (4, .int (r10 - 88)), (2, .int r1), (0, .ref h_o), (1, .int a1), (3, .int x3_106)]) dX7_statement_171 (by decide) rfl ?_
                      refine z_aload_n 3 (pc := 173) dX7_statement_173 rfl ?_
                      refine z_get 0 10 (pc := 174) (v := .int r14.2.2) rfl rfl inX7 (by decide) flX7_78 rfl dX7_statement_174 ?_
                      refine z_iconst (pc := 177) (v := (-1)) dX7_statement_177 (by decide) ?_
                      refine z_icmp_ne (pc := 178) (tgt := 199) dX7_statement_178 (by decide) hf0_106 (fun hf0_106 => ?_) (fun hf0_106 => ?_)
                      · refine z_aload_n 3 (pc := 199) dX7_statement_199 rfl ?_
                        obtain ⟨r15, er15, hf0_106⟩ := bp hf0_106
                        refine z_callvV (pc := 200) (As := []) (rest := []) (ws' := (wsX7_statement cA h_o h_o_text h_o_draft o_thrown o_side o_heights o_targets o_kept o_radius o_feeds o_size r15 r14.2.2 o_program o_statements o_hasProgram o_hasRun o_where o_tool o_about o_stack o_seen o_begin o_gap o_text_n o_text o_draft_n o_draft_106)) (kX7_spaces l D cA h_o h_o_text o_thrown o_side o_heights o_targets o_kept o_radius o_feeds o_size r14.2.1 r14.2.2 o_program (.ref h_o_draft) o_statements o_hasProgram o_hasRun o_where o_tool o_about o_stack o_seen o_begin o_gap o_text_n o_text  N r15 er15) ivX7_93 ⟨rfl, rfl⟩ ⟨by decide, by decide⟩ rfl ⟨Nat.zero_le _, Nat.zero_le _⟩ rfl rfl [0, 1] rfl (by decide) rfl rfl rfl (Nat.le_of_ble_eq_true rfl) dX7_statement_200 ?_
                        refine z_goto (pc := 203) (tgt := 106) dX7_statement_203 (by decide) ?_
                        exact z_lv [2, 3, 4, 5] rfl (ih106 x3_106 r15 o_draft_106 r14.2.2 hf0_106)
                      · refine z_aload_n 3 (pc := 181) dX7_statement_181 rfl ?_
                        refine z_get 0 12 (pc := 182) (v := .ref h_o_draft) rfl rfl inX7 (by decide) flX7_32 rfl dX7_statement_182 ?_
                        refine z_iconst (pc := 185) (v := 5) dX7_statement_185 (by decide) ?_
                        refine z_iload_n 4 (pc := 186) dX7_statement_186 rfl ?_
                        refine z_imul (pc := 187) dX7_statement_187 ?_
                        refine z_iconst (pc := 188) (v := 1) dX7_statement_188 (by decide) ?_
                        refine z_iadd (pc := 189) dX7_statement_189 ?_
                        refine z_iload 1 (pc := 190) dX7_statement_190 rfl ?_
                        refine z_iadd (pc := 192) dX7_statement_192 ?_
                        refine z_iload 0 (pc := 193) dX7_statement_193 rfl ?_
                        refine z_iastore 2 0 (pc := 195) (ws' := (wsX7_statement cA h_o h_o_text h_o_draft o_thrown o_side o_heights o_targets o_kept o_radius o_feeds o_size r14.2.1 r14.2.2 o_program o_statements o_hasProgram o_hasRun o_where o_tool o_about o_stack o_seen o_begin o_gap o_text_n o_text o_draft_n (upd o_draft_106 (((5 * a1) + 1) + (r10 - 88)).toNatClampNeg r14.1))) rfl rfl dX7_statement_195 rfl hf0_106 (fun hf0_106 => ?_)
                        refine z_iload 1 (pc := 196) dX7_statement_196 rfl ?_
                        refine z_istore_n (pc := 198) (lv' := [(3, .int (r10 - 88)), (5, .int r14.1), (4, .int (r10 - 88)), (2, .int r1), (0, .ref h_o), (1, .int a1)]) dX7_statement_198 (by decide) rfl ?_
                        refine z_aload_n 4 (pc := 199) dX7_statement_199 rfl ?_
                        obtain ⟨r16, er16, hf0_106⟩ := bp hf0_106
                        refine z_callvV (pc := 200) (As := []) (rest := []) (ws' := (wsX7_statement cA h_o h_o_text h_o_draft o_thrown o_side o_heights o_targets o_kept o_radius o_feeds o_size r16 r14.2.2 o_program o_statements o_hasProgram o_hasRun o_where o_tool o_about o_stack o_seen o_begin o_gap o_text_n o_text o_draft_n (upd o_draft_106 (((5 * a1) + 1) + (r10 - 88)).toNatClampNeg r14.1))) (kX7_spaces l D cA h_o h_o_text o_thrown o_side o_heights o_targets o_kept o_radius o_feeds o_size r14.2.1 r14.2.2 o_program (.ref h_o_draft) o_statements o_hasProgram o_hasRun o_where o_tool o_about o_stack o_seen o_begin o_gap o_text_n o_text  N r16 er16) ivX7_93 ⟨rfl, rfl⟩ ⟨by decide, by decide⟩ rfl ⟨Nat.zero_le _, Nat.zero_le _⟩ rfl rfl [0, 1] rfl (by decide) rfl rfl rfl (Nat.le_of_ble_eq_true rfl) dX7_statement_200 ?_
                        refine z_goto (pc := 203) (tgt := 106) dX7_statement_203 (by decide) ?_
                        exact z_lv [3, 4, 5, 0] rfl (ih106 (r10 - 88) r16 (upd o_draft_106 (((5 * a1) + 1) + (r10 - 88)).toNatClampNeg r14.1) r14.2.2 hf0_106)
                    refine z_icmp_ne (pc := 154) (tgt := 162) dX7_statement_154 (by decide) hf0_106 (fun hf0_106 => ?_) (fun hf0_106 => ?_)
                    · refine z_aload_n 2 (pc := 162) dX7_statement_162 rfl ?_
                      refine z_get 0 1 (pc := 163) (v := .int o_side) rfl rfl inX7 (by decide) flX7_53 rfl dX7_statement_163 ?_
                      refine z_iconst (pc := 166) (v := 1) dX7_statement_166 (by decide) ?_
                      refine z_isub (pc := 167) dX7_statement_167 ?_
                      exact z_lv [0, 1, 2, 3, 4] rfl (j168 (o_side - 1) hf0_106)
                    · refine z_bipush (pc := 157) (v := 100) dX7_statement_157 (by decide) ?_
                      refine z_goto (pc := 159) (tgt := 168) dX7_statement_159 (by decide) ?_
                      exact z_lv [0, 1, 2, 3, 4] rfl (j168 100 hf0_106)
                  refine z_icmp_eq (pc := 116) (tgt := 128) dX7_statement_116 (by decide) hf0_106 (fun hf0_106 => ?_) (fun hf0_106 => ?_)
                  · exact z_lv [0, 1, 2, 3] rfl (j128  hf0_106)
                  · refine z_aload_n 1 (pc := 119) dX7_statement_119 rfl ?_
                    obtain ⟨r17, er17, hf0_106⟩ := bp hf0_106
                    refine z_calliV (pc := 120) (As := []) (rest := []) (ws' := (wsX7_statement cA h_o h_o_text h_o_draft o_thrown o_side o_heights o_targets o_kept o_radius o_feeds o_size o_at_106 o_fault_106 o_program o_statements o_hasProgram o_hasRun o_where o_tool o_about o_stack o_seen o_begin o_gap o_text_n o_text o_draft_n o_draft_106)) (kX7_now l D cA h_o h_o_text o_thrown o_side o_heights o_targets o_kept o_radius o_feeds o_size o_at_106 o_fault_106 o_program (.ref h_o_draft) o_statements o_hasProgram o_hasRun o_where o_tool o_about o_stack o_seen o_begin o_gap o_text_n o_text  N r17 er17) ivX7_81 ⟨rfl, rfl⟩ ⟨by decide, by decide⟩ rfl ⟨Nat.zero_le _, Nat.zero_le _⟩ rfl rfl [0, 1] rfl (by decide) rfl rfl rfl (Nat.le_of_ble_eq_true rfl) dX7_statement_120 ?_
                    refine z_bipush (pc := 123) (v := 59) dX7_statement_123 (by decide) ?_
                    refine z_icmp_eq (pc := 125) (tgt := 206) dX7_statement_125 (by decide) hf0_106 (fun hf0_106 => ?_) (fun hf0_106 => ?_)
                    · obtain rfl := Option.some.inj hf0_106
                      exact z_lv [0, 1, 2] rfl (j206 o_at_106 o_draft_106 o_fault_106 hf0)
                    · exact z_lv [0, 1, 2, 3] rfl (j128  hf0_106)
            exact z_lv [1, 2, 3, 0] rfl (lp106 N (-1) r8 (upd o_draft_28 (5 * a1).toNatClampNeg r7.1) r7.2.2 hf0_106)
          · refine z_aload_n 1 (pc := 56) dX7_statement_56 rfl ?_
            refine z_get 0 12 (pc := 57) (v := .ref h_o_draft) rfl rfl inX7 (by decide) flX7_32 rfl dX7_statement_57 ?_
            refine z_iconst (pc := 60) (v := 5) dX7_statement_60 (by decide) ?_
            refine z_iload_n 2 (pc := 61) dX7_statement_61 rfl ?_
            refine z_imul (pc := 62) dX7_statement_62 ?_
            refine z_iconst (pc := 63) (v := 2) dX7_statement_63 (by decide) ?_
            refine z_iastore 2 0 (pc := 64) (ws' := (wsX7_statement cA h_o h_o_text h_o_draft o_thrown o_side o_heights o_targets o_kept o_radius o_feeds o_size r2.1 r2.2 o_program o_statements o_hasProgram o_hasRun o_where o_tool o_about o_stack o_seen o_begin o_gap o_text_n o_text o_draft_n (upd o_draft_28 (5 * a1).toNatClampNeg 2))) rfl rfl dX7_statement_64 rfl hf0 (fun hf0 => ?_)
            refine z_aload_n 1 (pc := 65) dX7_statement_65 rfl ?_
            refine z_get 0 12 (pc := 66) (v := .ref h_o_draft) rfl rfl inX7 (by decide) flX7_32 rfl dX7_statement_66 ?_
            refine z_iconst (pc := 69) (v := 5) dX7_statement_69 (by decide) ?_
            refine z_iload_n 2 (pc := 70) dX7_statement_70 rfl ?_
            refine z_imul (pc := 71) dX7_statement_71 ?_
            refine z_iconst (pc := 72) (v := 4) dX7_statement_72 (by decide) ?_
            refine z_iadd (pc := 73) dX7_statement_73 ?_
            refine z_aload_n 1 (pc := 74) dX7_statement_74 rfl ?_
            refine z_iconst (pc := 75) (v := 3) dX7_statement_75 (by decide) ?_
            obtain ⟨r18, er18, hf0⟩ := bp hf0
            refine z_calliV (pc := 76) (As := [.int 3]) (rest := [.int ((5 * a1) + 4), .ref h_o_draft]) (ws' := (wsX7_statement cA h_o h_o_text h_o_draft o_thrown o_side o_heights o_targets o_kept o_radius o_feeds o_size r18.2.1 r18.2.2 o_program o_statements o_hasProgram o_hasRun o_where o_tool o_about o_stack o_seen o_begin o_gap o_text_n o_text o_draft_n (upd o_draft_28 (5 * a1).toNatClampNeg 2))) (kX7_digit l D cA h_o h_o_text o_thrown o_side o_heights o_targets o_kept o_radius o_feeds o_size r2.1 r2.2 o_program (.ref h_o_draft) o_statements o_hasProgram o_hasRun o_where o_tool o_about o_stack o_seen o_begin o_gap o_text_n o_text 3 N r18 er18) ivX7_89 ⟨rfl, rfl⟩ ⟨by decide, by decide⟩ rfl ⟨Nat.zero_le _, Nat.zero_le _⟩ rfl rfl [0, 1] rfl (by decide) rfl rfl rfl (Nat.le_of_ble_eq_true rfl) dX7_statement_76 ?_
            refine z_iastore 2 0 (pc := 79) (ws' := (wsX7_statement cA h_o h_o_text h_o_draft o_thrown o_side o_heights o_targets o_kept o_radius o_feeds o_size r18.2.1 r18.2.2 o_program o_statements o_hasProgram o_hasRun o_where o_tool o_about o_stack o_seen o_begin o_gap o_text_n o_text o_draft_n (upd (upd o_draft_28 (5 * a1).toNatClampNeg 2) ((5 * a1) + 4).toNatClampNeg r18.1))) rfl rfl dX7_statement_79 rfl hf0 (fun hf0 => ?_)
            refine z_aload_n 1 (pc := 80) dX7_statement_80 rfl ?_
            obtain ⟨r19, er19, hf0⟩ := bp hf0
            refine z_callvV (pc := 81) (As := []) (rest := []) (ws' := (wsX7_statement cA h_o h_o_text h_o_draft o_thrown o_side o_heights o_targets o_kept o_radius o_feeds o_size r19 r18.2.2 o_program o_statements o_hasProgram o_hasRun o_where o_tool o_about o_stack o_seen o_begin o_gap o_text_n o_text o_draft_n (upd (upd o_draft_28 (5 * a1).toNatClampNeg 2) ((5 * a1) + 4).toNatClampNeg r18.1))) (kX7_spaces l D cA h_o h_o_text o_thrown o_side o_heights o_targets o_kept o_radius o_feeds o_size r18.2.1 r18.2.2 o_program (.ref h_o_draft) o_statements o_hasProgram o_hasRun o_where o_tool o_about o_stack o_seen o_begin o_gap o_text_n o_text  N r19 er19) ivX7_93 ⟨rfl, rfl⟩ ⟨by decide, by decide⟩ rfl ⟨Nat.zero_le _, Nat.zero_le _⟩ rfl rfl [0, 1] rfl (by decide) rfl rfl rfl (Nat.le_of_ble_eq_true rfl) dX7_statement_81 ?_
            refine z_goto (pc := 84) (tgt := 206) dX7_statement_84 (by decide) ?_
            exact z_lv [0, 1, 2] rfl (j206 r19 (upd (upd o_draft_28 (5 * a1).toNatClampNeg 2) ((5 * a1) + 4).toNatClampNeg r18.1) r18.2.2 hf0)
        · refine z_aload_n 1 (pc := 33) dX7_statement_33 rfl ?_
          refine z_get 0 12 (pc := 34) (v := .ref h_o_draft) rfl rfl inX7 (by decide) flX7_32 rfl dX7_statement_34 ?_
          refine z_iconst (pc := 37) (v := 5) dX7_statement_37 (by decide) ?_
          refine z_iload_n 2 (pc := 38) dX7_statement_38 rfl ?_
          refine z_imul (pc := 39) dX7_statement_39 ?_
          refine z_iload_n 3 (pc := 40) dX7_statement_40 rfl ?_
          refine z_iadd (pc := 41) dX7_statement_41 ?_
          refine z_iconst (pc := 42) (v := (-1)) dX7_statement_42 (by decide) ?_
          refine z_iastore 2 0 (pc := 43) (ws' := (wsX7_statement cA h_o h_o_text h_o_draft o_thrown o_side o_heights o_targets o_kept o_radius o_feeds o_size r2.1 r2.2 o_program o_statements o_hasProgram o_hasRun o_where o_tool o_about o_stack o_seen o_begin o_gap o_text_n o_text o_draft_n (upd o_draft_28 ((5 * a1) + x3_28).toNatClampNeg (-1)))) rfl rfl dX7_statement_43 rfl hf0_28 (fun hf0_28 => ?_)
          refine z_iinc 3 (pc := 44) (v := x3_28 + 1) (lv' := [(3, .int (x3_28 + 1)), (2, .int r1), (0, .ref h_o), (1, .int a1)]) dX7_statement_44 rfl rfl (by decide) rfl ?_
          refine z_goto (pc := 47) (tgt := 28) dX7_statement_47 (by decide) ?_
          exact z_lv [1, 2, 3, 0] rfl (ih28 (x3_28 + 1) (upd o_draft_28 ((5 * a1) + x3_28).toNatClampNeg (-1)) hf0_28)
    exact z_lv [1, 2, 3, 0] rfl (lp28 N 1 o_draft hf0_28)
  have j18 : JX7_statement_18 N o_at o_fault a1 o_draft_n o_draft r1 o_size o_text_n o_text o_side  = some res → V κ false l D cA rmX7_statement cX7_statement 6 RX7 (none) 0 0 18 [(2, .int r1), (0, .ref h_o), (1, .int a1)] [.ref h_o] (wsX7_statement cA h_o h_o_text h_o_draft o_thrown o_side o_heights o_targets o_kept o_radius o_feeds o_size o_at o_fault o_program o_statements o_hasProgram o_hasRun o_where o_tool o_about o_stack o_seen o_begin o_gap o_text_n o_text o_draft_n o_draft) := by
    intro hf0
    rw [JX7_statement_18] at hf0
    refine z_iconst (pc := 18) (v := 1) dX7_statement_18 (by decide) ?_
    refine z_goto (pc := 19) (tgt := 23) dX7_statement_19 (by decide) ?_
    exact z_lv [0, 1, 2] rfl (j23 1 hf0)
  refine z_icmp_eq (pc := 9) (tgt := 18) dX7_statement_9 (by decide) hf0 (fun hf0 => ?_) (fun hf0 => ?_)
  · exact z_lv [0, 1, 2] rfl (j18  hf0)
  · refine z_iload_n 0 (pc := 12) dX7_statement_12 rfl ?_
    refine z_bipush (pc := 13) (v := 71) dX7_statement_13 (by decide) ?_
    refine z_icmp_ne (pc := 15) (tgt := 22) dX7_statement_15 (by decide) hf0 (fun hf0 => ?_) (fun hf0 => ?_)
    · refine z_iconst (pc := 22) (v := 0) dX7_statement_22 (by decide) ?_
      exact z_lv [0, 1, 2] rfl (j23 0 hf0)
    · exact z_lv [0, 1, 2] rfl (j18  hf0)

abbrev RX7_read : Type := Int32 × Int32 × Int32 × Int32 × Int32 × Int32 × Int32 × (Nat → Int32) × (Nat → Int32)
abbrev rmX7_read : Room := { frames := 4, cells := 0, slots := 0, locals := 93 }
abbrev wsX7_read (cA : Nat → ClassId) (h_o : Nat) (h_o_text : Nat) (h_o_draft : Nat) (h_o_program : Nat) (o_thrown : Int32) (o_side : Int32) (o_heights : Value) (o_targets : Value) (o_kept : Value) (o_radius : Value) (o_feeds : Value) (o_size : Int32) (o_at : Int32) (o_fault : Int32) (o_statements : Int32) (o_hasProgram : Int32) (o_hasRun : Int32) (o_where : Value) (o_tool : Int32) (o_about : Value) (o_stack : Value) (o_seen : Value) (o_begin : Value) (o_gap : Value) (o_text_n : Nat) (o_text : Nat → Int32) (o_draft_n : Nat) (o_draft : Nat → Int32) (o_program_n : Nat) (o_program : Nat → Int32) : va_W := [(h_o, .inr (7, [.int o_thrown, .int o_side, o_heights, o_targets, o_kept, o_radius, o_feeds, .ref h_o_text, .int o_size, .int o_at, .int o_fault, .ref h_o_program, .ref h_o_draft, .int o_statements, .int o_hasProgram, .int o_hasRun, o_where, .int o_tool, o_about, o_stack, o_seen, o_begin, o_gap])), (h_o_text, .inl (cA 0, o_text_n, .inl o_text)), (h_o_draft, .inl (cA 0, o_draft_n, .inl o_draft)), (h_o_program, .inl (cA 0, o_program_n, .inl o_program))]
def LX7_read_110 (o_draft_n : Nat) (o_program_n : Nat) (o_draft_61 : Nat → Int32) : Nat → Int32 → (Nat → Int32) → Option (Int32 × (Nat → Int32))
  | 0, _, _ => none
  | n + 1, x2_110, o_program_110 => (if 160 ≤ x2_110 then some (x2_110, o_program_110) else (if x2_110 < 0 ∨ o_draft_n ≤ x2_110.toNatClampNeg then none else (if x2_110 < 0 ∨ o_program_n ≤ x2_110.toNatClampNeg then none else LX7_read_110 o_draft_n o_program_n o_draft_61 n (x2_110 + 1) (upd o_program_110 x2_110.toNatClampNeg (o_draft_61 x2_110.toNatClampNeg)))))
def JX7_read_88 (o_draft_n : Nat) (o_program_n : Nat) (o_draft_61 : Nat → Int32) (N : Nat) (o_program : Nat → Int32) (x1_61 : Int32) (o_at_61 : Int32) (o_statements : Int32) (o_hasProgram : Int32) (o_fault_88 : Int32) : Option (RX7_read) :=
  (if o_fault_88 = (-1) then ((LX7_read_110 o_draft_n o_program_n o_draft_61 N 0 o_program).bind fun r2 => some (x1_61, 0, 0, o_at_61, o_fault_88, x1_61, 1, o_draft_61, r2.2)) else some ((-1) - o_fault_88, 0, 0, o_at_61, o_fault_88, o_statements, o_hasProgram, o_draft_61, o_program))
def JX7_read_61 (o_size : Int32) (o_draft_n : Nat) (o_program_n : Nat) (N : Nat) (o_program : Nat → Int32) (o_statements : Int32) (o_hasProgram : Int32) (x1_61 : Int32) (o_at_61 : Int32) (o_draft_61 : Nat → Int32) (o_fault_61 : Int32) : Option (RX7_read) :=
  (if o_fault_61 = (-1) then (if o_size ≤ o_at_61 then JX7_read_88 o_draft_n o_program_n o_draft_61 N o_program x1_61 o_at_61 o_statements o_hasProgram o_fault_61 else JX7_read_88 o_draft_n o_program_n o_draft_61 N o_program x1_61 o_at_61 o_statements o_hasProgram o_at_61) else JX7_read_88 o_draft_n o_program_n o_draft_61 N o_program x1_61 o_at_61 o_statements o_hasProgram o_fault_61)
def JX7_read_40 (rec : Int32 → Int32 → (Nat → Int32) → Int32 → Option (Int32 × Int32 × (Nat → Int32) × Int32)) (x1_17 : Int32) (o_at_17 : Int32) (o_draft_17 : Nat → Int32) (o_fault_17 : Int32) (N : Nat) (o_size : Int32) (o_text_n : Nat) (o_text : Nat → Int32) (o_side : Int32) (o_draft_n : Nat)  : Option (Int32 × Int32 × (Nat → Int32) × Int32) :=
  (if 32 ≤ x1_17 then some (x1_17, o_at_17, o_draft_17, o_fault_17) else ((fX7_spaces N o_size o_at_17 o_fault_17 o_text_n o_text).bind fun r3 => ((fX7_statement N x1_17 o_side o_size r3 o_fault_17 o_text_n o_text o_draft_n o_draft_17).bind fun r4 => rec (x1_17 + 1) r4.1 r4.2.2 r4.2.1)))
def LX7_read_17 (N : Nat) (o_size : Int32) (o_text_n : Nat) (o_text : Nat → Int32) (o_side : Int32) (o_draft_n : Nat) : Nat → Int32 → Int32 → (Nat → Int32) → Int32 → Option (Int32 × Int32 × (Nat → Int32) × Int32)
  | 0, _, _, _, _ => none
  | n + 1, x1_17, o_at_17, o_draft_17, o_fault_17 => (if o_fault_17 = (-1) then (if x1_17 = 0 then JX7_read_40 (fun b0 b1 b2 b3 => LX7_read_17 N o_size o_text_n o_text o_side o_draft_n n b0 b1 b2 b3) x1_17 o_at_17 o_draft_17 o_fault_17 N o_size o_text_n o_text o_side o_draft_n  else (if o_size ≤ o_at_17 then some (x1_17, o_at_17, o_draft_17, o_fault_17) else JX7_read_40 (fun b0 b1 b2 b3 => LX7_read_17 N o_size o_text_n o_text o_side o_draft_n n b0 b1 b2 b3) x1_17 o_at_17 o_draft_17 o_fault_17 N o_size o_text_n o_text o_side o_draft_n )) else some (x1_17, o_at_17, o_draft_17, o_fault_17))
def fX7_read (N : Nat)  (o_thrown : Int32) (o_side : Int32) (o_size : Int32) (o_at : Int32) (o_fault : Int32) (o_statements : Int32) (o_hasProgram : Int32) (o_text_n : Nat) (o_text : Nat → Int32) (o_draft_n : Nat) (o_draft : Nat → Int32) (o_program_n : Nat) (o_program : Nat → Int32) : Option RX7_read :=
  ((LX7_read_17 N o_size o_text_n o_text o_side o_draft_n N 0 0 o_draft (-1)).bind fun r1 => JX7_read_61 o_size o_draft_n o_program_n N o_program o_statements o_hasProgram r1.1 r1.2.1 r1.2.2.1 r1.2.2.2)
set_option maxHeartbeats 4000000 in
set_option maxRecDepth 100000 in
theorem kX7_read (l : Launch) (D : va_G) (cA : Nat → ClassId) (h_o : Nat) (h_o_text : Nat) (h_o_draft : Nat) (h_o_program : Nat) (o_thrown : Int32) (o_side : Int32) (o_heights : Value) (o_targets : Value) (o_kept : Value) (o_radius : Value) (o_feeds : Value) (o_size : Int32) (o_at : Int32) (o_fault : Int32) (o_statements : Int32) (o_hasProgram : Int32) (o_hasRun : Int32) (o_where : Value) (o_tool : Int32) (o_about : Value) (o_stack : Value) (o_seen : Value) (o_begin : Value) (o_gap : Value) (o_text_n : Nat) (o_text : Nat → Int32) (o_draft_n : Nat) (o_draft : Nat → Int32) (o_program_n : Nat) (o_program : Nat → Int32)  (N : Nat) (res : RX7_read) (hf0 : fX7_read N o_thrown o_side o_size o_at o_fault o_statements o_hasProgram o_text_n o_text o_draft_n o_draft o_program_n o_program = some res) : CtI l yX7_read (Cond.code yX7_read cX7_read 3 (some .int) :: tblG) rmX7_read D cA (wsX7_read cA h_o h_o_text h_o_draft h_o_program o_thrown o_side o_heights o_targets o_kept o_radius o_feeds o_size o_at o_fault o_statements o_hasProgram o_hasRun o_where o_tool o_about o_stack o_seen o_begin o_gap o_text_n o_text o_draft_n o_draft o_program_n o_program) [.ref h_o] res.1 (wsX7_read cA h_o h_o_text h_o_draft h_o_program res.2.1 o_side o_heights o_targets o_kept o_radius o_feeds res.2.2.1 res.2.2.2.1 res.2.2.2.2.1 res.2.2.2.2.2.1 res.2.2.2.2.2.2.1 o_hasRun o_where o_tool o_about o_stack o_seen o_begin o_gap o_text_n o_text o_draft_n res.2.2.2.2.2.2.2.1 o_program_n res.2.2.2.2.2.2.2.2) := by
  refine CtI.start (lv := [(0, .ref h_o)]) (by decide) (Nat.le_of_ble_eq_true rfl) rfl (fun κ hE => ?_)
  rw [fX7_read] at hf0
  refine z_aload_n 0 (pc := 0) dX7_read_0 rfl ?_
  refine z_iconst (pc := 1) (v := 0) dX7_read_1 (by decide) ?_
  refine z_put 0 0 (pc := 2) (ws' := (wsX7_read cA h_o h_o_text h_o_draft h_o_program 0 o_side o_heights o_targets o_kept o_radius o_feeds o_size o_at o_fault o_statements o_hasProgram o_hasRun o_where o_tool o_about o_stack o_seen o_begin o_gap o_text_n o_text o_draft_n o_draft o_program_n o_program)) rfl rfl inX7 tyX7 tyX7_ok nmX7 (by decide) flX7_57 rfl rfl rfl rfl (Nat.le_of_ble_eq_true rfl) dX7_read_2 rfl ?_
  refine z_aload_n 0 (pc := 5) dX7_read_5 rfl ?_
  refine z_iconst (pc := 6) (v := 0) dX7_read_6 (by decide) ?_
  refine z_put 0 9 (pc := 7) (ws' := (wsX7_read cA h_o h_o_text h_o_draft h_o_program 0 o_side o_heights o_targets o_kept o_radius o_feeds o_size 0 o_fault o_statements o_hasProgram o_hasRun o_where o_tool o_about o_stack o_seen o_begin o_gap o_text_n o_text o_draft_n o_draft o_program_n o_program)) rfl rfl inX7 tyX7 tyX7_ok nmX7 (by decide) flX7_75 rfl rfl rfl rfl (Nat.le_of_ble_eq_true rfl) dX7_read_7 rfl ?_
  refine z_aload_n 0 (pc := 10) dX7_read_10 rfl ?_
  refine z_iconst (pc := 11) (v := (-1)) dX7_read_11 (by decide) ?_
  refine z_put 0 10 (pc := 12) (ws' := (wsX7_read cA h_o h_o_text h_o_draft h_o_program 0 o_side o_heights o_targets o_kept o_radius o_feeds o_size 0 (-1) o_statements o_hasProgram o_hasRun o_where o_tool o_about o_stack o_seen o_begin o_gap o_text_n o_text o_draft_n o_draft o_program_n o_program)) rfl rfl inX7 tyX7 tyX7_ok nmX7 (by decide) flX7_78 rfl rfl rfl rfl (Nat.le_of_ble_eq_true rfl) dX7_read_12 rfl ?_
  refine z_iconst (pc := 15) (v := 0) dX7_read_15 (by decide) ?_
  refine z_istore_n (pc := 16) (lv' := [(1, .int 0), (0, .ref h_o)]) dX7_read_16 (by decide) rfl ?_
  have j61 : ∀ (x1_61 : Int32) (o_at_61 : Int32) (o_draft_61 : Nat → Int32) (o_fault_61 : Int32), JX7_read_61 o_size o_draft_n o_program_n N o_program o_statements o_hasProgram x1_61 o_at_61 o_draft_61 o_fault_61 = some res → V κ false l D cA rmX7_read cX7_read 3 RX7 (some .int) 0 0 61 [(0, .ref h_o), (1, .int x1_61)] [] (wsX7_read cA h_o h_o_text h_o_draft h_o_program 0 o_side o_heights o_targets o_kept o_radius o_feeds o_size o_at_61 o_fault_61 o_statements o_hasProgram o_hasRun o_where o_tool o_about o_stack o_seen o_begin o_gap o_text_n o_text o_draft_n o_draft_61 o_program_n o_program) := by
    intro x1_61 o_at_61 o_draft_61 o_fault_61 hf0
    rw [JX7_read_61] at hf0
    refine z_aload_n 0 (pc := 61) dX7_read_61 rfl ?_
    refine z_get 0 10 (pc := 62) (v := .int o_fault_61) rfl rfl inX7 (by decide) flX7_78 rfl dX7_read_62 ?_
    refine z_iconst (pc := 65) (v := (-1)) dX7_read_65 (by decide) ?_
    have j88 : ∀ (o_fault_88 : Int32), JX7_read_88 o_draft_n o_program_n o_draft_61 N o_program x1_61 o_at_61 o_statements o_hasProgram o_fault_88 = some res → V κ false l D cA rmX7_read cX7_read 3 RX7 (some .int) 0 0 88 [(0, .ref h_o), (1, .int x1_61)] [] (wsX7_read cA h_o h_o_text h_o_draft h_o_program 0 o_side o_heights o_targets o_kept o_radius o_feeds o_size o_at_61 o_fault_88 o_statements o_hasProgram o_hasRun o_where o_tool o_about o_stack o_seen o_begin o_gap o_text_n o_text o_draft_n o_draft_61 o_program_n o_program) := by
      intro o_fault_88 hf0
      rw [JX7_read_88] at hf0
      refine z_aload_n 0 (pc := 88) dX7_read_88 rfl ?_
      refine z_iconst (pc := 89) (v := 0) dX7_read_89 (by decide) ?_
      refine z_put 0 8 (pc := 90) (ws' := (wsX7_read cA h_o h_o_text h_o_draft h_o_program 0 o_side o_heights o_targets o_kept o_radius o_feeds 0 o_at_61 o_fault_88 o_statements o_hasProgram o_hasRun o_where o_tool o_about o_stack o_seen o_begin o_gap o_text_n o_text o_draft_n o_draft_61 o_program_n o_program)) rfl rfl inX7 tyX7 tyX7_ok nmX7 (by decide) flX7_72 rfl rfl rfl rfl (Nat.le_of_ble_eq_true rfl) dX7_read_90 rfl ?_
      refine z_aload_n 0 (pc := 93) dX7_read_93 rfl ?_
      refine z_get 0 10 (pc := 94) (v := .int o_fault_88) rfl rfl inX7 (by decide) flX7_78 rfl dX7_read_94 ?_
      refine z_iconst (pc := 97) (v := (-1)) dX7_read_97 (by decide) ?_
      refine z_icmp_eq (pc := 98) (tgt := 108) dX7_read_98 (by decide) hf0 (fun hf0 => ?_) (fun hf0 => ?_)
      · refine z_iconst (pc := 108) (v := 0) dX7_read_108 (by decide) ?_
        refine z_istore_n (pc := 109) (lv' := [(2, .int 0), (0, .ref h_o), (1, .int x1_61)]) dX7_read_109 (by decide) rfl ?_
        obtain ⟨y110, hf0_110, hf0⟩ := bp hf0
        have lp110 : ∀ (n : Nat) (x2_110 : Int32) (o_program_110 : Nat → Int32), LX7_read_110 o_draft_n o_program_n o_draft_61 n x2_110 o_program_110 = some y110 → V κ false l D cA rmX7_read cX7_read 3 RX7 (some .int) 0 0 110 [(0, .ref h_o), (1, .int x1_61), (2, .int x2_110)] [] (wsX7_read cA h_o h_o_text h_o_draft h_o_program 0 o_side o_heights o_targets o_kept o_radius o_feeds 0 o_at_61 o_fault_88 o_statements o_hasProgram o_hasRun o_where o_tool o_about o_stack o_seen o_begin o_gap o_text_n o_text o_draft_n o_draft_61 o_program_n o_program_110) := by
          intro n
          induction n with
          | zero => intro x2_110 o_program_110 hf0_110; rw [LX7_read_110] at hf0_110; cases hf0_110
          | succ n110 ih110 =>
            intro x2_110 o_program_110 hf0_110
            rw [LX7_read_110] at hf0_110
            refine z_iload_n 2 (pc := 110) dX7_read_110 rfl ?_
            refine z_sipush (pc := 111) (v := 160) dX7_read_111 (by decide) ?_
            refine z_icmp_ge (pc := 114) (tgt := 135) dX7_read_114 (by decide) hf0_110 (fun hf0_110 => ?_) (fun hf0_110 => ?_)
            · obtain rfl := Option.some.inj hf0_110
              refine z_aload_n 0 (pc := 135) dX7_read_135 rfl ?_
              refine z_iload_n 1 (pc := 136) dX7_read_136 rfl ?_
              refine z_put 0 13 (pc := 137) (ws' := (wsX7_read cA h_o h_o_text h_o_draft h_o_program 0 o_side o_heights o_targets o_kept o_radius o_feeds 0 o_at_61 o_fault_88 x1_61 o_hasProgram o_hasRun o_where o_tool o_about o_stack o_seen o_begin o_gap o_text_n o_text o_draft_n o_draft_61 o_program_n o_program_110)) rfl rfl inX7 tyX7 tyX7_ok nmX7 (by decide) flX7_103 rfl rfl rfl rfl (Nat.le_of_ble_eq_true rfl) dX7_read_137 rfl ?_
              refine z_aload_n 0 (pc := 140) dX7_read_140 rfl ?_
              refine z_iconst (pc := 141) (v := 1) dX7_read_141 (by decide) ?_
              refine z_put 0 14 (pc := 142) (ws' := (wsX7_read cA h_o h_o_text h_o_draft h_o_program 0 o_side o_heights o_targets o_kept o_radius o_feeds 0 o_at_61 o_fault_88 x1_61 1 o_hasRun o_where o_tool o_about o_stack o_seen o_begin o_gap o_text_n o_text o_draft_n o_draft_61 o_program_n o_program_110)) rfl rfl inX7 tyX7 tyX7_ok nmX7 (by decide) flX7_106 rfl rfl (by decide) rfl (Nat.le_of_ble_eq_true rfl) dX7_read_142 rfl ?_
              refine z_iload_n 1 (pc := 145) dX7_read_145 rfl ?_
              obtain rfl := Option.some.inj hf0
              exact z_iret hE dX7_read_146
            · refine z_aload_n 0 (pc := 117) dX7_read_117 rfl ?_
              refine z_get 0 11 (pc := 118) (v := .ref h_o_program) rfl rfl inX7 (by decide) flX7_29 rfl dX7_read_118 ?_
              refine z_iload_n 2 (pc := 121) dX7_read_121 rfl ?_
              refine z_aload_n 0 (pc := 122) dX7_read_122 rfl ?_
              refine z_get 0 12 (pc := 123) (v := .ref h_o_draft) rfl rfl inX7 (by decide) flX7_32 rfl dX7_read_123 ?_
              refine z_iload_n 2 (pc := 126) dX7_read_126 rfl ?_
              refine z_iaload 2 0 (pc := 127) rfl rfl dX7_read_127 hf0_110 (fun hf0_110 => ?_)
              refine z_iastore 3 0 (pc := 128) (ws' := (wsX7_read cA h_o h_o_text h_o_draft h_o_program 0 o_side o_heights o_targets o_kept o_radius o_feeds 0 o_at_61 o_fault_88 o_statements o_hasProgram o_hasRun o_where o_tool o_about o_stack o_seen o_begin o_gap o_text_n o_text o_draft_n o_draft_61 o_program_n (upd o_program_110 x2_110.toNatClampNeg (o_draft_61 x2_110.toNatClampNeg)))) rfl rfl dX7_read_128 rfl hf0_110 (fun hf0_110 => ?_)
              refine z_iinc 2 (pc := 129) (v := x2_110 + 1) (lv' := [(2, .int (x2_110 + 1)), (0, .ref h_o), (1, .int x1_61)]) dX7_read_129 rfl rfl (by decide) rfl ?_
              refine z_goto (pc := 132) (tgt := 110) dX7_read_132 (by decide) ?_
              exact z_lv [1, 2, 0] rfl (ih110 (x2_110 + 1) (upd o_program_110 x2_110.toNatClampNeg (o_draft_61 x2_110.toNatClampNeg)) hf0_110)
        exact z_lv [1, 2, 0] rfl (lp110 N 0 o_program hf0_110)
      · refine z_iconst (pc := 101) (v := (-1)) dX7_read_101 (by decide) ?_
        refine z_aload_n 0 (pc := 102) dX7_read_102 rfl ?_
        refine z_get 0 10 (pc := 103) (v := .int o_fault_88) rfl rfl inX7 (by decide) flX7_78 rfl dX7_read_103 ?_
        refine z_isub (pc := 106) dX7_read_106 ?_
        obtain rfl := Option.some.inj hf0
        exact z_iret hE dX7_read_107
    refine z_icmp_ne (pc := 66) (tgt := 88) dX7_read_66 (by decide) hf0 (fun hf0 => ?_) (fun hf0 => ?_)
    · exact z_lv [0, 1] rfl (j88 o_fault_61 hf0)
    · refine z_aload_n 0 (pc := 69) dX7_read_69 rfl ?_
      refine z_get 0 9 (pc := 70) (v := .int o_at_61) rfl rfl inX7 (by decide) flX7_75 rfl dX7_read_70 ?_
      refine z_aload_n 0 (pc := 73) dX7_read_73 rfl ?_
      refine z_get 0 8 (pc := 74) (v := .int o_size) rfl rfl inX7 (by decide) flX7_72 rfl dX7_read_74 ?_
      refine z_icmp_ge (pc := 77) (tgt := 88) dX7_read_77 (by decide) hf0 (fun hf0 => ?_) (fun hf0 => ?_)
      · exact z_lv [0, 1] rfl (j88 o_fault_61 hf0)
      · refine z_aload_n 0 (pc := 80) dX7_read_80 rfl ?_
        refine z_aload_n 0 (pc := 81) dX7_read_81 rfl ?_
        refine z_get 0 9 (pc := 82) (v := .int o_at_61) rfl rfl inX7 (by decide) flX7_75 rfl dX7_read_82 ?_
        refine z_put 0 10 (pc := 85) (ws' := (wsX7_read cA h_o h_o_text h_o_draft h_o_program 0 o_side o_heights o_targets o_kept o_radius o_feeds o_size o_at_61 o_at_61 o_statements o_hasProgram o_hasRun o_where o_tool o_about o_stack o_seen o_begin o_gap o_text_n o_text o_draft_n o_draft_61 o_program_n o_program)) rfl rfl inX7 tyX7 tyX7_ok nmX7 (by decide) flX7_78 rfl rfl rfl rfl (Nat.le_of_ble_eq_true rfl) dX7_read_85 rfl ?_
        exact z_lv [0, 1] rfl (j88 o_at_61 hf0)
  obtain ⟨y17, hf0_17, hf0⟩ := bp hf0
  have lp17 : ∀ (n : Nat) (x1_17 : Int32) (o_at_17 : Int32) (o_draft_17 : Nat → Int32) (o_fault_17 : Int32), LX7_read_17 N o_size o_text_n o_text o_side o_draft_n n x1_17 o_at_17 o_draft_17 o_fault_17 = some y17 → V κ false l D cA rmX7_read cX7_read 3 RX7 (some .int) 0 0 17 [(0, .ref h_o), (1, .int x1_17)] [] (wsX7_read cA h_o h_o_text h_o_draft h_o_program 0 o_side o_heights o_targets o_kept o_radius o_feeds o_size o_at_17 o_fault_17 o_statements o_hasProgram o_hasRun o_where o_tool o_about o_stack o_seen o_begin o_gap o_text_n o_text o_draft_n o_draft_17 o_program_n o_program) := by
    intro n
    induction n with
    | zero => intro x1_17 o_at_17 o_draft_17 o_fault_17 hf0_17; rw [LX7_read_17] at hf0_17; cases hf0_17
    | succ n17 ih17 =>
      intro x1_17 o_at_17 o_draft_17 o_fault_17 hf0_17
      rw [LX7_read_17] at hf0_17
      refine z_aload_n 0 (pc := 17) dX7_read_17 rfl ?_
      refine z_get 0 10 (pc := 18) (v := .int o_fault_17) rfl rfl inX7 (by decide) flX7_78 rfl dX7_read_18 ?_
      refine z_iconst (pc := 21) (v := (-1)) dX7_read_21 (by decide) ?_
      refine z_icmp_ne (pc := 22) (tgt := 61) dX7_read_22 (by decide) hf0_17 (fun hf0_17 => ?_) (fun hf0_17 => ?_)
      · obtain rfl := Option.some.inj hf0_17
        exact z_lv [0, 1] rfl (j61 x1_17 o_at_17 o_draft_17 o_fault_17 hf0)
      · refine z_iload_n 1 (pc := 25) dX7_read_25 rfl ?_
        have j40 : JX7_read_40 (fun b0 b1 b2 b3 => LX7_read_17 N o_size o_text_n o_text o_side o_draft_n n17 b0 b1 b2 b3) x1_17 o_at_17 o_draft_17 o_fault_17 N o_size o_text_n o_text o_side o_draft_n  = some y17 → V κ false l D cA rmX7_read cX7_read 3 RX7 (some .int) 0 0 40 [(0, .ref h_o), (1, .int x1_17)] [] (wsX7_read cA h_o h_o_text h_o_draft h_o_program 0 o_side o_heights o_targets o_kept o_radius o_feeds o_size o_at_17 o_fault_17 o_statements o_hasProgram o_hasRun o_where o_tool o_about o_stack o_seen o_begin o_gap o_text_n o_text o_draft_n o_draft_17 o_program_n o_program) := by
          intro hf0_17
          rw [JX7_read_40] at hf0_17
          refine z_iload_n 1 (pc := 40) dX7_read_40 rfl ?_
          refine z_bipush (pc := 41) (v := 32) dX7_read_41 (by decide) ?_
          refine z_icmp_ge (pc := 43) (tgt := 61) dX7_read_43 (by decide) hf0_17 (fun hf0_17 => ?_) (fun hf0_17 => ?_)
          · obtain rfl := Option.some.inj hf0_17
            exact z_lv [0, 1] rfl (j61 x1_17 o_at_17 o_draft_17 o_fault_17 hf0)
          · refine z_aload_n 0 (pc := 46) dX7_read_46 rfl ?_
            obtain ⟨r3, er3, hf0_17⟩ := bp hf0_17
            refine z_callvV (pc := 47) (As := []) (rest := []) (ws' := (wsX7_read cA h_o h_o_text h_o_draft h_o_program 0 o_side o_heights o_targets o_kept o_radius o_feeds o_size r3 o_fault_17 o_statements o_hasProgram o_hasRun o_where o_tool o_about o_stack o_seen o_begin o_gap o_text_n o_text o_draft_n o_draft_17 o_program_n o_program)) (kX7_spaces l D cA h_o h_o_text 0 o_side o_heights o_targets o_kept o_radius o_feeds o_size o_at_17 o_fault_17 (.ref h_o_program) (.ref h_o_draft) o_statements o_hasProgram o_hasRun o_where o_tool o_about o_stack o_seen o_begin o_gap o_text_n o_text  N r3 er3) ivX7_93 ⟨rfl, rfl⟩ ⟨by decide, by decide⟩ rfl ⟨Nat.zero_le _, Nat.zero_le _⟩ rfl rfl [0, 1] rfl (by decide) rfl rfl rfl (Nat.le_of_ble_eq_true rfl) dX7_read_47 ?_
            refine z_aload_n 0 (pc := 50) dX7_read_50 rfl ?_
            refine z_iload_n 1 (pc := 51) dX7_read_51 rfl ?_
            obtain ⟨r4, er4, hf0_17⟩ := bp hf0_17
            refine z_callvV (pc := 52) (As := [.int x1_17]) (rest := []) (ws' := (wsX7_read cA h_o h_o_text h_o_draft h_o_program 0 o_side o_heights o_targets o_kept o_radius o_feeds o_size r4.1 r4.2.1 o_statements o_hasProgram o_hasRun o_where o_tool o_about o_stack o_seen o_begin o_gap o_text_n o_text o_draft_n r4.2.2 o_program_n o_program)) (kX7_statement l D cA h_o h_o_text h_o_draft 0 o_side o_heights o_targets o_kept o_radius o_feeds o_size r3 o_fault_17 (.ref h_o_program) o_statements o_hasProgram o_hasRun o_where o_tool o_about o_stack o_seen o_begin o_gap o_text_n o_text o_draft_n o_draft_17 x1_17 N r4 er4) ivX7_99 ⟨rfl, rfl⟩ ⟨by decide, by decide⟩ rfl ⟨Nat.zero_le _, Nat.zero_le _⟩ rfl rfl [0, 1, 2] rfl (by decide) rfl rfl rfl (Nat.le_of_ble_eq_true rfl) dX7_read_52 ?_
            refine z_iinc 1 (pc := 55) (v := x1_17 + 1) (lv' := [(1, .int (x1_17 + 1)), (0, .ref h_o)]) dX7_read_55 rfl rfl (by decide) rfl ?_
            refine z_goto (pc := 58) (tgt := 17) dX7_read_58 (by decide) ?_
            exact z_lv [1, 0] rfl (ih17 (x1_17 + 1) r4.1 r4.2.2 r4.2.1 hf0_17)
        refine z_if_eq (pc := 26) (tgt := 40) dX7_read_26 (by decide) hf0_17 (fun hf0_17 => ?_) (fun hf0_17 => ?_)
        · exact z_lv [0, 1] rfl (j40  hf0_17)
        · refine z_aload_n 0 (pc := 29) dX7_read_29 rfl ?_
          refine z_get 0 9 (pc := 30) (v := .int o_at_17) rfl rfl inX7 (by decide) flX7_75 rfl dX7_read_30 ?_
          refine z_aload_n 0 (pc := 33) dX7_read_33 rfl ?_
          refine z_get 0 8 (pc := 34) (v := .int o_size) rfl rfl inX7 (by decide) flX7_72 rfl dX7_read_34 ?_
          refine z_icmp_ge (pc := 37) (tgt := 61) dX7_read_37 (by decide) hf0_17 (fun hf0_17 => ?_) (fun hf0_17 => ?_)
          · obtain rfl := Option.some.inj hf0_17
            exact z_lv [0, 1] rfl (j61 x1_17 o_at_17 o_draft_17 o_fault_17 hf0)
          · exact z_lv [0, 1] rfl (j40  hf0_17)
  exact z_lv [1, 0] rfl (lp17 N 0 0 o_draft (-1) hf0_17)

abbrev RX7_isNear : Type := Int32
abbrev rmX7_isNear : Room := { frames := 0, cells := 0, slots := 0, locals := 0 }
abbrev wsX7_isNear (cA : Nat → ClassId)   : va_W := []
def fX7_isNear (N : Nat) (a0 : Int32) (a1 : Int32) (a2 : Int32)  : Option RX7_isNear :=
  (if (a2 * a2) < ((a0 * a0) + (a1 * a1)) then some 0 else some 1)
set_option maxHeartbeats 4000000 in
set_option maxRecDepth 100000 in
theorem kX7_isNear (l : Launch) (D : va_G) (cA : Nat → ClassId)   (a0 : Int32) (a1 : Int32) (a2 : Int32) (N : Nat) (res : RX7_isNear) (hf0 : fX7_isNear N a0 a1 a2 = some res) : CtI l yX7_isNear (Cond.code yX7_isNear cX7_isNear 3 (some .boolean) :: tblG) rmX7_isNear D cA (wsX7_isNear cA ) [.int a0, .int a1, .int a2] res (wsX7_isNear cA ) := by
  refine CtI.start (lv := [(0, .int a0), (1, .int a1), (2, .int a2)]) (by decide) (Nat.le_of_ble_eq_true rfl) rfl (fun κ hE => ?_)
  rw [fX7_isNear] at hf0
  refine z_iload_n 0 (pc := 0) dX7_isNear_0 rfl ?_
  refine z_iload_n 0 (pc := 1) dX7_isNear_1 rfl ?_
  refine z_imul (pc := 2) dX7_isNear_2 ?_
  refine z_iload_n 1 (pc := 3) dX7_isNear_3 rfl ?_
  refine z_iload_n 1 (pc := 4) dX7_isNear_4 rfl ?_
  refine z_imul (pc := 5) dX7_isNear_5 ?_
  refine z_iadd (pc := 6) dX7_isNear_6 ?_
  refine z_iload_n 2 (pc := 7) dX7_isNear_7 rfl ?_
  refine z_iload_n 2 (pc := 8) dX7_isNear_8 rfl ?_
  refine z_imul (pc := 9) dX7_isNear_9 ?_
  refine z_icmp_gt (pc := 10) (tgt := 17) dX7_isNear_10 (by decide) hf0 (fun hf0 => ?_) (fun hf0 => ?_)
  · refine z_iconst (pc := 17) (v := 0) dX7_isNear_17 (by decide) ?_
    obtain rfl := Option.some.inj hf0
    exact z_zretL (by decide) hE dX7_isNear_18
  · refine z_iconst (pc := 13) (v := 1) dX7_isNear_13 (by decide) ?_
    refine z_goto (pc := 14) (tgt := 18) dX7_isNear_14 (by decide) ?_
    obtain rfl := Option.some.inj hf0
    exact z_zretL (by decide) hE dX7_isNear_18

abbrev RX7_isInDisc : Type := Int32
abbrev rmX7_isInDisc : Room := { frames := 2, cells := 0, slots := 0, locals := 44 }
abbrev wsX7_isInDisc (cA : Nat → ClassId) (h_o : Nat) (h_o_radius : Nat) (o_thrown : Int32) (o_side : Int32) (o_heights : Value) (o_targets : Value) (o_kept : Value) (o_feeds : Value) (o_text : Value) (o_size : Int32) (o_at : Int32) (o_fault : Int32) (o_program : Value) (o_draft : Value) (o_statements : Int32) (o_hasProgram : Int32) (o_hasRun : Int32) (o_where : Value) (o_tool : Int32) (o_about : Value) (o_stack : Value) (o_seen : Value) (o_begin : Value) (o_gap : Value) (o_radius_n : Nat) (o_radius : Nat → Int32) : va_W := [(h_o, .inr (7, [.int o_thrown, .int o_side, o_heights, o_targets, o_kept, .ref h_o_radius, o_feeds, o_text, .int o_size, .int o_at, .int o_fault, o_program, o_draft, .int o_statements, .int o_hasProgram, .int o_hasRun, o_where, .int o_tool, o_about, o_stack, o_seen, o_begin, o_gap])), (h_o_radius, .inl (cA 0, o_radius_n, .inl o_radius))]
def fX7_isInDisc (N : Nat) (a1 : Int32) (a2 : Int32) (a3 : Int32) (a4 : Int32) (o_side : Int32) (o_radius_n : Nat) (o_radius : Nat → Int32) : Option RX7_isInDisc :=
  (if 20 = 0 then none else (if 20 = 0 then none else (if a1 < 0 ∨ o_radius_n ≤ a1.toNatClampNeg then none else ((fX7_isNear N ((a4 - a4 / 20 * 20) - a2) ((a4 / 20) - a3) (o_radius a1.toNatClampNeg)).bind fun r1 => (if r1 = 0 then some 0 else (if 20 = 0 then none else (if 20 = 0 then none else ((fX7_isCell N (a4 - a4 / 20 * 20) (a4 / 20) o_side).bind fun r2 => (if r2 = 0 then some 0 else some 1)))))))))
set_option maxHeartbeats 4000000 in
set_option maxRecDepth 100000 in
theorem kX7_isInDisc (l : Launch) (D : va_G) (cA : Nat → ClassId) (h_o : Nat) (h_o_radius : Nat) (o_thrown : Int32) (o_side : Int32) (o_heights : Value) (o_targets : Value) (o_kept : Value) (o_feeds : Value) (o_text : Value) (o_size : Int32) (o_at : Int32) (o_fault : Int32) (o_program : Value) (o_draft : Value) (o_statements : Int32) (o_hasProgram : Int32) (o_hasRun : Int32) (o_where : Value) (o_tool : Int32) (o_about : Value) (o_stack : Value) (o_seen : Value) (o_begin : Value) (o_gap : Value) (o_radius_n : Nat) (o_radius : Nat → Int32) (a1 : Int32) (a2 : Int32) (a3 : Int32) (a4 : Int32) (N : Nat) (res : RX7_isInDisc) (hf0 : fX7_isInDisc N a1 a2 a3 a4 o_side o_radius_n o_radius = some res) : CtI l yX7_isInDisc (Cond.code yX7_isInDisc cX7_isInDisc 5 (some .boolean) :: tblG) rmX7_isInDisc D cA (wsX7_isInDisc cA h_o h_o_radius o_thrown o_side o_heights o_targets o_kept o_feeds o_text o_size o_at o_fault o_program o_draft o_statements o_hasProgram o_hasRun o_where o_tool o_about o_stack o_seen o_begin o_gap o_radius_n o_radius) [.ref h_o, .int a1, .int a2, .int a3, .int a4] res (wsX7_isInDisc cA h_o h_o_radius o_thrown o_side o_heights o_targets o_kept o_feeds o_text o_size o_at o_fault o_program o_draft o_statements o_hasProgram o_hasRun o_where o_tool o_about o_stack o_seen o_begin o_gap o_radius_n o_radius) := by
  refine CtI.start (lv := [(0, .ref h_o), (1, .int a1), (2, .int a2), (3, .int a3), (4, .int a4)]) (by decide) (Nat.le_of_ble_eq_true rfl) rfl (fun κ hE => ?_)
  rw [fX7_isInDisc] at hf0
  refine z_iload 4 (pc := 0) dX7_isInDisc_0 rfl ?_
  refine z_bipush (pc := 2) (v := 20) dX7_isInDisc_2 (by decide) ?_
  refine z_irem (pc := 4) dX7_isInDisc_4 hf0 (fun hf0 => ?_)
  refine z_iload_n 2 (pc := 5) dX7_isInDisc_5 rfl ?_
  refine z_isub (pc := 6) dX7_isInDisc_6 ?_
  refine z_iload 4 (pc := 7) dX7_isInDisc_7 rfl ?_
  refine z_bipush (pc := 9) (v := 20) dX7_isInDisc_9 (by decide) ?_
  refine z_idiv (pc := 11) dX7_isInDisc_11 hf0 (fun hf0 => ?_)
  refine z_iload_n 3 (pc := 12) dX7_isInDisc_12 rfl ?_
  refine z_isub (pc := 13) dX7_isInDisc_13 ?_
  refine z_aload_n 0 (pc := 14) dX7_isInDisc_14 rfl ?_
  refine z_get 0 5 (pc := 15) (v := .ref h_o_radius) rfl rfl inX7 (by decide) flX7_20 rfl dX7_isInDisc_15 ?_
  refine z_iload_n 1 (pc := 18) dX7_isInDisc_18 rfl ?_
  refine z_iaload 1 0 (pc := 19) rfl rfl dX7_isInDisc_19 hf0 (fun hf0 => ?_)
  obtain ⟨r1, er1, hf0⟩ := bp hf0
  refine z_calliS (pc := 20) (As := [.int ((a4 - a4 / 20 * 20) - a2), .int ((a4 / 20) - a3), .int (o_radius a1.toNatClampNeg)]) (rest := []) (ws' := (wsX7_isInDisc cA h_o h_o_radius o_thrown o_side o_heights o_targets o_kept o_feeds o_text o_size o_at o_fault o_program o_draft o_statements o_hasProgram o_hasRun o_where o_tool o_about o_stack o_seen o_begin o_gap o_radius_n o_radius)) (kX7_isNear l D cA   ((a4 - a4 / 20 * 20) - a2) ((a4 / 20) - a3) (o_radius a1.toNatClampNeg) N r1 er1) ivX7_110 ⟨rfl, rfl⟩ ⟨by decide, by decide⟩ rfl ⟨Nat.zero_le _, Nat.zero_le _⟩ [] rfl (by decide) rfl rfl rfl (Nat.le_of_ble_eq_true rfl) dX7_isInDisc_20 ?_
  refine z_if_eq (pc := 23) (tgt := 47) dX7_isInDisc_23 (by decide) hf0 (fun hf0 => ?_) (fun hf0 => ?_)
  · refine z_iconst (pc := 47) (v := 0) dX7_isInDisc_47 (by decide) ?_
    obtain rfl := Option.some.inj hf0
    exact z_zretL (by decide) hE dX7_isInDisc_48
  · refine z_aload_n 0 (pc := 26) dX7_isInDisc_26 rfl ?_
    refine z_iload 4 (pc := 27) dX7_isInDisc_27 rfl ?_
    refine z_bipush (pc := 29) (v := 20) dX7_isInDisc_29 (by decide) ?_
    refine z_irem (pc := 31) dX7_isInDisc_31 hf0 (fun hf0 => ?_)
    refine z_iload 4 (pc := 32) dX7_isInDisc_32 rfl ?_
    refine z_bipush (pc := 34) (v := 20) dX7_isInDisc_34 (by decide) ?_
    refine z_idiv (pc := 36) dX7_isInDisc_36 hf0 (fun hf0 => ?_)
    obtain ⟨r2, er2, hf0⟩ := bp hf0
    refine z_calliV (pc := 37) (As := [.int (a4 - a4 / 20 * 20), .int (a4 / 20)]) (rest := []) (ws' := (wsX7_isInDisc cA h_o h_o_radius o_thrown o_side o_heights o_targets o_kept o_feeds o_text o_size o_at o_fault o_program o_draft o_statements o_hasProgram o_hasRun o_where o_tool o_about o_stack o_seen o_begin o_gap o_radius_n o_radius)) (kX7_isCell l D cA h_o o_thrown o_side o_heights o_targets o_kept (.ref h_o_radius) o_feeds o_text o_size o_at o_fault o_program o_draft o_statements o_hasProgram o_hasRun o_where o_tool o_about o_stack o_seen o_begin o_gap (a4 - a4 / 20 * 20) (a4 / 20) N r2 er2) ivX7_64 ⟨rfl, rfl⟩ ⟨by decide, by decide⟩ rfl ⟨Nat.zero_le _, Nat.zero_le _⟩ rfl rfl [0] rfl (by decide) rfl rfl rfl (Nat.le_of_ble_eq_true rfl) dX7_isInDisc_37 ?_
    refine z_if_eq (pc := 40) (tgt := 47) dX7_isInDisc_40 (by decide) hf0 (fun hf0 => ?_) (fun hf0 => ?_)
    · refine z_iconst (pc := 47) (v := 0) dX7_isInDisc_47 (by decide) ?_
      obtain rfl := Option.some.inj hf0
      exact z_zretL (by decide) hE dX7_isInDisc_48
    · refine z_iconst (pc := 43) (v := 1) dX7_isInDisc_43 (by decide) ?_
      refine z_goto (pc := 44) (tgt := 48) dX7_isInDisc_44 (by decide) ?_
      obtain rfl := Option.some.inj hf0
      exact z_zretL (by decide) hE dX7_isInDisc_48

abbrev RX7_floor : Type := Int32
abbrev rmX7_floor : Room := { frames := 0, cells := 0, slots := 0, locals := 0 }
abbrev wsX7_floor (cA : Nat → ClassId)   : va_W := []
def fX7_floor (N : Nat) (a0 : Int32) (a1 : Int32)  : Option RX7_floor :=
  (if a1 = 0 then none else (if a1 = 0 then none else (if 0 ≤ (a0 - a0 / a1 * a1) then some (a0 / a1) else some ((a0 / a1) - 1))))
set_option maxHeartbeats 4000000 in
set_option maxRecDepth 100000 in
theorem kX7_floor (l : Launch) (D : va_G) (cA : Nat → ClassId)   (a0 : Int32) (a1 : Int32) (N : Nat) (res : RX7_floor) (hf0 : fX7_floor N a0 a1 = some res) : CtI l yX7_floor (Cond.code yX7_floor cX7_floor 3 (some .int) :: tblG) rmX7_floor D cA (wsX7_floor cA ) [.int a0, .int a1] res (wsX7_floor cA ) := by
  refine CtI.start (lv := [(0, .int a0), (1, .int a1)]) (by decide) (Nat.le_of_ble_eq_true rfl) rfl (fun κ hE => ?_)
  rw [fX7_floor] at hf0
  refine z_iload_n 0 (pc := 0) dX7_floor_0 rfl ?_
  refine z_iload_n 1 (pc := 1) dX7_floor_1 rfl ?_
  refine z_idiv (pc := 2) dX7_floor_2 hf0 (fun hf0 => ?_)
  refine z_istore_n (pc := 3) (lv' := [(2, .int (a0 / a1)), (0, .int a0), (1, .int a1)]) dX7_floor_3 (by decide) rfl ?_
  refine z_iload_n 1 (pc := 4) dX7_floor_4 rfl ?_
  refine z_iload_n 2 (pc := 5) dX7_floor_5 rfl ?_
  refine z_irem (pc := 6) dX7_floor_6 hf0 (fun hf0 => ?_)
  refine z_if_ge (pc := 7) (tgt := 16) dX7_floor_7 (by decide) hf0 (fun hf0 => ?_) (fun hf0 => ?_)
  · refine z_iload_n 0 (pc := 16) dX7_floor_16 rfl ?_
    obtain rfl := Option.some.inj hf0
    exact z_iret hE dX7_floor_17
  · refine z_iload_n 0 (pc := 10) dX7_floor_10 rfl ?_
    refine z_iconst (pc := 11) (v := 1) dX7_floor_11 (by decide) ?_
    refine z_isub (pc := 12) dX7_floor_12 ?_
    refine z_goto (pc := 13) (tgt := 17) dX7_floor_13 (by decide) ?_
    obtain rfl := Option.some.inj hf0
    exact z_iret hE dX7_floor_17

abbrev RX7_step : Type := Int32 × (Nat → Int32) × (Nat → Int32)
abbrev rmX7_step : Room := { frames := 3, cells := 0, slots := 0, locals := 68 }
abbrev wsX7_step (cA : Nat → ClassId) (h_o : Nat) (h_o_radius : Nat) (h_o_heights : Nat) (h_o_kept : Nat) (h_o_about : Nat) (h_o_feeds : Nat) (o_thrown : Int32) (o_side : Int32) (o_targets : Value) (o_text : Value) (o_size : Int32) (o_at : Int32) (o_fault : Int32) (o_program : Value) (o_draft : Value) (o_statements : Int32) (o_hasProgram : Int32) (o_hasRun : Int32) (o_where : Value) (o_tool : Int32) (o_stack : Value) (o_seen : Value) (o_begin : Value) (o_gap : Value) (o_radius_n : Nat) (o_radius : Nat → Int32) (o_heights_n : Nat) (o_heights : Nat → Int32) (o_kept_n : Nat) (o_kept : Nat → Int32) (o_about_n : Nat) (o_about : Nat → Int32) (o_feeds_n : Nat) (o_feeds : Nat → Int32) : va_W := [(h_o, .inr (7, [.int o_thrown, .int o_side, .ref h_o_heights, o_targets, .ref h_o_kept, .ref h_o_radius, .ref h_o_feeds, o_text, .int o_size, .int o_at, .int o_fault, o_program, o_draft, .int o_statements, .int o_hasProgram, .int o_hasRun, o_where, .int o_tool, .ref h_o_about, o_stack, o_seen, o_begin, o_gap])), (h_o_radius, .inl (cA 0, o_radius_n, .inl o_radius)), (h_o_heights, .inl (cA 0, o_heights_n, .inl o_heights)), (h_o_kept, .inl (cA 1, o_kept_n, .inl o_kept)), (h_o_about, .inl (cA 0, o_about_n, .inl o_about)), (h_o_feeds, .inl (cA 0, o_feeds_n, .inl o_feeds))]
def LX7_step_133 (N : Nat) (o_tool : Int32) (a2 : Int32) (a3 : Int32) (o_side : Int32) (o_radius_n : Nat) (o_radius : Nat → Int32) (o_heights_n : Nat) (a4 : Int32) (o_about_n : Nat) : Nat → Int32 → (Nat → Int32) → (Nat → Int32) → Option (Int32 × (Nat → Int32) × (Nat → Int32))
  | 0, _, _, _ => none
  | n + 1, x7_133, o_about_133, o_heights_133 => (if 400 ≤ x7_133 then some (x7_133, o_about_133, o_heights_133) else ((fX7_isInDisc N o_tool a2 a3 x7_133 o_side o_radius_n o_radius).bind fun r3 => (if r3 = 0 then LX7_step_133 N o_tool a2 a3 o_side o_radius_n o_radius o_heights_n a4 o_about_n n (x7_133 + 1) o_about_133 o_heights_133 else (if x7_133 < 0 ∨ o_heights_n ≤ x7_133.toNatClampNeg then none else (if (o_heights_133 x7_133.toNatClampNeg) ≤ a4 then LX7_step_133 N o_tool a2 a3 o_side o_radius_n o_radius o_heights_n a4 o_about_n n (x7_133 + 1) o_about_133 o_heights_133 else (if x7_133 < 0 ∨ o_heights_n ≤ x7_133.toNatClampNeg then none else (if (5 : Int32) < 0 ∨ o_about_n ≤ (5 : Int32).toNatClampNeg then none else (if (5 : Int32) < 0 ∨ o_about_n ≤ (5 : Int32).toNatClampNeg then none else LX7_step_133 N o_tool a2 a3 o_side o_radius_n o_radius o_heights_n a4 o_about_n n (x7_133 + 1) (upd o_about_133 (5 : Int32).toNatClampNeg ((o_about_133 (5 : Int32).toNatClampNeg) + 1)) (upd o_heights_133 x7_133.toNatClampNeg a4)))))))))
def JX7_step_130 (N : Nat) (o_tool : Int32) (a2 : Int32) (a3 : Int32) (o_side : Int32) (o_radius_n : Nat) (o_radius : Nat → Int32) (o_heights_n : Nat) (a4 : Int32) (o_about_n : Nat) (o_about : Nat → Int32) (o_heights : Nat → Int32) (a1 : Int32) (o_feeds_n : Nat) (o_feeds : Nat → Int32)  : Option (RX7_step) :=
  ((LX7_step_133 N o_tool a2 a3 o_side o_radius_n o_radius o_heights_n a4 o_about_n N 0 o_about o_heights).bind fun r2 => (if (0 : Int32) < 0 ∨ o_about_n ≤ (0 : Int32).toNatClampNeg then none else (if a1 = 0 then (if (0 : Int32) < 0 ∨ o_about_n ≤ (0 : Int32).toNatClampNeg then none else some (0, r2.2.2, upd r2.2.1 (0 : Int32).toNatClampNeg ((r2.2.1 (0 : Int32).toNatClampNeg) + 1))) else (if o_tool < 0 ∨ o_feeds_n ≤ o_tool.toNatClampNeg then none else (if (0 : Int32) < 0 ∨ o_about_n ≤ (0 : Int32).toNatClampNeg then none else some (0, r2.2.2, upd r2.2.1 (0 : Int32).toNatClampNeg ((r2.2.1 (0 : Int32).toNatClampNeg) + (o_feeds o_tool.toNatClampNeg))))))))
def JX7_step_110 (a1 : Int32) (r1 : Int32 × Int32 × Int32) (N : Nat) (o_tool : Int32) (a2 : Int32) (a3 : Int32) (o_side : Int32) (o_radius_n : Nat) (o_radius : Nat → Int32) (o_heights_n : Nat) (a4 : Int32) (o_about_n : Nat) (o_about : Nat → Int32) (o_heights : Nat → Int32) (o_feeds_n : Nat) (o_feeds : Nat → Int32)  : Option (RX7_step) :=
  (if a1 = 1 then (if r1.2.1 = 0 then JX7_step_130 N o_tool a2 a3 o_side o_radius_n o_radius o_heights_n a4 o_about_n o_about o_heights a1 o_feeds_n o_feeds  else (if a1 = 0 then some (1, o_heights, o_about) else some (2, o_heights, o_about))) else JX7_step_130 N o_tool a2 a3 o_side o_radius_n o_radius o_heights_n a4 o_about_n o_about o_heights a1 o_feeds_n o_feeds )
def JX7_step_66 (rec : Int32 → Int32 → Int32 → Option (Int32 × Int32 × Int32)) (x6_9 : Int32) (s_49 : Int32) (x7_9 : Int32) (o_kept_n : Nat) (o_kept : Nat → Int32) (s_66 : Int32) : Option (Int32 × Int32 × Int32) :=
  (if x6_9 = 0 then (if s_49 = 0 then rec s_66 0 (x7_9 + 1) else (if x7_9 < 0 ∨ o_kept_n ≤ x7_9.toNatClampNeg then none else (if (o_kept x7_9.toNatClampNeg) = 0 then rec s_66 0 (x7_9 + 1) else rec s_66 1 (x7_9 + 1)))) else rec s_66 1 (x7_9 + 1))
def JX7_step_61 (rec : Int32 → Int32 → Int32 → Option (Int32 × Int32 × Int32)) (x6_9 : Int32) (s_49 : Int32) (x7_9 : Int32) (o_kept_n : Nat) (o_kept : Nat → Int32)  : Option (Int32 × Int32 × Int32) :=
  JX7_step_66 (fun b0 b1 b2 => rec b0 b1 b2) x6_9 s_49 x7_9 o_kept_n o_kept 1
def JX7_step_49 (rec : Int32 → Int32 → Int32 → Option (Int32 × Int32 × Int32)) (x5_9 : Int32) (x6_9 : Int32) (x7_9 : Int32) (o_kept_n : Nat) (o_kept : Nat → Int32) (s_49 : Int32) : Option (Int32 × Int32 × Int32) :=
  (if x5_9 = 0 then (if s_49 = 0 then JX7_step_66 (fun b0 b1 b2 => rec b0 b1 b2) x6_9 s_49 x7_9 o_kept_n o_kept 0 else JX7_step_61 (fun b0 b1 b2 => rec b0 b1 b2) x6_9 s_49 x7_9 o_kept_n o_kept ) else JX7_step_61 (fun b0 b1 b2 => rec b0 b1 b2) x6_9 s_49 x7_9 o_kept_n o_kept )
def JX7_step_48 (rec : Int32 → Int32 → Int32 → Option (Int32 × Int32 × Int32)) (x5_9 : Int32) (x6_9 : Int32) (x7_9 : Int32) (o_kept_n : Nat) (o_kept : Nat → Int32)  : Option (Int32 × Int32 × Int32) :=
  JX7_step_49 (fun b0 b1 b2 => rec b0 b1 b2) x5_9 x6_9 x7_9 o_kept_n o_kept 0
def LX7_step_9 (N : Nat) (o_tool : Int32) (a2 : Int32) (a3 : Int32) (o_side : Int32) (o_radius_n : Nat) (o_radius : Nat → Int32) (o_kept_n : Nat) (o_kept : Nat → Int32) (o_heights_n : Nat) (o_heights : Nat → Int32) (a4 : Int32) : Nat → Int32 → Int32 → Int32 → Option (Int32 × Int32 × Int32)
  | 0, _, _, _ => none
  | n + 1, x5_9, x6_9, x7_9 => (if 400 ≤ x7_9 then some (x5_9, x6_9, x7_9) else ((fX7_isInDisc N o_tool a2 a3 x7_9 o_side o_radius_n o_radius).bind fun r4 => (if r4 = 0 then JX7_step_48 (fun b0 b1 b2 => LX7_step_9 N o_tool a2 a3 o_side o_radius_n o_radius o_kept_n o_kept o_heights_n o_heights a4 n b0 b1 b2) x5_9 x6_9 x7_9 o_kept_n o_kept  else (if x7_9 < 0 ∨ o_heights_n ≤ x7_9.toNatClampNeg then none else (if (o_heights x7_9.toNatClampNeg) ≤ a4 then JX7_step_48 (fun b0 b1 b2 => LX7_step_9 N o_tool a2 a3 o_side o_radius_n o_radius o_kept_n o_kept o_heights_n o_heights a4 n b0 b1 b2) x5_9 x6_9 x7_9 o_kept_n o_kept  else JX7_step_49 (fun b0 b1 b2 => LX7_step_9 N o_tool a2 a3 o_side o_radius_n o_radius o_kept_n o_kept o_heights_n o_heights a4 n b0 b1 b2) x5_9 x6_9 x7_9 o_kept_n o_kept 1)))))
def fX7_step (N : Nat) (a1 : Int32) (a2 : Int32) (a3 : Int32) (a4 : Int32) (o_side : Int32) (o_tool : Int32) (o_radius_n : Nat) (o_radius : Nat → Int32) (o_heights_n : Nat) (o_heights : Nat → Int32) (o_kept_n : Nat) (o_kept : Nat → Int32) (o_about_n : Nat) (o_about : Nat → Int32) (o_feeds_n : Nat) (o_feeds : Nat → Int32) : Option RX7_step :=
  ((LX7_step_9 N o_tool a2 a3 o_side o_radius_n o_radius o_kept_n o_kept o_heights_n o_heights a4 N 0 0 0).bind fun r1 => (if a1 = 0 then (if r1.1 = 0 then JX7_step_110 a1 r1 N o_tool a2 a3 o_side o_radius_n o_radius o_heights_n a4 o_about_n o_about o_heights o_feeds_n o_feeds  else (if a1 = 0 then some (1, o_heights, o_about) else some (2, o_heights, o_about))) else JX7_step_110 a1 r1 N o_tool a2 a3 o_side o_radius_n o_radius o_heights_n a4 o_about_n o_about o_heights o_feeds_n o_feeds ))
set_option maxHeartbeats 4000000 in
set_option maxRecDepth 100000 in
theorem kX7_step (l : Launch) (D : va_G) (cA : Nat → ClassId) (h_o : Nat) (h_o_radius : Nat) (h_o_heights : Nat) (h_o_kept : Nat) (h_o_about : Nat) (h_o_feeds : Nat) (o_thrown : Int32) (o_side : Int32) (o_targets : Value) (o_text : Value) (o_size : Int32) (o_at : Int32) (o_fault : Int32) (o_program : Value) (o_draft : Value) (o_statements : Int32) (o_hasProgram : Int32) (o_hasRun : Int32) (o_where : Value) (o_tool : Int32) (o_stack : Value) (o_seen : Value) (o_begin : Value) (o_gap : Value) (o_radius_n : Nat) (o_radius : Nat → Int32) (o_heights_n : Nat) (o_heights : Nat → Int32) (o_kept_n : Nat) (o_kept : Nat → Int32) (o_about_n : Nat) (o_about : Nat → Int32) (o_feeds_n : Nat) (o_feeds : Nat → Int32) (a1 : Int32) (a2 : Int32) (a3 : Int32) (a4 : Int32) (N : Nat) (res : RX7_step) (hf0 : fX7_step N a1 a2 a3 a4 o_side o_tool o_radius_n o_radius o_heights_n o_heights o_kept_n o_kept o_about_n o_about o_feeds_n o_feeds = some res) : CtI l yX7_step (Cond.code yX7_step cX7_step 9 (some .int) :: tblG) rmX7_step D cA (wsX7_step cA h_o h_o_radius h_o_heights h_o_kept h_o_about h_o_feeds o_thrown o_side o_targets o_text o_size o_at o_fault o_program o_draft o_statements o_hasProgram o_hasRun o_where o_tool o_stack o_seen o_begin o_gap o_radius_n o_radius o_heights_n o_heights o_kept_n o_kept o_about_n o_about o_feeds_n o_feeds) [.ref h_o, .int a1, .int a2, .int a3, .int a4] res.1 (wsX7_step cA h_o h_o_radius h_o_heights h_o_kept h_o_about h_o_feeds o_thrown o_side o_targets o_text o_size o_at o_fault o_program o_draft o_statements o_hasProgram o_hasRun o_where o_tool o_stack o_seen o_begin o_gap o_radius_n o_radius o_heights_n res.2.1 o_kept_n o_kept o_about_n res.2.2 o_feeds_n o_feeds) := by
  refine CtI.start (lv := [(0, .ref h_o), (1, .int a1), (2, .int a2), (3, .int a3), (4, .int a4)]) (by decide) (Nat.le_of_ble_eq_true rfl) rfl (fun κ hE => ?_)
  rw [fX7_step] at hf0
  refine z_iconst (pc := 0) (v := 0) dX7_step_0 (by decide) ?_
  refine z_istore (pc := 1) (lv' := [(5, .int 0), (0, .ref h_o), (1, .int a1), (2, .int a2), (3, .int a3), (4, .int a4)]) dX7_step_1 (by decide) rfl ?_
  refine z_iconst (pc := 3) (v := 0) dX7_step_3 (by decide) ?_
  refine z_istore (pc := 4) (lv' := [(6, .int 0), (5, .int 0), (0, .ref h_o), (1, .int a1), (2, .int a2), (3, .int a3), (4, .int a4)]) dX7_step_4 (by decide) rfl ?_
  refine z_iconst (pc := 6) (v := 0) dX7_step_6 (by decide) ?_
  refine z_istore (pc := 7) (lv' := [(7, .int 0), (6, .int 0), (5, .int 0), (0, .ref h_o), (1, .int a1), (2, .int a2), (3, .int a3), (4, .int a4)]) dX7_step_7 (by decide) rfl ?_
  obtain ⟨y9, hf0_9, hf0⟩ := bp hf0
  have lp9 : ∀ (n : Nat) (x5_9 : Int32) (x6_9 : Int32) (x7_9 : Int32), LX7_step_9 N o_tool a2 a3 o_side o_radius_n o_radius o_kept_n o_kept o_heights_n o_heights a4 n x5_9 x6_9 x7_9 = some y9 → V κ false l D cA rmX7_step cX7_step 9 RX7 (some .int) 0 0 9 [(0, .ref h_o), (1, .int a1), (2, .int a2), (3, .int a3), (4, .int a4), (5, .int x5_9), (6, .int x6_9), (7, .int x7_9)] [] (wsX7_step cA h_o h_o_radius h_o_heights h_o_kept h_o_about h_o_feeds o_thrown o_side o_targets o_text o_size o_at o_fault o_program o_draft o_statements o_hasProgram o_hasRun o_where o_tool o_stack o_seen o_begin o_gap o_radius_n o_radius o_heights_n o_heights o_kept_n o_kept o_about_n o_about o_feeds_n o_feeds) := by
    intro n
    induction n with
    | zero => intro x5_9 x6_9 x7_9 hf0_9; rw [LX7_step_9] at hf0_9; cases hf0_9
    | succ n9 ih9 =>
      intro x5_9 x6_9 x7_9 hf0_9
      rw [LX7_step_9] at hf0_9
      refine z_iload 7 (pc := 9) dX7_step_9 rfl ?_
      refine z_sipush (pc := 11) (v := 400) dX7_step_11 (by decide) ?_
      refine z_icmp_ge (pc := 14) (tgt := 101) dX7_step_14 (by decide) hf0_9 (fun hf0_9 => ?_) (fun hf0_9 => ?_)
      · obtain rfl := Option.some.inj hf0_9
        refine z_iload_n 1 (pc := 101) dX7_step_101 rfl ?_
        have j110 : JX7_step_110 a1 (x5_9, x6_9, x7_9) N o_tool a2 a3 o_side o_radius_n o_radius o_heights_n a4 o_about_n o_about o_heights o_feeds_n o_feeds  = some res → V κ false l D cA rmX7_step cX7_step 9 RX7 (some .int) 0 0 110 [(0, .ref h_o), (1, .int a1), (2, .int a2), (3, .int a3), (4, .int a4), (5, .int x5_9), (6, .int x6_9), (7, .int x7_9)] [] (wsX7_step cA h_o h_o_radius h_o_heights h_o_kept h_o_about h_o_feeds o_thrown o_side o_targets o_text o_size o_at o_fault o_program o_draft o_statements o_hasProgram o_hasRun o_where o_tool o_stack o_seen o_begin o_gap o_radius_n o_radius o_heights_n o_heights o_kept_n o_kept o_about_n o_about o_feeds_n o_feeds) := by
          intro hf0
          rw [JX7_step_110] at hf0
          refine z_iload_n 1 (pc := 110) dX7_step_110 rfl ?_
          refine z_iconst (pc := 111) (v := 1) dX7_step_111 (by decide) ?_
          have j130 : JX7_step_130 N o_tool a2 a3 o_side o_radius_n o_radius o_heights_n a4 o_about_n o_about o_heights a1 o_feeds_n o_feeds  = some res → V κ false l D cA rmX7_step cX7_step 9 RX7 (some .int) 0 0 130 [(0, .ref h_o), (1, .int a1), (2, .int a2), (3, .int a3), (4, .int a4), (5, .int x5_9), (6, .int x6_9), (7, .int x7_9)] [] (wsX7_step cA h_o h_o_radius h_o_heights h_o_kept h_o_about h_o_feeds o_thrown o_side o_targets o_text o_size o_at o_fault o_program o_draft o_statements o_hasProgram o_hasRun o_where o_tool o_stack o_seen o_begin o_gap o_radius_n o_radius o_heights_n o_heights o_kept_n o_kept o_about_n o_about o_feeds_n o_feeds) := by
            intro hf0
            rw [JX7_step_130] at hf0
            refine z_iconst (pc := 130) (v := 0) dX7_step_130 (by decide) ?_
            refine z_istore (pc := 131) (lv' := [(7, .int 0), (0, .ref h_o), (1, .int a1), (2, .int a2), (3, .int a3), (4, .int a4), (5, .int x5_9), (6, .int x6_9)]) dX7_step_131 (by decide) rfl ?_
            obtain ⟨y133, hf0_133, hf0⟩ := bp hf0
            have lp133 : ∀ (n : Nat) (x7_133 : Int32) (o_about_133 : Nat → Int32) (o_heights_133 : Nat → Int32), LX7_step_133 N o_tool a2 a3 o_side o_radius_n o_radius o_heights_n a4 o_about_n n x7_133 o_about_133 o_heights_133 = some y133 → V κ false l D cA rmX7_step cX7_step 9 RX7 (some .int) 0 0 133 [(0, .ref h_o), (1, .int a1), (2, .int a2), (3, .int a3), (4, .int a4), (5, .int x5_9), (6, .int x6_9), (7, .int x7_133)] [] (wsX7_step cA h_o h_o_radius h_o_heights h_o_kept h_o_about h_o_feeds o_thrown o_side o_targets o_text o_size o_at o_fault o_program o_draft o_statements o_hasProgram o_hasRun o_where o_tool o_stack o_seen o_begin o_gap o_radius_n o_radius o_heights_n o_heights_133 o_kept_n o_kept o_about_n o_about_133 o_feeds_n o_feeds) := by
              intro n
              induction n with
              | zero => intro x7_133 o_about_133 o_heights_133 hf0_133; rw [LX7_step_133] at hf0_133; cases hf0_133
              | succ n133 ih133 =>
                intro x7_133 o_about_133 o_heights_133 hf0_133
                rw [LX7_step_133] at hf0_133
                refine z_iload 7 (pc := 133) dX7_step_133 rfl ?_
                refine z_sipush (pc := 135) (v := 400) dX7_step_135 (by decide) ?_
                refine z_icmp_ge (pc := 138) (tgt := 193) dX7_step_138 (by decide) hf0_133 (fun hf0_133 => ?_) (fun hf0_133 => ?_)
                · obtain rfl := Option.some.inj hf0_133
                  refine z_aload_n 0 (pc := 193) dX7_step_193 rfl ?_
                  refine z_get 0 18 (pc := 194) (v := .ref h_o_about) rfl rfl inX7 (by decide) flX7_38 rfl dX7_step_194 ?_
                  refine z_iconst (pc := 197) (v := 0) dX7_step_197 (by decide) ?_
                  refine z_aload_n 0 (pc := 198) dX7_step_198 rfl ?_
                  refine z_get 0 18 (pc := 199) (v := .ref h_o_about) rfl rfl inX7 (by decide) flX7_38 rfl dX7_step_199 ?_
                  refine z_iconst (pc := 202) (v := 0) dX7_step_202 (by decide) ?_
                  refine z_iaload 4 0 (pc := 203) rfl rfl dX7_step_203 hf0 (fun hf0 => ?_)
                  refine z_iload_n 1 (pc := 204) dX7_step_204 rfl ?_
                  refine z_if_ne (pc := 205) (tgt := 212) dX7_step_205 (by decide) hf0 (fun hf0 => ?_) (fun hf0 => ?_)
                  · refine z_aload_n 0 (pc := 212) dX7_step_212 rfl ?_
                    refine z_get 0 6 (pc := 213) (v := .ref h_o_feeds) rfl rfl inX7 (by decide) flX7_23 rfl dX7_step_213 ?_
                    refine z_aload_n 0 (pc := 216) dX7_step_216 rfl ?_
                    refine z_get 0 17 (pc := 217) (v := .int o_tool) rfl rfl inX7 (by decide) flX7_113 rfl dX7_step_217 ?_
                    refine z_iaload 5 0 (pc := 220) rfl rfl dX7_step_220 hf0 (fun hf0 => ?_)
                    refine z_iadd (pc := 221) dX7_step_221 ?_
                    refine z_iastore 4 0 (pc := 222) (ws' := (wsX7_step cA h_o h_o_radius h_o_heights h_o_kept h_o_about h_o_feeds o_thrown o_side o_targets o_text o_size o_at o_fault o_program o_draft o_statements o_hasProgram o_hasRun o_where o_tool o_stack o_seen o_begin o_gap o_radius_n o_radius o_heights_n o_heights_133 o_kept_n o_kept o_about_n (upd o_about_133 (0 : Int32).toNatClampNeg ((o_about_133 (0 : Int32).toNatClampNeg) + (o_feeds o_tool.toNatClampNeg))) o_feeds_n o_feeds)) rfl rfl dX7_step_222 rfl hf0 (fun hf0 => ?_)
                    refine z_iconst (pc := 223) (v := 0) dX7_step_223 (by decide) ?_
                    obtain rfl := Option.some.inj hf0
                    exact z_iret hE dX7_step_224
                  · refine z_iconst (pc := 208) (v := 1) dX7_step_208 (by decide) ?_
                    refine z_goto (pc := 209) (tgt := 221) dX7_step_209 (by decide) ?_
                    refine z_iadd (pc := 221) dX7_step_221 ?_
                    refine z_iastore 4 0 (pc := 222) (ws' := (wsX7_step cA h_o h_o_radius h_o_heights h_o_kept h_o_about h_o_feeds o_thrown o_side o_targets o_text o_size o_at o_fault o_program o_draft o_statements o_hasProgram o_hasRun o_where o_tool o_stack o_seen o_begin o_gap o_radius_n o_radius o_heights_n o_heights_133 o_kept_n o_kept o_about_n (upd o_about_133 (0 : Int32).toNatClampNeg ((o_about_133 (0 : Int32).toNatClampNeg) + 1)) o_feeds_n o_feeds)) rfl rfl dX7_step_222 rfl hf0 (fun hf0 => ?_)
                    refine z_iconst (pc := 223) (v := 0) dX7_step_223 (by decide) ?_
                    obtain rfl := Option.some.inj hf0
                    exact z_iret hE dX7_step_224
                · refine z_aload_n 0 (pc := 141) dX7_step_141 rfl ?_
                  refine z_aload_n 0 (pc := 142) dX7_step_142 rfl ?_
                  refine z_get 0 17 (pc := 143) (v := .int o_tool) rfl rfl inX7 (by decide) flX7_113 rfl dX7_step_143 ?_
                  refine z_iload_n 2 (pc := 146) dX7_step_146 rfl ?_
                  refine z_iload_n 3 (pc := 147) dX7_step_147 rfl ?_
                  refine z_iload 7 (pc := 148) dX7_step_148 rfl ?_
                  obtain ⟨r3, er3, hf0_133⟩ := bp hf0_133
                  refine z_calliV (pc := 150) (As := [.int o_tool, .int a2, .int a3, .int x7_133]) (rest := []) (ws' := (wsX7_step cA h_o h_o_radius h_o_heights h_o_kept h_o_about h_o_feeds o_thrown o_side o_targets o_text o_size o_at o_fault o_program o_draft o_statements o_hasProgram o_hasRun o_where o_tool o_stack o_seen o_begin o_gap o_radius_n o_radius o_heights_n o_heights_133 o_kept_n o_kept o_about_n o_about_133 o_feeds_n o_feeds)) (kX7_isInDisc l D cA h_o h_o_radius o_thrown o_side (.ref h_o_heights) o_targets (.ref h_o_kept) (.ref h_o_feeds) o_text o_size o_at o_fault o_program o_draft o_statements o_hasProgram o_hasRun o_where o_tool (.ref h_o_about) o_stack o_seen o_begin o_gap o_radius_n o_radius o_tool a2 a3 x7_133 N r3 er3) ivX7_116 ⟨rfl, rfl⟩ ⟨by decide, by decide⟩ rfl ⟨Nat.zero_le _, Nat.zero_le _⟩ rfl rfl [0, 1] rfl (by decide) rfl rfl rfl (Nat.le_of_ble_eq_true rfl) dX7_step_150 ?_
                  refine z_if_eq (pc := 153) (tgt := 187) dX7_step_153 (by decide) hf0_133 (fun hf0_133 => ?_) (fun hf0_133 => ?_)
                  · refine z_iinc 7 (pc := 187) (v := x7_133 + 1) (lv' := [(7, .int (x7_133 + 1)), (0, .ref h_o), (1, .int a1), (2, .int a2), (3, .int a3), (4, .int a4), (5, .int x5_9), (6, .int x6_9)]) dX7_step_187 rfl rfl (by decide) rfl ?_
                    refine z_goto (pc := 190) (tgt := 133) dX7_step_190 (by decide) ?_
                    exact z_lv [1, 2, 3, 4, 5, 6, 7, 0] rfl (ih133 (x7_133 + 1) o_about_133 o_heights_133 hf0_133)
                  · refine z_aload_n 0 (pc := 156) dX7_step_156 rfl ?_
                    refine z_get 0 2 (pc := 157) (v := .ref h_o_heights) rfl rfl inX7 (by decide) flX7_7 rfl dX7_step_157 ?_
                    refine z_iload 7 (pc := 160) dX7_step_160 rfl ?_
                    refine z_iaload 2 0 (pc := 162) rfl rfl dX7_step_162 hf0_133 (fun hf0_133 => ?_)
                    refine z_iload 4 (pc := 163) dX7_step_163 rfl ?_
                    refine z_icmp_le (pc := 165) (tgt := 187) dX7_step_165 (by decide) hf0_133 (fun hf0_133 => ?_) (fun hf0_133 => ?_)
                    · refine z_iinc 7 (pc := 187) (v := x7_133 + 1) (lv' := [(7, .int (x7_133 + 1)), (0, .ref h_o), (1, .int a1), (2, .int a2), (3, .int a3), (4, .int a4), (5, .int x5_9), (6, .int x6_9)]) dX7_step_187 rfl rfl (by decide) rfl ?_
                      refine z_goto (pc := 190) (tgt := 133) dX7_step_190 (by decide) ?_
                      exact z_lv [1, 2, 3, 4, 5, 6, 7, 0] rfl (ih133 (x7_133 + 1) o_about_133 o_heights_133 hf0_133)
                    · refine z_aload_n 0 (pc := 168) dX7_step_168 rfl ?_
                      refine z_get 0 2 (pc := 169) (v := .ref h_o_heights) rfl rfl inX7 (by decide) flX7_7 rfl dX7_step_169 ?_
                      refine z_iload 7 (pc := 172) dX7_step_172 rfl ?_
                      refine z_iload 4 (pc := 174) dX7_step_174 rfl ?_
                      refine z_iastore 2 0 (pc := 176) (ws' := (wsX7_step cA h_o h_o_radius h_o_heights h_o_kept h_o_about h_o_feeds o_thrown o_side o_targets o_text o_size o_at o_fault o_program o_draft o_statements o_hasProgram o_hasRun o_where o_tool o_stack o_seen o_begin o_gap o_radius_n o_radius o_heights_n (upd o_heights_133 x7_133.toNatClampNeg a4) o_kept_n o_kept o_about_n o_about_133 o_feeds_n o_feeds)) rfl rfl dX7_step_176 rfl hf0_133 (fun hf0_133 => ?_)
                      refine z_aload_n 0 (pc := 177) dX7_step_177 rfl ?_
                      refine z_get 0 18 (pc := 178) (v := .ref h_o_about) rfl rfl inX7 (by decide) flX7_38 rfl dX7_step_178 ?_
                      refine z_iconst (pc := 181) (v := 5) dX7_step_181 (by decide) ?_
                      refine z_dup2 (pc := 182) dX7_step_182 rfl rfl ?_
                      refine z_iaload 4 0 (pc := 183) rfl rfl dX7_step_183 hf0_133 (fun hf0_133 => ?_)
                      refine z_iconst (pc := 184) (v := 1) dX7_step_184 (by decide) ?_
                      refine z_iadd (pc := 185) dX7_step_185 ?_
                      refine z_iastore 4 0 (pc := 186) (ws' := (wsX7_step cA h_o h_o_radius h_o_heights h_o_kept h_o_about h_o_feeds o_thrown o_side o_targets o_text o_size o_at o_fault o_program o_draft o_statements o_hasProgram o_hasRun o_where o_tool o_stack o_seen o_begin o_gap o_radius_n o_radius o_heights_n (upd o_heights_133 x7_133.toNatClampNeg a4) o_kept_n o_kept o_about_n (upd o_about_133 (5 : Int32).toNatClampNeg ((o_about_133 (5 : Int32).toNatClampNeg) + 1)) o_feeds_n o_feeds)) rfl rfl dX7_step_186 rfl hf0_133 (fun hf0_133 => ?_)
                      refine z_iinc 7 (pc := 187) (v := x7_133 + 1) (lv' := [(7, .int (x7_133 + 1)), (0, .ref h_o), (1, .int a1), (2, .int a2), (3, .int a3), (4, .int a4), (5, .int x5_9), (6, .int x6_9)]) dX7_step_187 rfl rfl (by decide) rfl ?_
                      refine z_goto (pc := 190) (tgt := 133) dX7_step_190 (by decide) ?_
                      exact z_lv [1, 2, 3, 4, 5, 6, 7, 0] rfl (ih133 (x7_133 + 1) (upd o_about_133 (5 : Int32).toNatClampNeg ((o_about_133 (5 : Int32).toNatClampNeg) + 1)) (upd o_heights_133 x7_133.toNatClampNeg a4) hf0_133)
            exact z_lv [1, 2, 3, 4, 5, 6, 7, 0] rfl (lp133 N 0 o_about o_heights hf0_133)
          refine z_icmp_ne (pc := 112) (tgt := 130) dX7_step_112 (by decide) hf0 (fun hf0 => ?_) (fun hf0 => ?_)
          · exact z_lv [0, 1, 2, 3, 4, 5, 6, 7] rfl (j130  hf0)
          · refine z_iload 6 (pc := 115) dX7_step_115 rfl ?_
            refine z_if_eq (pc := 117) (tgt := 130) dX7_step_117 (by decide) hf0 (fun hf0 => ?_) (fun hf0 => ?_)
            · exact z_lv [0, 1, 2, 3, 4, 5, 6, 7] rfl (j130  hf0)
            · refine z_iload_n 1 (pc := 120) dX7_step_120 rfl ?_
              refine z_if_ne (pc := 121) (tgt := 128) dX7_step_121 (by decide) hf0 (fun hf0 => ?_) (fun hf0 => ?_)
              · refine z_iconst (pc := 128) (v := 2) dX7_step_128 (by decide) ?_
                obtain rfl := Option.some.inj hf0
                exact z_iret hE dX7_step_129
              · refine z_iconst (pc := 124) (v := 1) dX7_step_124 (by decide) ?_
                refine z_goto (pc := 125) (tgt := 129) dX7_step_125 (by decide) ?_
                obtain rfl := Option.some.inj hf0
                exact z_iret hE dX7_step_129
        refine z_if_ne (pc := 102) (tgt := 110) dX7_step_102 (by decide) hf0 (fun hf0 => ?_) (fun hf0 => ?_)
        · exact z_lv [0, 1, 2, 3, 4, 5, 6, 7] rfl (j110  hf0)
        · refine z_iload 5 (pc := 105) dX7_step_105 rfl ?_
          refine z_if_ne (pc := 107) (tgt := 120) dX7_step_107 (by decide) hf0 (fun hf0 => ?_) (fun hf0 => ?_)
          · refine z_iload_n 1 (pc := 120) dX7_step_120 rfl ?_
            refine z_if_ne (pc := 121) (tgt := 128) dX7_step_121 (by decide) hf0 (fun hf0 => ?_) (fun hf0 => ?_)
            · refine z_iconst (pc := 128) (v := 2) dX7_step_128 (by decide) ?_
              obtain rfl := Option.some.inj hf0
              exact z_iret hE dX7_step_129
            · refine z_iconst (pc := 124) (v := 1) dX7_step_124 (by decide) ?_
              refine z_goto (pc := 125) (tgt := 129) dX7_step_125 (by decide) ?_
              obtain rfl := Option.some.inj hf0
              exact z_iret hE dX7_step_129
          · exact z_lv [0, 1, 2, 3, 4, 5, 6, 7] rfl (j110  hf0)
      · refine z_aload_n 0 (pc := 17) dX7_step_17 rfl ?_
        refine z_aload_n 0 (pc := 18) dX7_step_18 rfl ?_
        refine z_get 0 17 (pc := 19) (v := .int o_tool) rfl rfl inX7 (by decide) flX7_113 rfl dX7_step_19 ?_
        refine z_iload_n 2 (pc := 22) dX7_step_22 rfl ?_
        refine z_iload_n 3 (pc := 23) dX7_step_23 rfl ?_
        refine z_iload 7 (pc := 24) dX7_step_24 rfl ?_
        obtain ⟨r4, er4, hf0_9⟩ := bp hf0_9
        refine z_calliV (pc := 26) (As := [.int o_tool, .int a2, .int a3, .int x7_9]) (rest := []) (ws' := (wsX7_step cA h_o h_o_radius h_o_heights h_o_kept h_o_about h_o_feeds o_thrown o_side o_targets o_text o_size o_at o_fault o_program o_draft o_statements o_hasProgram o_hasRun o_where o_tool o_stack o_seen o_begin o_gap o_radius_n o_radius o_heights_n o_heights o_kept_n o_kept o_about_n o_about o_feeds_n o_feeds)) (kX7_isInDisc l D cA h_o h_o_radius o_thrown o_side (.ref h_o_heights) o_targets (.ref h_o_kept) (.ref h_o_feeds) o_text o_size o_at o_fault o_program o_draft o_statements o_hasProgram o_hasRun o_where o_tool (.ref h_o_about) o_stack o_seen o_begin o_gap o_radius_n o_radius o_tool a2 a3 x7_9 N r4 er4) ivX7_116 ⟨rfl, rfl⟩ ⟨by decide, by decide⟩ rfl ⟨Nat.zero_le _, Nat.zero_le _⟩ rfl rfl [0, 1] rfl (by decide) rfl rfl rfl (Nat.le_of_ble_eq_true rfl) dX7_step_26 ?_
        have j49 : ∀ (s_49 : Int32), JX7_step_49 (fun b0 b1 b2 => LX7_step_9 N o_tool a2 a3 o_side o_radius_n o_radius o_kept_n o_kept o_heights_n o_heights a4 n9 b0 b1 b2) x5_9 x6_9 x7_9 o_kept_n o_kept s_49 = some y9 → V κ false l D cA rmX7_step cX7_step 9 RX7 (some .int) 0 0 49 [(0, .ref h_o), (1, .int a1), (2, .int a2), (3, .int a3), (4, .int a4), (5, .int x5_9), (6, .int x6_9), (7, .int x7_9)] [.int s_49] (wsX7_step cA h_o h_o_radius h_o_heights h_o_kept h_o_about h_o_feeds o_thrown o_side o_targets o_text o_size o_at o_fault o_program o_draft o_statements o_hasProgram o_hasRun o_where o_tool o_stack o_seen o_begin o_gap o_radius_n o_radius o_heights_n o_heights o_kept_n o_kept o_about_n o_about o_feeds_n o_feeds) := by
          intro s_49 hf0_9
          rw [JX7_step_49] at hf0_9
          refine z_istore (pc := 49) (lv' := [(8, .int s_49), (0, .ref h_o), (1, .int a1), (2, .int a2), (3, .int a3), (4, .int a4), (5, .int x5_9), (6, .int x6_9), (7, .int x7_9)]) dX7_step_49 (by decide) rfl ?_
          refine z_iload 6 (pc := 51) dX7_step_51 rfl ?_
          have j66 : ∀ (s_66 : Int32), JX7_step_66 (fun b0 b1 b2 => LX7_step_9 N o_tool a2 a3 o_side o_radius_n o_radius o_kept_n o_kept o_heights_n o_heights a4 n9 b0 b1 b2) x6_9 s_49 x7_9 o_kept_n o_kept s_66 = some y9 → V κ false l D cA rmX7_step cX7_step 9 RX7 (some .int) 0 0 66 [(8, .int s_49), (0, .ref h_o), (1, .int a1), (2, .int a2), (3, .int a3), (4, .int a4), (5, .int x5_9), (6, .int x6_9), (7, .int x7_9)] [.int s_66] (wsX7_step cA h_o h_o_radius h_o_heights h_o_kept h_o_about h_o_feeds o_thrown o_side o_targets o_text o_size o_at o_fault o_program o_draft o_statements o_hasProgram o_hasRun o_where o_tool o_stack o_seen o_begin o_gap o_radius_n o_radius o_heights_n o_heights o_kept_n o_kept o_about_n o_about o_feeds_n o_feeds) := by
            intro s_66 hf0_9
            rw [JX7_step_66] at hf0_9
            refine z_istore (pc := 66) (lv' := [(5, .int s_66), (8, .int s_49), (0, .ref h_o), (1, .int a1), (2, .int a2), (3, .int a3), (4, .int a4), (6, .int x6_9), (7, .int x7_9)]) dX7_step_66 (by decide) rfl ?_
            refine z_iload 7 (pc := 68) dX7_step_68 rfl ?_
            refine z_if_ne (pc := 70) (tgt := 88) dX7_step_70 (by decide) hf0_9 (fun hf0_9 => ?_) (fun hf0_9 => ?_)
            · refine z_iconst (pc := 88) (v := 1) dX7_step_88 (by decide) ?_
              refine z_goto (pc := 89) (tgt := 93) dX7_step_89 (by decide) ?_
              refine z_istore (pc := 93) (lv' := [(6, .int 1), (5, .int s_66), (8, .int s_49), (0, .ref h_o), (1, .int a1), (2, .int a2), (3, .int a3), (4, .int a4), (7, .int x7_9)]) dX7_step_93 (by decide) rfl ?_
              refine z_iinc 8 (pc := 95) (v := x7_9 + 1) (lv' := [(7, .int (x7_9 + 1)), (6, .int 1), (5, .int s_66), (8, .int s_49), (0, .ref h_o), (1, .int a1), (2, .int a2), (3, .int a3), (4, .int a4)]) dX7_step_95 rfl rfl (by decide) rfl ?_
              refine z_goto (pc := 98) (tgt := 9) dX7_step_98 (by decide) ?_
              exact z_lv [4, 5, 6, 7, 8, 2, 1, 0] rfl (ih9 s_66 1 (x7_9 + 1) hf0_9)
            · refine z_iload 1 (pc := 73) dX7_step_73 rfl ?_
              refine z_if_eq (pc := 75) (tgt := 92) dX7_step_75 (by decide) hf0_9 (fun hf0_9 => ?_) (fun hf0_9 => ?_)
              · refine z_iconst (pc := 92) (v := 0) dX7_step_92 (by decide) ?_
                refine z_istore (pc := 93) (lv' := [(6, .int 0), (5, .int s_66), (8, .int s_49), (0, .ref h_o), (1, .int a1), (2, .int a2), (3, .int a3), (4, .int a4), (7, .int x7_9)]) dX7_step_93 (by decide) rfl ?_
                refine z_iinc 8 (pc := 95) (v := x7_9 + 1) (lv' := [(7, .int (x7_9 + 1)), (6, .int 0), (5, .int s_66), (8, .int s_49), (0, .ref h_o), (1, .int a1), (2, .int a2), (3, .int a3), (4, .int a4)]) dX7_step_95 rfl rfl (by decide) rfl ?_
                refine z_goto (pc := 98) (tgt := 9) dX7_step_98 (by decide) ?_
                exact z_lv [4, 5, 6, 7, 8, 2, 1, 0] rfl (ih9 s_66 0 (x7_9 + 1) hf0_9)
              · refine z_aload_n 2 (pc := 78) dX7_step_78 rfl ?_
                refine z_get 0 4 (pc := 79) (v := .ref h_o_kept) rfl rfl inX7 (by decide) flX7_16 rfl dX7_step_79 ?_
                refine z_iload 8 (pc := 82) dX7_step_82 rfl ?_
                refine z_zaload 3 1 (pc := 84) rfl rfl dX7_step_84 hf0_9 (fun hf0_9 => ?_)
                refine z_if_eq (pc := 85) (tgt := 92) dX7_step_85 (by decide) hf0_9 (fun hf0_9 => ?_) (fun hf0_9 => ?_)
                · refine z_iconst (pc := 92) (v := 0) dX7_step_92 (by decide) ?_
                  refine z_istore (pc := 93) (lv' := [(6, .int 0), (5, .int s_66), (8, .int s_49), (0, .ref h_o), (1, .int a1), (2, .int a2), (3, .int a3), (4, .int a4), (7, .int x7_9)]) dX7_step_93 (by decide) rfl ?_
                  refine z_iinc 8 (pc := 95) (v := x7_9 + 1) (lv' := [(7, .int (x7_9 + 1)), (6, .int 0), (5, .int s_66), (8, .int s_49), (0, .ref h_o), (1, .int a1), (2, .int a2), (3, .int a3), (4, .int a4)]) dX7_step_95 rfl rfl (by decide) rfl ?_
                  refine z_goto (pc := 98) (tgt := 9) dX7_step_98 (by decide) ?_
                  exact z_lv [4, 5, 6, 7, 8, 2, 1, 0] rfl (ih9 s_66 0 (x7_9 + 1) hf0_9)
                · refine z_iconst (pc := 88) (v := 1) dX7_step_88 (by decide) ?_
                  refine z_goto (pc := 89) (tgt := 93) dX7_step_89 (by decide) ?_
                  refine z_istore (pc := 93) (lv' := [(6, .int 1), (5, .int s_66), (8, .int s_49), (0, .ref h_o), (1, .int a1), (2, .int a2), (3, .int a3), (4, .int a4), (7, .int x7_9)]) dX7_step_93 (by decide) rfl ?_
                  refine z_iinc 8 (pc := 95) (v := x7_9 + 1) (lv' := [(7, .int (x7_9 + 1)), (6, .int 1), (5, .int s_66), (8, .int s_49), (0, .ref h_o), (1, .int a1), (2, .int a2), (3, .int a3), (4, .int a4)]) dX7_step_95 rfl rfl (by decide) rfl ?_
                  refine z_goto (pc := 98) (tgt := 9) dX7_step_98 (by decide) ?_
                  exact z_lv [4, 5, 6, 7, 8, 2, 1, 0] rfl (ih9 s_66 1 (x7_9 + 1) hf0_9)
          have j61 : JX7_step_61 (fun b0 b1 b2 => LX7_step_9 N o_tool a2 a3 o_side o_radius_n o_radius o_kept_n o_kept o_heights_n o_heights a4 n9 b0 b1 b2) x6_9 s_49 x7_9 o_kept_n o_kept  = some y9 → V κ false l D cA rmX7_step cX7_step 9 RX7 (some .int) 0 0 61 [(8, .int s_49), (0, .ref h_o), (1, .int a1), (2, .int a2), (3, .int a3), (4, .int a4), (5, .int x5_9), (6, .int x6_9), (7, .int x7_9)] [] (wsX7_step cA h_o h_o_radius h_o_heights h_o_kept h_o_about h_o_feeds o_thrown o_side o_targets o_text o_size o_at o_fault o_program o_draft o_statements o_hasProgram o_hasRun o_where o_tool o_stack o_seen o_begin o_gap o_radius_n o_radius o_heights_n o_heights o_kept_n o_kept o_about_n o_about o_feeds_n o_feeds) := by
            intro hf0_9
            rw [JX7_step_61] at hf0_9
            refine z_iconst (pc := 61) (v := 1) dX7_step_61 (by decide) ?_
            refine z_goto (pc := 62) (tgt := 66) dX7_step_62 (by decide) ?_
            exact z_lv [0, 1, 2, 3, 4, 5, 6, 7, 8] rfl (j66 1 hf0_9)
          refine z_if_ne (pc := 53) (tgt := 61) dX7_step_53 (by decide) hf0_9 (fun hf0_9 => ?_) (fun hf0_9 => ?_)
          · exact z_lv [0, 1, 2, 3, 4, 5, 6, 7, 8] rfl (j61  hf0_9)
          · refine z_iload 0 (pc := 56) dX7_step_56 rfl ?_
            refine z_if_eq (pc := 58) (tgt := 65) dX7_step_58 (by decide) hf0_9 (fun hf0_9 => ?_) (fun hf0_9 => ?_)
            · refine z_iconst (pc := 65) (v := 0) dX7_step_65 (by decide) ?_
              exact z_lv [0, 1, 2, 3, 4, 5, 6, 7, 8] rfl (j66 0 hf0_9)
            · exact z_lv [0, 1, 2, 3, 4, 5, 6, 7, 8] rfl (j61  hf0_9)
        have j48 : JX7_step_48 (fun b0 b1 b2 => LX7_step_9 N o_tool a2 a3 o_side o_radius_n o_radius o_kept_n o_kept o_heights_n o_heights a4 n9 b0 b1 b2) x5_9 x6_9 x7_9 o_kept_n o_kept  = some y9 → V κ false l D cA rmX7_step cX7_step 9 RX7 (some .int) 0 0 48 [(0, .ref h_o), (1, .int a1), (2, .int a2), (3, .int a3), (4, .int a4), (5, .int x5_9), (6, .int x6_9), (7, .int x7_9)] [] (wsX7_step cA h_o h_o_radius h_o_heights h_o_kept h_o_about h_o_feeds o_thrown o_side o_targets o_text o_size o_at o_fault o_program o_draft o_statements o_hasProgram o_hasRun o_where o_tool o_stack o_seen o_begin o_gap o_radius_n o_radius o_heights_n o_heights o_kept_n o_kept o_about_n o_about o_feeds_n o_feeds) := by
          intro hf0_9
          rw [JX7_step_48] at hf0_9
          refine z_iconst (pc := 48) (v := 0) dX7_step_48 (by decide) ?_
          exact z_lv [0, 1, 2, 3, 4, 5, 6, 7] rfl (j49 0 hf0_9)
        refine z_if_eq (pc := 29) (tgt := 48) dX7_step_29 (by decide) hf0_9 (fun hf0_9 => ?_) (fun hf0_9 => ?_)
        · exact z_lv [0, 1, 2, 3, 4, 5, 6, 7] rfl (j48  hf0_9)
        · refine z_aload_n 0 (pc := 32) dX7_step_32 rfl ?_
          refine z_get 0 2 (pc := 33) (v := .ref h_o_heights) rfl rfl inX7 (by decide) flX7_7 rfl dX7_step_33 ?_
          refine z_iload 7 (pc := 36) dX7_step_36 rfl ?_
          refine z_iaload 2 0 (pc := 38) rfl rfl dX7_step_38 hf0_9 (fun hf0_9 => ?_)
          refine z_iload 4 (pc := 39) dX7_step_39 rfl ?_
          refine z_icmp_le (pc := 41) (tgt := 48) dX7_step_41 (by decide) hf0_9 (fun hf0_9 => ?_) (fun hf0_9 => ?_)
          · exact z_lv [0, 1, 2, 3, 4, 5, 6, 7] rfl (j48  hf0_9)
          · refine z_iconst (pc := 44) (v := 1) dX7_step_44 (by decide) ?_
            refine z_goto (pc := 45) (tgt := 49) dX7_step_45 (by decide) ?_
            exact z_lv [0, 1, 2, 3, 4, 5, 6, 7] rfl (j49 1 hf0_9)
  exact z_lv [3, 4, 5, 6, 7, 2, 1, 0] rfl (lp9 N 0 0 0 hf0_9)

abbrev RX7_go : Type := Int32 × (Nat → Int32) × (Nat → Int32) × (Nat → Int32) × (Nat → Int32) × (Nat → Int32)
abbrev rmX7_go : Room := { frames := 4, cells := 0, slots := 0, locals := 96 }
abbrev wsX7_go (cA : Nat → ClassId) (h_o : Nat) (h_o_begin : Nat) (h_o_where : Nat) (h_o_program : Nat) (h_o_gap : Nat) (h_o_radius : Nat) (h_o_heights : Nat) (h_o_kept : Nat) (h_o_about : Nat) (h_o_feeds : Nat) (o_thrown : Int32) (o_side : Int32) (o_targets : Value) (o_text : Value) (o_size : Int32) (o_at : Int32) (o_fault : Int32) (o_draft : Value) (o_statements : Int32) (o_hasProgram : Int32) (o_hasRun : Int32) (o_tool : Int32) (o_stack : Value) (o_seen : Value) (o_begin_n : Nat) (o_begin : Nat → Int32) (o_where_n : Nat) (o_where : Nat → Int32) (o_program_n : Nat) (o_program : Nat → Int32) (o_gap_n : Nat) (o_gap : Nat → Int32) (o_radius_n : Nat) (o_radius : Nat → Int32) (o_heights_n : Nat) (o_heights : Nat → Int32) (o_kept_n : Nat) (o_kept : Nat → Int32) (o_about_n : Nat) (o_about : Nat → Int32) (o_feeds_n : Nat) (o_feeds : Nat → Int32) : va_W := [(h_o, .inr (7, [.int o_thrown, .int o_side, .ref h_o_heights, o_targets, .ref h_o_kept, .ref h_o_radius, .ref h_o_feeds, o_text, .int o_size, .int o_at, .int o_fault, .ref h_o_program, o_draft, .int o_statements, .int o_hasProgram, .int o_hasRun, .ref h_o_where, .int o_tool, .ref h_o_about, o_stack, o_seen, .ref h_o_begin, .ref h_o_gap])), (h_o_begin, .inl (cA 0, o_begin_n, .inl o_begin)), (h_o_where, .inl (cA 0, o_where_n, .inl o_where)), (h_o_program, .inl (cA 0, o_program_n, .inl o_program)), (h_o_gap, .inl (cA 0, o_gap_n, .inl o_gap)), (h_o_radius, .inl (cA 0, o_radius_n, .inl o_radius)), (h_o_heights, .inl (cA 0, o_heights_n, .inl o_heights)), (h_o_kept, .inl (cA 1, o_kept_n, .inl o_kept)), (h_o_about, .inl (cA 0, o_about_n, .inl o_about)), (h_o_feeds, .inl (cA 0, o_feeds_n, .inl o_feeds))]
def LX7_go_124 (o_begin_n : Nat) (o_gap_n : Nat) (N : Nat) (r1 : Int32 × Int32 × (Nat → Int32) × (Nat → Int32)) (x4_111 : Int32) (o_where_n : Nat) : Nat → Int32 → (Nat → Int32) → Option (Int32 × (Nat → Int32))
  | 0, _, _ => none
  | n + 1, x5_124, o_where_124 => (if 3 ≤ x5_124 then some (x5_124, o_where_124) else (if x5_124 < 0 ∨ o_begin_n ≤ x5_124.toNatClampNeg then none else (if x5_124 < 0 ∨ o_gap_n ≤ x5_124.toNatClampNeg then none else ((fX7_floor N (((2 * (r1.2.2.2 x5_124.toNatClampNeg)) * x4_111) + r1.1) (2 * r1.1)).bind fun r5 => (if x5_124 < 0 ∨ o_where_n ≤ x5_124.toNatClampNeg then none else LX7_go_124 o_begin_n o_gap_n N r1 x4_111 o_where_n n (x5_124 + 1) (upd o_where_124 x5_124.toNatClampNeg ((r1.2.2.1 x5_124.toNatClampNeg) + r5)))))))
def LX7_go_111 (r1 : Int32 × Int32 × (Nat → Int32) × (Nat → Int32)) (o_begin_n : Nat) (o_gap_n : Nat) (N : Nat) (o_where_n : Nat) (a1 : Int32) (o_program_n : Nat) (o_program : Nat → Int32) (o_side : Int32) (o_tool : Int32) (o_radius_n : Nat) (o_radius : Nat → Int32) (o_heights_n : Nat) (o_kept_n : Nat) (o_kept : Nat → Int32) (o_about_n : Nat) (o_feeds_n : Nat) (o_feeds : Nat → Int32) : Nat → Int32 → Int32 → (Nat → Int32) → (Nat → Int32) → (Nat → Int32) → Option (Int32 × Int32 × (Nat → Int32) × (Nat → Int32) × (Nat → Int32))
  | 0, _, _, _, _, _ => none
  | n + 1, x3_111, x4_111, o_about_111, o_heights_111, o_where_111 => (if r1.1 < x4_111 then some (x3_111, x4_111, o_about_111, o_heights_111, o_where_111) else (if x3_111 = 0 then ((LX7_go_124 o_begin_n o_gap_n N r1 x4_111 o_where_n N 0 o_where_111).bind fun r3 => (if (5 * a1) < 0 ∨ o_program_n ≤ (5 * a1).toNatClampNeg then none else (if (0 : Int32) < 0 ∨ o_where_n ≤ (0 : Int32).toNatClampNeg then none else (if (1 : Int32) < 0 ∨ o_where_n ≤ (1 : Int32).toNatClampNeg then none else (if (2 : Int32) < 0 ∨ o_where_n ≤ (2 : Int32).toNatClampNeg then none else ((fX7_step N (o_program (5 * a1).toNatClampNeg) (r3.2 (0 : Int32).toNatClampNeg) (r3.2 (1 : Int32).toNatClampNeg) (r3.2 (2 : Int32).toNatClampNeg) o_side o_tool o_radius_n o_radius o_heights_n o_heights_111 o_kept_n o_kept o_about_n o_about_111 o_feeds_n o_feeds).bind fun r4 => LX7_go_111 r1 o_begin_n o_gap_n N o_where_n a1 o_program_n o_program o_side o_tool o_radius_n o_radius o_heights_n o_kept_n o_kept o_about_n o_feeds_n o_feeds n r4.1 (x4_111 + 1) r4.2.2 r4.2.1 r3.2)))))) else some (x3_111, x4_111, o_about_111, o_heights_111, o_where_111)))
def JX7_go_59 (rec : Int32 → Int32 → (Nat → Int32) → (Nat → Int32) → Option (Int32 × Int32 × (Nat → Int32) × (Nat → Int32))) (x3_4 : Int32) (o_gap_n : Nat) (o_gap_4 : Nat → Int32) (x2_4 : Int32) (k7 : Nat → Int32) (s_59 : Int32) : Option (Int32 × Int32 × (Nat → Int32) × (Nat → Int32)) :=
  (if x3_4 < 0 ∨ o_gap_n ≤ x3_4.toNatClampNeg then none else (if x3_4 < 0 ∨ o_gap_n ≤ x3_4.toNatClampNeg then none else (if 0 ≤ ((upd o_gap_4 x3_4.toNatClampNeg s_59) x3_4.toNatClampNeg) then (if x3_4 < 0 ∨ o_gap_n ≤ x3_4.toNatClampNeg then none else (if ((upd o_gap_4 x3_4.toNatClampNeg s_59) x3_4.toNatClampNeg) ≤ x2_4 then rec x2_4 (x3_4 + 1) k7 (upd o_gap_4 x3_4.toNatClampNeg s_59) else rec ((upd o_gap_4 x3_4.toNatClampNeg s_59) x3_4.toNatClampNeg) (x3_4 + 1) k7 (upd o_gap_4 x3_4.toNatClampNeg s_59))) else (if x3_4 < 0 ∨ o_gap_n ≤ x3_4.toNatClampNeg then none else (if (-((upd o_gap_4 x3_4.toNatClampNeg s_59) x3_4.toNatClampNeg)) ≤ x2_4 then rec x2_4 (x3_4 + 1) k7 (upd o_gap_4 x3_4.toNatClampNeg s_59) else rec (-((upd o_gap_4 x3_4.toNatClampNeg s_59) x3_4.toNatClampNeg)) (x3_4 + 1) k7 (upd o_gap_4 x3_4.toNatClampNeg s_59))))))
def LX7_go_4 (o_where_n : Nat) (o_begin_n : Nat) (a1 : Int32) (o_program_n : Nat) (o_program : Nat → Int32) (o_gap_n : Nat) (o_where : Nat → Int32) : Nat → Int32 → Int32 → (Nat → Int32) → (Nat → Int32) → Option (Int32 × Int32 × (Nat → Int32) × (Nat → Int32))
  | 0, _, _, _, _ => none
  | n + 1, x2_4, x3_4, o_begin_4, o_gap_4 => (if 3 ≤ x3_4 then some (x2_4, x3_4, o_begin_4, o_gap_4) else (if x3_4 < 0 ∨ o_where_n ≤ x3_4.toNatClampNeg then none else (if x3_4 < 0 ∨ o_begin_n ≤ x3_4.toNatClampNeg then none else (if (((5 * a1) + 1) + x3_4) < 0 ∨ o_program_n ≤ (((5 * a1) + 1) + x3_4).toNatClampNeg then none else (if (o_program (((5 * a1) + 1) + x3_4).toNatClampNeg) = (-1) then JX7_go_59 (fun b0 b1 b2 b3 => LX7_go_4 o_where_n o_begin_n a1 o_program_n o_program o_gap_n o_where n b0 b1 b2 b3) x3_4 o_gap_n o_gap_4 x2_4 (upd o_begin_4 x3_4.toNatClampNeg (o_where x3_4.toNatClampNeg)) 0 else (if x3_4 < 0 ∨ o_where_n ≤ x3_4.toNatClampNeg then none else JX7_go_59 (fun b0 b1 b2 b3 => LX7_go_4 o_where_n o_begin_n a1 o_program_n o_program o_gap_n o_where n b0 b1 b2 b3) x3_4 o_gap_n o_gap_4 x2_4 (upd o_begin_4 x3_4.toNatClampNeg (o_where x3_4.toNatClampNeg)) ((o_program (((5 * a1) + 1) + x3_4).toNatClampNeg) - (o_where x3_4.toNatClampNeg))))))))
def fX7_go (N : Nat) (a1 : Int32) (o_side : Int32) (o_tool : Int32) (o_begin_n : Nat) (o_begin : Nat → Int32) (o_where_n : Nat) (o_where : Nat → Int32) (o_program_n : Nat) (o_program : Nat → Int32) (o_gap_n : Nat) (o_gap : Nat → Int32) (o_radius_n : Nat) (o_radius : Nat → Int32) (o_heights_n : Nat) (o_heights : Nat → Int32) (o_kept_n : Nat) (o_kept : Nat → Int32) (o_about_n : Nat) (o_about : Nat → Int32) (o_feeds_n : Nat) (o_feeds : Nat → Int32) : Option RX7_go :=
  ((LX7_go_4 o_where_n o_begin_n a1 o_program_n o_program o_gap_n o_where N 0 0 o_begin o_gap).bind fun r1 => ((LX7_go_111 r1 o_begin_n o_gap_n N o_where_n a1 o_program_n o_program o_side o_tool o_radius_n o_radius o_heights_n o_kept_n o_kept o_about_n o_feeds_n o_feeds N 0 1 o_about o_heights o_where).bind fun r2 => some (r2.1, r1.2.2.1, r2.2.2.2.2, r1.2.2.2, r2.2.2.2.1, r2.2.2.1)))
set_option maxHeartbeats 4000000 in
set_option maxRecDepth 100000 in
theorem kX7_go (l : Launch) (D : va_G) (cA : Nat → ClassId) (h_o : Nat) (h_o_begin : Nat) (h_o_where : Nat) (h_o_program : Nat) (h_o_gap : Nat) (h_o_radius : Nat) (h_o_heights : Nat) (h_o_kept : Nat) (h_o_about : Nat) (h_o_feeds : Nat) (o_thrown : Int32) (o_side : Int32) (o_targets : Value) (o_text : Value) (o_size : Int32) (o_at : Int32) (o_fault : Int32) (o_draft : Value) (o_statements : Int32) (o_hasProgram : Int32) (o_hasRun : Int32) (o_tool : Int32) (o_stack : Value) (o_seen : Value) (o_begin_n : Nat) (o_begin : Nat → Int32) (o_where_n : Nat) (o_where : Nat → Int32) (o_program_n : Nat) (o_program : Nat → Int32) (o_gap_n : Nat) (o_gap : Nat → Int32) (o_radius_n : Nat) (o_radius : Nat → Int32) (o_heights_n : Nat) (o_heights : Nat → Int32) (o_kept_n : Nat) (o_kept : Nat → Int32) (o_about_n : Nat) (o_about : Nat → Int32) (o_feeds_n : Nat) (o_feeds : Nat → Int32) (a1 : Int32) (N : Nat) (res : RX7_go) (hf0 : fX7_go N a1 o_side o_tool o_begin_n o_begin o_where_n o_where o_program_n o_program o_gap_n o_gap o_radius_n o_radius o_heights_n o_heights o_kept_n o_kept o_about_n o_about o_feeds_n o_feeds = some res) : CtI l yX7_go (Cond.code yX7_go cX7_go 6 (some .int) :: tblG) rmX7_go D cA (wsX7_go cA h_o h_o_begin h_o_where h_o_program h_o_gap h_o_radius h_o_heights h_o_kept h_o_about h_o_feeds o_thrown o_side o_targets o_text o_size o_at o_fault o_draft o_statements o_hasProgram o_hasRun o_tool o_stack o_seen o_begin_n o_begin o_where_n o_where o_program_n o_program o_gap_n o_gap o_radius_n o_radius o_heights_n o_heights o_kept_n o_kept o_about_n o_about o_feeds_n o_feeds) [.ref h_o, .int a1] res.1 (wsX7_go cA h_o h_o_begin h_o_where h_o_program h_o_gap h_o_radius h_o_heights h_o_kept h_o_about h_o_feeds o_thrown o_side o_targets o_text o_size o_at o_fault o_draft o_statements o_hasProgram o_hasRun o_tool o_stack o_seen o_begin_n res.2.1 o_where_n res.2.2.1 o_program_n o_program o_gap_n res.2.2.2.1 o_radius_n o_radius o_heights_n res.2.2.2.2.1 o_kept_n o_kept o_about_n res.2.2.2.2.2 o_feeds_n o_feeds) := by
  refine CtI.start (lv := [(0, .ref h_o), (1, .int a1)]) (by decide) (Nat.le_of_ble_eq_true rfl) rfl (fun κ hE => ?_)
  rw [fX7_go] at hf0
  refine z_iconst (pc := 0) (v := 0) dX7_go_0 (by decide) ?_
  refine z_istore_n (pc := 1) (lv' := [(2, .int 0), (0, .ref h_o), (1, .int a1)]) dX7_go_1 (by decide) rfl ?_
  refine z_iconst (pc := 2) (v := 0) dX7_go_2 (by decide) ?_
  refine z_istore_n (pc := 3) (lv' := [(3, .int 0), (2, .int 0), (0, .ref h_o), (1, .int a1)]) dX7_go_3 (by decide) rfl ?_
  obtain ⟨y4, hf0_4, hf0⟩ := bp hf0
  have lp4 : ∀ (n : Nat) (x2_4 : Int32) (x3_4 : Int32) (o_begin_4 : Nat → Int32) (o_gap_4 : Nat → Int32), LX7_go_4 o_where_n o_begin_n a1 o_program_n o_program o_gap_n o_where n x2_4 x3_4 o_begin_4 o_gap_4 = some y4 → V κ false l D cA rmX7_go cX7_go 6 RX7 (some .int) 0 0 4 [(0, .ref h_o), (1, .int a1), (2, .int x2_4), (3, .int x3_4)] [] (wsX7_go cA h_o h_o_begin h_o_where h_o_program h_o_gap h_o_radius h_o_heights h_o_kept h_o_about h_o_feeds o_thrown o_side o_targets o_text o_size o_at o_fault o_draft o_statements o_hasProgram o_hasRun o_tool o_stack o_seen o_begin_n o_begin_4 o_where_n o_where o_program_n o_program o_gap_n o_gap_4 o_radius_n o_radius o_heights_n o_heights o_kept_n o_kept o_about_n o_about o_feeds_n o_feeds) := by
    intro n
    induction n with
    | zero => intro x2_4 x3_4 o_begin_4 o_gap_4 hf0_4; rw [LX7_go_4] at hf0_4; cases hf0_4
    | succ n4 ih4 =>
      intro x2_4 x3_4 o_begin_4 o_gap_4 hf0_4
      rw [LX7_go_4] at hf0_4
      refine z_iload_n 3 (pc := 4) dX7_go_4 rfl ?_
      refine z_iconst (pc := 5) (v := 3) dX7_go_5 (by decide) ?_
      refine z_icmp_ge (pc := 6) (tgt := 106) dX7_go_6 (by decide) hf0_4 (fun hf0_4 => ?_) (fun hf0_4 => ?_)
      · obtain rfl := Option.some.inj hf0_4
        refine z_iconst (pc := 106) (v := 0) dX7_go_106 (by decide) ?_
        refine z_istore_n (pc := 107) (lv' := [(3, .int 0), (0, .ref h_o), (1, .int a1), (2, .int x2_4)]) dX7_go_107 (by decide) rfl ?_
        refine z_iconst (pc := 108) (v := 1) dX7_go_108 (by decide) ?_
        refine z_istore (pc := 109) (lv' := [(4, .int 1), (3, .int 0), (0, .ref h_o), (1, .int a1), (2, .int x2_4)]) dX7_go_109 (by decide) rfl ?_
        obtain ⟨y111, hf0_111, hf0⟩ := bp hf0
        have lp111 : ∀ (n : Nat) (x3_111 : Int32) (x4_111 : Int32) (o_about_111 : Nat → Int32) (o_heights_111 : Nat → Int32) (o_where_111 : Nat → Int32), LX7_go_111 (x2_4, x3_4, o_begin_4, o_gap_4) o_begin_n o_gap_n N o_where_n a1 o_program_n o_program o_side o_tool o_radius_n o_radius o_heights_n o_kept_n o_kept o_about_n o_feeds_n o_feeds n x3_111 x4_111 o_about_111 o_heights_111 o_where_111 = some y111 → V κ false l D cA rmX7_go cX7_go 6 RX7 (some .int) 0 0 111 [(0, .ref h_o), (1, .int a1), (2, .int x2_4), (3, .int x3_111), (4, .int x4_111)] [] (wsX7_go cA h_o h_o_begin h_o_where h_o_program h_o_gap h_o_radius h_o_heights h_o_kept h_o_about h_o_feeds o_thrown o_side o_targets o_text o_size o_at o_fault o_draft o_statements o_hasProgram o_hasRun o_tool o_stack o_seen o_begin_n o_begin_4 o_where_n o_where_111 o_program_n o_program o_gap_n o_gap_4 o_radius_n o_radius o_heights_n o_heights_111 o_kept_n o_kept o_about_n o_about_111 o_feeds_n o_feeds) := by
          intro n
          induction n with
          | zero => intro x3_111 x4_111 o_about_111 o_heights_111 o_where_111 hf0_111; rw [LX7_go_111] at hf0_111; cases hf0_111
          | succ n111 ih111 =>
            intro x3_111 x4_111 o_about_111 o_heights_111 o_where_111 hf0_111
            rw [LX7_go_111] at hf0_111
            refine z_iload 4 (pc := 111) dX7_go_111 rfl ?_
            refine z_iload_n 2 (pc := 113) dX7_go_113 rfl ?_
            refine z_icmp_gt (pc := 114) (tgt := 208) dX7_go_114 (by decide) hf0_111 (fun hf0_111 => ?_) (fun hf0_111 => ?_)
            · obtain rfl := Option.some.inj hf0_111
              refine z_iload_n 3 (pc := 208) dX7_go_208 rfl ?_
              obtain rfl := Option.some.inj hf0
              exact z_iret hE dX7_go_209
            · refine z_iload_n 3 (pc := 117) dX7_go_117 rfl ?_
              refine z_if_ne (pc := 118) (tgt := 208) dX7_go_118 (by decide) hf0_111 (fun hf0_111 => ?_) (fun hf0_111 => ?_)
              · obtain rfl := Option.some.inj hf0_111
                refine z_iload_n 3 (pc := 208) dX7_go_208 rfl ?_
                obtain rfl := Option.some.inj hf0
                exact z_iret hE dX7_go_209
              · refine z_iconst (pc := 121) (v := 0) dX7_go_121 (by decide) ?_
                refine z_istore (pc := 122) (lv' := [(5, .int 0), (0, .ref h_o), (1, .int a1), (2, .int x2_4), (3, .int x3_111), (4, .int x4_111)]) dX7_go_122 (by decide) rfl ?_
                obtain ⟨y124, hf0_111_124, hf0_111⟩ := bp hf0_111
                have lp124 : ∀ (n : Nat) (x5_124 : Int32) (o_where_124 : Nat → Int32), LX7_go_124 o_begin_n o_gap_n N (x2_4, x3_4, o_begin_4, o_gap_4) x4_111 o_where_n n x5_124 o_where_124 = some y124 → V κ false l D cA rmX7_go cX7_go 6 RX7 (some .int) 0 0 124 [(0, .ref h_o), (1, .int a1), (2, .int x2_4), (3, .int x3_111), (4, .int x4_111), (5, .int x5_124)] [] (wsX7_go cA h_o h_o_begin h_o_where h_o_program h_o_gap h_o_radius h_o_heights h_o_kept h_o_about h_o_feeds o_thrown o_side o_targets o_text o_size o_at o_fault o_draft o_statements o_hasProgram o_hasRun o_tool o_stack o_seen o_begin_n o_begin_4 o_where_n o_where_124 o_program_n o_program o_gap_n o_gap_4 o_radius_n o_radius o_heights_n o_heights_111 o_kept_n o_kept o_about_n o_about_111 o_feeds_n o_feeds) := by
                  intro n
                  induction n with
                  | zero => intro x5_124 o_where_124 hf0_111_124; rw [LX7_go_124] at hf0_111_124; cases hf0_111_124
                  | succ n124 ih124 =>
                    intro x5_124 o_where_124 hf0_111_124
                    rw [LX7_go_124] at hf0_111_124
                    refine z_iload 5 (pc := 124) dX7_go_124 rfl ?_
                    refine z_iconst (pc := 126) (v := 3) dX7_go_126 (by decide) ?_
                    refine z_icmp_ge (pc := 127) (tgt := 171) dX7_go_127 (by decide) hf0_111_124 (fun hf0_111_124 => ?_) (fun hf0_111_124 => ?_)
                    · obtain rfl := Option.some.inj hf0_111_124
                      refine z_aload_n 0 (pc := 171) dX7_go_171 rfl ?_
                      refine z_aload_n 0 (pc := 172) dX7_go_172 rfl ?_
                      refine z_get 0 11 (pc := 173) (v := .ref h_o_program) rfl rfl inX7 (by decide) flX7_29 rfl dX7_go_173 ?_
                      refine z_iconst (pc := 176) (v := 5) dX7_go_176 (by decide) ?_
                      refine z_iload_n 1 (pc := 177) dX7_go_177 rfl ?_
                      refine z_imul (pc := 178) dX7_go_178 ?_
                      refine z_iaload 3 0 (pc := 179) rfl rfl dX7_go_179 hf0_111 (fun hf0_111 => ?_)
                      refine z_aload_n 0 (pc := 180) dX7_go_180 rfl ?_
                      refine z_get 0 16 (pc := 181) (v := .ref h_o_where) rfl rfl inX7 (by decide) flX7_35 rfl dX7_go_181 ?_
                      refine z_iconst (pc := 184) (v := 0) dX7_go_184 (by decide) ?_
                      refine z_iaload 2 0 (pc := 185) rfl rfl dX7_go_185 hf0_111 (fun hf0_111 => ?_)
                      refine z_aload_n 0 (pc := 186) dX7_go_186 rfl ?_
                      refine z_get 0 16 (pc := 187) (v := .ref h_o_where) rfl rfl inX7 (by decide) flX7_35 rfl dX7_go_187 ?_
                      refine z_iconst (pc := 190) (v := 1) dX7_go_190 (by decide) ?_
                      refine z_iaload 2 0 (pc := 191) rfl rfl dX7_go_191 hf0_111 (fun hf0_111 => ?_)
                      refine z_aload_n 0 (pc := 192) dX7_go_192 rfl ?_
                      refine z_get 0 16 (pc := 193) (v := .ref h_o_where) rfl rfl inX7 (by decide) flX7_35 rfl dX7_go_193 ?_
                      refine z_iconst (pc := 196) (v := 2) dX7_go_196 (by decide) ?_
                      refine z_iaload 2 0 (pc := 197) rfl rfl dX7_go_197 hf0_111 (fun hf0_111 => ?_)
                      obtain ⟨r4, er4, hf0_111⟩ := bp hf0_111
                      refine z_calliV (pc := 198) (As := [.int (o_program (5 * a1).toNatClampNeg), .int (o_where_124 (0 : Int32).toNatClampNeg), .int (o_where_124 (1 : Int32).toNatClampNeg), .int (o_where_124 (2 : Int32).toNatClampNeg)]) (rest := []) (ws' := (wsX7_go cA h_o h_o_begin h_o_where h_o_program h_o_gap h_o_radius h_o_heights h_o_kept h_o_about h_o_feeds o_thrown o_side o_targets o_text o_size o_at o_fault o_draft o_statements o_hasProgram o_hasRun o_tool o_stack o_seen o_begin_n o_begin_4 o_where_n o_where_124 o_program_n o_program o_gap_n o_gap_4 o_radius_n o_radius o_heights_n r4.2.1 o_kept_n o_kept o_about_n r4.2.2 o_feeds_n o_feeds)) (kX7_step l D cA h_o h_o_radius h_o_heights h_o_kept h_o_about h_o_feeds o_thrown o_side o_targets o_text o_size o_at o_fault (.ref h_o_program) o_draft o_statements o_hasProgram o_hasRun (.ref h_o_where) o_tool o_stack o_seen (.ref h_o_begin) (.ref h_o_gap) o_radius_n o_radius o_heights_n o_heights_111 o_kept_n o_kept o_about_n o_about_111 o_feeds_n o_feeds (o_program (5 * a1).toNatClampNeg) (o_where_124 (0 : Int32).toNatClampNeg) (o_where_124 (1 : Int32).toNatClampNeg) (o_where_124 (2 : Int32).toNatClampNeg) N r4 er4) ivX7_124 ⟨rfl, rfl⟩ ⟨by decide, by decide⟩ rfl ⟨Nat.zero_le _, Nat.zero_le _⟩ rfl rfl [0, 5, 6, 7, 8, 9] rfl (by decide) rfl rfl rfl (Nat.le_of_ble_eq_true rfl) dX7_go_198 ?_
                      refine z_istore_n (pc := 201) (lv' := [(3, .int r4.1), (0, .ref h_o), (1, .int a1), (2, .int x2_4), (4, .int x4_111), (5, .int x5_124)]) dX7_go_201 (by decide) rfl ?_
                      refine z_iinc 4 (pc := 202) (v := x4_111 + 1) (lv' := [(4, .int (x4_111 + 1)), (3, .int r4.1), (0, .ref h_o), (1, .int a1), (2, .int x2_4), (5, .int x5_124)]) dX7_go_202 rfl rfl (by decide) rfl ?_
                      refine z_goto (pc := 205) (tgt := 111) dX7_go_205 (by decide) ?_
                      exact z_lv [2, 3, 4, 1, 0] rfl (ih111 r4.1 (x4_111 + 1) r4.2.2 r4.2.1 o_where_124 hf0_111)
                    · refine z_aload_n 0 (pc := 130) dX7_go_130 rfl ?_
                      refine z_get 0 16 (pc := 131) (v := .ref h_o_where) rfl rfl inX7 (by decide) flX7_35 rfl dX7_go_131 ?_
                      refine z_iload 5 (pc := 134) dX7_go_134 rfl ?_
                      refine z_aload_n 0 (pc := 136) dX7_go_136 rfl ?_
                      refine z_get 0 21 (pc := 137) (v := .ref h_o_begin) rfl rfl inX7 (by decide) flX7_47 rfl dX7_go_137 ?_
                      refine z_iload 5 (pc := 140) dX7_go_140 rfl ?_
                      refine z_iaload 1 0 (pc := 142) rfl rfl dX7_go_142 hf0_111_124 (fun hf0_111_124 => ?_)
                      refine z_iconst (pc := 143) (v := 2) dX7_go_143 (by decide) ?_
                      refine z_aload_n 0 (pc := 144) dX7_go_144 rfl ?_
                      refine z_get 0 22 (pc := 145) (v := .ref h_o_gap) rfl rfl inX7 (by decide) flX7_50 rfl dX7_go_145 ?_
                      refine z_iload 5 (pc := 148) dX7_go_148 rfl ?_
                      refine z_iaload 4 0 (pc := 150) rfl rfl dX7_go_150 hf0_111_124 (fun hf0_111_124 => ?_)
                      refine z_imul (pc := 151) dX7_go_151 ?_
                      refine z_iload 4 (pc := 152) dX7_go_152 rfl ?_
                      refine z_imul (pc := 154) dX7_go_154 ?_
                      refine z_iload_n 2 (pc := 155) dX7_go_155 rfl ?_
                      refine z_iadd (pc := 156) dX7_go_156 ?_
                      refine z_iconst (pc := 157) (v := 2) dX7_go_157 (by decide) ?_
                      refine z_iload_n 2 (pc := 158) dX7_go_158 rfl ?_
                      refine z_imul (pc := 159) dX7_go_159 ?_
                      obtain ⟨r5, er5, hf0_111_124⟩ := bp hf0_111_124
                      refine z_calliS (pc := 160) (As := [.int (((2 * (o_gap_4 x5_124.toNatClampNeg)) * x4_111) + x2_4), .int (2 * x2_4)]) (rest := [.int (o_begin_4 x5_124.toNatClampNeg), .int x5_124, .ref h_o_where]) (ws' := (wsX7_go cA h_o h_o_begin h_o_where h_o_program h_o_gap h_o_radius h_o_heights h_o_kept h_o_about h_o_feeds o_thrown o_side o_targets o_text o_size o_at o_fault o_draft o_statements o_hasProgram o_hasRun o_tool o_stack o_seen o_begin_n o_begin_4 o_where_n o_where_124 o_program_n o_program o_gap_n o_gap_4 o_radius_n o_radius o_heights_n o_heights_111 o_kept_n o_kept o_about_n o_about_111 o_feeds_n o_feeds)) (kX7_floor l D cA   (((2 * (o_gap_4 x5_124.toNatClampNeg)) * x4_111) + x2_4) (2 * x2_4) N r5 er5) ivX7_120 ⟨rfl, rfl⟩ ⟨by decide, by decide⟩ rfl ⟨Nat.zero_le _, Nat.zero_le _⟩ [] rfl (by decide) rfl rfl rfl (Nat.le_of_ble_eq_true rfl) dX7_go_160 ?_
                      refine z_iadd (pc := 163) dX7_go_163 ?_
                      refine z_iastore 2 0 (pc := 164) (ws' := (wsX7_go cA h_o h_o_begin h_o_where h_o_program h_o_gap h_o_radius h_o_heights h_o_kept h_o_about h_o_feeds o_thrown o_side o_targets o_text o_size o_at o_fault o_draft o_statements o_hasProgram o_hasRun o_tool o_stack o_seen o_begin_n o_begin_4 o_where_n (upd o_where_124 x5_124.toNatClampNeg ((o_begin_4 x5_124.toNatClampNeg) + r5)) o_program_n o_program o_gap_n o_gap_4 o_radius_n o_radius o_heights_n o_heights_111 o_kept_n o_kept o_about_n o_about_111 o_feeds_n o_feeds)) rfl rfl dX7_go_164 rfl hf0_111_124 (fun hf0_111_124 => ?_)
                      refine z_iinc 5 (pc := 165) (v := x5_124 + 1) (lv' := [(5, .int (x5_124 + 1)), (0, .ref h_o), (1, .int a1), (2, .int x2_4), (3, .int x3_111), (4, .int x4_111)]) dX7_go_165 rfl rfl (by decide) rfl ?_
                      refine z_goto (pc := 168) (tgt := 124) dX7_go_168 (by decide) ?_
                      exact z_lv [1, 2, 3, 4, 5, 0] rfl (ih124 (x5_124 + 1) (upd o_where_124 x5_124.toNatClampNeg ((o_begin_4 x5_124.toNatClampNeg) + r5)) hf0_111_124)
                exact z_lv [1, 2, 3, 4, 5, 0] rfl (lp124 N 0 o_where_111 hf0_111_124)
        exact z_lv [2, 3, 4, 1, 0] rfl (lp111 N 0 1 o_about o_heights o_where hf0_111)
      · refine z_aload_n 0 (pc := 9) dX7_go_9 rfl ?_
        refine z_get 0 21 (pc := 10) (v := .ref h_o_begin) rfl rfl inX7 (by decide) flX7_47 rfl dX7_go_10 ?_
        refine z_iload_n 3 (pc := 13) dX7_go_13 rfl ?_
        refine z_aload_n 0 (pc := 14) dX7_go_14 rfl ?_
        refine z_get 0 16 (pc := 15) (v := .ref h_o_where) rfl rfl inX7 (by decide) flX7_35 rfl dX7_go_15 ?_
        refine z_iload_n 3 (pc := 18) dX7_go_18 rfl ?_
        refine z_iaload 2 0 (pc := 19) rfl rfl dX7_go_19 hf0_4 (fun hf0_4 => ?_)
        refine z_iastore 1 0 (pc := 20) (ws' := (wsX7_go cA h_o h_o_begin h_o_where h_o_program h_o_gap h_o_radius h_o_heights h_o_kept h_o_about h_o_feeds o_thrown o_side o_targets o_text o_size o_at o_fault o_draft o_statements o_hasProgram o_hasRun o_tool o_stack o_seen o_begin_n (upd o_begin_4 x3_4.toNatClampNeg (o_where x3_4.toNatClampNeg)) o_where_n o_where o_program_n o_program o_gap_n o_gap_4 o_radius_n o_radius o_heights_n o_heights o_kept_n o_kept o_about_n o_about o_feeds_n o_feeds)) rfl rfl dX7_go_20 rfl hf0_4 (fun hf0_4 => ?_)
        refine z_aload_n 0 (pc := 21) dX7_go_21 rfl ?_
        refine z_get 0 11 (pc := 22) (v := .ref h_o_program) rfl rfl inX7 (by decide) flX7_29 rfl dX7_go_22 ?_
        refine z_iconst (pc := 25) (v := 5) dX7_go_25 (by decide) ?_
        refine z_iload_n 1 (pc := 26) dX7_go_26 rfl ?_
        refine z_imul (pc := 27) dX7_go_27 ?_
        refine z_iconst (pc := 28) (v := 1) dX7_go_28 (by decide) ?_
        refine z_iadd (pc := 29) dX7_go_29 ?_
        refine z_iload_n 3 (pc := 30) dX7_go_30 rfl ?_
        refine z_iadd (pc := 31) dX7_go_31 ?_
        refine z_iaload 3 0 (pc := 32) rfl rfl dX7_go_32 hf0_4 (fun hf0_4 => ?_)
        refine z_istore (pc := 33) (lv' := [(4, .int (o_program (((5 * a1) + 1) + x3_4).toNatClampNeg)), (0, .ref h_o), (1, .int a1), (2, .int x2_4), (3, .int x3_4)]) dX7_go_33 (by decide) rfl ?_
        refine z_aload_n 1 (pc := 35) dX7_go_35 rfl ?_
        refine z_get 0 22 (pc := 36) (v := .ref h_o_gap) rfl rfl inX7 (by decide) flX7_50 rfl dX7_go_36 ?_
        refine z_iload_n 4 (pc := 39) dX7_go_39 rfl ?_
        refine z_iload 0 (pc := 40) dX7_go_40 rfl ?_
        refine z_iconst (pc := 42) (v := (-1)) dX7_go_42 (by decide) ?_
        have j59 : ∀ (s_59 : Int32), JX7_go_59 (fun b0 b1 b2 b3 => LX7_go_4 o_where_n o_begin_n a1 o_program_n o_program o_gap_n o_where n4 b0 b1 b2 b3) x3_4 o_gap_n o_gap_4 x2_4 (upd o_begin_4 x3_4.toNatClampNeg (o_where x3_4.toNatClampNeg)) s_59 = some y4 → V κ false l D cA rmX7_go cX7_go 6 RX7 (some .int) 0 0 59 [(4, .int (o_program (((5 * a1) + 1) + x3_4).toNatClampNeg)), (0, .ref h_o), (1, .int a1), (2, .int x2_4), (3, .int x3_4)] [.int s_59, .int x3_4, .ref h_o_gap] (wsX7_go cA h_o h_o_begin h_o_where h_o_program h_o_gap h_o_radius h_o_heights h_o_kept h_o_about h_o_feeds o_thrown o_side o_targets o_text o_size o_at o_fault o_draft o_statements o_hasProgram o_hasRun o_tool o_stack o_seen o_begin_n (upd o_begin_4 x3_4.toNatClampNeg (o_where x3_4.toNatClampNeg)) o_where_n o_where o_program_n o_program o_gap_n o_gap_4 o_radius_n o_radius o_heights_n o_heights o_kept_n o_kept o_about_n o_about o_feeds_n o_feeds) := by
          intro s_59 hf0_4
          rw [JX7_go_59] at hf0_4
          refine z_iastore 4 0 (pc := 59) (ws' := (wsX7_go cA h_o h_o_begin h_o_where h_o_program h_o_gap h_o_radius h_o_heights h_o_kept h_o_about h_o_feeds o_thrown o_side o_targets o_text o_size o_at o_fault o_draft o_statements o_hasProgram o_hasRun o_tool o_stack o_seen o_begin_n (upd o_begin_4 x3_4.toNatClampNeg (o_where x3_4.toNatClampNeg)) o_where_n o_where o_program_n o_program o_gap_n (upd o_gap_4 x3_4.toNatClampNeg s_59) o_radius_n o_radius o_heights_n o_heights o_kept_n o_kept o_about_n o_about o_feeds_n o_feeds)) rfl rfl dX7_go_59 rfl hf0_4 (fun hf0_4 => ?_)
          refine z_aload_n 1 (pc := 60) dX7_go_60 rfl ?_
          refine z_get 0 22 (pc := 61) (v := .ref h_o_gap) rfl rfl inX7 (by decide) flX7_50 rfl dX7_go_61 ?_
          refine z_iload_n 4 (pc := 64) dX7_go_64 rfl ?_
          refine z_iaload 4 0 (pc := 65) rfl rfl dX7_go_65 hf0_4 (fun hf0_4 => ?_)
          refine z_if_ge (pc := 66) (tgt := 79) dX7_go_66 (by decide) hf0_4 (fun hf0_4 => ?_) (fun hf0_4 => ?_)
          · refine z_aload_n 1 (pc := 79) dX7_go_79 rfl ?_
            refine z_get 0 22 (pc := 80) (v := .ref h_o_gap) rfl rfl inX7 (by decide) flX7_50 rfl dX7_go_80 ?_
            refine z_iload_n 4 (pc := 83) dX7_go_83 rfl ?_
            refine z_iaload 4 0 (pc := 84) rfl rfl dX7_go_84 hf0_4 (fun hf0_4 => ?_)
            refine z_istore (pc := 85) (lv' := [(5, .int ((upd o_gap_4 x3_4.toNatClampNeg s_59) x3_4.toNatClampNeg)), (4, .int (o_program (((5 * a1) + 1) + x3_4).toNatClampNeg)), (0, .ref h_o), (1, .int a1), (2, .int x2_4), (3, .int x3_4)]) dX7_go_85 (by decide) rfl ?_
            refine z_iload 0 (pc := 87) dX7_go_87 rfl ?_
            refine z_iload_n 4 (pc := 89) dX7_go_89 rfl ?_
            refine z_icmp_le (pc := 90) (tgt := 98) dX7_go_90 (by decide) hf0_4 (fun hf0_4 => ?_) (fun hf0_4 => ?_)
            · refine z_iload_n 4 (pc := 98) dX7_go_98 rfl ?_
              refine z_istore_n (pc := 99) (lv' := [(2, .int x2_4), (5, .int ((upd o_gap_4 x3_4.toNatClampNeg s_59) x3_4.toNatClampNeg)), (4, .int (o_program (((5 * a1) + 1) + x3_4).toNatClampNeg)), (0, .ref h_o), (1, .int a1), (3, .int x3_4)]) dX7_go_99 (by decide) rfl ?_
              refine z_iinc 5 (pc := 100) (v := x3_4 + 1) (lv' := [(3, .int (x3_4 + 1)), (2, .int x2_4), (5, .int ((upd o_gap_4 x3_4.toNatClampNeg s_59) x3_4.toNatClampNeg)), (4, .int (o_program (((5 * a1) + 1) + x3_4).toNatClampNeg)), (0, .ref h_o), (1, .int a1)]) dX7_go_100 rfl rfl (by decide) rfl ?_
              refine z_goto (pc := 103) (tgt := 4) dX7_go_103 (by decide) ?_
              exact z_lv [4, 5, 1, 0] rfl (ih4 x2_4 (x3_4 + 1) (upd o_begin_4 x3_4.toNatClampNeg (o_where x3_4.toNatClampNeg)) (upd o_gap_4 x3_4.toNatClampNeg s_59) hf0_4)
            · refine z_iload 0 (pc := 93) dX7_go_93 rfl ?_
              refine z_goto (pc := 95) (tgt := 99) dX7_go_95 (by decide) ?_
              refine z_istore_n (pc := 99) (lv' := [(2, .int ((upd o_gap_4 x3_4.toNatClampNeg s_59) x3_4.toNatClampNeg)), (5, .int ((upd o_gap_4 x3_4.toNatClampNeg s_59) x3_4.toNatClampNeg)), (4, .int (o_program (((5 * a1) + 1) + x3_4).toNatClampNeg)), (0, .ref h_o), (1, .int a1), (3, .int x3_4)]) dX7_go_99 (by decide) rfl ?_
              refine z_iinc 5 (pc := 100) (v := x3_4 + 1) (lv' := [(3, .int (x3_4 + 1)), (2, .int ((upd o_gap_4 x3_4.toNatClampNeg s_59) x3_4.toNatClampNeg)), (5, .int ((upd o_gap_4 x3_4.toNatClampNeg s_59) x3_4.toNatClampNeg)), (4, .int (o_program (((5 * a1) + 1) + x3_4).toNatClampNeg)), (0, .ref h_o), (1, .int a1)]) dX7_go_100 rfl rfl (by decide) rfl ?_
              refine z_goto (pc := 103) (tgt := 4) dX7_go_103 (by decide) ?_
              exact z_lv [4, 5, 1, 0] rfl (ih4 ((upd o_gap_4 x3_4.toNatClampNeg s_59) x3_4.toNatClampNeg) (x3_4 + 1) (upd o_begin_4 x3_4.toNatClampNeg (o_where x3_4.toNatClampNeg)) (upd o_gap_4 x3_4.toNatClampNeg s_59) hf0_4)
          · refine z_aload_n 1 (pc := 69) dX7_go_69 rfl ?_
            refine z_get 0 22 (pc := 70) (v := .ref h_o_gap) rfl rfl inX7 (by decide) flX7_50 rfl dX7_go_70 ?_
            refine z_iload_n 4 (pc := 73) dX7_go_73 rfl ?_
            refine z_iaload 4 0 (pc := 74) rfl rfl dX7_go_74 hf0_4 (fun hf0_4 => ?_)
            refine z_ineg (pc := 75) dX7_go_75 ?_
            refine z_goto (pc := 76) (tgt := 85) dX7_go_76 (by decide) ?_
            refine z_istore (pc := 85) (lv' := [(5, .int (-((upd o_gap_4 x3_4.toNatClampNeg s_59) x3_4.toNatClampNeg))), (4, .int (o_program (((5 * a1) + 1) + x3_4).toNatClampNeg)), (0, .ref h_o), (1, .int a1), (2, .int x2_4), (3, .int x3_4)]) dX7_go_85 (by decide) rfl ?_
            refine z_iload 0 (pc := 87) dX7_go_87 rfl ?_
            refine z_iload_n 4 (pc := 89) dX7_go_89 rfl ?_
            refine z_icmp_le (pc := 90) (tgt := 98) dX7_go_90 (by decide) hf0_4 (fun hf0_4 => ?_) (fun hf0_4 => ?_)
            · refine z_iload_n 4 (pc := 98) dX7_go_98 rfl ?_
              refine z_istore_n (pc := 99) (lv' := [(2, .int x2_4), (5, .int (-((upd o_gap_4 x3_4.toNatClampNeg s_59) x3_4.toNatClampNeg))), (4, .int (o_program (((5 * a1) + 1) + x3_4).toNatClampNeg)), (0, .ref h_o), (1, .int a1), (3, .int x3_4)]) dX7_go_99 (by decide) rfl ?_
              refine z_iinc 5 (pc := 100) (v := x3_4 + 1) (lv' := [(3, .int (x3_4 + 1)), (2, .int x2_4), (5, .int (-((upd o_gap_4 x3_4.toNatClampNeg s_59) x3_4.toNatClampNeg))), (4, .int (o_program (((5 * a1) + 1) + x3_4).toNatClampNeg)), (0, .ref h_o), (1, .int a1)]) dX7_go_100 rfl rfl (by decide) rfl ?_
              refine z_goto (pc := 103) (tgt := 4) dX7_go_103 (by decide) ?_
              exact z_lv [4, 5, 1, 0] rfl (ih4 x2_4 (x3_4 + 1) (upd o_begin_4 x3_4.toNatClampNeg (o_where x3_4.toNatClampNeg)) (upd o_gap_4 x3_4.toNatClampNeg s_59) hf0_4)
            · refine z_iload 0 (pc := 93) dX7_go_93 rfl ?_
              refine z_goto (pc := 95) (tgt := 99) dX7_go_95 (by decide) ?_
              refine z_istore_n (pc := 99) (lv' := [(2, .int (-((upd o_gap_4 x3_4.toNatClampNeg s_59) x3_4.toNatClampNeg))), (5, .int (-((upd o_gap_4 x3_4.toNatClampNeg s_59) x3_4.toNatClampNeg))), (4, .int (o_program (((5 * a1) + 1) + x3_4).toNatClampNeg)), (0, .ref h_o), (1, .int a1), (3, .int x3_4)]) dX7_go_99 (by decide) rfl ?_
              refine z_iinc 5 (pc := 100) (v := x3_4 + 1) (lv' := [(3, .int (x3_4 + 1)), (2, .int (-((upd o_gap_4 x3_4.toNatClampNeg s_59) x3_4.toNatClampNeg))), (5, .int (-((upd o_gap_4 x3_4.toNatClampNeg s_59) x3_4.toNatClampNeg))), (4, .int (o_program (((5 * a1) + 1) + x3_4).toNatClampNeg)), (0, .ref h_o), (1, .int a1)]) dX7_go_100 rfl rfl (by decide) rfl ?_
              refine z_goto (pc := 103) (tgt := 4) dX7_go_103 (by decide) ?_
              exact z_lv [4, 5, 1, 0] rfl (ih4 (-((upd o_gap_4 x3_4.toNatClampNeg s_59) x3_4.toNatClampNeg)) (x3_4 + 1) (upd o_begin_4 x3_4.toNatClampNeg (o_where x3_4.toNatClampNeg)) (upd o_gap_4 x3_4.toNatClampNeg s_59) hf0_4)
        refine z_icmp_ne (pc := 43) (tgt := 50) dX7_go_43 (by decide) hf0_4 (fun hf0_4 => ?_) (fun hf0_4 => ?_)
        · refine z_iload 0 (pc := 50) dX7_go_50 rfl ?_
          refine z_aload_n 1 (pc := 52) dX7_go_52 rfl ?_
          refine z_get 0 16 (pc := 53) (v := .ref h_o_where) rfl rfl inX7 (by decide) flX7_35 rfl dX7_go_53 ?_
          refine z_iload_n 4 (pc := 56) dX7_go_56 rfl ?_
          refine z_iaload 2 0 (pc := 57) rfl rfl dX7_go_57 hf0_4 (fun hf0_4 => ?_)
          refine z_isub (pc := 58) dX7_go_58 ?_
          exact z_lv [0, 1, 2, 3, 4] rfl (j59 ((o_program (((5 * a1) + 1) + x3_4).toNatClampNeg) - (o_where x3_4.toNatClampNeg)) hf0_4)
        · refine z_iconst (pc := 46) (v := 0) dX7_go_46 (by decide) ?_
          refine z_goto (pc := 47) (tgt := 59) dX7_go_47 (by decide) ?_
          exact z_lv [0, 1, 2, 3, 4] rfl (j59 0 hf0_4)
  exact z_lv [2, 3, 1, 0] rfl (lp4 N 0 0 o_begin o_gap hf0_4)

abbrev RX7_run : Type := Int32 × Int32 × Int32 × Int32 × (Nat → Int32) × (Nat → Int32) × (Nat → Int32) × (Nat → Int32) × (Nat → Int32)
abbrev rmX7_run : Room := { frames := 5, cells := 0, slots := 0, locals := 121 }
abbrev wsX7_run (cA : Nat → ClassId) (h_o : Nat) (h_o_where : Nat) (h_o_about : Nat) (h_o_program : Nat) (h_o_begin : Nat) (h_o_gap : Nat) (h_o_radius : Nat) (h_o_heights : Nat) (h_o_kept : Nat) (h_o_feeds : Nat) (o_thrown : Int32) (o_side : Int32) (o_targets : Value) (o_text : Value) (o_size : Int32) (o_at : Int32) (o_fault : Int32) (o_draft : Value) (o_statements : Int32) (o_hasProgram : Int32) (o_hasRun : Int32) (o_tool : Int32) (o_stack : Value) (o_seen : Value) (o_where_n : Nat) (o_where : Nat → Int32) (o_about_n : Nat) (o_about : Nat → Int32) (o_program_n : Nat) (o_program : Nat → Int32) (o_begin_n : Nat) (o_begin : Nat → Int32) (o_gap_n : Nat) (o_gap : Nat → Int32) (o_radius_n : Nat) (o_radius : Nat → Int32) (o_heights_n : Nat) (o_heights : Nat → Int32) (o_kept_n : Nat) (o_kept : Nat → Int32) (o_feeds_n : Nat) (o_feeds : Nat → Int32) : va_W := [(h_o, .inr (7, [.int o_thrown, .int o_side, .ref h_o_heights, o_targets, .ref h_o_kept, .ref h_o_radius, .ref h_o_feeds, o_text, .int o_size, .int o_at, .int o_fault, .ref h_o_program, o_draft, .int o_statements, .int o_hasProgram, .int o_hasRun, .ref h_o_where, .int o_tool, .ref h_o_about, o_stack, o_seen, .ref h_o_begin, .ref h_o_gap])), (h_o_where, .inl (cA 0, o_where_n, .inl o_where)), (h_o_about, .inl (cA 0, o_about_n, .inl o_about)), (h_o_program, .inl (cA 0, o_program_n, .inl o_program)), (h_o_begin, .inl (cA 0, o_begin_n, .inl o_begin)), (h_o_gap, .inl (cA 0, o_gap_n, .inl o_gap)), (h_o_radius, .inl (cA 0, o_radius_n, .inl o_radius)), (h_o_heights, .inl (cA 0, o_heights_n, .inl o_heights)), (h_o_kept, .inl (cA 1, o_kept_n, .inl o_kept)), (h_o_feeds, .inl (cA 0, o_feeds_n, .inl o_feeds))]
def JX7_run_152 (o_about_n : Nat) (o_where_n : Nat) (s_13 : Int32) (x1_152 : Int32) (x2_152 : Int32) (o_about_152 : Nat → Int32) (o_begin_152 : Nat → Int32) (o_gap_152 : Nat → Int32) (o_heights_152 : Nat → Int32) (o_tool_152 : Int32) (o_where_152 : Nat → Int32) : Option (RX7_run) :=
  (if (1 : Int32) < 0 ∨ o_about_n ≤ (1 : Int32).toNatClampNeg then none else (if (0 : Int32) < 0 ∨ o_where_n ≤ (0 : Int32).toNatClampNeg then none else (if (2 : Int32) < 0 ∨ o_about_n ≤ (2 : Int32).toNatClampNeg then none else (if (1 : Int32) < 0 ∨ o_where_n ≤ (1 : Int32).toNatClampNeg then none else (if (3 : Int32) < 0 ∨ o_about_n ≤ (3 : Int32).toNatClampNeg then none else (if (2 : Int32) < 0 ∨ o_where_n ≤ (2 : Int32).toNatClampNeg then none else (if (4 : Int32) < 0 ∨ o_about_n ≤ (4 : Int32).toNatClampNeg then none else some (x1_152, s_13, 1, o_tool_152, o_where_152, upd (upd (upd (upd o_about_152 (1 : Int32).toNatClampNeg x2_152) (2 : Int32).toNatClampNeg (o_where_152 (0 : Int32).toNatClampNeg)) (3 : Int32).toNatClampNeg (o_where_152 (1 : Int32).toNatClampNeg)) (4 : Int32).toNatClampNeg (o_where_152 (2 : Int32).toNatClampNeg), o_begin_152, o_gap_152, o_heights_152))))))))
def LX7_run_75 (o_statements : Int32) (o_program_n : Nat) (o_program : Nat → Int32) (o_about_n : Nat) (N : Nat) (o_side : Int32) (o_begin_n : Nat) (o_where_n : Nat) (o_gap_n : Nat) (o_radius_n : Nat) (o_radius : Nat → Int32) (o_heights_n : Nat) (o_kept_n : Nat) (o_kept : Nat → Int32) (o_feeds_n : Nat) (o_feeds : Nat → Int32) : Nat → Int32 → Int32 → (Nat → Int32) → (Nat → Int32) → (Nat → Int32) → (Nat → Int32) → Int32 → (Nat → Int32) → Option (Int32 × Int32 × (Nat → Int32) × (Nat → Int32) × (Nat → Int32) × (Nat → Int32) × Int32 × (Nat → Int32))
  | 0, _, _, _, _, _, _, _, _ => none
  | n + 1, x1_75, x2_75, o_about_75, o_begin_75, o_gap_75, o_heights_75, o_tool_75, o_where_75 => (if o_statements ≤ x2_75 then some (x1_75, x2_75, o_about_75, o_begin_75, o_gap_75, o_heights_75, o_tool_75, o_where_75) else (if x1_75 = 0 then (if (5 * x2_75) < 0 ∨ o_program_n ≤ (5 * x2_75).toNatClampNeg then none else (if (o_program (5 * x2_75).toNatClampNeg) = 2 then (if ((5 * x2_75) + 4) < 0 ∨ o_program_n ≤ ((5 * x2_75) + 4).toNatClampNeg then none else (if (0 : Int32) < 0 ∨ o_about_n ≤ (0 : Int32).toNatClampNeg then none else (if (0 : Int32) < 0 ∨ o_about_n ≤ (0 : Int32).toNatClampNeg then none else (if x1_75 = 0 then LX7_run_75 o_statements o_program_n o_program o_about_n N o_side o_begin_n o_where_n o_gap_n o_radius_n o_radius o_heights_n o_kept_n o_kept o_feeds_n o_feeds n x1_75 (x2_75 + 1) (upd o_about_75 (0 : Int32).toNatClampNeg ((o_about_75 (0 : Int32).toNatClampNeg) + 10)) o_begin_75 o_gap_75 o_heights_75 (o_program ((5 * x2_75) + 4).toNatClampNeg) o_where_75 else LX7_run_75 o_statements o_program_n o_program o_about_n N o_side o_begin_n o_where_n o_gap_n o_radius_n o_radius o_heights_n o_kept_n o_kept o_feeds_n o_feeds n x1_75 x2_75 (upd o_about_75 (0 : Int32).toNatClampNeg ((o_about_75 (0 : Int32).toNatClampNeg) + 10)) o_begin_75 o_gap_75 o_heights_75 (o_program ((5 * x2_75) + 4).toNatClampNeg) o_where_75)))) else ((fX7_go N x2_75 o_side o_tool_75 o_begin_n o_begin_75 o_where_n o_where_75 o_program_n o_program o_gap_n o_gap_75 o_radius_n o_radius o_heights_n o_heights_75 o_kept_n o_kept o_about_n o_about_75 o_feeds_n o_feeds).bind fun r2 => (if r2.1 = 0 then LX7_run_75 o_statements o_program_n o_program o_about_n N o_side o_begin_n o_where_n o_gap_n o_radius_n o_radius o_heights_n o_kept_n o_kept o_feeds_n o_feeds n r2.1 (x2_75 + 1) r2.2.2.2.2.2 r2.2.1 r2.2.2.2.1 r2.2.2.2.2.1 o_tool_75 r2.2.2.1 else LX7_run_75 o_statements o_program_n o_program o_about_n N o_side o_begin_n o_where_n o_gap_n o_radius_n o_radius o_heights_n o_kept_n o_kept o_feeds_n o_feeds n r2.1 x2_75 r2.2.2.2.2.2 r2.2.1 r2.2.2.2.1 r2.2.2.2.2.1 o_tool_75 r2.2.2.1)))) else some (x1_75, x2_75, o_about_75, o_begin_75, o_gap_75, o_heights_75, o_tool_75, o_where_75)))
def JX7_run_13 (o_where_n : Nat) (o_about_n : Nat) (o_statements : Int32) (o_program_n : Nat) (o_program : Nat → Int32) (N : Nat) (o_side : Int32) (o_begin_n : Nat) (o_gap_n : Nat) (o_radius_n : Nat) (o_radius : Nat → Int32) (o_heights_n : Nat) (o_kept_n : Nat) (o_kept : Nat → Int32) (o_feeds_n : Nat) (o_feeds : Nat → Int32) (o_about : Nat → Int32) (o_begin : Nat → Int32) (o_gap : Nat → Int32) (o_heights : Nat → Int32) (o_where : Nat → Int32) (o_hasRun : Int32) (o_tool : Int32) (s_13 : Int32) : Option (RX7_run) :=
  (if s_13 ≤ 0 then (if (0 : Int32) < 0 ∨ o_where_n ≤ (0 : Int32).toNatClampNeg then none else (if (1 : Int32) < 0 ∨ o_where_n ≤ (1 : Int32).toNatClampNeg then none else (if (2 : Int32) < 0 ∨ o_where_n ≤ (2 : Int32).toNatClampNeg then none else (if (0 : Int32) < 0 ∨ o_about_n ≤ (0 : Int32).toNatClampNeg then none else (if (5 : Int32) < 0 ∨ o_about_n ≤ (5 : Int32).toNatClampNeg then none else ((LX7_run_75 o_statements o_program_n o_program o_about_n N o_side o_begin_n o_where_n o_gap_n o_radius_n o_radius o_heights_n o_kept_n o_kept o_feeds_n o_feeds N 0 0 (upd (upd o_about (0 : Int32).toNatClampNeg 0) (5 : Int32).toNatClampNeg 0) o_begin o_gap o_heights 0 (upd (upd (upd o_where (0 : Int32).toNatClampNeg 0) (1 : Int32).toNatClampNeg 0) (2 : Int32).toNatClampNeg 100)).bind fun r1 => JX7_run_152 o_about_n o_where_n s_13 r1.1 r1.2.1 r1.2.2.1 r1.2.2.2.1 r1.2.2.2.2.1 r1.2.2.2.2.2.1 r1.2.2.2.2.2.2.1 r1.2.2.2.2.2.2.2)))))) else some (0, s_13, o_hasRun, o_tool, o_where, o_about, o_begin, o_gap, o_heights))
def fX7_run (N : Nat)  (o_thrown : Int32) (o_side : Int32) (o_statements : Int32) (o_hasProgram : Int32) (o_hasRun : Int32) (o_tool : Int32) (o_where_n : Nat) (o_where : Nat → Int32) (o_about_n : Nat) (o_about : Nat → Int32) (o_program_n : Nat) (o_program : Nat → Int32) (o_begin_n : Nat) (o_begin : Nat → Int32) (o_gap_n : Nat) (o_gap : Nat → Int32) (o_radius_n : Nat) (o_radius : Nat → Int32) (o_heights_n : Nat) (o_heights : Nat → Int32) (o_kept_n : Nat) (o_kept : Nat → Int32) (o_feeds_n : Nat) (o_feeds : Nat → Int32) : Option RX7_run :=
  (if o_hasProgram = 0 then JX7_run_13 o_where_n o_about_n o_statements o_program_n o_program N o_side o_begin_n o_gap_n o_radius_n o_radius o_heights_n o_kept_n o_kept o_feeds_n o_feeds o_about o_begin o_gap o_heights o_where o_hasRun o_tool 1 else JX7_run_13 o_where_n o_about_n o_statements o_program_n o_program N o_side o_begin_n o_gap_n o_radius_n o_radius o_heights_n o_kept_n o_kept o_feeds_n o_feeds o_about o_begin o_gap o_heights o_where o_hasRun o_tool 0)
set_option maxHeartbeats 4000000 in
set_option maxRecDepth 100000 in
theorem kX7_run (l : Launch) (D : va_G) (cA : Nat → ClassId) (h_o : Nat) (h_o_where : Nat) (h_o_about : Nat) (h_o_program : Nat) (h_o_begin : Nat) (h_o_gap : Nat) (h_o_radius : Nat) (h_o_heights : Nat) (h_o_kept : Nat) (h_o_feeds : Nat) (o_thrown : Int32) (o_side : Int32) (o_targets : Value) (o_text : Value) (o_size : Int32) (o_at : Int32) (o_fault : Int32) (o_draft : Value) (o_statements : Int32) (o_hasProgram : Int32) (o_hasRun : Int32) (o_tool : Int32) (o_stack : Value) (o_seen : Value) (o_where_n : Nat) (o_where : Nat → Int32) (o_about_n : Nat) (o_about : Nat → Int32) (o_program_n : Nat) (o_program : Nat → Int32) (o_begin_n : Nat) (o_begin : Nat → Int32) (o_gap_n : Nat) (o_gap : Nat → Int32) (o_radius_n : Nat) (o_radius : Nat → Int32) (o_heights_n : Nat) (o_heights : Nat → Int32) (o_kept_n : Nat) (o_kept : Nat → Int32) (o_feeds_n : Nat) (o_feeds : Nat → Int32)  (N : Nat) (res : RX7_run) (hf0 : fX7_run N o_thrown o_side o_statements o_hasProgram o_hasRun o_tool o_where_n o_where o_about_n o_about o_program_n o_program o_begin_n o_begin o_gap_n o_gap o_radius_n o_radius o_heights_n o_heights o_kept_n o_kept o_feeds_n o_feeds = some res) : CtI l yX7_run (Cond.code yX7_run cX7_run 3 (some .int) :: tblG) rmX7_run D cA (wsX7_run cA h_o h_o_where h_o_about h_o_program h_o_begin h_o_gap h_o_radius h_o_heights h_o_kept h_o_feeds o_thrown o_side o_targets o_text o_size o_at o_fault o_draft o_statements o_hasProgram o_hasRun o_tool o_stack o_seen o_where_n o_where o_about_n o_about o_program_n o_program o_begin_n o_begin o_gap_n o_gap o_radius_n o_radius o_heights_n o_heights o_kept_n o_kept o_feeds_n o_feeds) [.ref h_o] res.1 (wsX7_run cA h_o h_o_where h_o_about h_o_program h_o_begin h_o_gap h_o_radius h_o_heights h_o_kept h_o_feeds res.2.1 o_side o_targets o_text o_size o_at o_fault o_draft o_statements o_hasProgram res.2.2.1 res.2.2.2.1 o_stack o_seen o_where_n res.2.2.2.2.1 o_about_n res.2.2.2.2.2.1 o_program_n o_program o_begin_n res.2.2.2.2.2.2.1 o_gap_n res.2.2.2.2.2.2.2.1 o_radius_n o_radius o_heights_n res.2.2.2.2.2.2.2.2 o_kept_n o_kept o_feeds_n o_feeds) := by
  refine CtI.start (lv := [(0, .ref h_o)]) (by decide) (Nat.le_of_ble_eq_true rfl) rfl (fun κ hE => ?_)
  rw [fX7_run] at hf0
  refine z_aload_n 0 (pc := 0) dX7_run_0 rfl ?_
  refine z_aload_n 0 (pc := 1) dX7_run_1 rfl ?_
  refine z_get 0 14 (pc := 2) (v := .int o_hasProgram) rfl rfl inX7 (by decide) flX7_106 rfl dX7_run_2 ?_
  have j13 : ∀ (s_13 : Int32), JX7_run_13 o_where_n o_about_n o_statements o_program_n o_program N o_side o_begin_n o_gap_n o_radius_n o_radius o_heights_n o_kept_n o_kept o_feeds_n o_feeds o_about o_begin o_gap o_heights o_where o_hasRun o_tool s_13 = some res → V κ false l D cA rmX7_run cX7_run 3 RX7 (some .int) 0 0 13 [(0, .ref h_o)] [.int s_13, .ref h_o] (wsX7_run cA h_o h_o_where h_o_about h_o_program h_o_begin h_o_gap h_o_radius h_o_heights h_o_kept h_o_feeds o_thrown o_side o_targets o_text o_size o_at o_fault o_draft o_statements o_hasProgram o_hasRun o_tool o_stack o_seen o_where_n o_where o_about_n o_about o_program_n o_program o_begin_n o_begin o_gap_n o_gap o_radius_n o_radius o_heights_n o_heights o_kept_n o_kept o_feeds_n o_feeds) := by
    intro s_13 hf0
    rw [JX7_run_13] at hf0
    refine z_put 0 0 (pc := 13) (ws' := (wsX7_run cA h_o h_o_where h_o_about h_o_program h_o_begin h_o_gap h_o_radius h_o_heights h_o_kept h_o_feeds s_13 o_side o_targets o_text o_size o_at o_fault o_draft o_statements o_hasProgram o_hasRun o_tool o_stack o_seen o_where_n o_where o_about_n o_about o_program_n o_program o_begin_n o_begin o_gap_n o_gap o_radius_n o_radius o_heights_n o_heights o_kept_n o_kept o_feeds_n o_feeds)) rfl rfl inX7 tyX7 tyX7_ok nmX7 (by decide) flX7_57 rfl rfl rfl rfl (Nat.le_of_ble_eq_true rfl) dX7_run_13 rfl ?_
    refine z_aload_n 0 (pc := 16) dX7_run_16 rfl ?_
    refine z_get 0 0 (pc := 17) (v := .int s_13) rfl rfl inX7 (by decide) flX7_57 rfl dX7_run_17 ?_
    refine z_if_le (pc := 20) (tgt := 25) dX7_run_20 (by decide) hf0 (fun hf0 => ?_) (fun hf0 => ?_)
    · refine z_aload_n 0 (pc := 25) dX7_run_25 rfl ?_
      refine z_iconst (pc := 26) (v := 1) dX7_run_26 (by decide) ?_
      refine z_put 0 15 (pc := 27) (ws' := (wsX7_run cA h_o h_o_where h_o_about h_o_program h_o_begin h_o_gap h_o_radius h_o_heights h_o_kept h_o_feeds s_13 o_side o_targets o_text o_size o_at o_fault o_draft o_statements o_hasProgram 1 o_tool o_stack o_seen o_where_n o_where o_about_n o_about o_program_n o_program o_begin_n o_begin o_gap_n o_gap o_radius_n o_radius o_heights_n o_heights o_kept_n o_kept o_feeds_n o_feeds)) rfl rfl inX7 tyX7 tyX7_ok nmX7 (by decide) flX7_128 rfl rfl (by decide) rfl (Nat.le_of_ble_eq_true rfl) dX7_run_27 rfl ?_
      refine z_aload_n 0 (pc := 30) dX7_run_30 rfl ?_
      refine z_get 0 16 (pc := 31) (v := .ref h_o_where) rfl rfl inX7 (by decide) flX7_35 rfl dX7_run_31 ?_
      refine z_iconst (pc := 34) (v := 0) dX7_run_34 (by decide) ?_
      refine z_iconst (pc := 35) (v := 0) dX7_run_35 (by decide) ?_
      refine z_iastore 1 0 (pc := 36) (ws' := (wsX7_run cA h_o h_o_where h_o_about h_o_program h_o_begin h_o_gap h_o_radius h_o_heights h_o_kept h_o_feeds s_13 o_side o_targets o_text o_size o_at o_fault o_draft o_statements o_hasProgram 1 o_tool o_stack o_seen o_where_n (upd o_where (0 : Int32).toNatClampNeg 0) o_about_n o_about o_program_n o_program o_begin_n o_begin o_gap_n o_gap o_radius_n o_radius o_heights_n o_heights o_kept_n o_kept o_feeds_n o_feeds)) rfl rfl dX7_run_36 rfl hf0 (fun hf0 => ?_)
      refine z_aload_n 0 (pc := 37) dX7_run_37 rfl ?_
      refine z_get 0 16 (pc := 38) (v := .ref h_o_where) rfl rfl inX7 (by decide) flX7_35 rfl dX7_run_38 ?_
      refine z_iconst (pc := 41) (v := 1) dX7_run_41 (by decide) ?_
      refine z_iconst (pc := 42) (v := 0) dX7_run_42 (by decide) ?_
      refine z_iastore 1 0 (pc := 43) (ws' := (wsX7_run cA h_o h_o_where h_o_about h_o_program h_o_begin h_o_gap h_o_radius h_o_heights h_o_kept h_o_feeds s_13 o_side o_targets o_text o_size o_at o_fault o_draft o_statements o_hasProgram 1 o_tool o_stack o_seen o_where_n (upd (upd o_where (0 : Int32).toNatClampNeg 0) (1 : Int32).toNatClampNeg 0) o_about_n o_about o_program_n o_program o_begin_n o_begin o_gap_n o_gap o_radius_n o_radius o_heights_n o_heights o_kept_n o_kept o_feeds_n o_feeds)) rfl rfl dX7_run_43 rfl hf0 (fun hf0 => ?_)
      refine z_aload_n 0 (pc := 44) dX7_run_44 rfl ?_
      refine z_get 0 16 (pc := 45) (v := .ref h_o_where) rfl rfl inX7 (by decide) flX7_35 rfl dX7_run_45 ?_
      refine z_iconst (pc := 48) (v := 2) dX7_run_48 (by decide) ?_
      refine z_bipush (pc := 49) (v := 100) dX7_run_49 (by decide) ?_
      refine z_iastore 1 0 (pc := 51) (ws' := (wsX7_run cA h_o h_o_where h_o_about h_o_program h_o_begin h_o_gap h_o_radius h_o_heights h_o_kept h_o_feeds s_13 o_side o_targets o_text o_size o_at o_fault o_draft o_statements o_hasProgram 1 o_tool o_stack o_seen o_where_n (upd (upd (upd o_where (0 : Int32).toNatClampNeg 0) (1 : Int32).toNatClampNeg 0) (2 : Int32).toNatClampNeg 100) o_about_n o_about o_program_n o_program o_begin_n o_begin o_gap_n o_gap o_radius_n o_radius o_heights_n o_heights o_kept_n o_kept o_feeds_n o_feeds)) rfl rfl dX7_run_51 rfl hf0 (fun hf0 => ?_)
      refine z_aload_n 0 (pc := 52) dX7_run_52 rfl ?_
      refine z_iconst (pc := 53) (v := 0) dX7_run_53 (by decide) ?_
      refine z_put 0 17 (pc := 54) (ws' := (wsX7_run cA h_o h_o_where h_o_about h_o_program h_o_begin h_o_gap h_o_radius h_o_heights h_o_kept h_o_feeds s_13 o_side o_targets o_text o_size o_at o_fault o_draft o_statements o_hasProgram 1 0 o_stack o_seen o_where_n (upd (upd (upd o_where (0 : Int32).toNatClampNeg 0) (1 : Int32).toNatClampNeg 0) (2 : Int32).toNatClampNeg 100) o_about_n o_about o_program_n o_program o_begin_n o_begin o_gap_n o_gap o_radius_n o_radius o_heights_n o_heights o_kept_n o_kept o_feeds_n o_feeds)) rfl rfl inX7 tyX7 tyX7_ok nmX7 (by decide) flX7_113 rfl rfl rfl rfl (Nat.le_of_ble_eq_true rfl) dX7_run_54 rfl ?_
      refine z_aload_n 0 (pc := 57) dX7_run_57 rfl ?_
      refine z_get 0 18 (pc := 58) (v := .ref h_o_about) rfl rfl inX7 (by decide) flX7_38 rfl dX7_run_58 ?_
      refine z_iconst (pc := 61) (v := 0) dX7_run_61 (by decide) ?_
      refine z_iconst (pc := 62) (v := 0) dX7_run_62 (by decide) ?_
      refine z_iastore 2 0 (pc := 63) (ws' := (wsX7_run cA h_o h_o_where h_o_about h_o_program h_o_begin h_o_gap h_o_radius h_o_heights h_o_kept h_o_feeds s_13 o_side o_targets o_text o_size o_at o_fault o_draft o_statements o_hasProgram 1 0 o_stack o_seen o_where_n (upd (upd (upd o_where (0 : Int32).toNatClampNeg 0) (1 : Int32).toNatClampNeg 0) (2 : Int32).toNatClampNeg 100) o_about_n (upd o_about (0 : Int32).toNatClampNeg 0) o_program_n o_program o_begin_n o_begin o_gap_n o_gap o_radius_n o_radius o_heights_n o_heights o_kept_n o_kept o_feeds_n o_feeds)) rfl rfl dX7_run_63 rfl hf0 (fun hf0 => ?_)
      refine z_aload_n 0 (pc := 64) dX7_run_64 rfl ?_
      refine z_get 0 18 (pc := 65) (v := .ref h_o_about) rfl rfl inX7 (by decide) flX7_38 rfl dX7_run_65 ?_
      refine z_iconst (pc := 68) (v := 5) dX7_run_68 (by decide) ?_
      refine z_iconst (pc := 69) (v := 0) dX7_run_69 (by decide) ?_
      refine z_iastore 2 0 (pc := 70) (ws' := (wsX7_run cA h_o h_o_where h_o_about h_o_program h_o_begin h_o_gap h_o_radius h_o_heights h_o_kept h_o_feeds s_13 o_side o_targets o_text o_size o_at o_fault o_draft o_statements o_hasProgram 1 0 o_stack o_seen o_where_n (upd (upd (upd o_where (0 : Int32).toNatClampNeg 0) (1 : Int32).toNatClampNeg 0) (2 : Int32).toNatClampNeg 100) o_about_n (upd (upd o_about (0 : Int32).toNatClampNeg 0) (5 : Int32).toNatClampNeg 0) o_program_n o_program o_begin_n o_begin o_gap_n o_gap o_radius_n o_radius o_heights_n o_heights o_kept_n o_kept o_feeds_n o_feeds)) rfl rfl dX7_run_70 rfl hf0 (fun hf0 => ?_)
      refine z_iconst (pc := 71) (v := 0) dX7_run_71 (by decide) ?_
      refine z_istore_n (pc := 72) (lv' := [(1, .int 0), (0, .ref h_o)]) dX7_run_72 (by decide) rfl ?_
      refine z_iconst (pc := 73) (v := 0) dX7_run_73 (by decide) ?_
      refine z_istore_n (pc := 74) (lv' := [(2, .int 0), (1, .int 0), (0, .ref h_o)]) dX7_run_74 (by decide) rfl ?_
      have j152 : ∀ (x1_152 : Int32) (x2_152 : Int32) (o_about_152 : Nat → Int32) (o_begin_152 : Nat → Int32) (o_gap_152 : Nat → Int32) (o_heights_152 : Nat → Int32) (o_tool_152 : Int32) (o_where_152 : Nat → Int32), JX7_run_152 o_about_n o_where_n s_13 x1_152 x2_152 o_about_152 o_begin_152 o_gap_152 o_heights_152 o_tool_152 o_where_152 = some res → V κ false l D cA rmX7_run cX7_run 3 RX7 (some .int) 0 0 152 [(0, .ref h_o), (1, .int x1_152), (2, .int x2_152)] [] (wsX7_run cA h_o h_o_where h_o_about h_o_program h_o_begin h_o_gap h_o_radius h_o_heights h_o_kept h_o_feeds s_13 o_side o_targets o_text o_size o_at o_fault o_draft o_statements o_hasProgram 1 o_tool_152 o_stack o_seen o_where_n o_where_152 o_about_n o_about_152 o_program_n o_program o_begin_n o_begin_152 o_gap_n o_gap_152 o_radius_n o_radius o_heights_n o_heights_152 o_kept_n o_kept o_feeds_n o_feeds) := by
        intro x1_152 x2_152 o_about_152 o_begin_152 o_gap_152 o_heights_152 o_tool_152 o_where_152 hf0
        rw [JX7_run_152] at hf0
        refine z_aload_n 0 (pc := 152) dX7_run_152 rfl ?_
        refine z_get 0 18 (pc := 153) (v := .ref h_o_about) rfl rfl inX7 (by decide) flX7_38 rfl dX7_run_153 ?_
        refine z_iconst (pc := 156) (v := 1) dX7_run_156 (by decide) ?_
        refine z_iload_n 2 (pc := 157) dX7_run_157 rfl ?_
        refine z_iastore 2 0 (pc := 158) (ws' := (wsX7_run cA h_o h_o_where h_o_about h_o_program h_o_begin h_o_gap h_o_radius h_o_heights h_o_kept h_o_feeds s_13 o_side o_targets o_text o_size o_at o_fault o_draft o_statements o_hasProgram 1 o_tool_152 o_stack o_seen o_where_n o_where_152 o_about_n (upd o_about_152 (1 : Int32).toNatClampNeg x2_152) o_program_n o_program o_begin_n o_begin_152 o_gap_n o_gap_152 o_radius_n o_radius o_heights_n o_heights_152 o_kept_n o_kept o_feeds_n o_feeds)) rfl rfl dX7_run_158 rfl hf0 (fun hf0 => ?_)
        refine z_aload_n 0 (pc := 159) dX7_run_159 rfl ?_
        refine z_get 0 18 (pc := 160) (v := .ref h_o_about) rfl rfl inX7 (by decide) flX7_38 rfl dX7_run_160 ?_
        refine z_iconst (pc := 163) (v := 2) dX7_run_163 (by decide) ?_
        refine z_aload_n 0 (pc := 164) dX7_run_164 rfl ?_
        refine z_get 0 16 (pc := 165) (v := .ref h_o_where) rfl rfl inX7 (by decide) flX7_35 rfl dX7_run_165 ?_
        refine z_iconst (pc := 168) (v := 0) dX7_run_168 (by decide) ?_
        refine z_iaload 1 0 (pc := 169) rfl rfl dX7_run_169 hf0 (fun hf0 => ?_)
        refine z_iastore 2 0 (pc := 170) (ws' := (wsX7_run cA h_o h_o_where h_o_about h_o_program h_o_begin h_o_gap h_o_radius h_o_heights h_o_kept h_o_feeds s_13 o_side o_targets o_text o_size o_at o_fault o_draft o_statements o_hasProgram 1 o_tool_152 o_stack o_seen o_where_n o_where_152 o_about_n (upd (upd o_about_152 (1 : Int32).toNatClampNeg x2_152) (2 : Int32).toNatClampNeg (o_where_152 (0 : Int32).toNatClampNeg)) o_program_n o_program o_begin_n o_begin_152 o_gap_n o_gap_152 o_radius_n o_radius o_heights_n o_heights_152 o_kept_n o_kept o_feeds_n o_feeds)) rfl rfl dX7_run_170 rfl hf0 (fun hf0 => ?_)
        refine z_aload_n 0 (pc := 171) dX7_run_171 rfl ?_
        refine z_get 0 18 (pc := 172) (v := .ref h_o_about) rfl rfl inX7 (by decide) flX7_38 rfl dX7_run_172 ?_
        refine z_iconst (pc := 175) (v := 3) dX7_run_175 (by decide) ?_
        refine z_aload_n 0 (pc := 176) dX7_run_176 rfl ?_
        refine z_get 0 16 (pc := 177) (v := .ref h_o_where) rfl rfl inX7 (by decide) flX7_35 rfl dX7_run_177 ?_
        refine z_iconst (pc := 180) (v := 1) dX7_run_180 (by decide) ?_
        refine z_iaload 1 0 (pc := 181) rfl rfl dX7_run_181 hf0 (fun hf0 => ?_)
        refine z_iastore 2 0 (pc := 182) (ws' := (wsX7_run cA h_o h_o_where h_o_about h_o_program h_o_begin h_o_gap h_o_radius h_o_heights h_o_kept h_o_feeds s_13 o_side o_targets o_text o_size o_at o_fault o_draft o_statements o_hasProgram 1 o_tool_152 o_stack o_seen o_where_n o_where_152 o_about_n (upd (upd (upd o_about_152 (1 : Int32).toNatClampNeg x2_152) (2 : Int32).toNatClampNeg (o_where_152 (0 : Int32).toNatClampNeg)) (3 : Int32).toNatClampNeg (o_where_152 (1 : Int32).toNatClampNeg)) o_program_n o_program o_begin_n o_begin_152 o_gap_n o_gap_152 o_radius_n o_radius o_heights_n o_heights_152 o_kept_n o_kept o_feeds_n o_feeds)) rfl rfl dX7_run_182 rfl hf0 (fun hf0 => ?_)
        refine z_aload_n 0 (pc := 183) dX7_run_183 rfl ?_
        refine z_get 0 18 (pc := 184) (v := .ref h_o_about) rfl rfl inX7 (by decide) flX7_38 rfl dX7_run_184 ?_
        refine z_iconst (pc := 187) (v := 4) dX7_run_187 (by decide) ?_
        refine z_aload_n 0 (pc := 188) dX7_run_188 rfl ?_
        refine z_get 0 16 (pc := 189) (v := .ref h_o_where) rfl rfl inX7 (by decide) flX7_35 rfl dX7_run_189 ?_
        refine z_iconst (pc := 192) (v := 2) dX7_run_192 (by decide) ?_
        refine z_iaload 1 0 (pc := 193) rfl rfl dX7_run_193 hf0 (fun hf0 => ?_)
        refine z_iastore 2 0 (pc := 194) (ws' := (wsX7_run cA h_o h_o_where h_o_about h_o_program h_o_begin h_o_gap h_o_radius h_o_heights h_o_kept h_o_feeds s_13 o_side o_targets o_text o_size o_at o_fault o_draft o_statements o_hasProgram 1 o_tool_152 o_stack o_seen o_where_n o_where_152 o_about_n (upd (upd (upd (upd o_about_152 (1 : Int32).toNatClampNeg x2_152) (2 : Int32).toNatClampNeg (o_where_152 (0 : Int32).toNatClampNeg)) (3 : Int32).toNatClampNeg (o_where_152 (1 : Int32).toNatClampNeg)) (4 : Int32).toNatClampNeg (o_where_152 (2 : Int32).toNatClampNeg)) o_program_n o_program o_begin_n o_begin_152 o_gap_n o_gap_152 o_radius_n o_radius o_heights_n o_heights_152 o_kept_n o_kept o_feeds_n o_feeds)) rfl rfl dX7_run_194 rfl hf0 (fun hf0 => ?_)
        refine z_iload_n 1 (pc := 195) dX7_run_195 rfl ?_
        obtain rfl := Option.some.inj hf0
        exact z_iret hE dX7_run_196
      obtain ⟨y75, hf0_75, hf0⟩ := bp hf0
      have lp75 : ∀ (n : Nat) (x1_75 : Int32) (x2_75 : Int32) (o_about_75 : Nat → Int32) (o_begin_75 : Nat → Int32) (o_gap_75 : Nat → Int32) (o_heights_75 : Nat → Int32) (o_tool_75 : Int32) (o_where_75 : Nat → Int32), LX7_run_75 o_statements o_program_n o_program o_about_n N o_side o_begin_n o_where_n o_gap_n o_radius_n o_radius o_heights_n o_kept_n o_kept o_feeds_n o_feeds n x1_75 x2_75 o_about_75 o_begin_75 o_gap_75 o_heights_75 o_tool_75 o_where_75 = some y75 → V κ false l D cA rmX7_run cX7_run 3 RX7 (some .int) 0 0 75 [(0, .ref h_o), (1, .int x1_75), (2, .int x2_75)] [] (wsX7_run cA h_o h_o_where h_o_about h_o_program h_o_begin h_o_gap h_o_radius h_o_heights h_o_kept h_o_feeds s_13 o_side o_targets o_text o_size o_at o_fault o_draft o_statements o_hasProgram 1 o_tool_75 o_stack o_seen o_where_n o_where_75 o_about_n o_about_75 o_program_n o_program o_begin_n o_begin_75 o_gap_n o_gap_75 o_radius_n o_radius o_heights_n o_heights_75 o_kept_n o_kept o_feeds_n o_feeds) := by
        intro n
        induction n with
        | zero => intro x1_75 x2_75 o_about_75 o_begin_75 o_gap_75 o_heights_75 o_tool_75 o_where_75 hf0_75; rw [LX7_run_75] at hf0_75; cases hf0_75
        | succ n75 ih75 =>
          intro x1_75 x2_75 o_about_75 o_begin_75 o_gap_75 o_heights_75 o_tool_75 o_where_75 hf0_75
          rw [LX7_run_75] at hf0_75
          refine z_iload_n 2 (pc := 75) dX7_run_75 rfl ?_
          refine z_aload_n 0 (pc := 76) dX7_run_76 rfl ?_
          refine z_get 0 13 (pc := 77) (v := .int o_statements) rfl rfl inX7 (by decide) flX7_103 rfl dX7_run_77 ?_
          refine z_icmp_ge (pc := 80) (tgt := 152) dX7_run_80 (by decide) hf0_75 (fun hf0_75 => ?_) (fun hf0_75 => ?_)
          · obtain rfl := Option.some.inj hf0_75
            exact z_lv [0, 1, 2] rfl (j152 x1_75 x2_75 o_about_75 o_begin_75 o_gap_75 o_heights_75 o_tool_75 o_where_75 hf0)
          · refine z_iload_n 1 (pc := 83) dX7_run_83 rfl ?_
            refine z_if_ne (pc := 84) (tgt := 152) dX7_run_84 (by decide) hf0_75 (fun hf0_75 => ?_) (fun hf0_75 => ?_)
            · obtain rfl := Option.some.inj hf0_75
              exact z_lv [0, 1, 2] rfl (j152 x1_75 x2_75 o_about_75 o_begin_75 o_gap_75 o_heights_75 o_tool_75 o_where_75 hf0)
            · refine z_aload_n 0 (pc := 87) dX7_run_87 rfl ?_
              refine z_get 0 11 (pc := 88) (v := .ref h_o_program) rfl rfl inX7 (by decide) flX7_29 rfl dX7_run_88 ?_
              refine z_iconst (pc := 91) (v := 5) dX7_run_91 (by decide) ?_
              refine z_iload_n 2 (pc := 92) dX7_run_92 rfl ?_
              refine z_imul (pc := 93) dX7_run_93 ?_
              refine z_iaload 3 0 (pc := 94) rfl rfl dX7_run_94 hf0_75 (fun hf0_75 => ?_)
              refine z_iconst (pc := 95) (v := 2) dX7_run_95 (by decide) ?_
              refine z_icmp_ne (pc := 96) (tgt := 131) dX7_run_96 (by decide) hf0_75 (fun hf0_75 => ?_) (fun hf0_75 => ?_)
              · refine z_aload_n 0 (pc := 131) dX7_run_131 rfl ?_
                refine z_iload_n 2 (pc := 132) dX7_run_132 rfl ?_
                obtain ⟨r2, er2, hf0_75⟩ := bp hf0_75
                refine z_calliV (pc := 133) (As := [.int x2_75]) (rest := []) (ws' := (wsX7_run cA h_o h_o_where h_o_about h_o_program h_o_begin h_o_gap h_o_radius h_o_heights h_o_kept h_o_feeds s_13 o_side o_targets o_text o_size o_at o_fault o_draft o_statements o_hasProgram 1 o_tool_75 o_stack o_seen o_where_n r2.2.2.1 o_about_n r2.2.2.2.2.2 o_program_n o_program o_begin_n r2.2.1 o_gap_n r2.2.2.2.1 o_radius_n o_radius o_heights_n r2.2.2.2.2.1 o_kept_n o_kept o_feeds_n o_feeds)) (kX7_go l D cA h_o h_o_begin h_o_where h_o_program h_o_gap h_o_radius h_o_heights h_o_kept h_o_about h_o_feeds s_13 o_side o_targets o_text o_size o_at o_fault o_draft o_statements o_hasProgram 1 o_tool_75 o_stack o_seen o_begin_n o_begin_75 o_where_n o_where_75 o_program_n o_program o_gap_n o_gap_75 o_radius_n o_radius o_heights_n o_heights_75 o_kept_n o_kept o_about_n o_about_75 o_feeds_n o_feeds x2_75 N r2 er2) ivX7_131 ⟨rfl, rfl⟩ ⟨by decide, by decide⟩ rfl ⟨Nat.zero_le _, Nat.zero_le _⟩ rfl rfl [0, 4, 1, 3, 5, 6, 7, 8, 2, 9] rfl (by decide) rfl rfl rfl (Nat.le_of_ble_eq_true rfl) dX7_run_133 ?_
                refine z_istore_n (pc := 136) (lv' := [(1, .int r2.1), (0, .ref h_o), (2, .int x2_75)]) dX7_run_136 (by decide) rfl ?_
                refine z_iload_n 0 (pc := 137) dX7_run_137 rfl ?_
                refine z_if_ne (pc := 138) (tgt := 147) dX7_run_138 (by decide) hf0_75 (fun hf0_75 => ?_) (fun hf0_75 => ?_)
                · refine z_iload_n 2 (pc := 147) dX7_run_147 rfl ?_
                  refine z_istore_n (pc := 148) (lv' := [(2, .int x2_75), (1, .int r2.1), (0, .ref h_o)]) dX7_run_148 (by decide) rfl ?_
                  refine z_goto (pc := 149) (tgt := 75) dX7_run_149 (by decide) ?_
                  exact z_lv [2, 1, 0] rfl (ih75 r2.1 x2_75 r2.2.2.2.2.2 r2.2.1 r2.2.2.2.1 r2.2.2.2.2.1 o_tool_75 r2.2.2.1 hf0_75)
                · refine z_iload_n 2 (pc := 141) dX7_run_141 rfl ?_
                  refine z_iconst (pc := 142) (v := 1) dX7_run_142 (by decide) ?_
                  refine z_iadd (pc := 143) dX7_run_143 ?_
                  refine z_goto (pc := 144) (tgt := 148) dX7_run_144 (by decide) ?_
                  refine z_istore_n (pc := 148) (lv' := [(2, .int (x2_75 + 1)), (1, .int r2.1), (0, .ref h_o)]) dX7_run_148 (by decide) rfl ?_
                  refine z_goto (pc := 149) (tgt := 75) dX7_run_149 (by decide) ?_
                  exact z_lv [2, 1, 0] rfl (ih75 r2.1 (x2_75 + 1) r2.2.2.2.2.2 r2.2.1 r2.2.2.2.1 r2.2.2.2.2.1 o_tool_75 r2.2.2.1 hf0_75)
              · refine z_aload_n 0 (pc := 99) dX7_run_99 rfl ?_
                refine z_aload_n 0 (pc := 100) dX7_run_100 rfl ?_
                refine z_get 0 11 (pc := 101) (v := .ref h_o_program) rfl rfl inX7 (by decide) flX7_29 rfl dX7_run_101 ?_
                refine z_iconst (pc := 104) (v := 5) dX7_run_104 (by decide) ?_
                refine z_iload_n 2 (pc := 105) dX7_run_105 rfl ?_
                refine z_imul (pc := 106) dX7_run_106 ?_
                refine z_iconst (pc := 107) (v := 4) dX7_run_107 (by decide) ?_
                refine z_iadd (pc := 108) dX7_run_108 ?_
                refine z_iaload 3 0 (pc := 109) rfl rfl dX7_run_109 hf0_75 (fun hf0_75 => ?_)
                refine z_put 0 17 (pc := 110) (ws' := (wsX7_run cA h_o h_o_where h_o_about h_o_program h_o_begin h_o_gap h_o_radius h_o_heights h_o_kept h_o_feeds s_13 o_side o_targets o_text o_size o_at o_fault o_draft o_statements o_hasProgram 1 (o_program ((5 * x2_75) + 4).toNatClampNeg) o_stack o_seen o_where_n o_where_75 o_about_n o_about_75 o_program_n o_program o_begin_n o_begin_75 o_gap_n o_gap_75 o_radius_n o_radius o_heights_n o_heights_75 o_kept_n o_kept o_feeds_n o_feeds)) rfl rfl inX7 tyX7 tyX7_ok nmX7 (by decide) flX7_113 rfl rfl rfl rfl (Nat.le_of_ble_eq_true rfl) dX7_run_110 rfl ?_
                refine z_aload_n 0 (pc := 113) dX7_run_113 rfl ?_
                refine z_get 0 18 (pc := 114) (v := .ref h_o_about) rfl rfl inX7 (by decide) flX7_38 rfl dX7_run_114 ?_
                refine z_iconst (pc := 117) (v := 0) dX7_run_117 (by decide) ?_
                refine z_aload_n 0 (pc := 118) dX7_run_118 rfl ?_
                refine z_get 0 18 (pc := 119) (v := .ref h_o_about) rfl rfl inX7 (by decide) flX7_38 rfl dX7_run_119 ?_
                refine z_iconst (pc := 122) (v := 0) dX7_run_122 (by decide) ?_
                refine z_iaload 2 0 (pc := 123) rfl rfl dX7_run_123 hf0_75 (fun hf0_75 => ?_)
                refine z_bipush (pc := 124) (v := 10) dX7_run_124 (by decide) ?_
                refine z_iadd (pc := 126) dX7_run_126 ?_
                refine z_iastore 2 0 (pc := 127) (ws' := (wsX7_run cA h_o h_o_where h_o_about h_o_program h_o_begin h_o_gap h_o_radius h_o_heights h_o_kept h_o_feeds s_13 o_side o_targets o_text o_size o_at o_fault o_draft o_statements o_hasProgram 1 (o_program ((5 * x2_75) + 4).toNatClampNeg) o_stack o_seen o_where_n o_where_75 o_about_n (upd o_about_75 (0 : Int32).toNatClampNeg ((o_about_75 (0 : Int32).toNatClampNeg) + 10)) o_program_n o_program o_begin_n o_begin_75 o_gap_n o_gap_75 o_radius_n o_radius o_heights_n o_heights_75 o_kept_n o_kept o_feeds_n o_feeds)) rfl rfl dX7_run_127 rfl hf0_75 (fun hf0_75 => ?_)
                refine z_goto (pc := 128) (tgt := 137) dX7_run_128 (by decide) ?_
                refine z_iload_n 1 (pc := 137) dX7_run_137 rfl ?_
                refine z_if_ne (pc := 138) (tgt := 147) dX7_run_138 (by decide) hf0_75 (fun hf0_75 => ?_) (fun hf0_75 => ?_)
                · refine z_iload_n 2 (pc := 147) dX7_run_147 rfl ?_
                  refine z_istore_n (pc := 148) (lv' := [(2, .int x2_75), (0, .ref h_o), (1, .int x1_75)]) dX7_run_148 (by decide) rfl ?_
                  refine z_goto (pc := 149) (tgt := 75) dX7_run_149 (by decide) ?_
                  exact z_lv [1, 2, 0] rfl (ih75 x1_75 x2_75 (upd o_about_75 (0 : Int32).toNatClampNeg ((o_about_75 (0 : Int32).toNatClampNeg) + 10)) o_begin_75 o_gap_75 o_heights_75 (o_program ((5 * x2_75) + 4).toNatClampNeg) o_where_75 hf0_75)
                · refine z_iload_n 2 (pc := 141) dX7_run_141 rfl ?_
                  refine z_iconst (pc := 142) (v := 1) dX7_run_142 (by decide) ?_
                  refine z_iadd (pc := 143) dX7_run_143 ?_
                  refine z_goto (pc := 144) (tgt := 148) dX7_run_144 (by decide) ?_
                  refine z_istore_n (pc := 148) (lv' := [(2, .int (x2_75 + 1)), (0, .ref h_o), (1, .int x1_75)]) dX7_run_148 (by decide) rfl ?_
                  refine z_goto (pc := 149) (tgt := 75) dX7_run_149 (by decide) ?_
                  exact z_lv [1, 2, 0] rfl (ih75 x1_75 (x2_75 + 1) (upd o_about_75 (0 : Int32).toNatClampNeg ((o_about_75 (0 : Int32).toNatClampNeg) + 10)) o_begin_75 o_gap_75 o_heights_75 (o_program ((5 * x2_75) + 4).toNatClampNeg) o_where_75 hf0_75)
      exact z_lv [2, 1, 0] rfl (lp75 N 0 0 (upd (upd o_about (0 : Int32).toNatClampNeg 0) (5 : Int32).toNatClampNeg 0) o_begin o_gap o_heights 0 (upd (upd (upd o_where (0 : Int32).toNatClampNeg 0) (1 : Int32).toNatClampNeg 0) (2 : Int32).toNatClampNeg 100) hf0_75)
    · refine z_iconst (pc := 23) (v := 0) dX7_run_23 (by decide) ?_
      obtain rfl := Option.some.inj hf0
      exact z_iret hE dX7_run_24
  refine z_if_eq (pc := 5) (tgt := 12) dX7_run_5 (by decide) hf0 (fun hf0 => ?_) (fun hf0 => ?_)
  · refine z_iconst (pc := 12) (v := 1) dX7_run_12 (by decide) ?_
    exact z_lv [0] rfl (j13 1 hf0)
  · refine z_iconst (pc := 8) (v := 0) dX7_run_8 (by decide) ?_
    refine z_goto (pc := 9) (tgt := 13) dX7_run_9 (by decide) ?_
    exact z_lv [0] rfl (j13 0 hf0)

abbrev RX7_about : Type := Int32 × Int32
abbrev rmX7_about : Room := { frames := 1, cells := 0, slots := 0, locals := 22 }
abbrev wsX7_about (cA : Nat → ClassId) (h_o : Nat) (h_o_about : Nat) (o_thrown : Int32) (o_side : Int32) (o_heights : Value) (o_targets : Value) (o_kept : Value) (o_radius : Value) (o_feeds : Value) (o_text : Value) (o_size : Int32) (o_at : Int32) (o_fault : Int32) (o_program : Value) (o_draft : Value) (o_statements : Int32) (o_hasProgram : Int32) (o_hasRun : Int32) (o_where : Value) (o_tool : Int32) (o_stack : Value) (o_seen : Value) (o_begin : Value) (o_gap : Value) (o_about_n : Nat) (o_about : Nat → Int32) : va_W := [(h_o, .inr (7, [.int o_thrown, .int o_side, o_heights, o_targets, o_kept, o_radius, o_feeds, o_text, .int o_size, .int o_at, .int o_fault, o_program, o_draft, .int o_statements, .int o_hasProgram, .int o_hasRun, o_where, .int o_tool, .ref h_o_about, o_stack, o_seen, o_begin, o_gap])), (h_o_about, .inl (cA 0, o_about_n, .inl o_about))]
def fX7_about (N : Nat) (a1 : Int32) (o_thrown : Int32) (o_hasRun : Int32) (o_about_n : Nat) (o_about : Nat → Int32) : Option RX7_about :=
  ((fX7_isIn N a1 0 5).bind fun r1 => (if r1 = 0 then some (0, 1) else (if o_hasRun = 0 then some (0, 2) else (if a1 < 0 ∨ o_about_n ≤ a1.toNatClampNeg then none else some (o_about a1.toNatClampNeg, 0)))))
set_option maxHeartbeats 4000000 in
set_option maxRecDepth 100000 in
theorem kX7_about (l : Launch) (D : va_G) (cA : Nat → ClassId) (h_o : Nat) (h_o_about : Nat) (o_thrown : Int32) (o_side : Int32) (o_heights : Value) (o_targets : Value) (o_kept : Value) (o_radius : Value) (o_feeds : Value) (o_text : Value) (o_size : Int32) (o_at : Int32) (o_fault : Int32) (o_program : Value) (o_draft : Value) (o_statements : Int32) (o_hasProgram : Int32) (o_hasRun : Int32) (o_where : Value) (o_tool : Int32) (o_stack : Value) (o_seen : Value) (o_begin : Value) (o_gap : Value) (o_about_n : Nat) (o_about : Nat → Int32) (a1 : Int32) (N : Nat) (res : RX7_about) (hf0 : fX7_about N a1 o_thrown o_hasRun o_about_n o_about = some res) : CtI l yX7_about (Cond.code yX7_about cX7_about 2 (some .int) :: tblG) rmX7_about D cA (wsX7_about cA h_o h_o_about o_thrown o_side o_heights o_targets o_kept o_radius o_feeds o_text o_size o_at o_fault o_program o_draft o_statements o_hasProgram o_hasRun o_where o_tool o_stack o_seen o_begin o_gap o_about_n o_about) [.ref h_o, .int a1] res.1 (wsX7_about cA h_o h_o_about res.2 o_side o_heights o_targets o_kept o_radius o_feeds o_text o_size o_at o_fault o_program o_draft o_statements o_hasProgram o_hasRun o_where o_tool o_stack o_seen o_begin o_gap o_about_n o_about) := by
  refine CtI.start (lv := [(0, .ref h_o), (1, .int a1)]) (by decide) (Nat.le_of_ble_eq_true rfl) rfl (fun κ hE => ?_)
  rw [fX7_about] at hf0
  refine z_aload_n 0 (pc := 0) dX7_about_0 rfl ?_
  refine z_iload_n 1 (pc := 1) dX7_about_1 rfl ?_
  refine z_iconst (pc := 2) (v := 0) dX7_about_2 (by decide) ?_
  refine z_iconst (pc := 3) (v := 5) dX7_about_3 (by decide) ?_
  obtain ⟨r1, er1, hf0⟩ := bp hf0
  refine z_calliS (pc := 4) (As := [.int a1, .int 0, .int 5]) (rest := [.ref h_o]) (ws' := (wsX7_about cA h_o h_o_about o_thrown o_side o_heights o_targets o_kept o_radius o_feeds o_text o_size o_at o_fault o_program o_draft o_statements o_hasProgram o_hasRun o_where o_tool o_stack o_seen o_begin o_gap o_about_n o_about)) (kX7_isIn l D cA   a1 0 5 N r1 er1) ivX7_60 ⟨rfl, rfl⟩ ⟨by decide, by decide⟩ rfl ⟨Nat.zero_le _, Nat.zero_le _⟩ [] rfl (by decide) rfl rfl rfl (Nat.le_of_ble_eq_true rfl) dX7_about_4 ?_
  refine z_if_ne (pc := 7) (tgt := 14) dX7_about_7 (by decide) hf0 (fun hf0 => ?_) (fun hf0 => ?_)
  · refine z_aload_n 0 (pc := 14) dX7_about_14 rfl ?_
    refine z_get 0 15 (pc := 15) (v := .int o_hasRun) rfl rfl inX7 (by decide) flX7_128 rfl dX7_about_15 ?_
    refine z_if_eq (pc := 18) (tgt := 25) dX7_about_18 (by decide) hf0 (fun hf0 => ?_) (fun hf0 => ?_)
    · refine z_iconst (pc := 25) (v := 2) dX7_about_25 (by decide) ?_
      refine z_put 0 0 (pc := 26) (ws' := (wsX7_about cA h_o h_o_about 2 o_side o_heights o_targets o_kept o_radius o_feeds o_text o_size o_at o_fault o_program o_draft o_statements o_hasProgram o_hasRun o_where o_tool o_stack o_seen o_begin o_gap o_about_n o_about)) rfl rfl inX7 tyX7 tyX7_ok nmX7 (by decide) flX7_57 rfl rfl rfl rfl (Nat.le_of_ble_eq_true rfl) dX7_about_26 rfl ?_
      refine z_aload_n 0 (pc := 29) dX7_about_29 rfl ?_
      refine z_get 0 0 (pc := 30) (v := .int 2) rfl rfl inX7 (by decide) flX7_57 rfl dX7_about_30 ?_
      refine y_if_le (pc := 33) (tgt := 40) dX7_about_33 (by decide) (fun hc => absurd hc (by decide)) (fun _ => ?_)
      refine z_iconst (pc := 36) (v := 0) dX7_about_36 (by decide) ?_
      refine z_goto (pc := 37) (tgt := 46) dX7_about_37 (by decide) ?_
      obtain rfl := Option.some.inj hf0
      exact z_iret hE dX7_about_46
    · refine z_iconst (pc := 21) (v := 0) dX7_about_21 (by decide) ?_
      refine z_goto (pc := 22) (tgt := 26) dX7_about_22 (by decide) ?_
      refine z_put 0 0 (pc := 26) (ws' := (wsX7_about cA h_o h_o_about 0 o_side o_heights o_targets o_kept o_radius o_feeds o_text o_size o_at o_fault o_program o_draft o_statements o_hasProgram o_hasRun o_where o_tool o_stack o_seen o_begin o_gap o_about_n o_about)) rfl rfl inX7 tyX7 tyX7_ok nmX7 (by decide) flX7_57 rfl rfl rfl rfl (Nat.le_of_ble_eq_true rfl) dX7_about_26 rfl ?_
      refine z_aload_n 0 (pc := 29) dX7_about_29 rfl ?_
      refine z_get 0 0 (pc := 30) (v := .int 0) rfl rfl inX7 (by decide) flX7_57 rfl dX7_about_30 ?_
      refine y_if_le (pc := 33) (tgt := 40) dX7_about_33 (by decide) (fun _ => ?_) (fun hc => absurd (by decide) hc)
      refine z_aload_n 0 (pc := 40) dX7_about_40 rfl ?_
      refine z_get 0 18 (pc := 41) (v := .ref h_o_about) rfl rfl inX7 (by decide) flX7_38 rfl dX7_about_41 ?_
      refine z_iload_n 1 (pc := 44) dX7_about_44 rfl ?_
      refine z_iaload 1 0 (pc := 45) rfl rfl dX7_about_45 hf0 (fun hf0 => ?_)
      obtain rfl := Option.some.inj hf0
      exact z_iret hE dX7_about_46
  · refine z_iconst (pc := 10) (v := 1) dX7_about_10 (by decide) ?_
    refine z_goto (pc := 11) (tgt := 26) dX7_about_11 (by decide) ?_
    refine z_put 0 0 (pc := 26) (ws' := (wsX7_about cA h_o h_o_about 1 o_side o_heights o_targets o_kept o_radius o_feeds o_text o_size o_at o_fault o_program o_draft o_statements o_hasProgram o_hasRun o_where o_tool o_stack o_seen o_begin o_gap o_about_n o_about)) rfl rfl inX7 tyX7 tyX7_ok nmX7 (by decide) flX7_57 rfl rfl rfl rfl (Nat.le_of_ble_eq_true rfl) dX7_about_26 rfl ?_
    refine z_aload_n 0 (pc := 29) dX7_about_29 rfl ?_
    refine z_get 0 0 (pc := 30) (v := .int 1) rfl rfl inX7 (by decide) flX7_57 rfl dX7_about_30 ?_
    refine y_if_le (pc := 33) (tgt := 40) dX7_about_33 (by decide) (fun hc => absurd hc (by decide)) (fun _ => ?_)
    refine z_iconst (pc := 36) (v := 0) dX7_about_36 (by decide) ?_
    refine z_goto (pc := 37) (tgt := 46) dX7_about_37 (by decide) ?_
    obtain rfl := Option.some.inj hf0
    exact z_iret hE dX7_about_46

abbrev RX7_cell : Type := Int32 × Int32
abbrev rmX7_cell : Room := { frames := 2, cells := 0, slots := 0, locals := 44 }
abbrev wsX7_cell (cA : Nat → ClassId) (h_o : Nat) (h_o_heights : Nat) (h_o_targets : Nat) (h_o_kept : Nat) (o_thrown : Int32) (o_side : Int32) (o_radius : Value) (o_feeds : Value) (o_text : Value) (o_size : Int32) (o_at : Int32) (o_fault : Int32) (o_program : Value) (o_draft : Value) (o_statements : Int32) (o_hasProgram : Int32) (o_hasRun : Int32) (o_where : Value) (o_tool : Int32) (o_about : Value) (o_stack : Value) (o_seen : Value) (o_begin : Value) (o_gap : Value) (o_heights_n : Nat) (o_heights : Nat → Int32) (o_targets_n : Nat) (o_targets : Nat → Int32) (o_kept_n : Nat) (o_kept : Nat → Int32) : va_W := [(h_o, .inr (7, [.int o_thrown, .int o_side, .ref h_o_heights, .ref h_o_targets, .ref h_o_kept, o_radius, o_feeds, o_text, .int o_size, .int o_at, .int o_fault, o_program, o_draft, .int o_statements, .int o_hasProgram, .int o_hasRun, o_where, .int o_tool, o_about, o_stack, o_seen, o_begin, o_gap])), (h_o_heights, .inl (cA 0, o_heights_n, .inl o_heights)), (h_o_targets, .inl (cA 0, o_targets_n, .inl o_targets)), (h_o_kept, .inl (cA 1, o_kept_n, .inl o_kept))]
def JX7_cell_24 (a3 : Int32) (a2 : Int32) (a1 : Int32) (o_heights_n : Nat) (o_heights : Nat → Int32) (o_targets_n : Nat) (o_targets : Nat → Int32) (o_kept_n : Nat) (o_kept : Nat → Int32) (s_24 : Int32) : Option (RX7_cell) :=
  (if s_24 ≤ 0 then (if a3 = 0 then (if ((20 * a2) + a1) < 0 ∨ o_heights_n ≤ ((20 * a2) + a1).toNatClampNeg then none else some (o_heights ((20 * a2) + a1).toNatClampNeg, s_24)) else (if a3 = 1 then (if ((20 * a2) + a1) < 0 ∨ o_targets_n ≤ ((20 * a2) + a1).toNatClampNeg then none else some (o_targets ((20 * a2) + a1).toNatClampNeg, s_24)) else (if ((20 * a2) + a1) < 0 ∨ o_kept_n ≤ ((20 * a2) + a1).toNatClampNeg then none else (if (o_kept ((20 * a2) + a1).toNatClampNeg) = 0 then some (0, s_24) else some (1, s_24))))) else some (0, s_24))
def JX7_cell_23 (a3 : Int32) (a2 : Int32) (a1 : Int32) (o_heights_n : Nat) (o_heights : Nat → Int32) (o_targets_n : Nat) (o_targets : Nat → Int32) (o_kept_n : Nat) (o_kept : Nat → Int32)  : Option (RX7_cell) :=
  JX7_cell_24 a3 a2 a1 o_heights_n o_heights o_targets_n o_targets o_kept_n o_kept 1
def fX7_cell (N : Nat) (a1 : Int32) (a2 : Int32) (a3 : Int32) (o_thrown : Int32) (o_side : Int32) (o_heights_n : Nat) (o_heights : Nat → Int32) (o_targets_n : Nat) (o_targets : Nat → Int32) (o_kept_n : Nat) (o_kept : Nat → Int32) : Option RX7_cell :=
  ((fX7_isCell N a1 a2 o_side).bind fun r1 => (if r1 = 0 then JX7_cell_23 a3 a2 a1 o_heights_n o_heights o_targets_n o_targets o_kept_n o_kept  else ((fX7_isIn N a3 0 2).bind fun r2 => (if r2 = 0 then JX7_cell_23 a3 a2 a1 o_heights_n o_heights o_targets_n o_targets o_kept_n o_kept  else JX7_cell_24 a3 a2 a1 o_heights_n o_heights o_targets_n o_targets o_kept_n o_kept 0))))
set_option maxHeartbeats 4000000 in
set_option maxRecDepth 100000 in
theorem kX7_cell (l : Launch) (D : va_G) (cA : Nat → ClassId) (h_o : Nat) (h_o_heights : Nat) (h_o_targets : Nat) (h_o_kept : Nat) (o_thrown : Int32) (o_side : Int32) (o_radius : Value) (o_feeds : Value) (o_text : Value) (o_size : Int32) (o_at : Int32) (o_fault : Int32) (o_program : Value) (o_draft : Value) (o_statements : Int32) (o_hasProgram : Int32) (o_hasRun : Int32) (o_where : Value) (o_tool : Int32) (o_about : Value) (o_stack : Value) (o_seen : Value) (o_begin : Value) (o_gap : Value) (o_heights_n : Nat) (o_heights : Nat → Int32) (o_targets_n : Nat) (o_targets : Nat → Int32) (o_kept_n : Nat) (o_kept : Nat → Int32) (a1 : Int32) (a2 : Int32) (a3 : Int32) (N : Nat) (res : RX7_cell) (hf0 : fX7_cell N a1 a2 a3 o_thrown o_side o_heights_n o_heights o_targets_n o_targets o_kept_n o_kept = some res) : CtI l yX7_cell (Cond.code yX7_cell cX7_cell 5 (some .int) :: tblG) rmX7_cell D cA (wsX7_cell cA h_o h_o_heights h_o_targets h_o_kept o_thrown o_side o_radius o_feeds o_text o_size o_at o_fault o_program o_draft o_statements o_hasProgram o_hasRun o_where o_tool o_about o_stack o_seen o_begin o_gap o_heights_n o_heights o_targets_n o_targets o_kept_n o_kept) [.ref h_o, .int a1, .int a2, .int a3] res.1 (wsX7_cell cA h_o h_o_heights h_o_targets h_o_kept res.2 o_side o_radius o_feeds o_text o_size o_at o_fault o_program o_draft o_statements o_hasProgram o_hasRun o_where o_tool o_about o_stack o_seen o_begin o_gap o_heights_n o_heights o_targets_n o_targets o_kept_n o_kept) := by
  refine CtI.start (lv := [(0, .ref h_o), (1, .int a1), (2, .int a2), (3, .int a3)]) (by decide) (Nat.le_of_ble_eq_true rfl) rfl (fun κ hE => ?_)
  rw [fX7_cell] at hf0
  refine z_aload_n 0 (pc := 0) dX7_cell_0 rfl ?_
  refine z_aload_n 0 (pc := 1) dX7_cell_1 rfl ?_
  refine z_iload_n 1 (pc := 2) dX7_cell_2 rfl ?_
  refine z_iload_n 2 (pc := 3) dX7_cell_3 rfl ?_
  obtain ⟨r1, er1, hf0⟩ := bp hf0
  refine z_calliV (pc := 4) (As := [.int a1, .int a2]) (rest := [.ref h_o]) (ws' := (wsX7_cell cA h_o h_o_heights h_o_targets h_o_kept o_thrown o_side o_radius o_feeds o_text o_size o_at o_fault o_program o_draft o_statements o_hasProgram o_hasRun o_where o_tool o_about o_stack o_seen o_begin o_gap o_heights_n o_heights o_targets_n o_targets o_kept_n o_kept)) (kX7_isCell l D cA h_o o_thrown o_side (.ref h_o_heights) (.ref h_o_targets) (.ref h_o_kept) o_radius o_feeds o_text o_size o_at o_fault o_program o_draft o_statements o_hasProgram o_hasRun o_where o_tool o_about o_stack o_seen o_begin o_gap a1 a2 N r1 er1) ivX7_64 ⟨rfl, rfl⟩ ⟨by decide, by decide⟩ rfl ⟨Nat.zero_le _, Nat.zero_le _⟩ rfl rfl [0] rfl (by decide) rfl rfl rfl (Nat.le_of_ble_eq_true rfl) dX7_cell_4 ?_
  have j24 : ∀ (s_24 : Int32), JX7_cell_24 a3 a2 a1 o_heights_n o_heights o_targets_n o_targets o_kept_n o_kept s_24 = some res → V κ false l D cA rmX7_cell cX7_cell 5 RX7 (some .int) 0 0 24 [(0, .ref h_o), (1, .int a1), (2, .int a2), (3, .int a3)] [.int s_24, .ref h_o] (wsX7_cell cA h_o h_o_heights h_o_targets h_o_kept o_thrown o_side o_radius o_feeds o_text o_size o_at o_fault o_program o_draft o_statements o_hasProgram o_hasRun o_where o_tool o_about o_stack o_seen o_begin o_gap o_heights_n o_heights o_targets_n o_targets o_kept_n o_kept) := by
    intro s_24 hf0
    rw [JX7_cell_24] at hf0
    refine z_put 0 0 (pc := 24) (ws' := (wsX7_cell cA h_o h_o_heights h_o_targets h_o_kept s_24 o_side o_radius o_feeds o_text o_size o_at o_fault o_program o_draft o_statements o_hasProgram o_hasRun o_where o_tool o_about o_stack o_seen o_begin o_gap o_heights_n o_heights o_targets_n o_targets o_kept_n o_kept)) rfl rfl inX7 tyX7 tyX7_ok nmX7 (by decide) flX7_57 rfl rfl rfl rfl (Nat.le_of_ble_eq_true rfl) dX7_cell_24 rfl ?_
    refine z_aload_n 0 (pc := 27) dX7_cell_27 rfl ?_
    refine z_get 0 0 (pc := 28) (v := .int s_24) rfl rfl inX7 (by decide) flX7_57 rfl dX7_cell_28 ?_
    refine z_if_le (pc := 31) (tgt := 36) dX7_cell_31 (by decide) hf0 (fun hf0 => ?_) (fun hf0 => ?_)
    · refine z_bipush (pc := 36) (v := 20) dX7_cell_36 (by decide) ?_
      refine z_iload_n 2 (pc := 38) dX7_cell_38 rfl ?_
      refine z_imul (pc := 39) dX7_cell_39 ?_
      refine z_iload_n 1 (pc := 40) dX7_cell_40 rfl ?_
      refine z_iadd (pc := 41) dX7_cell_41 ?_
      refine z_istore (pc := 42) (lv' := [(4, .int ((20 * a2) + a1)), (0, .ref h_o), (1, .int a1), (2, .int a2), (3, .int a3)]) dX7_cell_42 (by decide) rfl ?_
      refine z_iload_n 4 (pc := 44) dX7_cell_44 rfl ?_
      refine z_if_ne (pc := 45) (tgt := 58) dX7_cell_45 (by decide) hf0 (fun hf0 => ?_) (fun hf0 => ?_)
      · refine z_iload_n 4 (pc := 58) dX7_cell_58 rfl ?_
        refine z_iconst (pc := 59) (v := 1) dX7_cell_59 (by decide) ?_
        refine z_icmp_ne (pc := 60) (tgt := 73) dX7_cell_60 (by decide) hf0 (fun hf0 => ?_) (fun hf0 => ?_)
        · refine z_aload_n 1 (pc := 73) dX7_cell_73 rfl ?_
          refine z_get 0 4 (pc := 74) (v := .ref h_o_kept) rfl rfl inX7 (by decide) flX7_16 rfl dX7_cell_74 ?_
          refine z_iload 0 (pc := 77) dX7_cell_77 rfl ?_
          refine z_zaload 3 1 (pc := 79) rfl rfl dX7_cell_79 hf0 (fun hf0 => ?_)
          refine z_if_eq (pc := 80) (tgt := 87) dX7_cell_80 (by decide) hf0 (fun hf0 => ?_) (fun hf0 => ?_)
          · refine z_iconst (pc := 87) (v := 0) dX7_cell_87 (by decide) ?_
            obtain rfl := Option.some.inj hf0
            exact z_iret hE dX7_cell_88
          · refine z_iconst (pc := 83) (v := 1) dX7_cell_83 (by decide) ?_
            refine z_goto (pc := 84) (tgt := 88) dX7_cell_84 (by decide) ?_
            obtain rfl := Option.some.inj hf0
            exact z_iret hE dX7_cell_88
        · refine z_aload_n 1 (pc := 63) dX7_cell_63 rfl ?_
          refine z_get 0 3 (pc := 64) (v := .ref h_o_targets) rfl rfl inX7 (by decide) flX7_13 rfl dX7_cell_64 ?_
          refine z_iload 0 (pc := 67) dX7_cell_67 rfl ?_
          refine z_iaload 2 0 (pc := 69) rfl rfl dX7_cell_69 hf0 (fun hf0 => ?_)
          refine z_goto (pc := 70) (tgt := 88) dX7_cell_70 (by decide) ?_
          obtain rfl := Option.some.inj hf0
          exact z_iret hE dX7_cell_88
      · refine z_aload_n 1 (pc := 48) dX7_cell_48 rfl ?_
        refine z_get 0 2 (pc := 49) (v := .ref h_o_heights) rfl rfl inX7 (by decide) flX7_7 rfl dX7_cell_49 ?_
        refine z_iload 0 (pc := 52) dX7_cell_52 rfl ?_
        refine z_iaload 1 0 (pc := 54) rfl rfl dX7_cell_54 hf0 (fun hf0 => ?_)
        refine z_goto (pc := 55) (tgt := 88) dX7_cell_55 (by decide) ?_
        obtain rfl := Option.some.inj hf0
        exact z_iret hE dX7_cell_88
    · refine z_iconst (pc := 34) (v := 0) dX7_cell_34 (by decide) ?_
      obtain rfl := Option.some.inj hf0
      exact z_iret hE dX7_cell_35
  have j23 : JX7_cell_23 a3 a2 a1 o_heights_n o_heights o_targets_n o_targets o_kept_n o_kept  = some res → V κ false l D cA rmX7_cell cX7_cell 5 RX7 (some .int) 0 0 23 [(0, .ref h_o), (1, .int a1), (2, .int a2), (3, .int a3)] [.ref h_o] (wsX7_cell cA h_o h_o_heights h_o_targets h_o_kept o_thrown o_side o_radius o_feeds o_text o_size o_at o_fault o_program o_draft o_statements o_hasProgram o_hasRun o_where o_tool o_about o_stack o_seen o_begin o_gap o_heights_n o_heights o_targets_n o_targets o_kept_n o_kept) := by
    intro hf0
    rw [JX7_cell_23] at hf0
    refine z_iconst (pc := 23) (v := 1) dX7_cell_23 (by decide) ?_
    exact z_lv [0, 1, 2, 3] rfl (j24 1 hf0)
  refine z_if_eq (pc := 7) (tgt := 23) dX7_cell_7 (by decide) hf0 (fun hf0 => ?_) (fun hf0 => ?_)
  · exact z_lv [0, 1, 2, 3] rfl (j23  hf0)
  · refine z_iload_n 3 (pc := 10) dX7_cell_10 rfl ?_
    refine z_iconst (pc := 11) (v := 0) dX7_cell_11 (by decide) ?_
    refine z_iconst (pc := 12) (v := 2) dX7_cell_12 (by decide) ?_
    obtain ⟨r2, er2, hf0⟩ := bp hf0
    refine z_calliS (pc := 13) (As := [.int a3, .int 0, .int 2]) (rest := [.ref h_o]) (ws' := (wsX7_cell cA h_o h_o_heights h_o_targets h_o_kept o_thrown o_side o_radius o_feeds o_text o_size o_at o_fault o_program o_draft o_statements o_hasProgram o_hasRun o_where o_tool o_about o_stack o_seen o_begin o_gap o_heights_n o_heights o_targets_n o_targets o_kept_n o_kept)) (kX7_isIn l D cA   a3 0 2 N r2 er2) ivX7_60 ⟨rfl, rfl⟩ ⟨by decide, by decide⟩ rfl ⟨Nat.zero_le _, Nat.zero_le _⟩ [] rfl (by decide) rfl rfl rfl (Nat.le_of_ble_eq_true rfl) dX7_cell_13 ?_
    refine z_if_eq (pc := 16) (tgt := 23) dX7_cell_16 (by decide) hf0 (fun hf0 => ?_) (fun hf0 => ?_)
    · exact z_lv [0, 1, 2, 3] rfl (j23  hf0)
    · refine z_iconst (pc := 19) (v := 0) dX7_cell_19 (by decide) ?_
      refine z_goto (pc := 20) (tgt := 24) dX7_cell_20 (by decide) ?_
      exact z_lv [0, 1, 2, 3] rfl (j24 0 hf0)

abbrev RX7_check : Type := Int32 × Int32
abbrev rmX7_check : Room := { frames := 1, cells := 0, slots := 0, locals := 22 }
abbrev wsX7_check (cA : Nat → ClassId) (h_o : Nat) (h_o_heights : Nat) (h_o_targets : Nat) (o_thrown : Int32) (o_side : Int32) (o_kept : Value) (o_radius : Value) (o_feeds : Value) (o_text : Value) (o_size : Int32) (o_at : Int32) (o_fault : Int32) (o_program : Value) (o_draft : Value) (o_statements : Int32) (o_hasProgram : Int32) (o_hasRun : Int32) (o_where : Value) (o_tool : Int32) (o_about : Value) (o_stack : Value) (o_seen : Value) (o_begin : Value) (o_gap : Value) (o_heights_n : Nat) (o_heights : Nat → Int32) (o_targets_n : Nat) (o_targets : Nat → Int32) : va_W := [(h_o, .inr (7, [.int o_thrown, .int o_side, .ref h_o_heights, .ref h_o_targets, o_kept, o_radius, o_feeds, o_text, .int o_size, .int o_at, .int o_fault, o_program, o_draft, .int o_statements, .int o_hasProgram, .int o_hasRun, o_where, .int o_tool, o_about, o_stack, o_seen, o_begin, o_gap])), (h_o_heights, .inl (cA 0, o_heights_n, .inl o_heights)), (h_o_targets, .inl (cA 0, o_targets_n, .inl o_targets))]
def JX7_check_153 (s_15 : Int32) (a1 : Int32) (x2_153 : Int32) (x3_153 : Int32) : Option (RX7_check) :=
  (if s_15 ≤ 0 then (if 2 ≤ a1 then some (x3_153, s_15) else some (x2_153, s_15)) else some (0, s_15))
def JX7_check_120 (rec : Int32 → Int32 → Int32 → Option (Int32 × Int32 × Int32)) (x2_35 : Int32) (x3_35 : Int32) (x4_35 : Int32) (s_120 : Int32) : Option (Int32 × Int32 × Int32) :=
  (if s_120 = 0 then (if s_120 = 0 then rec x2_35 x3_35 (x4_35 + (-1)) else rec x2_35 x4_35 (x4_35 + (-1))) else (if s_120 = 0 then rec (x2_35 + 1) x3_35 (x4_35 + (-1)) else rec (x2_35 + 1) x4_35 (x4_35 + (-1))))
def LX7_check_35 (s_15 : Int32) (o_side : Int32) (a1 : Int32) (o_heights_n : Nat) (o_targets_n : Nat) (o_heights : Nat → Int32) (o_targets : Nat → Int32) : Nat → Int32 → Int32 → Int32 → Option (Int32 × Int32 × Int32)
  | 0, _, _, _ => none
  | n + 1, x2_35, x3_35, x4_35 => (if x4_35 < 0 then some (x2_35, x3_35, x4_35) else (if s_15 = 0 then (if o_side = 0 then none else (if o_side = 0 then none else (if 2 = 0 then none else (if (a1 - a1 / 2 * 2) = 0 then (if ((20 * (x4_35 / o_side)) + (x4_35 - x4_35 / o_side * o_side)) < 0 ∨ o_heights_n ≤ ((20 * (x4_35 / o_side)) + (x4_35 - x4_35 / o_side * o_side)).toNatClampNeg then none else (if ((20 * (x4_35 / o_side)) + (x4_35 - x4_35 / o_side * o_side)) < 0 ∨ o_targets_n ≤ ((20 * (x4_35 / o_side)) + (x4_35 - x4_35 / o_side * o_side)).toNatClampNeg then none else (if (o_heights ((20 * (x4_35 / o_side)) + (x4_35 - x4_35 / o_side * o_side)).toNatClampNeg) ≤ (o_targets ((20 * (x4_35 / o_side)) + (x4_35 - x4_35 / o_side * o_side)).toNatClampNeg) then JX7_check_120 (fun b0 b1 b2 => LX7_check_35 s_15 o_side a1 o_heights_n o_targets_n o_heights o_targets n b0 b1 b2) x2_35 x3_35 x4_35 0 else JX7_check_120 (fun b0 b1 b2 => LX7_check_35 s_15 o_side a1 o_heights_n o_targets_n o_heights o_targets n b0 b1 b2) x2_35 x3_35 x4_35 1))) else (if ((20 * (x4_35 / o_side)) + (x4_35 - x4_35 / o_side * o_side)) < 0 ∨ o_heights_n ≤ ((20 * (x4_35 / o_side)) + (x4_35 - x4_35 / o_side * o_side)).toNatClampNeg then none else (if ((20 * (x4_35 / o_side)) + (x4_35 - x4_35 / o_side * o_side)) < 0 ∨ o_targets_n ≤ ((20 * (x4_35 / o_side)) + (x4_35 - x4_35 / o_side * o_side)).toNatClampNeg then none else (if (o_targets ((20 * (x4_35 / o_side)) + (x4_35 - x4_35 / o_side * o_side)).toNatClampNeg) ≤ (o_heights ((20 * (x4_35 / o_side)) + (x4_35 - x4_35 / o_side * o_side)).toNatClampNeg) then JX7_check_120 (fun b0 b1 b2 => LX7_check_35 s_15 o_side a1 o_heights_n o_targets_n o_heights o_targets n b0 b1 b2) x2_35 x3_35 x4_35 0 else JX7_check_120 (fun b0 b1 b2 => LX7_check_35 s_15 o_side a1 o_heights_n o_targets_n o_heights o_targets n b0 b1 b2) x2_35 x3_35 x4_35 1))))))) else some (x2_35, x3_35, x4_35)))
def JX7_check_15 (o_side : Int32) (a1 : Int32) (o_heights_n : Nat) (o_targets_n : Nat) (o_heights : Nat → Int32) (o_targets : Nat → Int32) (N : Nat) (s_15 : Int32) : Option (RX7_check) :=
  ((LX7_check_35 s_15 o_side a1 o_heights_n o_targets_n o_heights o_targets N 0 (-1) ((o_side * o_side) - 1)).bind fun r2 => JX7_check_153 s_15 a1 r2.1 r2.2.1)
def fX7_check (N : Nat) (a1 : Int32) (o_thrown : Int32) (o_side : Int32) (o_heights_n : Nat) (o_heights : Nat → Int32) (o_targets_n : Nat) (o_targets : Nat → Int32) : Option RX7_check :=
  ((fX7_isIn N a1 0 3).bind fun r1 => (if r1 = 0 then JX7_check_15 o_side a1 o_heights_n o_targets_n o_heights o_targets N 1 else JX7_check_15 o_side a1 o_heights_n o_targets_n o_heights o_targets N 0))
set_option maxHeartbeats 4000000 in
set_option maxRecDepth 100000 in
theorem kX7_check (l : Launch) (D : va_G) (cA : Nat → ClassId) (h_o : Nat) (h_o_heights : Nat) (h_o_targets : Nat) (o_thrown : Int32) (o_side : Int32) (o_kept : Value) (o_radius : Value) (o_feeds : Value) (o_text : Value) (o_size : Int32) (o_at : Int32) (o_fault : Int32) (o_program : Value) (o_draft : Value) (o_statements : Int32) (o_hasProgram : Int32) (o_hasRun : Int32) (o_where : Value) (o_tool : Int32) (o_about : Value) (o_stack : Value) (o_seen : Value) (o_begin : Value) (o_gap : Value) (o_heights_n : Nat) (o_heights : Nat → Int32) (o_targets_n : Nat) (o_targets : Nat → Int32) (a1 : Int32) (N : Nat) (res : RX7_check) (hf0 : fX7_check N a1 o_thrown o_side o_heights_n o_heights o_targets_n o_targets = some res) : CtI l yX7_check (Cond.code yX7_check cX7_check 7 (some .int) :: tblG) rmX7_check D cA (wsX7_check cA h_o h_o_heights h_o_targets o_thrown o_side o_kept o_radius o_feeds o_text o_size o_at o_fault o_program o_draft o_statements o_hasProgram o_hasRun o_where o_tool o_about o_stack o_seen o_begin o_gap o_heights_n o_heights o_targets_n o_targets) [.ref h_o, .int a1] res.1 (wsX7_check cA h_o h_o_heights h_o_targets res.2 o_side o_kept o_radius o_feeds o_text o_size o_at o_fault o_program o_draft o_statements o_hasProgram o_hasRun o_where o_tool o_about o_stack o_seen o_begin o_gap o_heights_n o_heights o_targets_n o_targets) := by
  refine CtI.start (lv := [(0, .ref h_o), (1, .int a1)]) (by decide) (Nat.le_of_ble_eq_true rfl) rfl (fun κ hE => ?_)
  rw [fX7_check] at hf0
  refine z_aload_n 0 (pc := 0) dX7_check_0 rfl ?_
  refine z_iload_n 1 (pc := 1) dX7_check_1 rfl ?_
  refine z_iconst (pc := 2) (v := 0) dX7_check_2 (by decide) ?_
  refine z_iconst (pc := 3) (v := 3) dX7_check_3 (by decide) ?_
  obtain ⟨r1, er1, hf0⟩ := bp hf0
  refine z_calliS (pc := 4) (As := [.int a1, .int 0, .int 3]) (rest := [.ref h_o]) (ws' := (wsX7_check cA h_o h_o_heights h_o_targets o_thrown o_side o_kept o_radius o_feeds o_text o_size o_at o_fault o_program o_draft o_statements o_hasProgram o_hasRun o_where o_tool o_about o_stack o_seen o_begin o_gap o_heights_n o_heights o_targets_n o_targets)) (kX7_isIn l D cA   a1 0 3 N r1 er1) ivX7_60 ⟨rfl, rfl⟩ ⟨by decide, by decide⟩ rfl ⟨Nat.zero_le _, Nat.zero_le _⟩ [] rfl (by decide) rfl rfl rfl (Nat.le_of_ble_eq_true rfl) dX7_check_4 ?_
  have j15 : ∀ (s_15 : Int32), JX7_check_15 o_side a1 o_heights_n o_targets_n o_heights o_targets N s_15 = some res → V κ false l D cA rmX7_check cX7_check 7 RX7 (some .int) 0 0 15 [(0, .ref h_o), (1, .int a1)] [.int s_15, .ref h_o] (wsX7_check cA h_o h_o_heights h_o_targets o_thrown o_side o_kept o_radius o_feeds o_text o_size o_at o_fault o_program o_draft o_statements o_hasProgram o_hasRun o_where o_tool o_about o_stack o_seen o_begin o_gap o_heights_n o_heights o_targets_n o_targets) := by
    intro s_15 hf0
    rw [JX7_check_15] at hf0
    refine z_put 0 0 (pc := 15) (ws' := (wsX7_check cA h_o h_o_heights h_o_targets s_15 o_side o_kept o_radius o_feeds o_text o_size o_at o_fault o_program o_draft o_statements o_hasProgram o_hasRun o_where o_tool o_about o_stack o_seen o_begin o_gap o_heights_n o_heights o_targets_n o_targets)) rfl rfl inX7 tyX7 tyX7_ok nmX7 (by decide) flX7_57 rfl rfl rfl rfl (Nat.le_of_ble_eq_true rfl) dX7_check_15 rfl ?_
    refine z_iconst (pc := 18) (v := 0) dX7_check_18 (by decide) ?_
    refine z_istore_n (pc := 19) (lv' := [(2, .int 0), (0, .ref h_o), (1, .int a1)]) dX7_check_19 (by decide) rfl ?_
    refine z_iconst (pc := 20) (v := (-1)) dX7_check_20 (by decide) ?_
    refine z_istore_n (pc := 21) (lv' := [(3, .int (-1)), (2, .int 0), (0, .ref h_o), (1, .int a1)]) dX7_check_21 (by decide) rfl ?_
    refine z_aload_n 2 (pc := 22) dX7_check_22 rfl ?_
    refine z_get 0 1 (pc := 23) (v := .int o_side) rfl rfl inX7 (by decide) flX7_53 rfl dX7_check_23 ?_
    refine z_aload_n 2 (pc := 26) dX7_check_26 rfl ?_
    refine z_get 0 1 (pc := 27) (v := .int o_side) rfl rfl inX7 (by decide) flX7_53 rfl dX7_check_27 ?_
    refine z_imul (pc := 30) dX7_check_30 ?_
    refine z_iconst (pc := 31) (v := 1) dX7_check_31 (by decide) ?_
    refine z_isub (pc := 32) dX7_check_32 ?_
    refine z_istore (pc := 33) (lv' := [(4, .int ((o_side * o_side) - 1)), (3, .int (-1)), (2, .int 0), (0, .ref h_o), (1, .int a1)]) dX7_check_33 (by decide) rfl ?_
    have j153 : ∀ (x2_153 : Int32) (x3_153 : Int32), JX7_check_153 s_15 a1 x2_153 x3_153 = some res → V κ false l D cA rmX7_check cX7_check 7 RX7 (some .int) 0 0 153 [(0, .ref h_o), (1, .int a1), (2, .int x2_153), (3, .int x3_153)] [] (wsX7_check cA h_o h_o_heights h_o_targets s_15 o_side o_kept o_radius o_feeds o_text o_size o_at o_fault o_program o_draft o_statements o_hasProgram o_hasRun o_where o_tool o_about o_stack o_seen o_begin o_gap o_heights_n o_heights o_targets_n o_targets) := by
      intro x2_153 x3_153 hf0
      rw [JX7_check_153] at hf0
      refine z_aload_n 0 (pc := 153) dX7_check_153 rfl ?_
      refine z_get 0 0 (pc := 154) (v := .int s_15) rfl rfl inX7 (by decide) flX7_57 rfl dX7_check_154 ?_
      refine z_if_le (pc := 157) (tgt := 164) dX7_check_157 (by decide) hf0 (fun hf0 => ?_) (fun hf0 => ?_)
      · refine z_iload_n 1 (pc := 164) dX7_check_164 rfl ?_
        refine z_iconst (pc := 165) (v := 2) dX7_check_165 (by decide) ?_
        refine z_icmp_ge (pc := 166) (tgt := 173) dX7_check_166 (by decide) hf0 (fun hf0 => ?_) (fun hf0 => ?_)
        · refine z_iload_n 3 (pc := 173) dX7_check_173 rfl ?_
          obtain rfl := Option.some.inj hf0
          exact z_iret hE dX7_check_174
        · refine z_iload_n 2 (pc := 169) dX7_check_169 rfl ?_
          refine z_goto (pc := 170) (tgt := 174) dX7_check_170 (by decide) ?_
          obtain rfl := Option.some.inj hf0
          exact z_iret hE dX7_check_174
      · refine z_iconst (pc := 160) (v := 0) dX7_check_160 (by decide) ?_
        refine z_goto (pc := 161) (tgt := 174) dX7_check_161 (by decide) ?_
        obtain rfl := Option.some.inj hf0
        exact z_iret hE dX7_check_174
    obtain ⟨y35, hf0_35, hf0⟩ := bp hf0
    have lp35 : ∀ (n : Nat) (x2_35 : Int32) (x3_35 : Int32) (x4_35 : Int32), LX7_check_35 s_15 o_side a1 o_heights_n o_targets_n o_heights o_targets n x2_35 x3_35 x4_35 = some y35 → V κ false l D cA rmX7_check cX7_check 7 RX7 (some .int) 0 0 35 [(0, .ref h_o), (1, .int a1), (2, .int x2_35), (3, .int x3_35), (4, .int x4_35)] [] (wsX7_check cA h_o h_o_heights h_o_targets s_15 o_side o_kept o_radius o_feeds o_text o_size o_at o_fault o_program o_draft o_statements o_hasProgram o_hasRun o_where o_tool o_about o_stack o_seen o_begin o_gap o_heights_n o_heights o_targets_n o_targets) := by
      intro n
      induction n with
      | zero => intro x2_35 x3_35 x4_35 hf0_35; rw [LX7_check_35] at hf0_35; cases hf0_35
      | succ n35 ih35 =>
        intro x2_35 x3_35 x4_35 hf0_35
        rw [LX7_check_35] at hf0_35
        refine z_iload 4 (pc := 35) dX7_check_35 rfl ?_
        refine z_if_lt (pc := 37) (tgt := 153) dX7_check_37 (by decide) hf0_35 (fun hf0_35 => ?_) (fun hf0_35 => ?_)
        · obtain rfl := Option.some.inj hf0_35
          exact z_lv [0, 1, 2, 3] rfl (j153 x2_35 x3_35 hf0)
        · refine z_aload_n 0 (pc := 40) dX7_check_40 rfl ?_
          refine z_get 0 0 (pc := 41) (v := .int s_15) rfl rfl inX7 (by decide) flX7_57 rfl dX7_check_41 ?_
          refine z_if_ne (pc := 44) (tgt := 153) dX7_check_44 (by decide) hf0_35 (fun hf0_35 => ?_) (fun hf0_35 => ?_)
          · obtain rfl := Option.some.inj hf0_35
            exact z_lv [0, 1, 2, 3] rfl (j153 x2_35 x3_35 hf0)
          · refine z_bipush (pc := 47) (v := 20) dX7_check_47 (by decide) ?_
            refine z_iload 4 (pc := 49) dX7_check_49 rfl ?_
            refine z_aload_n 0 (pc := 51) dX7_check_51 rfl ?_
            refine z_get 0 1 (pc := 52) (v := .int o_side) rfl rfl inX7 (by decide) flX7_53 rfl dX7_check_52 ?_
            refine z_idiv (pc := 55) dX7_check_55 hf0_35 (fun hf0_35 => ?_)
            refine z_imul (pc := 56) dX7_check_56 ?_
            refine z_iload 4 (pc := 57) dX7_check_57 rfl ?_
            refine z_aload_n 0 (pc := 59) dX7_check_59 rfl ?_
            refine z_get 0 1 (pc := 60) (v := .int o_side) rfl rfl inX7 (by decide) flX7_53 rfl dX7_check_60 ?_
            refine z_irem (pc := 63) dX7_check_63 hf0_35 (fun hf0_35 => ?_)
            refine z_iadd (pc := 64) dX7_check_64 ?_
            refine z_istore (pc := 65) (lv' := [(5, .int ((20 * (x4_35 / o_side)) + (x4_35 - x4_35 / o_side * o_side))), (0, .ref h_o), (1, .int a1), (2, .int x2_35), (3, .int x3_35), (4, .int x4_35)]) dX7_check_65 (by decide) rfl ?_
            refine z_iload_n 2 (pc := 67) dX7_check_67 rfl ?_
            refine z_iconst (pc := 68) (v := 2) dX7_check_68 (by decide) ?_
            refine z_irem (pc := 69) dX7_check_69 hf0_35 (fun hf0_35 => ?_)
            have j120 : ∀ (s_120 : Int32), JX7_check_120 (fun b0 b1 b2 => LX7_check_35 s_15 o_side a1 o_heights_n o_targets_n o_heights o_targets n35 b0 b1 b2) x2_35 x3_35 x4_35 s_120 = some y35 → V κ false l D cA rmX7_check cX7_check 7 RX7 (some .int) 0 0 120 [(5, .int ((20 * (x4_35 / o_side)) + (x4_35 - x4_35 / o_side * o_side))), (0, .ref h_o), (1, .int a1), (2, .int x2_35), (3, .int x3_35), (4, .int x4_35)] [.int s_120] (wsX7_check cA h_o h_o_heights h_o_targets s_15 o_side o_kept o_radius o_feeds o_text o_size o_at o_fault o_program o_draft o_statements o_hasProgram o_hasRun o_where o_tool o_about o_stack o_seen o_begin o_gap o_heights_n o_heights o_targets_n o_targets) := by
              intro s_120 hf0_35
              rw [JX7_check_120] at hf0_35
              refine z_istore (pc := 120) (lv' := [(6, .int s_120), (5, .int ((20 * (x4_35 / o_side)) + (x4_35 - x4_35 / o_side * o_side))), (0, .ref h_o), (1, .int a1), (2, .int x2_35), (3, .int x3_35), (4, .int x4_35)]) dX7_check_120 (by decide) rfl ?_
              refine z_iload 0 (pc := 122) dX7_check_122 rfl ?_
              refine z_if_eq (pc := 124) (tgt := 133) dX7_check_124 (by decide) hf0_35 (fun hf0_35 => ?_) (fun hf0_35 => ?_)
              · refine z_iload_n 4 (pc := 133) dX7_check_133 rfl ?_
                refine z_istore_n (pc := 134) (lv' := [(2, .int x2_35), (6, .int s_120), (5, .int ((20 * (x4_35 / o_side)) + (x4_35 - x4_35 / o_side * o_side))), (0, .ref h_o), (1, .int a1), (3, .int x3_35), (4, .int x4_35)]) dX7_check_134 (by decide) rfl ?_
                refine z_iload 1 (pc := 135) dX7_check_135 rfl ?_
                refine z_if_eq (pc := 137) (tgt := 145) dX7_check_137 (by decide) hf0_35 (fun hf0_35 => ?_) (fun hf0_35 => ?_)
                · refine z_iload_n 5 (pc := 145) dX7_check_145 rfl ?_
                  refine z_istore_n (pc := 146) (lv' := [(3, .int x3_35), (2, .int x2_35), (6, .int s_120), (5, .int ((20 * (x4_35 / o_side)) + (x4_35 - x4_35 / o_side * o_side))), (0, .ref h_o), (1, .int a1), (4, .int x4_35)]) dX7_check_146 (by decide) rfl ?_
                  refine z_iinc 6 (pc := 147) (v := x4_35 + (-1)) (lv' := [(4, .int (x4_35 + (-1))), (3, .int x3_35), (2, .int x2_35), (6, .int s_120), (5, .int ((20 * (x4_35 / o_side)) + (x4_35 - x4_35 / o_side * o_side))), (0, .ref h_o), (1, .int a1)]) dX7_check_147 rfl rfl (by decide) rfl ?_
                  refine z_goto (pc := 150) (tgt := 35) dX7_check_150 (by decide) ?_
                  exact z_lv [5, 6, 2, 1, 0] rfl (ih35 x2_35 x3_35 (x4_35 + (-1)) hf0_35)
                · refine z_iload 6 (pc := 140) dX7_check_140 rfl ?_
                  refine z_goto (pc := 142) (tgt := 146) dX7_check_142 (by decide) ?_
                  refine z_istore_n (pc := 146) (lv' := [(3, .int x4_35), (2, .int x2_35), (6, .int s_120), (5, .int ((20 * (x4_35 / o_side)) + (x4_35 - x4_35 / o_side * o_side))), (0, .ref h_o), (1, .int a1), (4, .int x4_35)]) dX7_check_146 (by decide) rfl ?_
                  refine z_iinc 6 (pc := 147) (v := x4_35 + (-1)) (lv' := [(4, .int (x4_35 + (-1))), (3, .int x4_35), (2, .int x2_35), (6, .int s_120), (5, .int ((20 * (x4_35 / o_side)) + (x4_35 - x4_35 / o_side * o_side))), (0, .ref h_o), (1, .int a1)]) dX7_check_147 rfl rfl (by decide) rfl ?_
                  refine z_goto (pc := 150) (tgt := 35) dX7_check_150 (by decide) ?_
                  exact z_lv [5, 6, 2, 1, 0] rfl (ih35 x2_35 x4_35 (x4_35 + (-1)) hf0_35)
              · refine z_iload_n 4 (pc := 127) dX7_check_127 rfl ?_
                refine z_iconst (pc := 128) (v := 1) dX7_check_128 (by decide) ?_
                refine z_iadd (pc := 129) dX7_check_129 ?_
                refine z_goto (pc := 130) (tgt := 134) dX7_check_130 (by decide) ?_
                refine z_istore_n (pc := 134) (lv' := [(2, .int (x2_35 + 1)), (6, .int s_120), (5, .int ((20 * (x4_35 / o_side)) + (x4_35 - x4_35 / o_side * o_side))), (0, .ref h_o), (1, .int a1), (3, .int x3_35), (4, .int x4_35)]) dX7_check_134 (by decide) rfl ?_
                refine z_iload 1 (pc := 135) dX7_check_135 rfl ?_
                refine z_if_eq (pc := 137) (tgt := 145) dX7_check_137 (by decide) hf0_35 (fun hf0_35 => ?_) (fun hf0_35 => ?_)
                · refine z_iload_n 5 (pc := 145) dX7_check_145 rfl ?_
                  refine z_istore_n (pc := 146) (lv' := [(3, .int x3_35), (2, .int (x2_35 + 1)), (6, .int s_120), (5, .int ((20 * (x4_35 / o_side)) + (x4_35 - x4_35 / o_side * o_side))), (0, .ref h_o), (1, .int a1), (4, .int x4_35)]) dX7_check_146 (by decide) rfl ?_
                  refine z_iinc 6 (pc := 147) (v := x4_35 + (-1)) (lv' := [(4, .int (x4_35 + (-1))), (3, .int x3_35), (2, .int (x2_35 + 1)), (6, .int s_120), (5, .int ((20 * (x4_35 / o_side)) + (x4_35 - x4_35 / o_side * o_side))), (0, .ref h_o), (1, .int a1)]) dX7_check_147 rfl rfl (by decide) rfl ?_
                  refine z_goto (pc := 150) (tgt := 35) dX7_check_150 (by decide) ?_
                  exact z_lv [5, 6, 2, 1, 0] rfl (ih35 (x2_35 + 1) x3_35 (x4_35 + (-1)) hf0_35)
                · refine z_iload 6 (pc := 140) dX7_check_140 rfl ?_
                  refine z_goto (pc := 142) (tgt := 146) dX7_check_142 (by decide) ?_
                  refine z_istore_n (pc := 146) (lv' := [(3, .int x4_35), (2, .int (x2_35 + 1)), (6, .int s_120), (5, .int ((20 * (x4_35 / o_side)) + (x4_35 - x4_35 / o_side * o_side))), (0, .ref h_o), (1, .int a1), (4, .int x4_35)]) dX7_check_146 (by decide) rfl ?_
                  refine z_iinc 6 (pc := 147) (v := x4_35 + (-1)) (lv' := [(4, .int (x4_35 + (-1))), (3, .int x4_35), (2, .int (x2_35 + 1)), (6, .int s_120), (5, .int ((20 * (x4_35 / o_side)) + (x4_35 - x4_35 / o_side * o_side))), (0, .ref h_o), (1, .int a1)]) dX7_check_147 rfl rfl (by decide) rfl ?_
                  refine z_goto (pc := 150) (tgt := 35) dX7_check_150 (by decide) ?_
                  exact z_lv [5, 6, 2, 1, 0] rfl (ih35 (x2_35 + 1) x4_35 (x4_35 + (-1)) hf0_35)
            refine z_if_ne (pc := 70) (tgt := 98) dX7_check_70 (by decide) hf0_35 (fun hf0_35 => ?_) (fun hf0_35 => ?_)
            · refine z_aload_n 1 (pc := 98) dX7_check_98 rfl ?_
              refine z_get 0 2 (pc := 99) (v := .ref h_o_heights) rfl rfl inX7 (by decide) flX7_7 rfl dX7_check_99 ?_
              refine z_iload 0 (pc := 102) dX7_check_102 rfl ?_
              refine z_iaload 1 0 (pc := 104) rfl rfl dX7_check_104 hf0_35 (fun hf0_35 => ?_)
              refine z_aload_n 1 (pc := 105) dX7_check_105 rfl ?_
              refine z_get 0 3 (pc := 106) (v := .ref h_o_targets) rfl rfl inX7 (by decide) flX7_13 rfl dX7_check_106 ?_
              refine z_iload 0 (pc := 109) dX7_check_109 rfl ?_
              refine z_iaload 2 0 (pc := 111) rfl rfl dX7_check_111 hf0_35 (fun hf0_35 => ?_)
              refine z_icmp_ge (pc := 112) (tgt := 119) dX7_check_112 (by decide) hf0_35 (fun hf0_35 => ?_) (fun hf0_35 => ?_)
              · refine z_iconst (pc := 119) (v := 0) dX7_check_119 (by decide) ?_
                exact z_lv [0, 1, 2, 3, 4, 5] rfl (j120 0 hf0_35)
              · refine z_iconst (pc := 115) (v := 1) dX7_check_115 (by decide) ?_
                refine z_goto (pc := 116) (tgt := 120) dX7_check_116 (by decide) ?_
                exact z_lv [0, 1, 2, 3, 4, 5] rfl (j120 1 hf0_35)
            · refine z_aload_n 1 (pc := 73) dX7_check_73 rfl ?_
              refine z_get 0 2 (pc := 74) (v := .ref h_o_heights) rfl rfl inX7 (by decide) flX7_7 rfl dX7_check_74 ?_
              refine z_iload 0 (pc := 77) dX7_check_77 rfl ?_
              refine z_iaload 1 0 (pc := 79) rfl rfl dX7_check_79 hf0_35 (fun hf0_35 => ?_)
              refine z_aload_n 1 (pc := 80) dX7_check_80 rfl ?_
              refine z_get 0 3 (pc := 81) (v := .ref h_o_targets) rfl rfl inX7 (by decide) flX7_13 rfl dX7_check_81 ?_
              refine z_iload 0 (pc := 84) dX7_check_84 rfl ?_
              refine z_iaload 2 0 (pc := 86) rfl rfl dX7_check_86 hf0_35 (fun hf0_35 => ?_)
              refine z_icmp_le (pc := 87) (tgt := 94) dX7_check_87 (by decide) hf0_35 (fun hf0_35 => ?_) (fun hf0_35 => ?_)
              · refine z_iconst (pc := 94) (v := 0) dX7_check_94 (by decide) ?_
                refine z_goto (pc := 95) (tgt := 120) dX7_check_95 (by decide) ?_
                exact z_lv [0, 1, 2, 3, 4, 5] rfl (j120 0 hf0_35)
              · refine z_iconst (pc := 90) (v := 1) dX7_check_90 (by decide) ?_
                refine z_goto (pc := 91) (tgt := 120) dX7_check_91 (by decide) ?_
                exact z_lv [0, 1, 2, 3, 4, 5] rfl (j120 1 hf0_35)
    exact z_lv [3, 4, 2, 1, 0] rfl (lp35 N 0 (-1) ((o_side * o_side) - 1) hf0_35)
  refine z_if_eq (pc := 7) (tgt := 14) dX7_check_7 (by decide) hf0 (fun hf0 => ?_) (fun hf0 => ?_)
  · refine z_iconst (pc := 14) (v := 1) dX7_check_14 (by decide) ?_
    exact z_lv [0, 1] rfl (j15 1 hf0)
  · refine z_iconst (pc := 10) (v := 0) dX7_check_10 (by decide) ?_
    refine z_goto (pc := 11) (tgt := 15) dX7_check_11 (by decide) ?_
    exact z_lv [0, 1] rfl (j15 0 hf0)

abbrev RX7_spares : Type := Int32
abbrev rmX7_spares : Room := { frames := 3, cells := 0, slots := 0, locals := 68 }
abbrev wsX7_spares (cA : Nat → ClassId) (h_o : Nat) (h_o_radius : Nat) (h_o_targets : Nat) (h_o_kept : Nat) (o_thrown : Int32) (o_side : Int32) (o_heights : Value) (o_feeds : Value) (o_text : Value) (o_size : Int32) (o_at : Int32) (o_fault : Int32) (o_program : Value) (o_draft : Value) (o_statements : Int32) (o_hasProgram : Int32) (o_hasRun : Int32) (o_where : Value) (o_tool : Int32) (o_about : Value) (o_stack : Value) (o_seen : Value) (o_begin : Value) (o_gap : Value) (o_radius_n : Nat) (o_radius : Nat → Int32) (o_targets_n : Nat) (o_targets : Nat → Int32) (o_kept_n : Nat) (o_kept : Nat → Int32) : va_W := [(h_o, .inr (7, [.int o_thrown, .int o_side, o_heights, .ref h_o_targets, .ref h_o_kept, .ref h_o_radius, o_feeds, o_text, .int o_size, .int o_at, .int o_fault, o_program, o_draft, .int o_statements, .int o_hasProgram, .int o_hasRun, o_where, .int o_tool, o_about, o_stack, o_seen, o_begin, o_gap])), (h_o_radius, .inl (cA 0, o_radius_n, .inl o_radius)), (h_o_targets, .inl (cA 0, o_targets_n, .inl o_targets)), (h_o_kept, .inl (cA 1, o_kept_n, .inl o_kept))]
def LX7_spares_14 (N : Nat) (a1 : Int32) (a2 : Int32) (a3 : Int32) (o_side : Int32) (o_radius_n : Nat) (o_radius : Nat → Int32) (o_targets_n : Nat) (a4 : Int32) (o_targets : Nat → Int32) (o_kept_n : Nat) (o_kept : Nat → Int32) : Nat → Int32 → Int32 → Option (Int32 × Int32)
  | 0, _, _ => none
  | n + 1, x5_14, x6_14 => (if 400 ≤ x6_14 then some (x5_14, x6_14) else (if x5_14 = 0 then some (x5_14, x6_14) else ((fX7_isInDisc N a1 a2 a3 x6_14 o_side o_radius_n o_radius).bind fun r3 => (if r3 = 0 then LX7_spares_14 N a1 a2 a3 o_side o_radius_n o_radius o_targets_n a4 o_targets o_kept_n o_kept n 1 (x6_14 + 1) else (if x6_14 < 0 ∨ o_targets_n ≤ x6_14.toNatClampNeg then none else (if a4 < 0 ∨ o_targets_n ≤ a4.toNatClampNeg then none else (if (o_targets a4.toNatClampNeg) < (o_targets x6_14.toNatClampNeg) then LX7_spares_14 N a1 a2 a3 o_side o_radius_n o_radius o_targets_n a4 o_targets o_kept_n o_kept n 0 (x6_14 + 1) else (if x6_14 < 0 ∨ o_kept_n ≤ x6_14.toNatClampNeg then none else (if (o_kept x6_14.toNatClampNeg) = 0 then LX7_spares_14 N a1 a2 a3 o_side o_radius_n o_radius o_targets_n a4 o_targets o_kept_n o_kept n 1 (x6_14 + 1) else LX7_spares_14 N a1 a2 a3 o_side o_radius_n o_radius o_targets_n a4 o_targets o_kept_n o_kept n 0 (x6_14 + 1))))))))))
def fX7_spares (N : Nat) (a1 : Int32) (a2 : Int32) (a3 : Int32) (a4 : Int32) (o_side : Int32) (o_radius_n : Nat) (o_radius : Nat → Int32) (o_targets_n : Nat) (o_targets : Nat → Int32) (o_kept_n : Nat) (o_kept : Nat → Int32) : Option RX7_spares :=
  ((fX7_isInDisc N a1 a2 a3 a4 o_side o_radius_n o_radius).bind fun r1 => ((LX7_spares_14 N a1 a2 a3 o_side o_radius_n o_radius o_targets_n a4 o_targets o_kept_n o_kept N r1 0).bind fun r2 => (if r2.1 = 0 ∨ r2.1 = 1 then some r2.1 else none)))
set_option maxHeartbeats 4000000 in
set_option maxRecDepth 100000 in
theorem kX7_spares (l : Launch) (D : va_G) (cA : Nat → ClassId) (h_o : Nat) (h_o_radius : Nat) (h_o_targets : Nat) (h_o_kept : Nat) (o_thrown : Int32) (o_side : Int32) (o_heights : Value) (o_feeds : Value) (o_text : Value) (o_size : Int32) (o_at : Int32) (o_fault : Int32) (o_program : Value) (o_draft : Value) (o_statements : Int32) (o_hasProgram : Int32) (o_hasRun : Int32) (o_where : Value) (o_tool : Int32) (o_about : Value) (o_stack : Value) (o_seen : Value) (o_begin : Value) (o_gap : Value) (o_radius_n : Nat) (o_radius : Nat → Int32) (o_targets_n : Nat) (o_targets : Nat → Int32) (o_kept_n : Nat) (o_kept : Nat → Int32) (a1 : Int32) (a2 : Int32) (a3 : Int32) (a4 : Int32) (N : Nat) (res : RX7_spares) (hf0 : fX7_spares N a1 a2 a3 a4 o_side o_radius_n o_radius o_targets_n o_targets o_kept_n o_kept = some res) : CtI l yX7_spares (Cond.code yX7_spares cX7_spares 7 (some .boolean) :: tblG) rmX7_spares D cA (wsX7_spares cA h_o h_o_radius h_o_targets h_o_kept o_thrown o_side o_heights o_feeds o_text o_size o_at o_fault o_program o_draft o_statements o_hasProgram o_hasRun o_where o_tool o_about o_stack o_seen o_begin o_gap o_radius_n o_radius o_targets_n o_targets o_kept_n o_kept) [.ref h_o, .int a1, .int a2, .int a3, .int a4] res (wsX7_spares cA h_o h_o_radius h_o_targets h_o_kept o_thrown o_side o_heights o_feeds o_text o_size o_at o_fault o_program o_draft o_statements o_hasProgram o_hasRun o_where o_tool o_about o_stack o_seen o_begin o_gap o_radius_n o_radius o_targets_n o_targets o_kept_n o_kept) := by
  refine CtI.start (lv := [(0, .ref h_o), (1, .int a1), (2, .int a2), (3, .int a3), (4, .int a4)]) (by decide) (Nat.le_of_ble_eq_true rfl) rfl (fun κ hE => ?_)
  rw [fX7_spares] at hf0
  refine z_aload_n 0 (pc := 0) dX7_spares_0 rfl ?_
  refine z_iload_n 1 (pc := 1) dX7_spares_1 rfl ?_
  refine z_iload_n 2 (pc := 2) dX7_spares_2 rfl ?_
  refine z_iload_n 3 (pc := 3) dX7_spares_3 rfl ?_
  refine z_iload 4 (pc := 4) dX7_spares_4 rfl ?_
  obtain ⟨r1, er1, hf0⟩ := bp hf0
  refine z_calliV (pc := 6) (As := [.int a1, .int a2, .int a3, .int a4]) (rest := []) (ws' := (wsX7_spares cA h_o h_o_radius h_o_targets h_o_kept o_thrown o_side o_heights o_feeds o_text o_size o_at o_fault o_program o_draft o_statements o_hasProgram o_hasRun o_where o_tool o_about o_stack o_seen o_begin o_gap o_radius_n o_radius o_targets_n o_targets o_kept_n o_kept)) (kX7_isInDisc l D cA h_o h_o_radius o_thrown o_side o_heights (.ref h_o_targets) (.ref h_o_kept) o_feeds o_text o_size o_at o_fault o_program o_draft o_statements o_hasProgram o_hasRun o_where o_tool o_about o_stack o_seen o_begin o_gap o_radius_n o_radius a1 a2 a3 a4 N r1 er1) ivX7_116 ⟨rfl, rfl⟩ ⟨by decide, by decide⟩ rfl ⟨Nat.zero_le _, Nat.zero_le _⟩ rfl rfl [0, 1] rfl (by decide) rfl rfl rfl (Nat.le_of_ble_eq_true rfl) dX7_spares_6 ?_
  refine z_istore (pc := 9) (lv' := [(5, .int r1), (0, .ref h_o), (1, .int a1), (2, .int a2), (3, .int a3), (4, .int a4)]) dX7_spares_9 (by decide) rfl ?_
  refine z_iconst (pc := 11) (v := 0) dX7_spares_11 (by decide) ?_
  refine z_istore (pc := 12) (lv' := [(6, .int 0), (5, .int r1), (0, .ref h_o), (1, .int a1), (2, .int a2), (3, .int a3), (4, .int a4)]) dX7_spares_12 (by decide) rfl ?_
  obtain ⟨y14, hf0_14, hf0⟩ := bp hf0
  have lp14 : ∀ (n : Nat) (x5_14 : Int32) (x6_14 : Int32), LX7_spares_14 N a1 a2 a3 o_side o_radius_n o_radius o_targets_n a4 o_targets o_kept_n o_kept n x5_14 x6_14 = some y14 → V κ false l D cA rmX7_spares cX7_spares 7 RX7 (some .boolean) 0 0 14 [(0, .ref h_o), (1, .int a1), (2, .int a2), (3, .int a3), (4, .int a4), (5, .int x5_14), (6, .int x6_14)] [] (wsX7_spares cA h_o h_o_radius h_o_targets h_o_kept o_thrown o_side o_heights o_feeds o_text o_size o_at o_fault o_program o_draft o_statements o_hasProgram o_hasRun o_where o_tool o_about o_stack o_seen o_begin o_gap o_radius_n o_radius o_targets_n o_targets o_kept_n o_kept) := by
    intro n
    induction n with
    | zero => intro x5_14 x6_14 hf0_14; rw [LX7_spares_14] at hf0_14; cases hf0_14
    | succ n14 ih14 =>
      intro x5_14 x6_14 hf0_14
      rw [LX7_spares_14] at hf0_14
      refine z_iload 6 (pc := 14) dX7_spares_14 rfl ?_
      refine z_sipush (pc := 16) (v := 400) dX7_spares_16 (by decide) ?_
      refine z_icmp_ge (pc := 19) (tgt := 79) dX7_spares_19 (by decide) hf0_14 (fun hf0_14 => ?_) (fun hf0_14 => ?_)
      · obtain rfl := Option.some.inj hf0_14
        refine z_iload 5 (pc := 79) dX7_spares_79 rfl ?_
        exact z_zret dX7_spares_81 hf0 (fun hf0 => by obtain rfl := Option.some.inj hf0; exact hE)
      · refine z_iload 5 (pc := 22) dX7_spares_22 rfl ?_
        refine z_if_eq (pc := 24) (tgt := 79) dX7_spares_24 (by decide) hf0_14 (fun hf0_14 => ?_) (fun hf0_14 => ?_)
        · obtain rfl := Option.some.inj hf0_14
          refine z_iload 5 (pc := 79) dX7_spares_79 rfl ?_
          exact z_zret dX7_spares_81 hf0 (fun hf0 => by obtain rfl := Option.some.inj hf0; exact hE)
        · refine z_aload_n 0 (pc := 27) dX7_spares_27 rfl ?_
          refine z_iload_n 1 (pc := 28) dX7_spares_28 rfl ?_
          refine z_iload_n 2 (pc := 29) dX7_spares_29 rfl ?_
          refine z_iload_n 3 (pc := 30) dX7_spares_30 rfl ?_
          refine z_iload 6 (pc := 31) dX7_spares_31 rfl ?_
          obtain ⟨r3, er3, hf0_14⟩ := bp hf0_14
          refine z_calliV (pc := 33) (As := [.int a1, .int a2, .int a3, .int x6_14]) (rest := []) (ws' := (wsX7_spares cA h_o h_o_radius h_o_targets h_o_kept o_thrown o_side o_heights o_feeds o_text o_size o_at o_fault o_program o_draft o_statements o_hasProgram o_hasRun o_where o_tool o_about o_stack o_seen o_begin o_gap o_radius_n o_radius o_targets_n o_targets o_kept_n o_kept)) (kX7_isInDisc l D cA h_o h_o_radius o_thrown o_side o_heights (.ref h_o_targets) (.ref h_o_kept) o_feeds o_text o_size o_at o_fault o_program o_draft o_statements o_hasProgram o_hasRun o_where o_tool o_about o_stack o_seen o_begin o_gap o_radius_n o_radius a1 a2 a3 x6_14 N r3 er3) ivX7_116 ⟨rfl, rfl⟩ ⟨by decide, by decide⟩ rfl ⟨Nat.zero_le _, Nat.zero_le _⟩ rfl rfl [0, 1] rfl (by decide) rfl rfl rfl (Nat.le_of_ble_eq_true rfl) dX7_spares_33 ?_
          refine z_if_eq (pc := 36) (tgt := 66) dX7_spares_36 (by decide) hf0_14 (fun hf0_14 => ?_) (fun hf0_14 => ?_)
          · refine z_iconst (pc := 66) (v := 1) dX7_spares_66 (by decide) ?_
            refine z_goto (pc := 67) (tgt := 71) dX7_spares_67 (by decide) ?_
            refine z_istore (pc := 71) (lv' := [(5, .int 1), (0, .ref h_o), (1, .int a1), (2, .int a2), (3, .int a3), (4, .int a4), (6, .int x6_14)]) dX7_spares_71 (by decide) rfl ?_
            refine z_iinc 6 (pc := 73) (v := x6_14 + 1) (lv' := [(6, .int (x6_14 + 1)), (5, .int 1), (0, .ref h_o), (1, .int a1), (2, .int a2), (3, .int a3), (4, .int a4)]) dX7_spares_73 rfl rfl (by decide) rfl ?_
            refine z_goto (pc := 76) (tgt := 14) dX7_spares_76 (by decide) ?_
            exact z_lv [2, 3, 4, 5, 6, 1, 0] rfl (ih14 1 (x6_14 + 1) hf0_14)
          · refine z_aload_n 0 (pc := 39) dX7_spares_39 rfl ?_
            refine z_get 0 3 (pc := 40) (v := .ref h_o_targets) rfl rfl inX7 (by decide) flX7_13 rfl dX7_spares_40 ?_
            refine z_iload 6 (pc := 43) dX7_spares_43 rfl ?_
            refine z_iaload 2 0 (pc := 45) rfl rfl dX7_spares_45 hf0_14 (fun hf0_14 => ?_)
            refine z_aload_n 0 (pc := 46) dX7_spares_46 rfl ?_
            refine z_get 0 3 (pc := 47) (v := .ref h_o_targets) rfl rfl inX7 (by decide) flX7_13 rfl dX7_spares_47 ?_
            refine z_iload 4 (pc := 50) dX7_spares_50 rfl ?_
            refine z_iaload 2 0 (pc := 52) rfl rfl dX7_spares_52 hf0_14 (fun hf0_14 => ?_)
            refine z_icmp_gt (pc := 53) (tgt := 70) dX7_spares_53 (by decide) hf0_14 (fun hf0_14 => ?_) (fun hf0_14 => ?_)
            · refine z_iconst (pc := 70) (v := 0) dX7_spares_70 (by decide) ?_
              refine z_istore (pc := 71) (lv' := [(5, .int 0), (0, .ref h_o), (1, .int a1), (2, .int a2), (3, .int a3), (4, .int a4), (6, .int x6_14)]) dX7_spares_71 (by decide) rfl ?_
              refine z_iinc 6 (pc := 73) (v := x6_14 + 1) (lv' := [(6, .int (x6_14 + 1)), (5, .int 0), (0, .ref h_o), (1, .int a1), (2, .int a2), (3, .int a3), (4, .int a4)]) dX7_spares_73 rfl rfl (by decide) rfl ?_
              refine z_goto (pc := 76) (tgt := 14) dX7_spares_76 (by decide) ?_
              exact z_lv [2, 3, 4, 5, 6, 1, 0] rfl (ih14 0 (x6_14 + 1) hf0_14)
            · refine z_aload_n 0 (pc := 56) dX7_spares_56 rfl ?_
              refine z_get 0 4 (pc := 57) (v := .ref h_o_kept) rfl rfl inX7 (by decide) flX7_16 rfl dX7_spares_57 ?_
              refine z_iload 6 (pc := 60) dX7_spares_60 rfl ?_
              refine z_zaload 3 1 (pc := 62) rfl rfl dX7_spares_62 hf0_14 (fun hf0_14 => ?_)
              refine z_if_ne (pc := 63) (tgt := 70) dX7_spares_63 (by decide) hf0_14 (fun hf0_14 => ?_) (fun hf0_14 => ?_)
              · refine z_iconst (pc := 70) (v := 0) dX7_spares_70 (by decide) ?_
                refine z_istore (pc := 71) (lv' := [(5, .int 0), (0, .ref h_o), (1, .int a1), (2, .int a2), (3, .int a3), (4, .int a4), (6, .int x6_14)]) dX7_spares_71 (by decide) rfl ?_
                refine z_iinc 6 (pc := 73) (v := x6_14 + 1) (lv' := [(6, .int (x6_14 + 1)), (5, .int 0), (0, .ref h_o), (1, .int a1), (2, .int a2), (3, .int a3), (4, .int a4)]) dX7_spares_73 rfl rfl (by decide) rfl ?_
                refine z_goto (pc := 76) (tgt := 14) dX7_spares_76 (by decide) ?_
                exact z_lv [2, 3, 4, 5, 6, 1, 0] rfl (ih14 0 (x6_14 + 1) hf0_14)
              · refine z_iconst (pc := 66) (v := 1) dX7_spares_66 (by decide) ?_
                refine z_goto (pc := 67) (tgt := 71) dX7_spares_67 (by decide) ?_
                refine z_istore (pc := 71) (lv' := [(5, .int 1), (0, .ref h_o), (1, .int a1), (2, .int a2), (3, .int a3), (4, .int a4), (6, .int x6_14)]) dX7_spares_71 (by decide) rfl ?_
                refine z_iinc 6 (pc := 73) (v := x6_14 + 1) (lv' := [(6, .int (x6_14 + 1)), (5, .int 1), (0, .ref h_o), (1, .int a1), (2, .int a2), (3, .int a3), (4, .int a4)]) dX7_spares_73 rfl rfl (by decide) rfl ?_
                refine z_goto (pc := 76) (tgt := 14) dX7_spares_76 (by decide) ?_
                exact z_lv [2, 3, 4, 5, 6, 1, 0] rfl (ih14 1 (x6_14 + 1) hf0_14)
  exact z_lv [2, 3, 4, 5, 6, 1, 0] rfl (lp14 N r1 0 hf0_14)

abbrev RX7_reached : Type := Int32 × Int32
abbrev rmX7_reached : Room := { frames := 4, cells := 0, slots := 0, locals := 94 }
abbrev wsX7_reached (cA : Nat → ClassId) (h_o : Nat) (h_o_heights : Nat) (h_o_targets : Nat) (h_o_radius : Nat) (h_o_kept : Nat) (o_thrown : Int32) (o_side : Int32) (o_feeds : Value) (o_text : Value) (o_size : Int32) (o_at : Int32) (o_fault : Int32) (o_program : Value) (o_draft : Value) (o_statements : Int32) (o_hasProgram : Int32) (o_hasRun : Int32) (o_where : Value) (o_tool : Int32) (o_about : Value) (o_stack : Value) (o_seen : Value) (o_begin : Value) (o_gap : Value) (o_heights_n : Nat) (o_heights : Nat → Int32) (o_targets_n : Nat) (o_targets : Nat → Int32) (o_radius_n : Nat) (o_radius : Nat → Int32) (o_kept_n : Nat) (o_kept : Nat → Int32) : va_W := [(h_o, .inr (7, [.int o_thrown, .int o_side, .ref h_o_heights, .ref h_o_targets, .ref h_o_kept, .ref h_o_radius, o_feeds, o_text, .int o_size, .int o_at, .int o_fault, o_program, o_draft, .int o_statements, .int o_hasProgram, .int o_hasRun, o_where, .int o_tool, o_about, o_stack, o_seen, o_begin, o_gap])), (h_o_heights, .inl (cA 0, o_heights_n, .inl o_heights)), (h_o_targets, .inl (cA 0, o_targets_n, .inl o_targets)), (h_o_radius, .inl (cA 0, o_radius_n, .inl o_radius)), (h_o_kept, .inl (cA 1, o_kept_n, .inl o_kept))]
def JX7_reached_131 (rec : Int32 → Int32 → Option (Int32 × Int32)) (x2_22 : Int32) (x3_22 : Int32) (x4_131 : Int32) : Option (Int32 × Int32) :=
  (if x4_131 = 0 then rec x2_22 (x3_22 + 1) else rec (x2_22 + 1) (x3_22 + 1))
def LX7_reached_79 (o_side : Int32) (s_74 : Int32) (N : Nat) (a1 : Int32) (x3_22 : Int32) (o_radius_n : Nat) (o_radius : Nat → Int32) (o_targets_n : Nat) (o_targets : Nat → Int32) (o_kept_n : Nat) (o_kept : Nat → Int32) : Nat → Int32 → Int32 → Option (Int32 × Int32)
  | 0, _, _ => none
  | n + 1, x4_79, x6_79 => (if (o_side * o_side) ≤ x6_79 then some (x4_79, x6_79) else (if s_74 = 0 then some (x4_79, x6_79) else (if x4_79 = 0 then (if o_side = 0 then none else (if o_side = 0 then none else ((fX7_spares N a1 (x6_79 - x6_79 / o_side * o_side) (x6_79 / o_side) x3_22 o_side o_radius_n o_radius o_targets_n o_targets o_kept_n o_kept).bind fun r5 => LX7_reached_79 o_side s_74 N a1 x3_22 o_radius_n o_radius o_targets_n o_targets o_kept_n o_kept n r5 (x6_79 + 1)))) else some (x4_79, x6_79))))
def JX7_reached_74 (rec : Int32 → Int32 → Option (Int32 × Int32)) (o_side : Int32) (N : Nat) (a1 : Int32) (x3_22 : Int32) (o_radius_n : Nat) (o_radius : Nat → Int32) (o_targets_n : Nat) (o_targets : Nat → Int32) (o_kept_n : Nat) (o_kept : Nat → Int32) (x2_22 : Int32) (s_74 : Int32) : Option (Int32 × Int32) :=
  ((LX7_reached_79 o_side s_74 N a1 x3_22 o_radius_n o_radius o_targets_n o_targets o_kept_n o_kept N 0 0).bind fun r4 => JX7_reached_131 (fun b0 b1 => rec b0 b1) x2_22 x3_22 r4.1)
def JX7_reached_73 (rec : Int32 → Int32 → Option (Int32 × Int32)) (o_side : Int32) (N : Nat) (a1 : Int32) (x3_22 : Int32) (o_radius_n : Nat) (o_radius : Nat → Int32) (o_targets_n : Nat) (o_targets : Nat → Int32) (o_kept_n : Nat) (o_kept : Nat → Int32) (x2_22 : Int32)  : Option (Int32 × Int32) :=
  JX7_reached_74 (fun b0 b1 => rec b0 b1) o_side N a1 x3_22 o_radius_n o_radius o_targets_n o_targets o_kept_n o_kept x2_22 0
def LX7_reached_22 (s_15 : Int32) (N : Nat) (o_side : Int32) (a1 : Int32) (o_radius_n : Nat) (o_radius : Nat → Int32) (o_targets_n : Nat) (o_targets : Nat → Int32) (o_kept_n : Nat) (o_kept : Nat → Int32) (o_heights_n : Nat) (o_heights : Nat → Int32) : Nat → Int32 → Int32 → Option (Int32 × Int32)
  | 0, _, _ => none
  | n + 1, x2_22, x3_22 => (if 400 ≤ x3_22 then some (x2_22, x3_22) else (if s_15 = 0 then (if 20 = 0 then none else (if 20 = 0 then none else ((fX7_isCell N (x3_22 - x3_22 / 20 * 20) (x3_22 / 20) o_side).bind fun r3 => (if r3 = 0 then JX7_reached_73 (fun b0 b1 => LX7_reached_22 s_15 N o_side a1 o_radius_n o_radius o_targets_n o_targets o_kept_n o_kept o_heights_n o_heights n b0 b1) o_side N a1 x3_22 o_radius_n o_radius o_targets_n o_targets o_kept_n o_kept x2_22  else (if x3_22 < 0 ∨ o_heights_n ≤ x3_22.toNatClampNeg then none else (if x3_22 < 0 ∨ o_targets_n ≤ x3_22.toNatClampNeg then none else (if (o_heights x3_22.toNatClampNeg) ≤ (o_targets x3_22.toNatClampNeg) then JX7_reached_73 (fun b0 b1 => LX7_reached_22 s_15 N o_side a1 o_radius_n o_radius o_targets_n o_targets o_kept_n o_kept o_heights_n o_heights n b0 b1) o_side N a1 x3_22 o_radius_n o_radius o_targets_n o_targets o_kept_n o_kept x2_22  else JX7_reached_74 (fun b0 b1 => LX7_reached_22 s_15 N o_side a1 o_radius_n o_radius o_targets_n o_targets o_kept_n o_kept o_heights_n o_heights n b0 b1) o_side N a1 x3_22 o_radius_n o_radius o_targets_n o_targets o_kept_n o_kept x2_22 1))))))) else some (x2_22, x3_22)))
def JX7_reached_15 (N : Nat) (o_side : Int32) (a1 : Int32) (o_radius_n : Nat) (o_radius : Nat → Int32) (o_targets_n : Nat) (o_targets : Nat → Int32) (o_kept_n : Nat) (o_kept : Nat → Int32) (o_heights_n : Nat) (o_heights : Nat → Int32) (s_15 : Int32) : Option (RX7_reached) :=
  ((LX7_reached_22 s_15 N o_side a1 o_radius_n o_radius o_targets_n o_targets o_kept_n o_kept o_heights_n o_heights N 0 0).bind fun r2 => some (r2.1, s_15))
def fX7_reached (N : Nat) (a1 : Int32) (o_thrown : Int32) (o_side : Int32) (o_heights_n : Nat) (o_heights : Nat → Int32) (o_targets_n : Nat) (o_targets : Nat → Int32) (o_radius_n : Nat) (o_radius : Nat → Int32) (o_kept_n : Nat) (o_kept : Nat → Int32) : Option RX7_reached :=
  ((fX7_isIn N a1 0 3).bind fun r1 => (if r1 = 0 then JX7_reached_15 N o_side a1 o_radius_n o_radius o_targets_n o_targets o_kept_n o_kept o_heights_n o_heights 1 else JX7_reached_15 N o_side a1 o_radius_n o_radius o_targets_n o_targets o_kept_n o_kept o_heights_n o_heights 0))
set_option maxHeartbeats 4000000 in
set_option maxRecDepth 100000 in
theorem kX7_reached (l : Launch) (D : va_G) (cA : Nat → ClassId) (h_o : Nat) (h_o_heights : Nat) (h_o_targets : Nat) (h_o_radius : Nat) (h_o_kept : Nat) (o_thrown : Int32) (o_side : Int32) (o_feeds : Value) (o_text : Value) (o_size : Int32) (o_at : Int32) (o_fault : Int32) (o_program : Value) (o_draft : Value) (o_statements : Int32) (o_hasProgram : Int32) (o_hasRun : Int32) (o_where : Value) (o_tool : Int32) (o_about : Value) (o_stack : Value) (o_seen : Value) (o_begin : Value) (o_gap : Value) (o_heights_n : Nat) (o_heights : Nat → Int32) (o_targets_n : Nat) (o_targets : Nat → Int32) (o_radius_n : Nat) (o_radius : Nat → Int32) (o_kept_n : Nat) (o_kept : Nat → Int32) (a1 : Int32) (N : Nat) (res : RX7_reached) (hf0 : fX7_reached N a1 o_thrown o_side o_heights_n o_heights o_targets_n o_targets o_radius_n o_radius o_kept_n o_kept = some res) : CtI l yX7_reached (Cond.code yX7_reached cX7_reached 7 (some .int) :: tblG) rmX7_reached D cA (wsX7_reached cA h_o h_o_heights h_o_targets h_o_radius h_o_kept o_thrown o_side o_feeds o_text o_size o_at o_fault o_program o_draft o_statements o_hasProgram o_hasRun o_where o_tool o_about o_stack o_seen o_begin o_gap o_heights_n o_heights o_targets_n o_targets o_radius_n o_radius o_kept_n o_kept) [.ref h_o, .int a1] res.1 (wsX7_reached cA h_o h_o_heights h_o_targets h_o_radius h_o_kept res.2 o_side o_feeds o_text o_size o_at o_fault o_program o_draft o_statements o_hasProgram o_hasRun o_where o_tool o_about o_stack o_seen o_begin o_gap o_heights_n o_heights o_targets_n o_targets o_radius_n o_radius o_kept_n o_kept) := by
  refine CtI.start (lv := [(0, .ref h_o), (1, .int a1)]) (by decide) (Nat.le_of_ble_eq_true rfl) rfl (fun κ hE => ?_)
  rw [fX7_reached] at hf0
  refine z_aload_n 0 (pc := 0) dX7_reached_0 rfl ?_
  refine z_iload_n 1 (pc := 1) dX7_reached_1 rfl ?_
  refine z_iconst (pc := 2) (v := 0) dX7_reached_2 (by decide) ?_
  refine z_iconst (pc := 3) (v := 3) dX7_reached_3 (by decide) ?_
  obtain ⟨r1, er1, hf0⟩ := bp hf0
  refine z_calliS (pc := 4) (As := [.int a1, .int 0, .int 3]) (rest := [.ref h_o]) (ws' := (wsX7_reached cA h_o h_o_heights h_o_targets h_o_radius h_o_kept o_thrown o_side o_feeds o_text o_size o_at o_fault o_program o_draft o_statements o_hasProgram o_hasRun o_where o_tool o_about o_stack o_seen o_begin o_gap o_heights_n o_heights o_targets_n o_targets o_radius_n o_radius o_kept_n o_kept)) (kX7_isIn l D cA   a1 0 3 N r1 er1) ivX7_60 ⟨rfl, rfl⟩ ⟨by decide, by decide⟩ rfl ⟨Nat.zero_le _, Nat.zero_le _⟩ [] rfl (by decide) rfl rfl rfl (Nat.le_of_ble_eq_true rfl) dX7_reached_4 ?_
  have j15 : ∀ (s_15 : Int32), JX7_reached_15 N o_side a1 o_radius_n o_radius o_targets_n o_targets o_kept_n o_kept o_heights_n o_heights s_15 = some res → V κ false l D cA rmX7_reached cX7_reached 7 RX7 (some .int) 0 0 15 [(0, .ref h_o), (1, .int a1)] [.int s_15, .ref h_o] (wsX7_reached cA h_o h_o_heights h_o_targets h_o_radius h_o_kept o_thrown o_side o_feeds o_text o_size o_at o_fault o_program o_draft o_statements o_hasProgram o_hasRun o_where o_tool o_about o_stack o_seen o_begin o_gap o_heights_n o_heights o_targets_n o_targets o_radius_n o_radius o_kept_n o_kept) := by
    intro s_15 hf0
    rw [JX7_reached_15] at hf0
    refine z_put 0 0 (pc := 15) (ws' := (wsX7_reached cA h_o h_o_heights h_o_targets h_o_radius h_o_kept s_15 o_side o_feeds o_text o_size o_at o_fault o_program o_draft o_statements o_hasProgram o_hasRun o_where o_tool o_about o_stack o_seen o_begin o_gap o_heights_n o_heights o_targets_n o_targets o_radius_n o_radius o_kept_n o_kept)) rfl rfl inX7 tyX7 tyX7_ok nmX7 (by decide) flX7_57 rfl rfl rfl rfl (Nat.le_of_ble_eq_true rfl) dX7_reached_15 rfl ?_
    refine z_iconst (pc := 18) (v := 0) dX7_reached_18 (by decide) ?_
    refine z_istore_n (pc := 19) (lv' := [(2, .int 0), (0, .ref h_o), (1, .int a1)]) dX7_reached_19 (by decide) rfl ?_
    refine z_iconst (pc := 20) (v := 0) dX7_reached_20 (by decide) ?_
    refine z_istore_n (pc := 21) (lv' := [(3, .int 0), (2, .int 0), (0, .ref h_o), (1, .int a1)]) dX7_reached_21 (by decide) rfl ?_
    obtain ⟨y22, hf0_22, hf0⟩ := bp hf0
    have lp22 : ∀ (n : Nat) (x2_22 : Int32) (x3_22 : Int32), LX7_reached_22 s_15 N o_side a1 o_radius_n o_radius o_targets_n o_targets o_kept_n o_kept o_heights_n o_heights n x2_22 x3_22 = some y22 → V κ false l D cA rmX7_reached cX7_reached 7 RX7 (some .int) 0 0 22 [(0, .ref h_o), (1, .int a1), (2, .int x2_22), (3, .int x3_22)] [] (wsX7_reached cA h_o h_o_heights h_o_targets h_o_radius h_o_kept s_15 o_side o_feeds o_text o_size o_at o_fault o_program o_draft o_statements o_hasProgram o_hasRun o_where o_tool o_about o_stack o_seen o_begin o_gap o_heights_n o_heights o_targets_n o_targets o_radius_n o_radius o_kept_n o_kept) := by
      intro n
      induction n with
      | zero => intro x2_22 x3_22 hf0_22; rw [LX7_reached_22] at hf0_22; cases hf0_22
      | succ n22 ih22 =>
        intro x2_22 x3_22 hf0_22
        rw [LX7_reached_22] at hf0_22
        refine z_iload_n 3 (pc := 22) dX7_reached_22 rfl ?_
        refine z_sipush (pc := 23) (v := 400) dX7_reached_23 (by decide) ?_
        refine z_icmp_ge (pc := 26) (tgt := 150) dX7_reached_26 (by decide) hf0_22 (fun hf0_22 => ?_) (fun hf0_22 => ?_)
        · obtain rfl := Option.some.inj hf0_22
          refine z_iload_n 2 (pc := 150) dX7_reached_150 rfl ?_
          obtain rfl := Option.some.inj hf0
          exact z_iret hE dX7_reached_151
        · refine z_aload_n 0 (pc := 29) dX7_reached_29 rfl ?_
          refine z_get 0 0 (pc := 30) (v := .int s_15) rfl rfl inX7 (by decide) flX7_57 rfl dX7_reached_30 ?_
          refine z_if_ne (pc := 33) (tgt := 150) dX7_reached_33 (by decide) hf0_22 (fun hf0_22 => ?_) (fun hf0_22 => ?_)
          · obtain rfl := Option.some.inj hf0_22
            refine z_iload_n 2 (pc := 150) dX7_reached_150 rfl ?_
            obtain rfl := Option.some.inj hf0
            exact z_iret hE dX7_reached_151
          · refine z_iconst (pc := 36) (v := 0) dX7_reached_36 (by decide) ?_
            refine z_istore (pc := 37) (lv' := [(4, .int 0), (0, .ref h_o), (1, .int a1), (2, .int x2_22), (3, .int x3_22)]) dX7_reached_37 (by decide) rfl ?_
            refine z_aload_n 1 (pc := 39) dX7_reached_39 rfl ?_
            refine z_iload_n 4 (pc := 40) dX7_reached_40 rfl ?_
            refine z_bipush (pc := 41) (v := 20) dX7_reached_41 (by decide) ?_
            refine z_irem (pc := 43) dX7_reached_43 hf0_22 (fun hf0_22 => ?_)
            refine z_iload_n 4 (pc := 44) dX7_reached_44 rfl ?_
            refine z_bipush (pc := 45) (v := 20) dX7_reached_45 (by decide) ?_
            refine z_idiv (pc := 47) dX7_reached_47 hf0_22 (fun hf0_22 => ?_)
            obtain ⟨r3, er3, hf0_22⟩ := bp hf0_22
            refine z_calliV (pc := 48) (As := [.int (x3_22 - x3_22 / 20 * 20), .int (x3_22 / 20)]) (rest := []) (ws' := (wsX7_reached cA h_o h_o_heights h_o_targets h_o_radius h_o_kept s_15 o_side o_feeds o_text o_size o_at o_fault o_program o_draft o_statements o_hasProgram o_hasRun o_where o_tool o_about o_stack o_seen o_begin o_gap o_heights_n o_heights o_targets_n o_targets o_radius_n o_radius o_kept_n o_kept)) (kX7_isCell l D cA h_o s_15 o_side (.ref h_o_heights) (.ref h_o_targets) (.ref h_o_kept) (.ref h_o_radius) o_feeds o_text o_size o_at o_fault o_program o_draft o_statements o_hasProgram o_hasRun o_where o_tool o_about o_stack o_seen o_begin o_gap (x3_22 - x3_22 / 20 * 20) (x3_22 / 20) N r3 er3) ivX7_64 ⟨rfl, rfl⟩ ⟨by decide, by decide⟩ rfl ⟨Nat.zero_le _, Nat.zero_le _⟩ rfl rfl [0] rfl (by decide) rfl rfl rfl (Nat.le_of_ble_eq_true rfl) dX7_reached_48 ?_
            have j74 : ∀ (s_74 : Int32), JX7_reached_74 (fun b0 b1 => LX7_reached_22 s_15 N o_side a1 o_radius_n o_radius o_targets_n o_targets o_kept_n o_kept o_heights_n o_heights n22 b0 b1) o_side N a1 x3_22 o_radius_n o_radius o_targets_n o_targets o_kept_n o_kept x2_22 s_74 = some y22 → V κ false l D cA rmX7_reached cX7_reached 7 RX7 (some .int) 0 0 74 [(4, .int 0), (0, .ref h_o), (1, .int a1), (2, .int x2_22), (3, .int x3_22)] [.int s_74] (wsX7_reached cA h_o h_o_heights h_o_targets h_o_radius h_o_kept s_15 o_side o_feeds o_text o_size o_at o_fault o_program o_draft o_statements o_hasProgram o_hasRun o_where o_tool o_about o_stack o_seen o_begin o_gap o_heights_n o_heights o_targets_n o_targets o_radius_n o_radius o_kept_n o_kept) := by
              intro s_74 hf0_22
              rw [JX7_reached_74] at hf0_22
              refine z_istore (pc := 74) (lv' := [(5, .int s_74), (4, .int 0), (0, .ref h_o), (1, .int a1), (2, .int x2_22), (3, .int x3_22)]) dX7_reached_74 (by decide) rfl ?_
              refine z_iconst (pc := 76) (v := 0) dX7_reached_76 (by decide) ?_
              refine z_istore (pc := 77) (lv' := [(6, .int 0), (5, .int s_74), (4, .int 0), (0, .ref h_o), (1, .int a1), (2, .int x2_22), (3, .int x3_22)]) dX7_reached_77 (by decide) rfl ?_
              have j131 : ∀ (x4_131 : Int32), JX7_reached_131 (fun b0 b1 => LX7_reached_22 s_15 N o_side a1 o_radius_n o_radius o_targets_n o_targets o_kept_n o_kept o_heights_n o_heights n22 b0 b1) x2_22 x3_22 x4_131 = some y22 → V κ false l D cA rmX7_reached cX7_reached 7 RX7 (some .int) 0 0 131 [(5, .int s_74), (0, .ref h_o), (1, .int a1), (2, .int x2_22), (3, .int x3_22), (4, .int x4_131)] [] (wsX7_reached cA h_o h_o_heights h_o_targets h_o_radius h_o_kept s_15 o_side o_feeds o_text o_size o_at o_fault o_program o_draft o_statements o_hasProgram o_hasRun o_where o_tool o_about o_stack o_seen o_begin o_gap o_heights_n o_heights o_targets_n o_targets o_radius_n o_radius o_kept_n o_kept) := by
                intro x4_131 hf0_22
                rw [JX7_reached_131] at hf0_22
                refine z_iload 5 (pc := 131) dX7_reached_131 rfl ?_
                refine z_if_eq (pc := 133) (tgt := 142) dX7_reached_133 (by decide) hf0_22 (fun hf0_22 => ?_) (fun hf0_22 => ?_)
                · refine z_iload_n 3 (pc := 142) dX7_reached_142 rfl ?_
                  refine z_istore_n (pc := 143) (lv' := [(2, .int x2_22), (5, .int s_74), (0, .ref h_o), (1, .int a1), (3, .int x3_22), (4, .int x4_131)]) dX7_reached_143 (by decide) rfl ?_
                  refine z_iinc 4 (pc := 144) (v := x3_22 + 1) (lv' := [(3, .int (x3_22 + 1)), (2, .int x2_22), (5, .int s_74), (0, .ref h_o), (1, .int a1), (4, .int x4_131)]) dX7_reached_144 rfl rfl (by decide) rfl ?_
                  refine z_goto (pc := 147) (tgt := 22) dX7_reached_147 (by decide) ?_
                  exact z_lv [3, 4, 1, 0] rfl (ih22 x2_22 (x3_22 + 1) hf0_22)
                · refine z_iload_n 3 (pc := 136) dX7_reached_136 rfl ?_
                  refine z_iconst (pc := 137) (v := 1) dX7_reached_137 (by decide) ?_
                  refine z_iadd (pc := 138) dX7_reached_138 ?_
                  refine z_goto (pc := 139) (tgt := 143) dX7_reached_139 (by decide) ?_
                  refine z_istore_n (pc := 143) (lv' := [(2, .int (x2_22 + 1)), (5, .int s_74), (0, .ref h_o), (1, .int a1), (3, .int x3_22), (4, .int x4_131)]) dX7_reached_143 (by decide) rfl ?_
                  refine z_iinc 4 (pc := 144) (v := x3_22 + 1) (lv' := [(3, .int (x3_22 + 1)), (2, .int (x2_22 + 1)), (5, .int s_74), (0, .ref h_o), (1, .int a1), (4, .int x4_131)]) dX7_reached_144 rfl rfl (by decide) rfl ?_
                  refine z_goto (pc := 147) (tgt := 22) dX7_reached_147 (by decide) ?_
                  exact z_lv [3, 4, 1, 0] rfl (ih22 (x2_22 + 1) (x3_22 + 1) hf0_22)
              obtain ⟨y79, hf0_22_79, hf0_22⟩ := bp hf0_22
              have lp79 : ∀ (n : Nat) (x4_79 : Int32) (x6_79 : Int32), LX7_reached_79 o_side s_74 N a1 x3_22 o_radius_n o_radius o_targets_n o_targets o_kept_n o_kept n x4_79 x6_79 = some y79 → V κ false l D cA rmX7_reached cX7_reached 7 RX7 (some .int) 0 0 79 [(5, .int s_74), (0, .ref h_o), (1, .int a1), (2, .int x2_22), (3, .int x3_22), (4, .int x4_79), (6, .int x6_79)] [] (wsX7_reached cA h_o h_o_heights h_o_targets h_o_radius h_o_kept s_15 o_side o_feeds o_text o_size o_at o_fault o_program o_draft o_statements o_hasProgram o_hasRun o_where o_tool o_about o_stack o_seen o_begin o_gap o_heights_n o_heights o_targets_n o_targets o_radius_n o_radius o_kept_n o_kept) := by
                intro n
                induction n with
                | zero => intro x4_79 x6_79 hf0_22_79; rw [LX7_reached_79] at hf0_22_79; cases hf0_22_79
                | succ n79 ih79 =>
                  intro x4_79 x6_79 hf0_22_79
                  rw [LX7_reached_79] at hf0_22_79
                  refine z_iload 6 (pc := 79) dX7_reached_79 rfl ?_
                  refine z_aload_n 1 (pc := 81) dX7_reached_81 rfl ?_
                  refine z_get 0 1 (pc := 82) (v := .int o_side) rfl rfl inX7 (by decide) flX7_53 rfl dX7_reached_82 ?_
                  refine z_aload_n 1 (pc := 85) dX7_reached_85 rfl ?_
                  refine z_get 0 1 (pc := 86) (v := .int o_side) rfl rfl inX7 (by decide) flX7_53 rfl dX7_reached_86 ?_
                  refine z_imul (pc := 89) dX7_reached_89 ?_
                  refine z_icmp_ge (pc := 90) (tgt := 131) dX7_reached_90 (by decide) hf0_22_79 (fun hf0_22_79 => ?_) (fun hf0_22_79 => ?_)
                  · obtain rfl := Option.some.inj hf0_22_79
                    exact z_lv [0, 1, 2, 3, 4, 5] rfl (j131 x4_79 hf0_22)
                  · refine z_iload 0 (pc := 93) dX7_reached_93 rfl ?_
                    refine z_if_eq (pc := 95) (tgt := 131) dX7_reached_95 (by decide) hf0_22_79 (fun hf0_22_79 => ?_) (fun hf0_22_79 => ?_)
                    · obtain rfl := Option.some.inj hf0_22_79
                      exact z_lv [0, 1, 2, 3, 4, 5] rfl (j131 x4_79 hf0_22)
                    · refine z_iload 5 (pc := 98) dX7_reached_98 rfl ?_
                      refine z_if_ne (pc := 100) (tgt := 131) dX7_reached_100 (by decide) hf0_22_79 (fun hf0_22_79 => ?_) (fun hf0_22_79 => ?_)
                      · obtain rfl := Option.some.inj hf0_22_79
                        exact z_lv [0, 1, 2, 3, 4, 5] rfl (j131 x4_79 hf0_22)
                      · refine z_aload_n 1 (pc := 103) dX7_reached_103 rfl ?_
                        refine z_iload_n 2 (pc := 104) dX7_reached_104 rfl ?_
                        refine z_iload 6 (pc := 105) dX7_reached_105 rfl ?_
                        refine z_aload_n 1 (pc := 107) dX7_reached_107 rfl ?_
                        refine z_get 0 1 (pc := 108) (v := .int o_side) rfl rfl inX7 (by decide) flX7_53 rfl dX7_reached_108 ?_
                        refine z_irem (pc := 111) dX7_reached_111 hf0_22_79 (fun hf0_22_79 => ?_)
                        refine z_iload 6 (pc := 112) dX7_reached_112 rfl ?_
                        refine z_aload_n 1 (pc := 114) dX7_reached_114 rfl ?_
                        refine z_get 0 1 (pc := 115) (v := .int o_side) rfl rfl inX7 (by decide) flX7_53 rfl dX7_reached_115 ?_
                        refine z_idiv (pc := 118) dX7_reached_118 hf0_22_79 (fun hf0_22_79 => ?_)
                        refine z_iload_n 4 (pc := 119) dX7_reached_119 rfl ?_
                        obtain ⟨r5, er5, hf0_22_79⟩ := bp hf0_22_79
                        refine z_calliV (pc := 120) (As := [.int a1, .int (x6_79 - x6_79 / o_side * o_side), .int (x6_79 / o_side), .int x3_22]) (rest := []) (ws' := (wsX7_reached cA h_o h_o_heights h_o_targets h_o_radius h_o_kept s_15 o_side o_feeds o_text o_size o_at o_fault o_program o_draft o_statements o_hasProgram o_hasRun o_where o_tool o_about o_stack o_seen o_begin o_gap o_heights_n o_heights o_targets_n o_targets o_radius_n o_radius o_kept_n o_kept)) (kX7_spares l D cA h_o h_o_radius h_o_targets h_o_kept s_15 o_side (.ref h_o_heights) o_feeds o_text o_size o_at o_fault o_program o_draft o_statements o_hasProgram o_hasRun o_where o_tool o_about o_stack o_seen o_begin o_gap o_radius_n o_radius o_targets_n o_targets o_kept_n o_kept a1 (x6_79 - x6_79 / o_side * o_side) (x6_79 / o_side) x3_22 N r5 er5) ivX7_134 ⟨rfl, rfl⟩ ⟨by decide, by decide⟩ rfl ⟨Nat.zero_le _, Nat.zero_le _⟩ rfl rfl [0, 3, 2, 4] rfl (by decide) rfl rfl rfl (Nat.le_of_ble_eq_true rfl) dX7_reached_120 ?_
                        refine z_istore (pc := 123) (lv' := [(4, .int r5), (5, .int s_74), (0, .ref h_o), (1, .int a1), (2, .int x2_22), (3, .int x3_22), (6, .int x6_79)]) dX7_reached_123 (by decide) rfl ?_
                        refine z_iinc 6 (pc := 125) (v := x6_79 + 1) (lv' := [(6, .int (x6_79 + 1)), (4, .int r5), (5, .int s_74), (0, .ref h_o), (1, .int a1), (2, .int x2_22), (3, .int x3_22)]) dX7_reached_125 rfl rfl (by decide) rfl ?_
                        refine z_goto (pc := 128) (tgt := 79) dX7_reached_128 (by decide) ?_
                        exact z_lv [2, 3, 4, 5, 6, 1, 0] rfl (ih79 r5 (x6_79 + 1) hf0_22_79)
              exact z_lv [1, 3, 4, 5, 6, 2, 0] rfl (lp79 N 0 0 hf0_22_79)
            have j73 : JX7_reached_73 (fun b0 b1 => LX7_reached_22 s_15 N o_side a1 o_radius_n o_radius o_targets_n o_targets o_kept_n o_kept o_heights_n o_heights n22 b0 b1) o_side N a1 x3_22 o_radius_n o_radius o_targets_n o_targets o_kept_n o_kept x2_22  = some y22 → V κ false l D cA rmX7_reached cX7_reached 7 RX7 (some .int) 0 0 73 [(4, .int 0), (0, .ref h_o), (1, .int a1), (2, .int x2_22), (3, .int x3_22)] [] (wsX7_reached cA h_o h_o_heights h_o_targets h_o_radius h_o_kept s_15 o_side o_feeds o_text o_size o_at o_fault o_program o_draft o_statements o_hasProgram o_hasRun o_where o_tool o_about o_stack o_seen o_begin o_gap o_heights_n o_heights o_targets_n o_targets o_radius_n o_radius o_kept_n o_kept) := by
              intro hf0_22
              rw [JX7_reached_73] at hf0_22
              refine z_iconst (pc := 73) (v := 0) dX7_reached_73 (by decide) ?_
              exact z_lv [0, 1, 2, 3, 4] rfl (j74 0 hf0_22)
            refine z_if_eq (pc := 51) (tgt := 73) dX7_reached_51 (by decide) hf0_22 (fun hf0_22 => ?_) (fun hf0_22 => ?_)
            · exact z_lv [0, 1, 2, 3, 4] rfl (j73  hf0_22)
            · refine z_aload_n 1 (pc := 54) dX7_reached_54 rfl ?_
              refine z_get 0 2 (pc := 55) (v := .ref h_o_heights) rfl rfl inX7 (by decide) flX7_7 rfl dX7_reached_55 ?_
              refine z_iload_n 4 (pc := 58) dX7_reached_58 rfl ?_
              refine z_iaload 1 0 (pc := 59) rfl rfl dX7_reached_59 hf0_22 (fun hf0_22 => ?_)
              refine z_aload_n 1 (pc := 60) dX7_reached_60 rfl ?_
              refine z_get 0 3 (pc := 61) (v := .ref h_o_targets) rfl rfl inX7 (by decide) flX7_13 rfl dX7_reached_61 ?_
              refine z_iload_n 4 (pc := 64) dX7_reached_64 rfl ?_
              refine z_iaload 2 0 (pc := 65) rfl rfl dX7_reached_65 hf0_22 (fun hf0_22 => ?_)
              refine z_icmp_le (pc := 66) (tgt := 73) dX7_reached_66 (by decide) hf0_22 (fun hf0_22 => ?_) (fun hf0_22 => ?_)
              · exact z_lv [0, 1, 2, 3, 4] rfl (j73  hf0_22)
              · refine z_iconst (pc := 69) (v := 1) dX7_reached_69 (by decide) ?_
                refine z_goto (pc := 70) (tgt := 74) dX7_reached_70 (by decide) ?_
                exact z_lv [0, 1, 2, 3, 4] rfl (j74 1 hf0_22)
    exact z_lv [2, 3, 1, 0] rfl (lp22 N 0 0 hf0_22)
  refine z_if_eq (pc := 7) (tgt := 14) dX7_reached_7 (by decide) hf0 (fun hf0 => ?_) (fun hf0 => ?_)
  · refine z_iconst (pc := 14) (v := 1) dX7_reached_14 (by decide) ?_
    exact z_lv [0, 1] rfl (j15 1 hf0)
  · refine z_iconst (pc := 10) (v := 0) dX7_reached_10 (by decide) ?_
    refine z_goto (pc := 11) (tgt := 15) dX7_reached_11 (by decide) ?_
    exact z_lv [0, 1] rfl (j15 0 hf0)

abbrev RX7_flood : Type := (Nat → Int32) × (Nat → Int32)
abbrev rmX7_flood : Room := { frames := 2, cells := 0, slots := 0, locals := 44 }
abbrev wsX7_flood (cA : Nat → ClassId) (h_o : Nat) (h_o_stack : Nat) (h_o_seen : Nat) (o_thrown : Int32) (o_side : Int32) (o_heights : Value) (o_targets : Value) (o_kept : Value) (o_radius : Value) (o_feeds : Value) (o_text : Value) (o_size : Int32) (o_at : Int32) (o_fault : Int32) (o_program : Value) (o_draft : Value) (o_statements : Int32) (o_hasProgram : Int32) (o_hasRun : Int32) (o_where : Value) (o_tool : Int32) (o_about : Value) (o_begin : Value) (o_gap : Value) (o_stack_n : Nat) (o_stack : Nat → Int32) (o_seen_n : Nat) (o_seen : Nat → Int32) : va_W := [(h_o, .inr (7, [.int o_thrown, .int o_side, o_heights, o_targets, o_kept, o_radius, o_feeds, o_text, .int o_size, .int o_at, .int o_fault, o_program, o_draft, .int o_statements, .int o_hasProgram, .int o_hasRun, o_where, .int o_tool, o_about, .ref h_o_stack, .ref h_o_seen, o_begin, o_gap])), (h_o_stack, .inl (cA 0, o_stack_n, .inl o_stack)), (h_o_seen, .inl (cA 1, o_seen_n, .inl o_seen))]
def JX7_flood_91 (rec : Int32 → Int32 → (Nat → Int32) → (Nat → Int32) → Option (Int32 × Int32 × (Nat → Int32) × (Nat → Int32))) (N : Nat) (k5 : Int32) (k6 : Int32) (o_side : Int32) (x2_33 : Int32) (x4_33 : Int32) (o_seen_33 : Nat → Int32) (o_stack_33 : Nat → Int32) (o_seen_n : Nat) (o_stack_n : Nat) (s_91 : Int32) : Option (Int32 × Int32 × (Nat → Int32) × (Nat → Int32)) :=
  ((fX7_isCell N k5 (k6 + s_91) o_side).bind fun r7 => (if r7 = 0 then rec x2_33 (x4_33 + 1) o_seen_33 o_stack_33 else (if ((20 * (k6 + s_91)) + k5) < 0 ∨ o_seen_n ≤ ((20 * (k6 + s_91)) + k5).toNatClampNeg then none else (if (o_seen_33 ((20 * (k6 + s_91)) + k5).toNatClampNeg) = 0 then (if ((20 * (k6 + s_91)) + k5) < 0 ∨ o_seen_n ≤ ((20 * (k6 + s_91)) + k5).toNatClampNeg then none else (if x2_33 < 0 ∨ o_stack_n ≤ x2_33.toNatClampNeg then none else rec (x2_33 + 1) (x4_33 + 1) (upd o_seen_33 ((20 * (k6 + s_91)) + k5).toNatClampNeg (vp_nar .boolean 1)) (upd o_stack_33 x2_33.toNatClampNeg ((20 * (k6 + s_91)) + k5)))) else rec x2_33 (x4_33 + 1) o_seen_33 o_stack_33))))
def JX7_flood_63 (rec : Int32 → Int32 → (Nat → Int32) → (Nat → Int32) → Option (Int32 × Int32 × (Nat → Int32) × (Nat → Int32))) (x4_33 : Int32) (N : Nat) (k4 : Int32) (k2 : Int32) (o_side : Int32) (x2_33 : Int32) (o_seen_33 : Nat → Int32) (o_stack_33 : Nat → Int32) (o_seen_n : Nat) (o_stack_n : Nat) (s_63 : Int32) : Option (Int32 × Int32 × (Nat → Int32) × (Nat → Int32)) :=
  (if 20 = 0 then none else (if x4_33 = 2 then JX7_flood_91 (fun b0 b1 b2 b3 => rec b0 b1 b2 b3) N (k4 + s_63) (k2 / 20) o_side x2_33 x4_33 o_seen_33 o_stack_33 o_seen_n o_stack_n 1 else (if x4_33 = 3 then JX7_flood_91 (fun b0 b1 b2 b3 => rec b0 b1 b2 b3) N (k4 + s_63) (k2 / 20) o_side x2_33 x4_33 o_seen_33 o_stack_33 o_seen_n o_stack_n (-1) else JX7_flood_91 (fun b0 b1 b2 b3 => rec b0 b1 b2 b3) N (k4 + s_63) (k2 / 20) o_side x2_33 x4_33 o_seen_33 o_stack_33 o_seen_n o_stack_n 0)))
def LX7_flood_33 (N : Nat) (k2 : Int32) (o_stack_16 : Nat → Int32) (x2_16 : Int32) (o_side : Int32) (o_seen_n : Nat) (o_stack_n : Nat) : Nat → Int32 → Int32 → (Nat → Int32) → (Nat → Int32) → Option (Int32 × Int32 × (Nat → Int32) × (Nat → Int32))
  | 0, _, _, _, _ => none
  | n + 1, x2_33, x4_33, o_seen_33, o_stack_33 => (if 4 ≤ x4_33 then some (x2_33, x4_33, o_seen_33, o_stack_33) else (if 20 = 0 then none else (if x4_33 = 0 then JX7_flood_63 (fun b0 b1 b2 b3 => LX7_flood_33 N k2 o_stack_16 x2_16 o_side o_seen_n o_stack_n n b0 b1 b2 b3) x4_33 N (k2 - k2 / 20 * 20) (o_stack_16 (x2_16 + (-1)).toNatClampNeg) o_side x2_33 o_seen_33 o_stack_33 o_seen_n o_stack_n 1 else (if x4_33 = 1 then JX7_flood_63 (fun b0 b1 b2 b3 => LX7_flood_33 N k2 o_stack_16 x2_16 o_side o_seen_n o_stack_n n b0 b1 b2 b3) x4_33 N (k2 - k2 / 20 * 20) (o_stack_16 (x2_16 + (-1)).toNatClampNeg) o_side x2_33 o_seen_33 o_stack_33 o_seen_n o_stack_n (-1) else JX7_flood_63 (fun b0 b1 b2 b3 => LX7_flood_33 N k2 o_stack_16 x2_16 o_side o_seen_n o_stack_n n b0 b1 b2 b3) x4_33 N (k2 - k2 / 20 * 20) (o_stack_16 (x2_16 + (-1)).toNatClampNeg) o_side x2_33 o_seen_33 o_stack_33 o_seen_n o_stack_n 0))))
def LX7_flood_16 (o_stack_n : Nat) (N : Nat) (o_side : Int32) (o_seen_n : Nat) : Nat → Int32 → (Nat → Int32) → (Nat → Int32) → Option (Int32 × (Nat → Int32) × (Nat → Int32))
  | 0, _, _, _ => none
  | n + 1, x2_16, o_seen_16, o_stack_16 => (if x2_16 ≤ 0 then some (x2_16, o_seen_16, o_stack_16) else (if (x2_16 + (-1)) < 0 ∨ o_stack_n ≤ (x2_16 + (-1)).toNatClampNeg then none else ((LX7_flood_33 N (o_stack_16 (x2_16 + (-1)).toNatClampNeg) o_stack_16 x2_16 o_side o_seen_n o_stack_n N (x2_16 + (-1)) 0 o_seen_16 o_stack_16).bind fun r3 => LX7_flood_16 o_stack_n N o_side o_seen_n n r3.1 r3.2.2.1 r3.2.2.2)))
def fX7_flood (N : Nat) (a1 : Int32) (o_side : Int32) (o_stack_n : Nat) (o_stack : Nat → Int32) (o_seen_n : Nat) (o_seen : Nat → Int32) : Option RX7_flood :=
  (if (0 : Int32) < 0 ∨ o_stack_n ≤ (0 : Int32).toNatClampNeg then none else (if a1 < 0 ∨ o_seen_n ≤ a1.toNatClampNeg then none else ((LX7_flood_16 o_stack_n N o_side o_seen_n N 1 (upd o_seen a1.toNatClampNeg (vp_nar .boolean 1)) (upd o_stack (0 : Int32).toNatClampNeg a1)).bind fun r1 => some (r1.2.2, r1.2.1))))
set_option maxHeartbeats 4000000 in
set_option maxRecDepth 100000 in
theorem kX7_flood (l : Launch) (D : va_G) (cA : Nat → ClassId) (h_o : Nat) (h_o_stack : Nat) (h_o_seen : Nat) (o_thrown : Int32) (o_side : Int32) (o_heights : Value) (o_targets : Value) (o_kept : Value) (o_radius : Value) (o_feeds : Value) (o_text : Value) (o_size : Int32) (o_at : Int32) (o_fault : Int32) (o_program : Value) (o_draft : Value) (o_statements : Int32) (o_hasProgram : Int32) (o_hasRun : Int32) (o_where : Value) (o_tool : Int32) (o_about : Value) (o_begin : Value) (o_gap : Value) (o_stack_n : Nat) (o_stack : Nat → Int32) (o_seen_n : Nat) (o_seen : Nat → Int32) (a1 : Int32) (N : Nat) (res : RX7_flood) (hf0 : fX7_flood N a1 o_side o_stack_n o_stack o_seen_n o_seen = some res) : CtV l yX7_flood (Cond.code yX7_flood cX7_flood 7 (none) :: tblG) rmX7_flood D cA (wsX7_flood cA h_o h_o_stack h_o_seen o_thrown o_side o_heights o_targets o_kept o_radius o_feeds o_text o_size o_at o_fault o_program o_draft o_statements o_hasProgram o_hasRun o_where o_tool o_about o_begin o_gap o_stack_n o_stack o_seen_n o_seen) [.ref h_o, .int a1] (wsX7_flood cA h_o h_o_stack h_o_seen o_thrown o_side o_heights o_targets o_kept o_radius o_feeds o_text o_size o_at o_fault o_program o_draft o_statements o_hasProgram o_hasRun o_where o_tool o_about o_begin o_gap o_stack_n res.1 o_seen_n res.2) := by
  refine CtV.start (lv := [(0, .ref h_o), (1, .int a1)]) (by decide) (Nat.le_of_ble_eq_true rfl) rfl (fun κ hE => ?_)
  rw [fX7_flood] at hf0
  refine z_iconst (pc := 0) (v := 1) dX7_flood_0 (by decide) ?_
  refine z_istore_n (pc := 1) (lv' := [(2, .int 1), (0, .ref h_o), (1, .int a1)]) dX7_flood_1 (by decide) rfl ?_
  refine z_aload_n 1 (pc := 2) dX7_flood_2 rfl ?_
  refine z_get 0 19 (pc := 3) (v := .ref h_o_stack) rfl rfl inX7 (by decide) flX7_41 rfl dX7_flood_3 ?_
  refine z_iconst (pc := 6) (v := 0) dX7_flood_6 (by decide) ?_
  refine z_iload_n 2 (pc := 7) dX7_flood_7 rfl ?_
  refine z_iastore 1 0 (pc := 8) (ws' := (wsX7_flood cA h_o h_o_stack h_o_seen o_thrown o_side o_heights o_targets o_kept o_radius o_feeds o_text o_size o_at o_fault o_program o_draft o_statements o_hasProgram o_hasRun o_where o_tool o_about o_begin o_gap o_stack_n (upd o_stack (0 : Int32).toNatClampNeg a1) o_seen_n o_seen)) rfl rfl dX7_flood_8 rfl hf0 (fun hf0 => ?_)
  refine z_aload_n 1 (pc := 9) dX7_flood_9 rfl ?_
  refine z_get 0 20 (pc := 10) (v := .ref h_o_seen) rfl rfl inX7 (by decide) flX7_44 rfl dX7_flood_10 ?_
  refine z_iload_n 2 (pc := 13) dX7_flood_13 rfl ?_
  refine z_iconst (pc := 14) (v := 1) dX7_flood_14 (by decide) ?_
  refine z_zastore 2 1 (pc := 15) (ws' := (wsX7_flood cA h_o h_o_stack h_o_seen o_thrown o_side o_heights o_targets o_kept o_radius o_feeds o_text o_size o_at o_fault o_program o_draft o_statements o_hasProgram o_hasRun o_where o_tool o_about o_begin o_gap o_stack_n (upd o_stack (0 : Int32).toNatClampNeg a1) o_seen_n (upd o_seen a1.toNatClampNeg (vp_nar .boolean 1)))) rfl rfl dX7_flood_15 rfl hf0 (fun hf0 => ?_)
  obtain ⟨y16, hf0_16, hf0⟩ := bp hf0
  have lp16 : ∀ (n : Nat) (x2_16 : Int32) (o_seen_16 : Nat → Int32) (o_stack_16 : Nat → Int32), LX7_flood_16 o_stack_n N o_side o_seen_n n x2_16 o_seen_16 o_stack_16 = some y16 → V κ false l D cA rmX7_flood cX7_flood 7 RX7 (none) 0 0 16 [(0, .ref h_o), (1, .int a1), (2, .int x2_16)] [] (wsX7_flood cA h_o h_o_stack h_o_seen o_thrown o_side o_heights o_targets o_kept o_radius o_feeds o_text o_size o_at o_fault o_program o_draft o_statements o_hasProgram o_hasRun o_where o_tool o_about o_begin o_gap o_stack_n o_stack_16 o_seen_n o_seen_16) := by
    intro n
    induction n with
    | zero => intro x2_16 o_seen_16 o_stack_16 hf0_16; rw [LX7_flood_16] at hf0_16; cases hf0_16
    | succ n16 ih16 =>
      intro x2_16 o_seen_16 o_stack_16 hf0_16
      rw [LX7_flood_16] at hf0_16
      refine z_iload_n 2 (pc := 16) dX7_flood_16 rfl ?_
      refine z_if_le (pc := 17) (tgt := 161) dX7_flood_17 (by decide) hf0_16 (fun hf0_16 => ?_) (fun hf0_16 => ?_)
      · obtain rfl := Option.some.inj hf0_16
        obtain rfl := Option.some.inj hf0
        exact z_vret hE dX7_flood_161
      · refine z_iinc 2 (pc := 20) (v := x2_16 + (-1)) (lv' := [(2, .int (x2_16 + (-1))), (0, .ref h_o), (1, .int a1)]) dX7_flood_20 rfl rfl (by decide) rfl ?_
        refine z_aload_n 1 (pc := 23) dX7_flood_23 rfl ?_
        refine z_get 0 19 (pc := 24) (v := .ref h_o_stack) rfl rfl inX7 (by decide) flX7_41 rfl dX7_flood_24 ?_
        refine z_iload_n 0 (pc := 27) dX7_flood_27 rfl ?_
        refine z_iaload 1 0 (pc := 28) rfl rfl dX7_flood_28 hf0_16 (fun hf0_16 => ?_)
        refine z_istore_n (pc := 29) (lv' := [(3, .int (o_stack_16 (x2_16 + (-1)).toNatClampNeg)), (2, .int (x2_16 + (-1))), (0, .ref h_o), (1, .int a1)]) dX7_flood_29 (by decide) rfl ?_
        refine z_iconst (pc := 30) (v := 0) dX7_flood_30 (by decide) ?_
        refine z_istore (pc := 31) (lv' := [(4, .int 0), (3, .int (o_stack_16 (x2_16 + (-1)).toNatClampNeg)), (2, .int (x2_16 + (-1))), (0, .ref h_o), (1, .int a1)]) dX7_flood_31 (by decide) rfl ?_
        obtain ⟨y33, hf0_16_33, hf0_16⟩ := bp hf0_16
        have lp33 : ∀ (n : Nat) (x2_33 : Int32) (x4_33 : Int32) (o_seen_33 : Nat → Int32) (o_stack_33 : Nat → Int32), LX7_flood_33 N (o_stack_16 (x2_16 + (-1)).toNatClampNeg) o_stack_16 x2_16 o_side o_seen_n o_stack_n n x2_33 x4_33 o_seen_33 o_stack_33 = some y33 → V κ false l D cA rmX7_flood cX7_flood 7 RX7 (none) 0 0 33 [(3, .int (o_stack_16 (x2_16 + (-1)).toNatClampNeg)), (0, .ref h_o), (1, .int a1), (2, .int x2_33), (4, .int x4_33)] [] (wsX7_flood cA h_o h_o_stack h_o_seen o_thrown o_side o_heights o_targets o_kept o_radius o_feeds o_text o_size o_at o_fault o_program o_draft o_statements o_hasProgram o_hasRun o_where o_tool o_about o_begin o_gap o_stack_n o_stack_33 o_seen_n o_seen_33) := by
          intro n
          induction n with
          | zero => intro x2_33 x4_33 o_seen_33 o_stack_33 hf0_16_33; rw [LX7_flood_33] at hf0_16_33; cases hf0_16_33
          | succ n33 ih33 =>
            intro x2_33 x4_33 o_seen_33 o_stack_33 hf0_16_33
            rw [LX7_flood_33] at hf0_16_33
            refine z_iload 4 (pc := 33) dX7_flood_33 rfl ?_
            refine z_iconst (pc := 35) (v := 4) dX7_flood_35 (by decide) ?_
            refine z_icmp_ge (pc := 36) (tgt := 158) dX7_flood_36 (by decide) hf0_16_33 (fun hf0_16_33 => ?_) (fun hf0_16_33 => ?_)
            · obtain rfl := Option.some.inj hf0_16_33
              refine z_goto (pc := 158) (tgt := 16) dX7_flood_158 (by decide) ?_
              exact z_lv [1, 2, 3] rfl (ih16 x2_33 o_seen_33 o_stack_33 hf0_16)
            · refine z_iload_n 0 (pc := 39) dX7_flood_39 rfl ?_
              refine z_bipush (pc := 40) (v := 20) dX7_flood_40 (by decide) ?_
              refine z_irem (pc := 42) dX7_flood_42 hf0_16_33 (fun hf0_16_33 => ?_)
              refine z_iload 4 (pc := 43) dX7_flood_43 rfl ?_
              have j63 : ∀ (s_63 : Int32), JX7_flood_63 (fun b0 b1 b2 b3 => LX7_flood_33 N (o_stack_16 (x2_16 + (-1)).toNatClampNeg) o_stack_16 x2_16 o_side o_seen_n o_stack_n n33 b0 b1 b2 b3) x4_33 N ((o_stack_16 (x2_16 + (-1)).toNatClampNeg) - (o_stack_16 (x2_16 + (-1)).toNatClampNeg) / 20 * 20) (o_stack_16 (x2_16 + (-1)).toNatClampNeg) o_side x2_33 o_seen_33 o_stack_33 o_seen_n o_stack_n s_63 = some y33 → V κ false l D cA rmX7_flood cX7_flood 7 RX7 (none) 0 0 63 [(3, .int (o_stack_16 (x2_16 + (-1)).toNatClampNeg)), (0, .ref h_o), (1, .int a1), (2, .int x2_33), (4, .int x4_33)] [.int s_63, .int ((o_stack_16 (x2_16 + (-1)).toNatClampNeg) - (o_stack_16 (x2_16 + (-1)).toNatClampNeg) / 20 * 20)] (wsX7_flood cA h_o h_o_stack h_o_seen o_thrown o_side o_heights o_targets o_kept o_radius o_feeds o_text o_size o_at o_fault o_program o_draft o_statements o_hasProgram o_hasRun o_where o_tool o_about o_begin o_gap o_stack_n o_stack_33 o_seen_n o_seen_33) := by
                intro s_63 hf0_16_33
                rw [JX7_flood_63] at hf0_16_33
                refine z_iadd (pc := 63) dX7_flood_63 ?_
                refine z_istore (pc := 64) (lv' := [(5, .int (((o_stack_16 (x2_16 + (-1)).toNatClampNeg) - (o_stack_16 (x2_16 + (-1)).toNatClampNeg) / 20 * 20) + s_63)), (3, .int (o_stack_16 (x2_16 + (-1)).toNatClampNeg)), (0, .ref h_o), (1, .int a1), (2, .int x2_33), (4, .int x4_33)]) dX7_flood_64 (by decide) rfl ?_
                refine z_iload_n 1 (pc := 66) dX7_flood_66 rfl ?_
                refine z_bipush (pc := 67) (v := 20) dX7_flood_67 (by decide) ?_
                refine z_idiv (pc := 69) dX7_flood_69 hf0_16_33 (fun hf0_16_33 => ?_)
                refine z_iload 5 (pc := 70) dX7_flood_70 rfl ?_
                refine z_iconst (pc := 72) (v := 2) dX7_flood_72 (by decide) ?_
                have j91 : ∀ (s_91 : Int32), JX7_flood_91 (fun b0 b1 b2 b3 => LX7_flood_33 N (o_stack_16 (x2_16 + (-1)).toNatClampNeg) o_stack_16 x2_16 o_side o_seen_n o_stack_n n33 b0 b1 b2 b3) N (((o_stack_16 (x2_16 + (-1)).toNatClampNeg) - (o_stack_16 (x2_16 + (-1)).toNatClampNeg) / 20 * 20) + s_63) ((o_stack_16 (x2_16 + (-1)).toNatClampNeg) / 20) o_side x2_33 x4_33 o_seen_33 o_stack_33 o_seen_n o_stack_n s_91 = some y33 → V κ false l D cA rmX7_flood cX7_flood 7 RX7 (none) 0 0 91 [(5, .int (((o_stack_16 (x2_16 + (-1)).toNatClampNeg) - (o_stack_16 (x2_16 + (-1)).toNatClampNeg) / 20 * 20) + s_63)), (3, .int (o_stack_16 (x2_16 + (-1)).toNatClampNeg)), (0, .ref h_o), (1, .int a1), (2, .int x2_33), (4, .int x4_33)] [.int s_91, .int ((o_stack_16 (x2_16 + (-1)).toNatClampNeg) / 20)] (wsX7_flood cA h_o h_o_stack h_o_seen o_thrown o_side o_heights o_targets o_kept o_radius o_feeds o_text o_size o_at o_fault o_program o_draft o_statements o_hasProgram o_hasRun o_where o_tool o_about o_begin o_gap o_stack_n o_stack_33 o_seen_n o_seen_33) := by
                  intro s_91 hf0_16_33
                  rw [JX7_flood_91] at hf0_16_33
                  refine z_iadd (pc := 91) dX7_flood_91 ?_
                  refine z_istore (pc := 92) (lv' := [(6, .int (((o_stack_16 (x2_16 + (-1)).toNatClampNeg) / 20) + s_91)), (5, .int (((o_stack_16 (x2_16 + (-1)).toNatClampNeg) - (o_stack_16 (x2_16 + (-1)).toNatClampNeg) / 20 * 20) + s_63)), (3, .int (o_stack_16 (x2_16 + (-1)).toNatClampNeg)), (0, .ref h_o), (1, .int a1), (2, .int x2_33), (4, .int x4_33)]) dX7_flood_92 (by decide) rfl ?_
                  refine z_aload_n 3 (pc := 94) dX7_flood_94 rfl ?_
                  refine z_iload 1 (pc := 95) dX7_flood_95 rfl ?_
                  refine z_iload 0 (pc := 97) dX7_flood_97 rfl ?_
                  obtain ⟨r7, er7, hf0_16_33⟩ := bp hf0_16_33
                  refine z_calliV (pc := 99) (As := [.int (((o_stack_16 (x2_16 + (-1)).toNatClampNeg) - (o_stack_16 (x2_16 + (-1)).toNatClampNeg) / 20 * 20) + s_63), .int (((o_stack_16 (x2_16 + (-1)).toNatClampNeg) / 20) + s_91)]) (rest := []) (ws' := (wsX7_flood cA h_o h_o_stack h_o_seen o_thrown o_side o_heights o_targets o_kept o_radius o_feeds o_text o_size o_at o_fault o_program o_draft o_statements o_hasProgram o_hasRun o_where o_tool o_about o_begin o_gap o_stack_n o_stack_33 o_seen_n o_seen_33)) (kX7_isCell l D cA h_o o_thrown o_side o_heights o_targets o_kept o_radius o_feeds o_text o_size o_at o_fault o_program o_draft o_statements o_hasProgram o_hasRun o_where o_tool o_about (.ref h_o_stack) (.ref h_o_seen) o_begin o_gap (((o_stack_16 (x2_16 + (-1)).toNatClampNeg) - (o_stack_16 (x2_16 + (-1)).toNatClampNeg) / 20 * 20) + s_63) (((o_stack_16 (x2_16 + (-1)).toNatClampNeg) / 20) + s_91) N r7 er7) ivX7_64 ⟨rfl, rfl⟩ ⟨by decide, by decide⟩ rfl ⟨Nat.zero_le _, Nat.zero_le _⟩ rfl rfl [0] rfl (by decide) rfl rfl rfl (Nat.le_of_ble_eq_true rfl) dX7_flood_99 ?_
                  refine z_if_eq (pc := 102) (tgt := 152) dX7_flood_102 (by decide) hf0_16_33 (fun hf0_16_33 => ?_) (fun hf0_16_33 => ?_)
                  · refine z_iinc 6 (pc := 152) (v := x4_33 + 1) (lv' := [(4, .int (x4_33 + 1)), (6, .int (((o_stack_16 (x2_16 + (-1)).toNatClampNeg) / 20) + s_91)), (5, .int (((o_stack_16 (x2_16 + (-1)).toNatClampNeg) - (o_stack_16 (x2_16 + (-1)).toNatClampNeg) / 20 * 20) + s_63)), (3, .int (o_stack_16 (x2_16 + (-1)).toNatClampNeg)), (0, .ref h_o), (1, .int a1), (2, .int x2_33)]) dX7_flood_152 rfl rfl (by decide) rfl ?_
                    refine z_goto (pc := 155) (tgt := 33) dX7_flood_155 (by decide) ?_
                    exact z_lv [3, 4, 5, 6, 0] rfl (ih33 x2_33 (x4_33 + 1) o_seen_33 o_stack_33 hf0_16_33)
                  · refine z_aload_n 3 (pc := 105) dX7_flood_105 rfl ?_
                    refine z_get 0 20 (pc := 106) (v := .ref h_o_seen) rfl rfl inX7 (by decide) flX7_44 rfl dX7_flood_106 ?_
                    refine z_bipush (pc := 109) (v := 20) dX7_flood_109 (by decide) ?_
                    refine z_iload 0 (pc := 111) dX7_flood_111 rfl ?_
                    refine z_imul (pc := 113) dX7_flood_113 ?_
                    refine z_iload 1 (pc := 114) dX7_flood_114 rfl ?_
                    refine z_iadd (pc := 116) dX7_flood_116 ?_
                    refine z_zaload 2 1 (pc := 117) rfl rfl dX7_flood_117 hf0_16_33 (fun hf0_16_33 => ?_)
                    refine z_if_ne (pc := 118) (tgt := 152) dX7_flood_118 (by decide) hf0_16_33 (fun hf0_16_33 => ?_) (fun hf0_16_33 => ?_)
                    · refine z_iinc 6 (pc := 152) (v := x4_33 + 1) (lv' := [(4, .int (x4_33 + 1)), (6, .int (((o_stack_16 (x2_16 + (-1)).toNatClampNeg) / 20) + s_91)), (5, .int (((o_stack_16 (x2_16 + (-1)).toNatClampNeg) - (o_stack_16 (x2_16 + (-1)).toNatClampNeg) / 20 * 20) + s_63)), (3, .int (o_stack_16 (x2_16 + (-1)).toNatClampNeg)), (0, .ref h_o), (1, .int a1), (2, .int x2_33)]) dX7_flood_152 rfl rfl (by decide) rfl ?_
                      refine z_goto (pc := 155) (tgt := 33) dX7_flood_155 (by decide) ?_
                      exact z_lv [3, 4, 5, 6, 0] rfl (ih33 x2_33 (x4_33 + 1) o_seen_33 o_stack_33 hf0_16_33)
                    · refine z_aload_n 3 (pc := 121) dX7_flood_121 rfl ?_
                      refine z_get 0 20 (pc := 122) (v := .ref h_o_seen) rfl rfl inX7 (by decide) flX7_44 rfl dX7_flood_122 ?_
                      refine z_bipush (pc := 125) (v := 20) dX7_flood_125 (by decide) ?_
                      refine z_iload 0 (pc := 127) dX7_flood_127 rfl ?_
                      refine z_imul (pc := 129) dX7_flood_129 ?_
                      refine z_iload 1 (pc := 130) dX7_flood_130 rfl ?_
                      refine z_iadd (pc := 132) dX7_flood_132 ?_
                      refine z_iconst (pc := 133) (v := 1) dX7_flood_133 (by decide) ?_
                      refine z_zastore 2 1 (pc := 134) (ws' := (wsX7_flood cA h_o h_o_stack h_o_seen o_thrown o_side o_heights o_targets o_kept o_radius o_feeds o_text o_size o_at o_fault o_program o_draft o_statements o_hasProgram o_hasRun o_where o_tool o_about o_begin o_gap o_stack_n o_stack_33 o_seen_n (upd o_seen_33 ((20 * (((o_stack_16 (x2_16 + (-1)).toNatClampNeg) / 20) + s_91)) + (((o_stack_16 (x2_16 + (-1)).toNatClampNeg) - (o_stack_16 (x2_16 + (-1)).toNatClampNeg) / 20 * 20) + s_63)).toNatClampNeg (vp_nar .boolean 1)))) rfl rfl dX7_flood_134 rfl hf0_16_33 (fun hf0_16_33 => ?_)
                      refine z_aload_n 3 (pc := 135) dX7_flood_135 rfl ?_
                      refine z_get 0 19 (pc := 136) (v := .ref h_o_stack) rfl rfl inX7 (by decide) flX7_41 rfl dX7_flood_136 ?_
                      refine z_iload_n 5 (pc := 139) dX7_flood_139 rfl ?_
                      refine z_bipush (pc := 140) (v := 20) dX7_flood_140 (by decide) ?_
                      refine z_iload 0 (pc := 142) dX7_flood_142 rfl ?_
                      refine z_imul (pc := 144) dX7_flood_144 ?_
                      refine z_iload 1 (pc := 145) dX7_flood_145 rfl ?_
                      refine z_iadd (pc := 147) dX7_flood_147 ?_
                      refine z_iastore 1 0 (pc := 148) (ws' := (wsX7_flood cA h_o h_o_stack h_o_seen o_thrown o_side o_heights o_targets o_kept o_radius o_feeds o_text o_size o_at o_fault o_program o_draft o_statements o_hasProgram o_hasRun o_where o_tool o_about o_begin o_gap o_stack_n (upd o_stack_33 x2_33.toNatClampNeg ((20 * (((o_stack_16 (x2_16 + (-1)).toNatClampNeg) / 20) + s_91)) + (((o_stack_16 (x2_16 + (-1)).toNatClampNeg) - (o_stack_16 (x2_16 + (-1)).toNatClampNeg) / 20 * 20) + s_63))) o_seen_n (upd o_seen_33 ((20 * (((o_stack_16 (x2_16 + (-1)).toNatClampNeg) / 20) + s_91)) + (((o_stack_16 (x2_16 + (-1)).toNatClampNeg) - (o_stack_16 (x2_16 + (-1)).toNatClampNeg) / 20 * 20) + s_63)).toNatClampNeg (vp_nar .boolean 1)))) rfl rfl dX7_flood_148 rfl hf0_16_33 (fun hf0_16_33 => ?_)
                      refine z_iinc 5 (pc := 149) (v := x2_33 + 1) (lv' := [(2, .int (x2_33 + 1)), (6, .int (((o_stack_16 (x2_16 + (-1)).toNatClampNeg) / 20) + s_91)), (5, .int (((o_stack_16 (x2_16 + (-1)).toNatClampNeg) - (o_stack_16 (x2_16 + (-1)).toNatClampNeg) / 20 * 20) + s_63)), (3, .int (o_stack_16 (x2_16 + (-1)).toNatClampNeg)), (0, .ref h_o), (1, .int a1), (4, .int x4_33)]) dX7_flood_149 rfl rfl (by decide) rfl ?_
                      refine z_iinc 6 (pc := 152) (v := x4_33 + 1) (lv' := [(4, .int (x4_33 + 1)), (2, .int (x2_33 + 1)), (6, .int (((o_stack_16 (x2_16 + (-1)).toNatClampNeg) / 20) + s_91)), (5, .int (((o_stack_16 (x2_16 + (-1)).toNatClampNeg) - (o_stack_16 (x2_16 + (-1)).toNatClampNeg) / 20 * 20) + s_63)), (3, .int (o_stack_16 (x2_16 + (-1)).toNatClampNeg)), (0, .ref h_o), (1, .int a1)]) dX7_flood_152 rfl rfl (by decide) rfl ?_
                      refine z_goto (pc := 155) (tgt := 33) dX7_flood_155 (by decide) ?_
                      exact z_lv [4, 5, 6, 1, 0] rfl (ih33 (x2_33 + 1) (x4_33 + 1) (upd o_seen_33 ((20 * (((o_stack_16 (x2_16 + (-1)).toNatClampNeg) / 20) + s_91)) + (((o_stack_16 (x2_16 + (-1)).toNatClampNeg) - (o_stack_16 (x2_16 + (-1)).toNatClampNeg) / 20 * 20) + s_63)).toNatClampNeg (vp_nar .boolean 1)) (upd o_stack_33 x2_33.toNatClampNeg ((20 * (((o_stack_16 (x2_16 + (-1)).toNatClampNeg) / 20) + s_91)) + (((o_stack_16 (x2_16 + (-1)).toNatClampNeg) - (o_stack_16 (x2_16 + (-1)).toNatClampNeg) / 20 * 20) + s_63))) hf0_16_33)
                refine z_icmp_ne (pc := 73) (tgt := 80) dX7_flood_73 (by decide) hf0_16_33 (fun hf0_16_33 => ?_) (fun hf0_16_33 => ?_)
                · refine z_iload 5 (pc := 80) dX7_flood_80 rfl ?_
                  refine z_iconst (pc := 82) (v := 3) dX7_flood_82 (by decide) ?_
                  refine z_icmp_ne (pc := 83) (tgt := 90) dX7_flood_83 (by decide) hf0_16_33 (fun hf0_16_33 => ?_) (fun hf0_16_33 => ?_)
                  · refine z_iconst (pc := 90) (v := 0) dX7_flood_90 (by decide) ?_
                    exact z_lv [0, 1, 2, 3, 4, 5] rfl (j91 0 hf0_16_33)
                  · refine z_iconst (pc := 86) (v := (-1)) dX7_flood_86 (by decide) ?_
                    refine z_goto (pc := 87) (tgt := 91) dX7_flood_87 (by decide) ?_
                    exact z_lv [0, 1, 2, 3, 4, 5] rfl (j91 (-1) hf0_16_33)
                · refine z_iconst (pc := 76) (v := 1) dX7_flood_76 (by decide) ?_
                  refine z_goto (pc := 77) (tgt := 91) dX7_flood_77 (by decide) ?_
                  exact z_lv [0, 1, 2, 3, 4, 5] rfl (j91 1 hf0_16_33)
              refine z_if_ne (pc := 45) (tgt := 52) dX7_flood_45 (by decide) hf0_16_33 (fun hf0_16_33 => ?_) (fun hf0_16_33 => ?_)
              · refine z_iload 4 (pc := 52) dX7_flood_52 rfl ?_
                refine z_iconst (pc := 54) (v := 1) dX7_flood_54 (by decide) ?_
                refine z_icmp_ne (pc := 55) (tgt := 62) dX7_flood_55 (by decide) hf0_16_33 (fun hf0_16_33 => ?_) (fun hf0_16_33 => ?_)
                · refine z_iconst (pc := 62) (v := 0) dX7_flood_62 (by decide) ?_
                  exact z_lv [0, 1, 2, 3, 4] rfl (j63 0 hf0_16_33)
                · refine z_iconst (pc := 58) (v := (-1)) dX7_flood_58 (by decide) ?_
                  refine z_goto (pc := 59) (tgt := 63) dX7_flood_59 (by decide) ?_
                  exact z_lv [0, 1, 2, 3, 4] rfl (j63 (-1) hf0_16_33)
              · refine z_iconst (pc := 48) (v := 1) dX7_flood_48 (by decide) ?_
                refine z_goto (pc := 49) (tgt := 63) dX7_flood_49 (by decide) ?_
                exact z_lv [0, 1, 2, 3, 4] rfl (j63 1 hf0_16_33)
        exact z_lv [1, 3, 4, 2, 0] rfl (lp33 N (x2_16 + (-1)) 0 o_seen_16 o_stack_16 hf0_16_33)
  exact z_lv [1, 2, 0] rfl (lp16 N 1 (upd o_seen a1.toNatClampNeg (vp_nar .boolean 1)) (upd o_stack (0 : Int32).toNatClampNeg a1) hf0_16)

abbrev RX7_pieces : Type := Int32 × Int32 × (Nat → Int32) × (Nat → Int32)
abbrev rmX7_pieces : Room := { frames := 3, cells := 0, slots := 0, locals := 70 }
abbrev wsX7_pieces (cA : Nat → ClassId) (h_o : Nat) (h_o_seen : Nat) (h_o_heights : Nat) (h_o_stack : Nat) (o_thrown : Int32) (o_side : Int32) (o_targets : Value) (o_kept : Value) (o_radius : Value) (o_feeds : Value) (o_text : Value) (o_size : Int32) (o_at : Int32) (o_fault : Int32) (o_program : Value) (o_draft : Value) (o_statements : Int32) (o_hasProgram : Int32) (o_hasRun : Int32) (o_where : Value) (o_tool : Int32) (o_about : Value) (o_begin : Value) (o_gap : Value) (o_seen_n : Nat) (o_seen : Nat → Int32) (o_heights_n : Nat) (o_heights : Nat → Int32) (o_stack_n : Nat) (o_stack : Nat → Int32) : va_W := [(h_o, .inr (7, [.int o_thrown, .int o_side, .ref h_o_heights, o_targets, o_kept, o_radius, o_feeds, o_text, .int o_size, .int o_at, .int o_fault, o_program, o_draft, .int o_statements, .int o_hasProgram, .int o_hasRun, o_where, .int o_tool, o_about, .ref h_o_stack, .ref h_o_seen, o_begin, o_gap])), (h_o_seen, .inl (cA 1, o_seen_n, .inl o_seen)), (h_o_heights, .inl (cA 0, o_heights_n, .inl o_heights)), (h_o_stack, .inl (cA 0, o_stack_n, .inl o_stack))]
def LX7_pieces_59 (o_seen_n : Nat) (N : Nat) (o_side : Int32) (o_stack_n : Nat) : Nat → Int32 → Int32 → (Nat → Int32) → (Nat → Int32) → Option (Int32 × Int32 × (Nat → Int32) × (Nat → Int32))
  | 0, _, _, _, _ => none
  | n + 1, x1_59, x2_59, o_seen_59, o_stack_59 => (if 400 ≤ x2_59 then some (x1_59, x2_59, o_seen_59, o_stack_59) else (if x2_59 < 0 ∨ o_seen_n ≤ x2_59.toNatClampNeg then none else (if (o_seen_59 x2_59.toNatClampNeg) = 0 then ((fX7_flood N x2_59 o_side o_stack_n o_stack_59 o_seen_n o_seen_59).bind fun r3 => LX7_pieces_59 o_seen_n N o_side o_stack_n n (x1_59 + 1) (x2_59 + 1) r3.2 r3.1) else LX7_pieces_59 o_seen_n N o_side o_stack_n n x1_59 (x2_59 + 1) o_seen_59 o_stack_59)))
def LX7_pieces_9 (N : Nat) (o_side : Int32) (o_seen_n : Nat) (o_heights_n : Nat) (o_heights : Nat → Int32) : Nat → Int32 → (Nat → Int32) → Option (Int32 × (Nat → Int32))
  | 0, _, _ => none
  | n + 1, x2_9, o_seen_9 => (if 400 ≤ x2_9 then some (x2_9, o_seen_9) else (if 20 = 0 then none else (if 20 = 0 then none else ((fX7_isCell N (x2_9 - x2_9 / 20 * 20) (x2_9 / 20) o_side).bind fun r4 => (if r4 = 0 then (if x2_9 < 0 ∨ o_seen_n ≤ x2_9.toNatClampNeg then none else LX7_pieces_9 N o_side o_seen_n o_heights_n o_heights n (x2_9 + 1) (upd o_seen_9 x2_9.toNatClampNeg (vp_nar .boolean 1))) else (if x2_9 < 0 ∨ o_heights_n ≤ x2_9.toNatClampNeg then none else (if (o_heights x2_9.toNatClampNeg) = 0 then (if x2_9 < 0 ∨ o_seen_n ≤ x2_9.toNatClampNeg then none else LX7_pieces_9 N o_side o_seen_n o_heights_n o_heights n (x2_9 + 1) (upd o_seen_9 x2_9.toNatClampNeg (vp_nar .boolean 1))) else (if x2_9 < 0 ∨ o_seen_n ≤ x2_9.toNatClampNeg then none else LX7_pieces_9 N o_side o_seen_n o_heights_n o_heights n (x2_9 + 1) (upd o_seen_9 x2_9.toNatClampNeg (vp_nar .boolean 0))))))))))
def fX7_pieces (N : Nat)  (o_thrown : Int32) (o_side : Int32) (o_seen_n : Nat) (o_seen : Nat → Int32) (o_heights_n : Nat) (o_heights : Nat → Int32) (o_stack_n : Nat) (o_stack : Nat → Int32) : Option RX7_pieces :=
  ((LX7_pieces_9 N o_side o_seen_n o_heights_n o_heights N 0 o_seen).bind fun r1 => ((LX7_pieces_59 o_seen_n N o_side o_stack_n N 0 0 r1.2 o_stack).bind fun r2 => some (r2.1, 0, r2.2.2.1, r2.2.2.2)))
set_option maxHeartbeats 4000000 in
set_option maxRecDepth 100000 in
theorem kX7_pieces (l : Launch) (D : va_G) (cA : Nat → ClassId) (h_o : Nat) (h_o_seen : Nat) (h_o_heights : Nat) (h_o_stack : Nat) (o_thrown : Int32) (o_side : Int32) (o_targets : Value) (o_kept : Value) (o_radius : Value) (o_feeds : Value) (o_text : Value) (o_size : Int32) (o_at : Int32) (o_fault : Int32) (o_program : Value) (o_draft : Value) (o_statements : Int32) (o_hasProgram : Int32) (o_hasRun : Int32) (o_where : Value) (o_tool : Int32) (o_about : Value) (o_begin : Value) (o_gap : Value) (o_seen_n : Nat) (o_seen : Nat → Int32) (o_heights_n : Nat) (o_heights : Nat → Int32) (o_stack_n : Nat) (o_stack : Nat → Int32)  (N : Nat) (res : RX7_pieces) (hf0 : fX7_pieces N o_thrown o_side o_seen_n o_seen o_heights_n o_heights o_stack_n o_stack = some res) : CtI l yX7_pieces (Cond.code yX7_pieces cX7_pieces 3 (some .int) :: tblG) rmX7_pieces D cA (wsX7_pieces cA h_o h_o_seen h_o_heights h_o_stack o_thrown o_side o_targets o_kept o_radius o_feeds o_text o_size o_at o_fault o_program o_draft o_statements o_hasProgram o_hasRun o_where o_tool o_about o_begin o_gap o_seen_n o_seen o_heights_n o_heights o_stack_n o_stack) [.ref h_o] res.1 (wsX7_pieces cA h_o h_o_seen h_o_heights h_o_stack res.2.1 o_side o_targets o_kept o_radius o_feeds o_text o_size o_at o_fault o_program o_draft o_statements o_hasProgram o_hasRun o_where o_tool o_about o_begin o_gap o_seen_n res.2.2.1 o_heights_n o_heights o_stack_n res.2.2.2) := by
  refine CtI.start (lv := [(0, .ref h_o)]) (by decide) (Nat.le_of_ble_eq_true rfl) rfl (fun κ hE => ?_)
  rw [fX7_pieces] at hf0
  refine z_aload_n 0 (pc := 0) dX7_pieces_0 rfl ?_
  refine z_iconst (pc := 1) (v := 0) dX7_pieces_1 (by decide) ?_
  refine z_put 0 0 (pc := 2) (ws' := (wsX7_pieces cA h_o h_o_seen h_o_heights h_o_stack 0 o_side o_targets o_kept o_radius o_feeds o_text o_size o_at o_fault o_program o_draft o_statements o_hasProgram o_hasRun o_where o_tool o_about o_begin o_gap o_seen_n o_seen o_heights_n o_heights o_stack_n o_stack)) rfl rfl inX7 tyX7 tyX7_ok nmX7 (by decide) flX7_57 rfl rfl rfl rfl (Nat.le_of_ble_eq_true rfl) dX7_pieces_2 rfl ?_
  refine z_iconst (pc := 5) (v := 0) dX7_pieces_5 (by decide) ?_
  refine z_istore_n (pc := 6) (lv' := [(1, .int 0), (0, .ref h_o)]) dX7_pieces_6 (by decide) rfl ?_
  refine z_iconst (pc := 7) (v := 0) dX7_pieces_7 (by decide) ?_
  refine z_istore_n (pc := 8) (lv' := [(2, .int 0), (1, .int 0), (0, .ref h_o)]) dX7_pieces_8 (by decide) rfl ?_
  obtain ⟨y9, hf0_9, hf0⟩ := bp hf0
  have lp9 : ∀ (n : Nat) (x2_9 : Int32) (o_seen_9 : Nat → Int32), LX7_pieces_9 N o_side o_seen_n o_heights_n o_heights n x2_9 o_seen_9 = some y9 → V κ false l D cA rmX7_pieces cX7_pieces 3 RX7 (some .int) 0 0 9 [(1, .int 0), (0, .ref h_o), (2, .int x2_9)] [] (wsX7_pieces cA h_o h_o_seen h_o_heights h_o_stack 0 o_side o_targets o_kept o_radius o_feeds o_text o_size o_at o_fault o_program o_draft o_statements o_hasProgram o_hasRun o_where o_tool o_about o_begin o_gap o_seen_n o_seen_9 o_heights_n o_heights o_stack_n o_stack) := by
    intro n
    induction n with
    | zero => intro x2_9 o_seen_9 hf0_9; rw [LX7_pieces_9] at hf0_9; cases hf0_9
    | succ n9 ih9 =>
      intro x2_9 o_seen_9 hf0_9
      rw [LX7_pieces_9] at hf0_9
      refine z_iload_n 2 (pc := 9) dX7_pieces_9 rfl ?_
      refine z_sipush (pc := 10) (v := 400) dX7_pieces_10 (by decide) ?_
      refine z_icmp_ge (pc := 13) (tgt := 57) dX7_pieces_13 (by decide) hf0_9 (fun hf0_9 => ?_) (fun hf0_9 => ?_)
      · obtain rfl := Option.some.inj hf0_9
        refine z_iconst (pc := 57) (v := 0) dX7_pieces_57 (by decide) ?_
        refine z_istore_n (pc := 58) (lv' := [(2, .int 0), (1, .int 0), (0, .ref h_o)]) dX7_pieces_58 (by decide) rfl ?_
        obtain ⟨y59, hf0_59, hf0⟩ := bp hf0
        have lp59 : ∀ (n : Nat) (x1_59 : Int32) (x2_59 : Int32) (o_seen_59 : Nat → Int32) (o_stack_59 : Nat → Int32), LX7_pieces_59 o_seen_n N o_side o_stack_n n x1_59 x2_59 o_seen_59 o_stack_59 = some y59 → V κ false l D cA rmX7_pieces cX7_pieces 3 RX7 (some .int) 0 0 59 [(0, .ref h_o), (1, .int x1_59), (2, .int x2_59)] [] (wsX7_pieces cA h_o h_o_seen h_o_heights h_o_stack 0 o_side o_targets o_kept o_radius o_feeds o_text o_size o_at o_fault o_program o_draft o_statements o_hasProgram o_hasRun o_where o_tool o_about o_begin o_gap o_seen_n o_seen_59 o_heights_n o_heights o_stack_n o_stack_59) := by
          intro n
          induction n with
          | zero => intro x1_59 x2_59 o_seen_59 o_stack_59 hf0_59; rw [LX7_pieces_59] at hf0_59; cases hf0_59
          | succ n59 ih59 =>
            intro x1_59 x2_59 o_seen_59 o_stack_59 hf0_59
            rw [LX7_pieces_59] at hf0_59
            refine z_iload_n 2 (pc := 59) dX7_pieces_59 rfl ?_
            refine z_sipush (pc := 60) (v := 400) dX7_pieces_60 (by decide) ?_
            refine z_icmp_ge (pc := 63) (tgt := 89) dX7_pieces_63 (by decide) hf0_59 (fun hf0_59 => ?_) (fun hf0_59 => ?_)
            · obtain rfl := Option.some.inj hf0_59
              refine z_iload_n 1 (pc := 89) dX7_pieces_89 rfl ?_
              obtain rfl := Option.some.inj hf0
              exact z_iret hE dX7_pieces_90
            · refine z_aload_n 0 (pc := 66) dX7_pieces_66 rfl ?_
              refine z_get 0 20 (pc := 67) (v := .ref h_o_seen) rfl rfl inX7 (by decide) flX7_44 rfl dX7_pieces_67 ?_
              refine z_iload_n 2 (pc := 70) dX7_pieces_70 rfl ?_
              refine z_zaload 1 1 (pc := 71) rfl rfl dX7_pieces_71 hf0_59 (fun hf0_59 => ?_)
              refine z_if_ne (pc := 72) (tgt := 83) dX7_pieces_72 (by decide) hf0_59 (fun hf0_59 => ?_) (fun hf0_59 => ?_)
              · refine z_iinc 2 (pc := 83) (v := x2_59 + 1) (lv' := [(2, .int (x2_59 + 1)), (0, .ref h_o), (1, .int x1_59)]) dX7_pieces_83 rfl rfl (by decide) rfl ?_
                refine z_goto (pc := 86) (tgt := 59) dX7_pieces_86 (by decide) ?_
                exact z_lv [1, 2, 0] rfl (ih59 x1_59 (x2_59 + 1) o_seen_59 o_stack_59 hf0_59)
              · refine z_iinc 1 (pc := 75) (v := x1_59 + 1) (lv' := [(1, .int (x1_59 + 1)), (0, .ref h_o), (2, .int x2_59)]) dX7_pieces_75 rfl rfl (by decide) rfl ?_
                refine z_aload_n 1 (pc := 78) dX7_pieces_78 rfl ?_
                refine z_iload_n 2 (pc := 79) dX7_pieces_79 rfl ?_
                obtain ⟨r3, er3, hf0_59⟩ := bp hf0_59
                refine z_callvV (pc := 80) (As := [.int x2_59]) (rest := []) (ws' := (wsX7_pieces cA h_o h_o_seen h_o_heights h_o_stack 0 o_side o_targets o_kept o_radius o_feeds o_text o_size o_at o_fault o_program o_draft o_statements o_hasProgram o_hasRun o_where o_tool o_about o_begin o_gap o_seen_n r3.2 o_heights_n o_heights o_stack_n r3.1)) (kX7_flood l D cA h_o h_o_stack h_o_seen 0 o_side (.ref h_o_heights) o_targets o_kept o_radius o_feeds o_text o_size o_at o_fault o_program o_draft o_statements o_hasProgram o_hasRun o_where o_tool o_about o_begin o_gap o_stack_n o_stack_59 o_seen_n o_seen_59 x2_59 N r3 er3) ivX7_137 ⟨rfl, rfl⟩ ⟨by decide, by decide⟩ rfl ⟨Nat.zero_le _, Nat.zero_le _⟩ rfl rfl [0, 3, 1] rfl (by decide) rfl rfl rfl (Nat.le_of_ble_eq_true rfl) dX7_pieces_80 ?_
                refine z_iinc 2 (pc := 83) (v := x2_59 + 1) (lv' := [(2, .int (x2_59 + 1)), (1, .int (x1_59 + 1)), (0, .ref h_o)]) dX7_pieces_83 rfl rfl (by decide) rfl ?_
                refine z_goto (pc := 86) (tgt := 59) dX7_pieces_86 (by decide) ?_
                exact z_lv [2, 1, 0] rfl (ih59 (x1_59 + 1) (x2_59 + 1) r3.2 r3.1 hf0_59)
        exact z_lv [2, 1, 0] rfl (lp59 N 0 0 o_seen_9 o_stack hf0_59)
      · refine z_aload_n 1 (pc := 16) dX7_pieces_16 rfl ?_
        refine z_get 0 20 (pc := 17) (v := .ref h_o_seen) rfl rfl inX7 (by decide) flX7_44 rfl dX7_pieces_17 ?_
        refine z_iload_n 2 (pc := 20) dX7_pieces_20 rfl ?_
        refine z_aload_n 1 (pc := 21) dX7_pieces_21 rfl ?_
        refine z_iload_n 2 (pc := 22) dX7_pieces_22 rfl ?_
        refine z_bipush (pc := 23) (v := 20) dX7_pieces_23 (by decide) ?_
        refine z_irem (pc := 25) dX7_pieces_25 hf0_9 (fun hf0_9 => ?_)
        refine z_iload_n 2 (pc := 26) dX7_pieces_26 rfl ?_
        refine z_bipush (pc := 27) (v := 20) dX7_pieces_27 (by decide) ?_
        refine z_idiv (pc := 29) dX7_pieces_29 hf0_9 (fun hf0_9 => ?_)
        obtain ⟨r4, er4, hf0_9⟩ := bp hf0_9
        refine z_calliV (pc := 30) (As := [.int (x2_9 - x2_9 / 20 * 20), .int (x2_9 / 20)]) (rest := [.int x2_9, .ref h_o_seen]) (ws' := (wsX7_pieces cA h_o h_o_seen h_o_heights h_o_stack 0 o_side o_targets o_kept o_radius o_feeds o_text o_size o_at o_fault o_program o_draft o_statements o_hasProgram o_hasRun o_where o_tool o_about o_begin o_gap o_seen_n o_seen_9 o_heights_n o_heights o_stack_n o_stack)) (kX7_isCell l D cA h_o 0 o_side (.ref h_o_heights) o_targets o_kept o_radius o_feeds o_text o_size o_at o_fault o_program o_draft o_statements o_hasProgram o_hasRun o_where o_tool o_about (.ref h_o_stack) (.ref h_o_seen) o_begin o_gap (x2_9 - x2_9 / 20 * 20) (x2_9 / 20) N r4 er4) ivX7_64 ⟨rfl, rfl⟩ ⟨by decide, by decide⟩ rfl ⟨Nat.zero_le _, Nat.zero_le _⟩ rfl rfl [0] rfl (by decide) rfl rfl rfl (Nat.le_of_ble_eq_true rfl) dX7_pieces_30 ?_
        refine z_if_eq (pc := 33) (tgt := 45) dX7_pieces_33 (by decide) hf0_9 (fun hf0_9 => ?_) (fun hf0_9 => ?_)
        · refine z_iconst (pc := 45) (v := 1) dX7_pieces_45 (by decide) ?_
          refine z_goto (pc := 46) (tgt := 50) dX7_pieces_46 (by decide) ?_
          refine z_zastore 1 1 (pc := 50) (ws' := (wsX7_pieces cA h_o h_o_seen h_o_heights h_o_stack 0 o_side o_targets o_kept o_radius o_feeds o_text o_size o_at o_fault o_program o_draft o_statements o_hasProgram o_hasRun o_where o_tool o_about o_begin o_gap o_seen_n (upd o_seen_9 x2_9.toNatClampNeg (vp_nar .boolean 1)) o_heights_n o_heights o_stack_n o_stack)) rfl rfl dX7_pieces_50 rfl hf0_9 (fun hf0_9 => ?_)
          refine z_iinc 2 (pc := 51) (v := x2_9 + 1) (lv' := [(2, .int (x2_9 + 1)), (1, .int 0), (0, .ref h_o)]) dX7_pieces_51 rfl rfl (by decide) rfl ?_
          refine z_goto (pc := 54) (tgt := 9) dX7_pieces_54 (by decide) ?_
          exact z_lv [1, 2, 0] rfl (ih9 (x2_9 + 1) (upd o_seen_9 x2_9.toNatClampNeg (vp_nar .boolean 1)) hf0_9)
        · refine z_aload_n 1 (pc := 36) dX7_pieces_36 rfl ?_
          refine z_get 0 2 (pc := 37) (v := .ref h_o_heights) rfl rfl inX7 (by decide) flX7_7 rfl dX7_pieces_37 ?_
          refine z_iload_n 2 (pc := 40) dX7_pieces_40 rfl ?_
          refine z_iaload 2 0 (pc := 41) rfl rfl dX7_pieces_41 hf0_9 (fun hf0_9 => ?_)
          refine z_if_ne (pc := 42) (tgt := 49) dX7_pieces_42 (by decide) hf0_9 (fun hf0_9 => ?_) (fun hf0_9 => ?_)
          · refine z_iconst (pc := 49) (v := 0) dX7_pieces_49 (by decide) ?_
            refine z_zastore 1 1 (pc := 50) (ws' := (wsX7_pieces cA h_o h_o_seen h_o_heights h_o_stack 0 o_side o_targets o_kept o_radius o_feeds o_text o_size o_at o_fault o_program o_draft o_statements o_hasProgram o_hasRun o_where o_tool o_about o_begin o_gap o_seen_n (upd o_seen_9 x2_9.toNatClampNeg (vp_nar .boolean 0)) o_heights_n o_heights o_stack_n o_stack)) rfl rfl dX7_pieces_50 rfl hf0_9 (fun hf0_9 => ?_)
            refine z_iinc 2 (pc := 51) (v := x2_9 + 1) (lv' := [(2, .int (x2_9 + 1)), (1, .int 0), (0, .ref h_o)]) dX7_pieces_51 rfl rfl (by decide) rfl ?_
            refine z_goto (pc := 54) (tgt := 9) dX7_pieces_54 (by decide) ?_
            exact z_lv [1, 2, 0] rfl (ih9 (x2_9 + 1) (upd o_seen_9 x2_9.toNatClampNeg (vp_nar .boolean 0)) hf0_9)
          · refine z_iconst (pc := 45) (v := 1) dX7_pieces_45 (by decide) ?_
            refine z_goto (pc := 46) (tgt := 50) dX7_pieces_46 (by decide) ?_
            refine z_zastore 1 1 (pc := 50) (ws' := (wsX7_pieces cA h_o h_o_seen h_o_heights h_o_stack 0 o_side o_targets o_kept o_radius o_feeds o_text o_size o_at o_fault o_program o_draft o_statements o_hasProgram o_hasRun o_where o_tool o_about o_begin o_gap o_seen_n (upd o_seen_9 x2_9.toNatClampNeg (vp_nar .boolean 1)) o_heights_n o_heights o_stack_n o_stack)) rfl rfl dX7_pieces_50 rfl hf0_9 (fun hf0_9 => ?_)
            refine z_iinc 2 (pc := 51) (v := x2_9 + 1) (lv' := [(2, .int (x2_9 + 1)), (1, .int 0), (0, .ref h_o)]) dX7_pieces_51 rfl rfl (by decide) rfl ?_
            refine z_goto (pc := 54) (tgt := 9) dX7_pieces_54 (by decide) ?_
            exact z_lv [1, 2, 0] rfl (ih9 (x2_9 + 1) (upd o_seen_9 x2_9.toNatClampNeg (vp_nar .boolean 1)) hf0_9)
  exact z_lv [1, 2, 0] rfl (lp9 N 0 o_seen hf0_9)

abbrev RX7_blank : Type := Int32 × (Nat → Int32)
abbrev rmX7_blank : Room := { frames := 0, cells := 0, slots := 0, locals := 0 }
abbrev wsX7_blank (cA : Nat → ClassId) (h_o : Nat) (h_o_heights : Nat) (o_thrown : Int32) (o_side : Int32) (o_targets : Value) (o_kept : Value) (o_radius : Value) (o_feeds : Value) (o_text : Value) (o_size : Int32) (o_at : Int32) (o_fault : Int32) (o_program : Value) (o_draft : Value) (o_statements : Int32) (o_hasProgram : Int32) (o_hasRun : Int32) (o_where : Value) (o_tool : Int32) (o_about : Value) (o_stack : Value) (o_seen : Value) (o_begin : Value) (o_gap : Value) (o_heights_n : Nat) (o_heights : Nat → Int32) : va_W := [(h_o, .inr (7, [.int o_thrown, .int o_side, .ref h_o_heights, o_targets, o_kept, o_radius, o_feeds, o_text, .int o_size, .int o_at, .int o_fault, o_program, o_draft, .int o_statements, .int o_hasProgram, .int o_hasRun, o_where, .int o_tool, o_about, o_stack, o_seen, o_begin, o_gap])), (h_o_heights, .inl (cA 0, o_heights_n, .inl o_heights))]
def LX7_blank_7 (o_heights_n : Nat) : Nat → Int32 → (Nat → Int32) → Option (Int32 × (Nat → Int32))
  | 0, _, _ => none
  | n + 1, x1_7, o_heights_7 => (if 400 ≤ x1_7 then some (x1_7, o_heights_7) else (if x1_7 < 0 ∨ o_heights_n ≤ x1_7.toNatClampNeg then none else LX7_blank_7 o_heights_n n (x1_7 + 1) (upd o_heights_7 x1_7.toNatClampNeg 100)))
def fX7_blank (N : Nat)  (o_thrown : Int32) (o_heights_n : Nat) (o_heights : Nat → Int32) : Option RX7_blank :=
  ((LX7_blank_7 o_heights_n N 0 o_heights).bind fun r1 => some (0, r1.2))
set_option maxHeartbeats 4000000 in
set_option maxRecDepth 100000 in
theorem kX7_blank (l : Launch) (D : va_G) (cA : Nat → ClassId) (h_o : Nat) (h_o_heights : Nat) (o_thrown : Int32) (o_side : Int32) (o_targets : Value) (o_kept : Value) (o_radius : Value) (o_feeds : Value) (o_text : Value) (o_size : Int32) (o_at : Int32) (o_fault : Int32) (o_program : Value) (o_draft : Value) (o_statements : Int32) (o_hasProgram : Int32) (o_hasRun : Int32) (o_where : Value) (o_tool : Int32) (o_about : Value) (o_stack : Value) (o_seen : Value) (o_begin : Value) (o_gap : Value) (o_heights_n : Nat) (o_heights : Nat → Int32)  (N : Nat) (res : RX7_blank) (hf0 : fX7_blank N o_thrown o_heights_n o_heights = some res) : CtV l yX7_blank (Cond.code yX7_blank cX7_blank 2 (none) :: tblG) rmX7_blank D cA (wsX7_blank cA h_o h_o_heights o_thrown o_side o_targets o_kept o_radius o_feeds o_text o_size o_at o_fault o_program o_draft o_statements o_hasProgram o_hasRun o_where o_tool o_about o_stack o_seen o_begin o_gap o_heights_n o_heights) [.ref h_o] (wsX7_blank cA h_o h_o_heights res.1 o_side o_targets o_kept o_radius o_feeds o_text o_size o_at o_fault o_program o_draft o_statements o_hasProgram o_hasRun o_where o_tool o_about o_stack o_seen o_begin o_gap o_heights_n res.2) := by
  refine CtV.start (lv := [(0, .ref h_o)]) (by decide) (Nat.le_of_ble_eq_true rfl) rfl (fun κ hE => ?_)
  rw [fX7_blank] at hf0
  refine z_aload_n 0 (pc := 0) dX7_blank_0 rfl ?_
  refine z_iconst (pc := 1) (v := 0) dX7_blank_1 (by decide) ?_
  refine z_put 0 0 (pc := 2) (ws' := (wsX7_blank cA h_o h_o_heights 0 o_side o_targets o_kept o_radius o_feeds o_text o_size o_at o_fault o_program o_draft o_statements o_hasProgram o_hasRun o_where o_tool o_about o_stack o_seen o_begin o_gap o_heights_n o_heights)) rfl rfl inX7 tyX7 tyX7_ok nmX7 (by decide) flX7_57 rfl rfl rfl rfl (Nat.le_of_ble_eq_true rfl) dX7_blank_2 rfl ?_
  refine z_iconst (pc := 5) (v := 0) dX7_blank_5 (by decide) ?_
  refine z_istore_n (pc := 6) (lv' := [(1, .int 0), (0, .ref h_o)]) dX7_blank_6 (by decide) rfl ?_
  obtain ⟨y7, hf0_7, hf0⟩ := bp hf0
  have lp7 : ∀ (n : Nat) (x1_7 : Int32) (o_heights_7 : Nat → Int32), LX7_blank_7 o_heights_n n x1_7 o_heights_7 = some y7 → V κ false l D cA rmX7_blank cX7_blank 2 RX7 (none) 0 0 7 [(0, .ref h_o), (1, .int x1_7)] [] (wsX7_blank cA h_o h_o_heights 0 o_side o_targets o_kept o_radius o_feeds o_text o_size o_at o_fault o_program o_draft o_statements o_hasProgram o_hasRun o_where o_tool o_about o_stack o_seen o_begin o_gap o_heights_n o_heights_7) := by
    intro n
    induction n with
    | zero => intro x1_7 o_heights_7 hf0_7; rw [LX7_blank_7] at hf0_7; cases hf0_7
    | succ n7 ih7 =>
      intro x1_7 o_heights_7 hf0_7
      rw [LX7_blank_7] at hf0_7
      refine z_iload_n 1 (pc := 7) dX7_blank_7 rfl ?_
      refine z_sipush (pc := 8) (v := 400) dX7_blank_8 (by decide) ?_
      refine z_icmp_ge (pc := 11) (tgt := 28) dX7_blank_11 (by decide) hf0_7 (fun hf0_7 => ?_) (fun hf0_7 => ?_)
      · obtain rfl := Option.some.inj hf0_7
        obtain rfl := Option.some.inj hf0
        exact z_vret hE dX7_blank_28
      · refine z_aload_n 0 (pc := 14) dX7_blank_14 rfl ?_
        refine z_get 0 2 (pc := 15) (v := .ref h_o_heights) rfl rfl inX7 (by decide) flX7_7 rfl dX7_blank_15 ?_
        refine z_iload_n 1 (pc := 18) dX7_blank_18 rfl ?_
        refine z_bipush (pc := 19) (v := 100) dX7_blank_19 (by decide) ?_
        refine z_iastore 1 0 (pc := 21) (ws' := (wsX7_blank cA h_o h_o_heights 0 o_side o_targets o_kept o_radius o_feeds o_text o_size o_at o_fault o_program o_draft o_statements o_hasProgram o_hasRun o_where o_tool o_about o_stack o_seen o_begin o_gap o_heights_n (upd o_heights_7 x1_7.toNatClampNeg 100))) rfl rfl dX7_blank_21 rfl hf0_7 (fun hf0_7 => ?_)
        refine z_iinc 1 (pc := 22) (v := x1_7 + 1) (lv' := [(1, .int (x1_7 + 1)), (0, .ref h_o)]) dX7_blank_22 rfl rfl (by decide) rfl ?_
        refine z_goto (pc := 25) (tgt := 7) dX7_blank_25 (by decide) ?_
        exact z_lv [1, 0] rfl (ih7 (x1_7 + 1) (upd o_heights_7 x1_7.toNatClampNeg 100) hf0_7)
  exact z_lv [1, 0] rfl (lp7 N 0 o_heights hf0_7)
