abbrev RBX6_about : Type := Int32
abbrev rtX6_about : Room := { frames := 7, cells := 1, slots := 6, locals := 111 }
abbrev RX6_about : Type := Nat ⊕ (Int32)
abbrev rmX6_about : Room := { frames := 1, cells := 0, slots := 0, locals := 21 }
abbrev wsX6_about (cA : Nat → ClassId) (h_o : Nat) (h_o_machine : Nat) (o_grid : Value) (o_tools : Value) (o_reader : Value) (o_pieceCounter : Value) (o_program : Value) (o_draft : Value) (o_machine_hasRun : Int32) (o_machine_time : Int32) (o_machine_ended : Int32) (o_machine_x : Int32) (o_machine_y : Int32) (o_machine_z : Int32) (o_machine_cut : Int32) (o_machine_held : Int32) : va_W := [(h_o, .inr (6, [o_grid, o_tools, o_reader, .ref h_o_machine, o_pieceCounter, o_program, o_draft])), (h_o_machine, .inr (1, [.int o_machine_hasRun, .int o_machine_time, .int o_machine_ended, .int o_machine_x, .int o_machine_y, .int o_machine_z, .int o_machine_cut, .int o_machine_held]))]
def fX6_about (N : Nat) (a1 : Int32) (o_machine_hasRun : Int32) (o_machine_time : Int32) (o_machine_ended : Int32) (o_machine_x : Int32) (o_machine_y : Int32) (o_machine_z : Int32) (o_machine_cut : Int32) : Option RX6_about :=
  ((fX6_demandWhat N a1 5).bind fun r1 => Sum.elim (fun k => some (.inl k)) (fun r1v => (if o_machine_hasRun = 0 then some (.inl 2) else (if a1 = 0 then some (.inr o_machine_time) else (if a1 = 1 then some (.inr o_machine_ended) else (if a1 = 2 then some (.inr o_machine_x) else (if a1 = 3 then some (.inr o_machine_y) else (if a1 = 4 then some (.inr o_machine_z) else some (.inr o_machine_cut)))))))) r1)
set_option maxHeartbeats 4000000 in
set_option maxRecDepth 100000 in
theorem kX6_about (l : Launch) (D : va_G) (cA : Nat → ClassId) (h_o : Nat) (h_o_machine : Nat) (o_grid : Value) (o_tools : Value) (o_reader : Value) (o_pieceCounter : Value) (o_program : Value) (o_draft : Value) (o_machine_hasRun : Int32) (o_machine_time : Int32) (o_machine_ended : Int32) (o_machine_x : Int32) (o_machine_y : Int32) (o_machine_z : Int32) (o_machine_cut : Int32) (o_machine_held : Int32) (a1 : Int32) (N : Nat) (res : RBX6_about) (hf0 : fX6_about N a1 o_machine_hasRun o_machine_time o_machine_ended o_machine_x o_machine_y o_machine_z o_machine_cut = some (.inr res)) : CtI l yX6_about (Cond.code yX6_about cX6_about 2 (some .int) :: tblG) rmX6_about D cA (wsX6_about cA h_o h_o_machine o_grid o_tools o_reader o_pieceCounter o_program o_draft o_machine_hasRun o_machine_time o_machine_ended o_machine_x o_machine_y o_machine_z o_machine_cut o_machine_held) [.ref h_o, .int a1] res (wsX6_about cA h_o h_o_machine o_grid o_tools o_reader o_pieceCounter o_program o_draft o_machine_hasRun o_machine_time o_machine_ended o_machine_x o_machine_y o_machine_z o_machine_cut o_machine_held) := by
  refine CtI.start (lv := [(0, .ref h_o), (1, .int a1)]) (by decide) (Nat.le_of_ble_eq_true rfl) rfl (fun κ hE => ?_)
  rw [fX6_about] at hf0
  refine z_iload_n 1 (pc := 0) dX6_about_0 rfl ?_
  refine z_iconst (pc := 1) (v := 5) dX6_about_1 (by decide) ?_
  obtain ⟨r1, er1, hf0⟩ := bp hf0
  rcases r1 with r1k | r1v
  · have hs := sum_inl hf0; cases hs
  replace hf0 := sum_inr hf0
  refine z_callv0S (pc := 2) (As := [.int a1, .int 5]) (rest := []) (k0X6_demandWhat l D cA   a1 5 N r1v er1) ivX6_116 ⟨rfl, rfl⟩ ⟨by decide, by decide⟩ rfl ⟨Nat.zero_le _, Nat.zero_le _⟩ [] rfl (by decide) rfl (Nat.le_of_ble_eq_true rfl) dX6_about_2 ?_
  refine z_aload_n 0 (pc := 5) dX6_about_5 rfl ?_
  refine z_get 0 3 (pc := 6) (v := .ref h_o_machine) rfl rfl inX6 (by decide) flX6_44 rfl dX6_about_6 ?_
  refine z_get 1 0 (pc := 9) (v := .int o_machine_hasRun) rfl rfl inX1 (by decide) flX6_119 rfl dX6_about_9 ?_
  refine z_if_ne (pc := 12) (tgt := 25) dX6_about_12 (by decide) hf0 (fun hf0 => ?_) (fun hf0 => ?_)
  · refine z_iload_n 1 (pc := 25) dX6_about_25 rfl ?_
    by_cases w26_0 : a1 = 0
    · have hf0 := fp w26_0 hf0
      refine y_tabIn (pc := 26) (off := 34) (tgt := 60) dX6_about_26 (by rw [w26_0]; decide) (by rw [w26_0]; decide) (by rw [w26_0]; first | done | rfl) (by decide) ?_
      refine z_aload_n 0 (pc := 60) dX6_about_60 rfl ?_
      refine z_get 0 3 (pc := 61) (v := .ref h_o_machine) rfl rfl inX6 (by decide) flX6_44 rfl dX6_about_61 ?_
      refine z_get 1 1 (pc := 64) (v := .int o_machine_time) rfl rfl inX1 (by decide) flX6_125 rfl dX6_about_64 ?_
      obtain rfl := Sum.inr.inj (Option.some.inj hf0)
      exact z_iret hE dX6_about_67
    have hf0 := fn w26_0 hf0
    by_cases w26_1 : a1 = 1
    · have hf0 := fp w26_1 hf0
      refine y_tabIn (pc := 26) (off := 42) (tgt := 68) dX6_about_26 (by rw [w26_1]; decide) (by rw [w26_1]; decide) (by rw [w26_1]; first | done | rfl) (by decide) ?_
      refine z_aload_n 0 (pc := 68) dX6_about_68 rfl ?_
      refine z_get 0 3 (pc := 69) (v := .ref h_o_machine) rfl rfl inX6 (by decide) flX6_44 rfl dX6_about_69 ?_
      refine z_get 1 2 (pc := 72) (v := .int o_machine_ended) rfl rfl inX1 (by decide) flX6_128 rfl dX6_about_72 ?_
      obtain rfl := Sum.inr.inj (Option.some.inj hf0)
      exact z_iret hE dX6_about_75
    have hf0 := fn w26_1 hf0
    by_cases w26_2 : a1 = 2
    · have hf0 := fp w26_2 hf0
      refine y_tabIn (pc := 26) (off := 50) (tgt := 76) dX6_about_26 (by rw [w26_2]; decide) (by rw [w26_2]; decide) (by rw [w26_2]; first | done | rfl) (by decide) ?_
      refine z_aload_n 0 (pc := 76) dX6_about_76 rfl ?_
      refine z_get 0 3 (pc := 77) (v := .ref h_o_machine) rfl rfl inX6 (by decide) flX6_44 rfl dX6_about_77 ?_
      refine z_get 1 3 (pc := 80) (v := .int o_machine_x) rfl rfl inX1 (by decide) flX6_131 rfl dX6_about_80 ?_
      obtain rfl := Sum.inr.inj (Option.some.inj hf0)
      exact z_iret hE dX6_about_83
    have hf0 := fn w26_2 hf0
    by_cases w26_3 : a1 = 3
    · have hf0 := fp w26_3 hf0
      refine y_tabIn (pc := 26) (off := 58) (tgt := 84) dX6_about_26 (by rw [w26_3]; decide) (by rw [w26_3]; decide) (by rw [w26_3]; first | done | rfl) (by decide) ?_
      refine z_aload_n 0 (pc := 84) dX6_about_84 rfl ?_
      refine z_get 0 3 (pc := 85) (v := .ref h_o_machine) rfl rfl inX6 (by decide) flX6_44 rfl dX6_about_85 ?_
      refine z_get 1 4 (pc := 88) (v := .int o_machine_y) rfl rfl inX1 (by decide) flX6_134 rfl dX6_about_88 ?_
      obtain rfl := Sum.inr.inj (Option.some.inj hf0)
      exact z_iret hE dX6_about_91
    have hf0 := fn w26_3 hf0
    by_cases w26_4 : a1 = 4
    · have hf0 := fp w26_4 hf0
      refine y_tabIn (pc := 26) (off := 66) (tgt := 92) dX6_about_26 (by rw [w26_4]; decide) (by rw [w26_4]; decide) (by rw [w26_4]; first | done | rfl) (by decide) ?_
      refine z_aload_n 0 (pc := 92) dX6_about_92 rfl ?_
      refine z_get 0 3 (pc := 93) (v := .ref h_o_machine) rfl rfl inX6 (by decide) flX6_44 rfl dX6_about_93 ?_
      refine z_get 1 5 (pc := 96) (v := .int o_machine_z) rfl rfl inX1 (by decide) flX6_137 rfl dX6_about_96 ?_
      obtain rfl := Sum.inr.inj (Option.some.inj hf0)
      exact z_iret hE dX6_about_99
    have hf0 := fn w26_4 hf0
    refine y_tabOut (pc := 26) (tgt := 100) dX6_about_26 (by have n0 := lv_neT w26_0 (a := 0) (by decide); have n1 := lv_neT w26_1 (a := 1) (by decide); have n2 := lv_neT w26_2 (a := 2) (by decide); have n3 := lv_neT w26_3 (a := 3) (by decide); have n4 := lv_neT w26_4 (a := 4) (by decide); omega) (by decide) ?_
    refine z_aload_n 0 (pc := 100) dX6_about_100 rfl ?_
    refine z_get 0 3 (pc := 101) (v := .ref h_o_machine) rfl rfl inX6 (by decide) flX6_44 rfl dX6_about_101 ?_
    refine z_get 1 6 (pc := 104) (v := .int o_machine_cut) rfl rfl inX1 (by decide) flX6_140 rfl dX6_about_104 ?_
    obtain rfl := Sum.inr.inj (Option.some.inj hf0)
    exact z_iret hE dX6_about_107
  · cases hf0

set_option maxHeartbeats 4000000 in
set_option maxRecDepth 100000 in
theorem tX6_about (l : Launch) (D : va_G) (cA : Nat → ClassId) (h_o : Nat) (h_o_machine : Nat) (o_grid : Value) (o_tools : Value) (o_reader : Value) (o_pieceCounter : Value) (o_program : Value) (o_draft : Value) (o_machine_hasRun : Int32) (o_machine_time : Int32) (o_machine_ended : Int32) (o_machine_x : Int32) (o_machine_y : Int32) (o_machine_z : Int32) (o_machine_cut : Int32) (o_machine_held : Int32) (a1 : Int32) (N : Nat) (kx : Nat) (hf0 : fX6_about N a1 o_machine_hasRun o_machine_time o_machine_ended o_machine_x o_machine_y o_machine_z o_machine_cut = some (.inl kx)) (hfl : l.flags = pinnedFlags ++ [noTraceFlag]) : CtT l yX6_about (Cond.code yX6_about cX6_about 2 (some .int) :: tblG) rtX6_about D cA (wsX6_about cA h_o h_o_machine o_grid o_tools o_reader o_pieceCounter o_program o_draft o_machine_hasRun o_machine_time o_machine_ended o_machine_x o_machine_y o_machine_z o_machine_cut o_machine_held) [.ref h_o, .int a1] kx := by
  refine CtT.start (lv := [(0, .ref h_o), (1, .int a1)]) (by decide) (Nat.le_of_ble_eq_true rfl) rfl (fun κ hE => ?_)
  rw [fX6_about] at hf0
  refine z_iload_n 1 (pc := 0) dX6_about_0 rfl ?_
  refine z_iconst (pc := 1) (v := 5) dX6_about_1 (by decide) ?_
  obtain ⟨r1, er1, hf0⟩ := bp hf0
  rcases r1 with r1k | r1v
  · have hs := sum_inl hf0
    obtain rfl := Sum.inl.inj (Option.some.inj hs)
    exact z_callTS (pc := 2) (As := [.int a1, .int 5]) (rest := []) (tX6_demandWhat l D cA   a1 5 N r1k er1 hfl) ivX6_116 ⟨rfl, rfl⟩ ⟨by decide, by decide⟩ rfl ⟨by decide, by decide⟩ [] rfl (by decide) rfl (Nat.le_of_ble_eq_true rfl) dX6_about_2 hE
  replace hf0 := sum_inr hf0
  refine z_callv0S (pc := 2) (As := [.int a1, .int 5]) (rest := []) (k0X6_demandWhat l D cA   a1 5 N r1v er1) ivX6_116 ⟨rfl, rfl⟩ ⟨by decide, by decide⟩ rfl ⟨Nat.zero_le _, Nat.zero_le _⟩ [] rfl (by decide) rfl (Nat.le_of_ble_eq_true rfl) dX6_about_2 ?_
  refine z_aload_n 0 (pc := 5) dX6_about_5 rfl ?_
  refine z_get 0 3 (pc := 6) (v := .ref h_o_machine) rfl rfl inX6 (by decide) flX6_44 rfl dX6_about_6 ?_
  refine z_get 1 0 (pc := 9) (v := .int o_machine_hasRun) rfl rfl inX1 (by decide) flX6_119 rfl dX6_about_9 ?_
  refine z_if_ne (pc := 12) (tgt := 25) dX6_about_12 (by decide) hf0 (fun hf0 => ?_) (fun hf0 => ?_)
  · exact absurd hf0 (by repeat' (first | with_reducible exact nr_inr | with_reducible exact nr_none | with_reducible refine nr_ite ?_ ?_ | with_reducible refine nr_bind (fun _ => ?_)))
  · obtain rfl := Sum.inl.inj (Option.some.inj hf0)
    exact z_throw (pc := 15) (li := 123) hfl rfl (by decide) (by decide +kernel) xcl_107 xin_2 xii_2 xoa_111 hE ⟨by decide, by decide, by decide, Nat.le_of_ble_eq_true rfl⟩ dX6_about_15 dX6_about_18 dX6_about_19 dX6_about_21 dX6_about_24
