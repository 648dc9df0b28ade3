abbrev RX1_startAnew : Type := Int32 × Int32 × Int32 × Int32 × Int32 × Int32 × Int32
abbrev rmX1_startAnew : Room := { frames := 0, cells := 0, slots := 0, locals := 0 }
abbrev wsX1_startAnew (cA : Nat → ClassId) (h_o : Nat) (o_hasRun : Int32) (o_time : Int32) (o_ended : Int32) (o_x : Int32) (o_y : Int32) (o_z : Int32) (o_cut : Int32) (o_held : Int32) : va_W := [(h_o, .inr (1, [.int o_hasRun, .int o_time, .int o_ended, .int o_x, .int o_y, .int o_z, .int o_cut, .int o_held]))]
def fX1_startAnew (N : Nat)  (o_time : Int32) (o_ended : Int32) (o_x : Int32) (o_y : Int32) (o_z : Int32) (o_cut : Int32) (o_held : Int32) : Option RX1_startAnew :=
  some (0, 0, 0, 0, 100, 0, 0)
set_option maxHeartbeats 4000000 in
set_option maxRecDepth 100000 in
theorem kX1_startAnew (l : Launch) (D : va_G) (cA : Nat → ClassId) (h_o : Nat) (o_hasRun : Int32) (o_time : Int32) (o_ended : Int32) (o_x : Int32) (o_y : Int32) (o_z : Int32) (o_cut : Int32) (o_held : Int32)  (N : Nat) (res : RX1_startAnew) (hf0 : fX1_startAnew N o_time o_ended o_x o_y o_z o_cut o_held = some res) : CtV l yX1_startAnew (Cond.code yX1_startAnew cX1_startAnew 1 (none) :: tblG) rmX1_startAnew D cA (wsX1_startAnew cA h_o o_hasRun o_time o_ended o_x o_y o_z o_cut o_held) [.ref h_o] (wsX1_startAnew cA h_o o_hasRun res.1 res.2.1 res.2.2.1 res.2.2.2.1 res.2.2.2.2.1 res.2.2.2.2.2.1 res.2.2.2.2.2.2) := by
  refine CtV.start (lv := [(0, .ref h_o)]) (by decide) (Nat.le_of_ble_eq_true rfl) rfl (fun κ hE => ?_)
  rw [fX1_startAnew] at hf0
  refine z_aload_n 0 (pc := 0) dX1_startAnew_0 rfl ?_
  refine z_iconst (pc := 1) (v := 0) dX1_startAnew_1 (by decide) ?_
  refine z_put 0 1 (pc := 2) (ws' := (wsX1_startAnew cA h_o o_hasRun 0 o_ended o_x o_y o_z o_cut o_held)) rfl rfl inX1 tyX1 tyX1_ok nmX1 (by decide) flX1_18 rfl rfl rfl rfl (Nat.le_of_ble_eq_true rfl) dX1_startAnew_2 rfl ?_
  refine z_aload_n 0 (pc := 5) dX1_startAnew_5 rfl ?_
  refine z_iconst (pc := 6) (v := 0) dX1_startAnew_6 (by decide) ?_
  refine z_put 0 2 (pc := 7) (ws' := (wsX1_startAnew cA h_o o_hasRun 0 0 o_x o_y o_z o_cut o_held)) rfl rfl inX1 tyX1 tyX1_ok nmX1 (by decide) flX1_22 rfl rfl rfl rfl (Nat.le_of_ble_eq_true rfl) dX1_startAnew_7 rfl ?_
  refine z_aload_n 0 (pc := 10) dX1_startAnew_10 rfl ?_
  refine z_iconst (pc := 11) (v := 0) dX1_startAnew_11 (by decide) ?_
  refine z_put 0 3 (pc := 12) (ws' := (wsX1_startAnew cA h_o o_hasRun 0 0 0 o_y o_z o_cut o_held)) rfl rfl inX1 tyX1 tyX1_ok nmX1 (by decide) flX1_25 rfl rfl rfl rfl (Nat.le_of_ble_eq_true rfl) dX1_startAnew_12 rfl ?_
  refine z_aload_n 0 (pc := 15) dX1_startAnew_15 rfl ?_
  refine z_iconst (pc := 16) (v := 0) dX1_startAnew_16 (by decide) ?_
  refine z_put 0 4 (pc := 17) (ws' := (wsX1_startAnew cA h_o o_hasRun 0 0 0 0 o_z o_cut o_held)) rfl rfl inX1 tyX1 tyX1_ok nmX1 (by decide) flX1_28 rfl rfl rfl rfl (Nat.le_of_ble_eq_true rfl) dX1_startAnew_17 rfl ?_
  refine z_aload_n 0 (pc := 20) dX1_startAnew_20 rfl ?_
  refine z_bipush (pc := 21) (v := 100) dX1_startAnew_21 (by decide) ?_
  refine z_put 0 5 (pc := 23) (ws' := (wsX1_startAnew cA h_o o_hasRun 0 0 0 0 100 o_cut o_held)) rfl rfl inX1 tyX1 tyX1_ok nmX1 (by decide) flX1_31 rfl rfl rfl rfl (Nat.le_of_ble_eq_true rfl) dX1_startAnew_23 rfl ?_
  refine z_aload_n 0 (pc := 26) dX1_startAnew_26 rfl ?_
  refine z_iconst (pc := 27) (v := 0) dX1_startAnew_27 (by decide) ?_
  refine z_put 0 6 (pc := 28) (ws' := (wsX1_startAnew cA h_o o_hasRun 0 0 0 0 100 0 o_held)) rfl rfl inX1 tyX1 tyX1_ok nmX1 (by decide) flX1_34 rfl rfl rfl rfl (Nat.le_of_ble_eq_true rfl) dX1_startAnew_28 rfl ?_
  refine z_aload_n 0 (pc := 31) dX1_startAnew_31 rfl ?_
  refine z_iconst (pc := 32) (v := 0) dX1_startAnew_32 (by decide) ?_
  refine z_put 0 7 (pc := 33) (ws' := (wsX1_startAnew cA h_o o_hasRun 0 0 0 0 100 0 0)) rfl rfl inX1 tyX1 tyX1_ok nmX1 (by decide) flX1_37 rfl rfl rfl rfl (Nat.le_of_ble_eq_true rfl) dX1_startAnew_33 rfl ?_
  obtain rfl := Option.some.inj hf0
  exact z_vret hE dX1_startAnew_36

abbrev RX1_difference : Type := Int32
abbrev rmX1_difference : Room := { frames := 0, cells := 0, slots := 0, locals := 0 }
abbrev wsX1_difference (cA : Nat → ClassId)   : va_W := []
def fX1_difference (N : Nat) (a0 : Int32) (a1 : Int32)  : Option RX1_difference :=
  (if a1 = (-1) then some 0 else some (a1 - a0))
set_option maxHeartbeats 4000000 in
set_option maxRecDepth 100000 in
theorem kX1_difference (l : Launch) (D : va_G) (cA : Nat → ClassId)   (a0 : Int32) (a1 : Int32) (N : Nat) (res : RX1_difference) (hf0 : fX1_difference N a0 a1 = some res) : CtI l yX1_difference (Cond.code yX1_difference cX1_difference 2 (some .int) :: tblG) rmX1_difference D cA (wsX1_difference cA ) [.int a0, .int a1] res (wsX1_difference cA ) := by
  refine CtI.start (lv := [(0, .int a0), (1, .int a1)]) (by decide) (Nat.le_of_ble_eq_true rfl) rfl (fun κ hE => ?_)
  rw [fX1_difference] at hf0
  refine z_iload_n 1 (pc := 0) dX1_difference_0 rfl ?_
  refine z_iconst (pc := 1) (v := (-1)) dX1_difference_1 (by decide) ?_
  refine z_icmp_ne (pc := 2) (tgt := 9) dX1_difference_2 (by decide) hf0 (fun hf0 => ?_) (fun hf0 => ?_)
  · refine z_iload_n 1 (pc := 9) dX1_difference_9 rfl ?_
    refine z_iload_n 0 (pc := 10) dX1_difference_10 rfl ?_
    refine z_isub (pc := 11) dX1_difference_11 ?_
    obtain rfl := Option.some.inj hf0
    exact z_iret hE dX1_difference_12
  · refine z_iconst (pc := 5) (v := 0) dX1_difference_5 (by decide) ?_
    refine z_goto (pc := 6) (tgt := 12) dX1_difference_6 (by decide) ?_
    obtain rfl := Option.some.inj hf0
    exact z_iret hE dX1_difference_12

abbrev RX1_along : Type := Int32
abbrev rmX1_along : Room := { frames := 1, cells := 0, slots := 0, locals := 22 }
abbrev wsX1_along (cA : Nat → ClassId)   : va_W := []
def fX1_along (N : Nat) (a0 : Int32) (a1 : Int32) (a2 : Int32) (a3 : Int32)  : Option RX1_along :=
  (if a3 ≤ 0 then some a0 else ((fJm_floorDiv N (((2 * a1) * a2) + a3) (2 * a3)).bind fun r1 => some (a0 + r1)))
set_option maxHeartbeats 4000000 in
set_option maxRecDepth 100000 in
theorem kX1_along (l : Launch) (D : va_G) (cA : Nat → ClassId)   (a0 : Int32) (a1 : Int32) (a2 : Int32) (a3 : Int32) (N : Nat) (res : RX1_along) (hf0 : fX1_along N a0 a1 a2 a3 = some res) : CtI l yX1_along (Cond.code yX1_along cX1_along 4 (some .int) :: tblG) rmX1_along D cA (wsX1_along cA ) [.int a0, .int a1, .int a2, .int a3] res (wsX1_along cA ) := by
  refine CtI.start (lv := [(0, .int a0), (1, .int a1), (2, .int a2), (3, .int a3)]) (by decide) (Nat.le_of_ble_eq_true rfl) rfl (fun κ hE => ?_)
  rw [fX1_along] at hf0
  refine z_iload_n 3 (pc := 0) dX1_along_0 rfl ?_
  refine z_if_le (pc := 1) (tgt := 22) dX1_along_1 (by decide) hf0 (fun hf0 => ?_) (fun hf0 => ?_)
  · refine z_iload_n 0 (pc := 22) dX1_along_22 rfl ?_
    obtain rfl := Option.some.inj hf0
    exact z_iret hE dX1_along_23
  · refine z_iload_n 0 (pc := 4) dX1_along_4 rfl ?_
    refine z_iconst (pc := 5) (v := 2) dX1_along_5 (by decide) ?_
    refine z_iload_n 1 (pc := 6) dX1_along_6 rfl ?_
    refine z_imul (pc := 7) dX1_along_7 ?_
    refine z_iload_n 2 (pc := 8) dX1_along_8 rfl ?_
    refine z_imul (pc := 9) dX1_along_9 ?_
    refine z_iload_n 3 (pc := 10) dX1_along_10 rfl ?_
    refine z_iadd (pc := 11) dX1_along_11 ?_
    refine z_iconst (pc := 12) (v := 2) dX1_along_12 (by decide) ?_
    refine z_iload_n 3 (pc := 13) dX1_along_13 rfl ?_
    refine z_imul (pc := 14) dX1_along_14 ?_
    obtain ⟨r1, er1, hf0⟩ := bp hf0
    refine z_calliS (pc := 15) (As := [.int (((2 * a1) * a2) + a3), .int (2 * a3)]) (rest := [.int a0]) (ws' := (wsX1_along cA )) (kJm_floorDiv l D cA   (((2 * a1) * a2) + a3) (2 * a3) N r1 er1) ivX1_101 ⟨rfl, rfl⟩ ⟨by decide, by decide⟩ rfl ⟨Nat.zero_le _, Nat.zero_le _⟩ [] rfl (by decide) rfl rfl rfl (Nat.le_of_ble_eq_true rfl) dX1_along_15 ?_
    refine z_iadd (pc := 18) dX1_along_18 ?_
    refine z_goto (pc := 19) (tgt := 23) dX1_along_19 (by decide) ?_
    obtain rfl := Option.some.inj hf0
    exact z_iret hE dX1_along_23

abbrev RX1_cutHere : Type := Int32 × Int32 × Int32 × (Nat → Int32)
abbrev rmX1_cutHere : Room := { frames := 1, cells := 0, slots := 0, locals := 23 }
abbrev wsX1_cutHere (cA : Nat → ClassId) (h_o : Nat) (h_p1 : Nat) (h_p2 : Nat) (h_p1_kept : Nat) (h_p1_disc : Nat) (h_p1_heights : Nat) (o_hasRun : Int32) (o_time : Int32) (o_ended : Int32) (o_x : Int32) (o_y : Int32) (o_z : Int32) (o_cut : Int32) (o_held : Int32) (p1_side : Int32) (p1_cells : Int32) (p1_targets : Value) (p1_marks : Value) (p1_discSize : Int32) (p2_radius : Int32) (p2_feed : Int32) (p2_halfWidths : Value) (p1_kept_n : Nat) (p1_kept : Nat → Int32) (p1_disc_n : Nat) (p1_disc : Nat → Int32) (p1_heights_n : Nat) (p1_heights : Nat → Int32) : va_W := [(h_o, .inr (1, [.int o_hasRun, .int o_time, .int o_ended, .int o_x, .int o_y, .int o_z, .int o_cut, .int o_held])), (h_p1, .inr (0, [.int p1_side, .int p1_cells, .ref h_p1_heights, p1_targets, .ref h_p1_kept, p1_marks, .ref h_p1_disc, .int p1_discSize])), (h_p2, .inr (5, [.int p2_radius, .int p2_feed, p2_halfWidths])), (h_p1_kept, .inl (cA 1, p1_kept_n, .inl p1_kept)), (h_p1_disc, .inl (cA 0, p1_disc_n, .inl p1_disc)), (h_p1_heights, .inl (cA 0, p1_heights_n, .inl p1_heights))]
def fX1_cutHere (N : Nat)  (o_time : Int32) (o_z : Int32) (o_cut : Int32) (p1_discSize : Int32) (p2_feed : Int32) (p1_kept_n : Nat) (p1_kept : Nat → Int32) (p1_disc_n : Nat) (p1_disc : Nat → Int32) (p1_heights_n : Nat) (p1_heights : Nat → Int32) : Option RX1_cutHere :=
  ((fX0_discHasKeptAbove N o_z p1_discSize p1_kept_n p1_kept p1_disc_n p1_disc p1_heights_n p1_heights).bind fun r1 => (if r1 = 0 then ((fX0_lowerDisc N o_z p1_discSize p1_heights_n p1_heights p1_disc_n p1_disc).bind fun r2 => some (0, o_time + p2_feed, o_cut + r2.1, r2.2)) else some (2, o_time, o_cut, p1_heights)))
set_option maxHeartbeats 4000000 in
set_option maxRecDepth 100000 in
theorem kX1_cutHere (l : Launch) (D : va_G) (cA : Nat → ClassId) (h_o : Nat) (h_p1 : Nat) (h_p2 : Nat) (h_p1_kept : Nat) (h_p1_disc : Nat) (h_p1_heights : Nat) (o_hasRun : Int32) (o_time : Int32) (o_ended : Int32) (o_x : Int32) (o_y : Int32) (o_z : Int32) (o_cut : Int32) (o_held : Int32) (p1_side : Int32) (p1_cells : Int32) (p1_targets : Value) (p1_marks : Value) (p1_discSize : Int32) (p2_radius : Int32) (p2_feed : Int32) (p2_halfWidths : Value) (p1_kept_n : Nat) (p1_kept : Nat → Int32) (p1_disc_n : Nat) (p1_disc : Nat → Int32) (p1_heights_n : Nat) (p1_heights : Nat → Int32)  (N : Nat) (res : RX1_cutHere) (hf0 : fX1_cutHere N o_time o_z o_cut p1_discSize p2_feed p1_kept_n p1_kept p1_disc_n p1_disc p1_heights_n p1_heights = some res) : CtI l yX1_cutHere (Cond.code yX1_cutHere cX1_cutHere 3 (some .int) :: tblG) rmX1_cutHere D cA (wsX1_cutHere cA h_o h_p1 h_p2 h_p1_kept h_p1_disc h_p1_heights o_hasRun o_time o_ended o_x o_y o_z o_cut o_held p1_side p1_cells p1_targets p1_marks p1_discSize p2_radius p2_feed p2_halfWidths p1_kept_n p1_kept p1_disc_n p1_disc p1_heights_n p1_heights) [.ref h_o, .ref h_p1, .ref h_p2] res.1 (wsX1_cutHere cA h_o h_p1 h_p2 h_p1_kept h_p1_disc h_p1_heights o_hasRun res.2.1 o_ended o_x o_y o_z res.2.2.1 o_held p1_side p1_cells p1_targets p1_marks p1_discSize p2_radius p2_feed p2_halfWidths p1_kept_n p1_kept p1_disc_n p1_disc p1_heights_n res.2.2.2) := by
  refine CtI.start (lv := [(0, .ref h_o), (1, .ref h_p1), (2, .ref h_p2)]) (by decide) (Nat.le_of_ble_eq_true rfl) rfl (fun κ hE => ?_)
  rw [fX1_cutHere] at hf0
  refine z_aload_n 1 (pc := 0) dX1_cutHere_0 rfl ?_
  refine z_aload_n 0 (pc := 1) dX1_cutHere_1 rfl ?_
  refine z_get 0 5 (pc := 2) (v := .int o_z) rfl rfl inX1 (by decide) flX1_31 rfl dX1_cutHere_2 ?_
  obtain ⟨r1, er1, hf0⟩ := bp hf0
  refine z_calliV (pc := 5) (As := [.int o_z]) (rest := []) (ws' := (wsX1_cutHere cA h_o h_p1 h_p2 h_p1_kept h_p1_disc h_p1_heights o_hasRun o_time o_ended o_x o_y o_z o_cut o_held p1_side p1_cells p1_targets p1_marks p1_discSize p2_radius p2_feed p2_halfWidths p1_kept_n p1_kept p1_disc_n p1_disc p1_heights_n p1_heights)) (kX0_discHasKeptAbove l D cA h_p1 h_p1_kept h_p1_disc h_p1_heights p1_side p1_cells p1_targets p1_marks p1_discSize p1_kept_n p1_kept p1_disc_n p1_disc p1_heights_n p1_heights o_z N r1 er1) ivX1_104 ⟨rfl, rfl⟩ ⟨by decide, by decide⟩ rfl ⟨Nat.zero_le _, Nat.zero_le _⟩ rfl rfl [1, 3, 4, 5] rfl (by decide) rfl rfl rfl (Nat.le_of_ble_eq_true rfl) dX1_cutHere_5 ?_
  refine z_if_eq (pc := 8) (tgt := 13) dX1_cutHere_8 (by decide) hf0 (fun hf0 => ?_) (fun hf0 => ?_)
  · refine z_aload_n 0 (pc := 13) dX1_cutHere_13 rfl ?_
    refine z_dup (pc := 14) dX1_cutHere_14 rfl ?_
    refine z_get 0 6 (pc := 15) (v := .int o_cut) rfl rfl inX1 (by decide) flX1_34 rfl dX1_cutHere_15 ?_
    refine z_aload_n 1 (pc := 18) dX1_cutHere_18 rfl ?_
    refine z_aload_n 0 (pc := 19) dX1_cutHere_19 rfl ?_
    refine z_get 0 5 (pc := 20) (v := .int o_z) rfl rfl inX1 (by decide) flX1_31 rfl dX1_cutHere_20 ?_
    obtain ⟨r2, er2, hf0⟩ := bp hf0
    refine z_calliV (pc := 23) (As := [.int o_z]) (rest := [.int o_cut, .ref h_o]) (ws' := (wsX1_cutHere cA h_o h_p1 h_p2 h_p1_kept h_p1_disc h_p1_heights o_hasRun o_time o_ended o_x o_y o_z o_cut o_held p1_side p1_cells p1_targets p1_marks p1_discSize p2_radius p2_feed p2_halfWidths p1_kept_n p1_kept p1_disc_n p1_disc p1_heights_n r2.2)) (kX0_lowerDisc l D cA h_p1 h_p1_heights h_p1_disc p1_side p1_cells p1_targets (.ref h_p1_kept) p1_marks p1_discSize p1_heights_n p1_heights p1_disc_n p1_disc o_z N r2 er2) ivX1_108 ⟨rfl, rfl⟩ ⟨by decide, by decide⟩ rfl ⟨Nat.zero_le _, Nat.zero_le _⟩ rfl rfl [1, 5, 4] rfl (by decide) rfl rfl rfl (Nat.le_of_ble_eq_true rfl) dX1_cutHere_23 ?_
    refine z_iadd (pc := 26) dX1_cutHere_26 ?_
    refine z_put 0 6 (pc := 27) (ws' := (wsX1_cutHere cA h_o h_p1 h_p2 h_p1_kept h_p1_disc h_p1_heights o_hasRun o_time o_ended o_x o_y o_z (o_cut + r2.1) o_held p1_side p1_cells p1_targets p1_marks p1_discSize p2_radius p2_feed p2_halfWidths p1_kept_n p1_kept p1_disc_n p1_disc p1_heights_n r2.2)) rfl rfl inX1 tyX1 tyX1_ok nmX1 (by decide) flX1_34 rfl rfl rfl rfl (Nat.le_of_ble_eq_true rfl) dX1_cutHere_27 rfl ?_
    refine z_aload_n 0 (pc := 30) dX1_cutHere_30 rfl ?_
    refine z_dup (pc := 31) dX1_cutHere_31 rfl ?_
    refine z_get 0 1 (pc := 32) (v := .int o_time) rfl rfl inX1 (by decide) flX1_18 rfl dX1_cutHere_32 ?_
    refine z_aload_n 2 (pc := 35) dX1_cutHere_35 rfl ?_
    refine z_get 2 1 (pc := 36) (v := .int p2_feed) rfl rfl inX5 (by decide) flX1_111 rfl dX1_cutHere_36 ?_
    refine z_iadd (pc := 39) dX1_cutHere_39 ?_
    refine z_put 0 1 (pc := 40) (ws' := (wsX1_cutHere cA h_o h_p1 h_p2 h_p1_kept h_p1_disc h_p1_heights o_hasRun (o_time + p2_feed) o_ended o_x o_y o_z (o_cut + r2.1) o_held p1_side p1_cells p1_targets p1_marks p1_discSize p2_radius p2_feed p2_halfWidths p1_kept_n p1_kept p1_disc_n p1_disc p1_heights_n r2.2)) rfl rfl inX1 tyX1 tyX1_ok nmX1 (by decide) flX1_18 rfl rfl rfl rfl (Nat.le_of_ble_eq_true rfl) dX1_cutHere_40 rfl ?_
    refine z_iconst (pc := 43) (v := 0) dX1_cutHere_43 (by decide) ?_
    obtain rfl := Option.some.inj hf0
    exact z_iret hE dX1_cutHere_44
  · refine z_iconst (pc := 11) (v := 2) dX1_cutHere_11 (by decide) ?_
    obtain rfl := Option.some.inj hf0
    exact z_iret hE dX1_cutHere_12

abbrev RX1_passHere : Type := Int32 × Int32
abbrev rmX1_passHere : Room := { frames := 1, cells := 0, slots := 0, locals := 22 }
abbrev wsX1_passHere (cA : Nat → ClassId) (h_o : Nat) (h_p1 : Nat) (h_p1_heights : Nat) (h_p1_disc : Nat) (o_hasRun : Int32) (o_time : Int32) (o_ended : Int32) (o_x : Int32) (o_y : Int32) (o_z : Int32) (o_cut : Int32) (o_held : Int32) (p1_side : Int32) (p1_cells : Int32) (p1_targets : Value) (p1_kept : Value) (p1_marks : Value) (p1_discSize : Int32) (p1_heights_n : Nat) (p1_heights : Nat → Int32) (p1_disc_n : Nat) (p1_disc : Nat → Int32) : va_W := [(h_o, .inr (1, [.int o_hasRun, .int o_time, .int o_ended, .int o_x, .int o_y, .int o_z, .int o_cut, .int o_held])), (h_p1, .inr (0, [.int p1_side, .int p1_cells, .ref h_p1_heights, p1_targets, p1_kept, p1_marks, .ref h_p1_disc, .int p1_discSize])), (h_p1_heights, .inl (cA 0, p1_heights_n, .inl p1_heights)), (h_p1_disc, .inl (cA 0, p1_disc_n, .inl p1_disc))]
def fX1_passHere (N : Nat)  (o_time : Int32) (o_z : Int32) (p1_discSize : Int32) (p1_heights_n : Nat) (p1_heights : Nat → Int32) (p1_disc_n : Nat) (p1_disc : Nat → Int32) : Option RX1_passHere :=
  ((fX0_discRisesAbove N o_z p1_discSize p1_heights_n p1_heights p1_disc_n p1_disc).bind fun r1 => (if r1 = 0 then some (0, o_time + 1) else some (1, o_time)))
set_option maxHeartbeats 4000000 in
set_option maxRecDepth 100000 in
theorem kX1_passHere (l : Launch) (D : va_G) (cA : Nat → ClassId) (h_o : Nat) (h_p1 : Nat) (h_p1_heights : Nat) (h_p1_disc : Nat) (o_hasRun : Int32) (o_time : Int32) (o_ended : Int32) (o_x : Int32) (o_y : Int32) (o_z : Int32) (o_cut : Int32) (o_held : Int32) (p1_side : Int32) (p1_cells : Int32) (p1_targets : Value) (p1_kept : Value) (p1_marks : Value) (p1_discSize : Int32) (p1_heights_n : Nat) (p1_heights : Nat → Int32) (p1_disc_n : Nat) (p1_disc : Nat → Int32)  (N : Nat) (res : RX1_passHere) (hf0 : fX1_passHere N o_time o_z p1_discSize p1_heights_n p1_heights p1_disc_n p1_disc = some res) : CtI l yX1_passHere (Cond.code yX1_passHere cX1_passHere 2 (some .int) :: tblG) rmX1_passHere D cA (wsX1_passHere cA h_o h_p1 h_p1_heights h_p1_disc o_hasRun o_time o_ended o_x o_y o_z o_cut o_held p1_side p1_cells p1_targets p1_kept p1_marks p1_discSize p1_heights_n p1_heights p1_disc_n p1_disc) [.ref h_o, .ref h_p1] res.1 (wsX1_passHere cA h_o h_p1 h_p1_heights h_p1_disc o_hasRun res.2 o_ended o_x o_y o_z o_cut o_held p1_side p1_cells p1_targets p1_kept p1_marks p1_discSize p1_heights_n p1_heights p1_disc_n p1_disc) := by
  refine CtI.start (lv := [(0, .ref h_o), (1, .ref h_p1)]) (by decide) (Nat.le_of_ble_eq_true rfl) rfl (fun κ hE => ?_)
  rw [fX1_passHere] at hf0
  refine z_aload_n 1 (pc := 0) dX1_passHere_0 rfl ?_
  refine z_aload_n 0 (pc := 1) dX1_passHere_1 rfl ?_
  refine z_get 0 5 (pc := 2) (v := .int o_z) rfl rfl inX1 (by decide) flX1_31 rfl dX1_passHere_2 ?_
  obtain ⟨r1, er1, hf0⟩ := bp hf0
  refine z_calliV (pc := 5) (As := [.int o_z]) (rest := []) (ws' := (wsX1_passHere cA h_o h_p1 h_p1_heights h_p1_disc o_hasRun o_time o_ended o_x o_y o_z o_cut o_held p1_side p1_cells p1_targets p1_kept p1_marks p1_discSize p1_heights_n p1_heights p1_disc_n p1_disc)) (kX0_discRisesAbove l D cA h_p1 h_p1_heights h_p1_disc p1_side p1_cells p1_targets p1_kept p1_marks p1_discSize p1_heights_n p1_heights p1_disc_n p1_disc o_z N r1 er1) ivX1_116 ⟨rfl, rfl⟩ ⟨by decide, by decide⟩ rfl ⟨Nat.zero_le _, Nat.zero_le _⟩ rfl rfl [1, 2, 3] rfl (by decide) rfl rfl rfl (Nat.le_of_ble_eq_true rfl) dX1_passHere_5 ?_
  refine z_if_eq (pc := 8) (tgt := 13) dX1_passHere_8 (by decide) hf0 (fun hf0 => ?_) (fun hf0 => ?_)
  · refine z_aload_n 0 (pc := 13) dX1_passHere_13 rfl ?_
    refine z_dup (pc := 14) dX1_passHere_14 rfl ?_
    refine z_get 0 1 (pc := 15) (v := .int o_time) rfl rfl inX1 (by decide) flX1_18 rfl dX1_passHere_15 ?_
    refine z_iconst (pc := 18) (v := 1) dX1_passHere_18 (by decide) ?_
    refine z_iadd (pc := 19) dX1_passHere_19 ?_
    refine z_put 0 1 (pc := 20) (ws' := (wsX1_passHere cA h_o h_p1 h_p1_heights h_p1_disc o_hasRun (o_time + 1) o_ended o_x o_y o_z o_cut o_held p1_side p1_cells p1_targets p1_kept p1_marks p1_discSize p1_heights_n p1_heights p1_disc_n p1_disc)) rfl rfl inX1 tyX1 tyX1_ok nmX1 (by decide) flX1_18 rfl rfl rfl rfl (Nat.le_of_ble_eq_true rfl) dX1_passHere_20 rfl ?_
    refine z_iconst (pc := 23) (v := 0) dX1_passHere_23 (by decide) ?_
    obtain rfl := Option.some.inj hf0
    exact z_iret hE dX1_passHere_24
  · refine z_iconst (pc := 11) (v := 1) dX1_passHere_11 (by decide) ?_
    obtain rfl := Option.some.inj hf0
    exact z_iret hE dX1_passHere_12

abbrev RX1_travel : Type := Int32 × Int32 × Int32 × Int32 × Int32 × Int32 × Int32 × (Nat → Int32) × (Nat → Int32)
abbrev rmX1_travel : Room := { frames := 2, cells := 0, slots := 0, locals := 50 }
abbrev wsX1_travel (cA : Nat → ClassId) (h_o : Nat) (h_p5 : Nat) (h_p6 : Nat) (h_p6_halfWidths : Nat) (h_p5_disc : Nat) (h_p5_kept : Nat) (h_p5_heights : Nat) (o_hasRun : Int32) (o_time : Int32) (o_ended : Int32) (o_x : Int32) (o_y : Int32) (o_z : Int32) (o_cut : Int32) (o_held : Int32) (p5_side : Int32) (p5_cells : Int32) (p5_targets : Value) (p5_marks : Value) (p5_discSize : Int32) (p6_radius : Int32) (p6_feed : Int32) (p6_halfWidths_n : Nat) (p6_halfWidths : Nat → Int32) (p5_disc_n : Nat) (p5_disc : Nat → Int32) (p5_kept_n : Nat) (p5_kept : Nat → Int32) (p5_heights_n : Nat) (p5_heights : Nat → Int32) : va_W := [(h_o, .inr (1, [.int o_hasRun, .int o_time, .int o_ended, .int o_x, .int o_y, .int o_z, .int o_cut, .int o_held])), (h_p5, .inr (0, [.int p5_side, .int p5_cells, .ref h_p5_heights, p5_targets, .ref h_p5_kept, p5_marks, .ref h_p5_disc, .int p5_discSize])), (h_p6, .inr (5, [.int p6_radius, .int p6_feed, .ref h_p6_halfWidths])), (h_p6_halfWidths, .inl (cA 0, p6_halfWidths_n, .inl p6_halfWidths)), (h_p5_disc, .inl (cA 0, p5_disc_n, .inl p5_disc)), (h_p5_kept, .inl (cA 1, p5_kept_n, .inl p5_kept)), (h_p5_heights, .inl (cA 0, p5_heights_n, .inl p5_heights))]
def LX1_travel_41 (k1 : Int32) (N : Nat) (o_x : Int32) (a1 : Int32) (o_y : Int32) (a2 : Int32) (o_z : Int32) (a3 : Int32) (p5_side : Int32) (p5_cells : Int32) (p6_radius : Int32) (p6_halfWidths_n : Nat) (p6_halfWidths : Nat → Int32) (p5_disc_n : Nat) (a4 : Int32) (p5_heights_n : Nat) (p6_feed : Int32) (p5_kept_n : Nat) (p5_kept : Nat → Int32) : Nat → Int32 → Int32 → Int32 → Int32 → Int32 → Int32 → (Nat → Int32) → Int32 → (Nat → Int32) → Option (RX1_travel)
  | 0, _, _, _, _, _, _, _, _, _ => none
  | n + 1, x11_41, o_cut_41, o_time_41, o_x_41, o_y_41, o_z_41, p5_disc_41, p5_discSize_41, p5_heights_41 => (if k1 < x11_41 then some (0, o_time_41, o_x_41, o_y_41, o_z_41, o_cut_41, p5_discSize_41, p5_disc_41, p5_heights_41) else ((fX1_along N o_x a1 x11_41 k1).bind fun r2 => ((fX1_along N o_y a2 x11_41 k1).bind fun r3 => ((fX1_along N o_z a3 x11_41 k1).bind fun r4 => ((fX0_layDisc N r2 r3 p5_side p5_cells p5_discSize_41 p6_radius p6_halfWidths_n p6_halfWidths p5_disc_n p5_disc_41).bind fun r5 => (if a4 = 0 then ((fX1_passHere N o_time_41 r4 r5.1 p5_heights_n p5_heights_41 p5_disc_n r5.2).bind fun r6 => (if r6.1 = 0 then LX1_travel_41 k1 N o_x a1 o_y a2 o_z a3 p5_side p5_cells p6_radius p6_halfWidths_n p6_halfWidths p5_disc_n a4 p5_heights_n p6_feed p5_kept_n p5_kept n (x11_41 + 1) o_cut_41 r6.2 r2 r3 r4 r5.2 r5.1 p5_heights_41 else some (r6.1, r6.2, r2, r3, r4, o_cut_41, r5.1, r5.2, p5_heights_41))) else ((fX1_cutHere N o_time_41 r4 o_cut_41 r5.1 p6_feed p5_kept_n p5_kept p5_disc_n r5.2 p5_heights_n p5_heights_41).bind fun r7 => (if r7.1 = 0 then LX1_travel_41 k1 N o_x a1 o_y a2 o_z a3 p5_side p5_cells p6_radius p6_halfWidths_n p6_halfWidths p5_disc_n a4 p5_heights_n p6_feed p5_kept_n p5_kept n (x11_41 + 1) r7.2.2.1 r7.2.1 r2 r3 r4 r5.2 r5.1 r7.2.2.2 else some (r7.1, r7.2.1, r2, r3, r4, r7.2.2.1, r5.1, r5.2, r7.2.2.2)))))))))
def fX1_travel (N : Nat) (a1 : Int32) (a2 : Int32) (a3 : Int32) (a4 : Int32) (o_time : Int32) (o_x : Int32) (o_y : Int32) (o_z : Int32) (o_cut : Int32) (p5_side : Int32) (p5_cells : Int32) (p5_discSize : Int32) (p6_radius : Int32) (p6_feed : Int32) (p6_halfWidths_n : Nat) (p6_halfWidths : Nat → Int32) (p5_disc_n : Nat) (p5_disc : Nat → Int32) (p5_kept_n : Nat) (p5_kept : Nat → Int32) (p5_heights_n : Nat) (p5_heights : Nat → Int32) : Option RX1_travel :=
  LX1_travel_41 (if (if 0 ≤ a1 then a1 else 0 - a1) < (if (if 0 ≤ a2 then a2 else 0 - a2) < (if 0 ≤ a3 then a3 else 0 - a3) then (if 0 ≤ a3 then a3 else 0 - a3) else (if 0 ≤ a2 then a2 else 0 - a2)) then (if (if 0 ≤ a2 then a2 else 0 - a2) < (if 0 ≤ a3 then a3 else 0 - a3) then (if 0 ≤ a3 then a3 else 0 - a3) else (if 0 ≤ a2 then a2 else 0 - a2)) else (if 0 ≤ a1 then a1 else 0 - a1)) N o_x a1 o_y a2 o_z a3 p5_side p5_cells p6_radius p6_halfWidths_n p6_halfWidths p5_disc_n a4 p5_heights_n p6_feed p5_kept_n p5_kept N 1 o_cut o_time o_x o_y o_z p5_disc p5_discSize p5_heights
set_option maxHeartbeats 4000000 in
set_option maxRecDepth 100000 in
theorem kX1_travel (l : Launch) (D : va_G) (cA : Nat → ClassId) (h_o : Nat) (h_p5 : Nat) (h_p6 : Nat) (h_p6_halfWidths : Nat) (h_p5_disc : Nat) (h_p5_kept : Nat) (h_p5_heights : Nat) (o_hasRun : Int32) (o_time : Int32) (o_ended : Int32) (o_x : Int32) (o_y : Int32) (o_z : Int32) (o_cut : Int32) (o_held : Int32) (p5_side : Int32) (p5_cells : Int32) (p5_targets : Value) (p5_marks : Value) (p5_discSize : Int32) (p6_radius : Int32) (p6_feed : Int32) (p6_halfWidths_n : Nat) (p6_halfWidths : Nat → Int32) (p5_disc_n : Nat) (p5_disc : Nat → Int32) (p5_kept_n : Nat) (p5_kept : Nat → Int32) (p5_heights_n : Nat) (p5_heights : Nat → Int32) (a1 : Int32) (a2 : Int32) (a3 : Int32) (a4 : Int32) (N : Nat) (res : RX1_travel) (hf0 : fX1_travel N a1 a2 a3 a4 o_time o_x o_y o_z o_cut p5_side p5_cells p5_discSize p6_radius p6_feed p6_halfWidths_n p6_halfWidths p5_disc_n p5_disc p5_kept_n p5_kept p5_heights_n p5_heights = some res) : CtI l yX1_travel (Cond.code yX1_travel cX1_travel 13 (some .int) :: tblG) rmX1_travel D cA (wsX1_travel cA h_o h_p5 h_p6 h_p6_halfWidths h_p5_disc h_p5_kept h_p5_heights o_hasRun o_time o_ended o_x o_y o_z o_cut o_held p5_side p5_cells p5_targets p5_marks p5_discSize p6_radius p6_feed p6_halfWidths_n p6_halfWidths p5_disc_n p5_disc p5_kept_n p5_kept p5_heights_n p5_heights) [.ref h_o, .int a1, .int a2, .int a3, .int a4, .ref h_p5, .ref h_p6] res.1 (wsX1_travel cA h_o h_p5 h_p6 h_p6_halfWidths h_p5_disc h_p5_kept h_p5_heights o_hasRun res.2.1 o_ended res.2.2.1 res.2.2.2.1 res.2.2.2.2.1 res.2.2.2.2.2.1 o_held p5_side p5_cells p5_targets p5_marks res.2.2.2.2.2.2.1 p6_radius p6_feed p6_halfWidths_n p6_halfWidths p5_disc_n res.2.2.2.2.2.2.2.1 p5_kept_n p5_kept p5_heights_n res.2.2.2.2.2.2.2.2) := by
  refine CtI.start (lv := [(0, .ref h_o), (1, .int a1), (2, .int a2), (3, .int a3), (4, .int a4), (5, .ref h_p5), (6, .ref h_p6)]) (by decide) (Nat.le_of_ble_eq_true rfl) rfl (fun κ hE => ?_)
  rw [fX1_travel] at hf0
  refine z_aload_n 0 (pc := 0) dX1_travel_0 rfl ?_
  refine z_get 0 3 (pc := 1) (v := .int o_x) rfl rfl inX1 (by decide) flX1_25 rfl dX1_travel_1 ?_
  refine z_istore (pc := 4) (lv' := [(7, .int o_x), (0, .ref h_o), (1, .int a1), (2, .int a2), (3, .int a3), (4, .int a4), (5, .ref h_p5), (6, .ref h_p6)]) dX1_travel_4 (by decide) rfl ?_
  refine z_aload_n 1 (pc := 6) dX1_travel_6 rfl ?_
  refine z_get 0 4 (pc := 7) (v := .int o_y) rfl rfl inX1 (by decide) flX1_28 rfl dX1_travel_7 ?_
  refine z_istore (pc := 10) (lv' := [(8, .int o_y), (7, .int o_x), (0, .ref h_o), (1, .int a1), (2, .int a2), (3, .int a3), (4, .int a4), (5, .ref h_p5), (6, .ref h_p6)]) dX1_travel_10 (by decide) rfl ?_
  refine z_aload_n 2 (pc := 12) dX1_travel_12 rfl ?_
  refine z_get 0 5 (pc := 13) (v := .int o_z) rfl rfl inX1 (by decide) flX1_31 rfl dX1_travel_13 ?_
  refine z_istore (pc := 16) (lv' := [(9, .int o_z), (8, .int o_y), (7, .int o_x), (0, .ref h_o), (1, .int a1), (2, .int a2), (3, .int a3), (4, .int a4), (5, .ref h_p5), (6, .ref h_p6)]) dX1_travel_16 (by decide) rfl ?_
  refine z_iload_n 4 (pc := 18) dX1_travel_18 rfl ?_
  refine z_mabs (pc := 19) mlX1_74 mst_abs mini mcd_abs (by decide) (Nat.le_of_ble_eq_true rfl) (Nat.zero_le _) (Nat.zero_le _) dX1_travel_19 ?_
  refine z_iload_n 5 (pc := 22) dX1_travel_22 rfl ?_
  refine z_mabs (pc := 23) mlX1_74 mst_abs mini mcd_abs (by decide) (Nat.le_of_ble_eq_true rfl) (Nat.zero_le _) (Nat.zero_le _) dX1_travel_23 ?_
  refine z_iload_n 6 (pc := 26) dX1_travel_26 rfl ?_
  refine z_mabs (pc := 27) mlX1_74 mst_abs mini mcd_abs (by decide) (Nat.le_of_ble_eq_true rfl) (Nat.zero_le _) (Nat.zero_le _) dX1_travel_27 ?_
  refine z_mmax (pc := 30) mlX1_80 mst_max mini mcd_max (by decide) (Nat.le_of_ble_eq_true rfl) (Nat.zero_le _) (Nat.zero_le _) dX1_travel_30 ?_
  refine z_mmax (pc := 33) mlX1_80 mst_max mini mcd_max (by decide) (Nat.le_of_ble_eq_true rfl) (Nat.zero_le _) (Nat.zero_le _) dX1_travel_33 ?_
  refine z_istore (pc := 36) (lv' := [(10, .int (if (if 0 ≤ a1 then a1 else 0 - a1) < (if (if 0 ≤ a2 then a2 else 0 - a2) < (if 0 ≤ a3 then a3 else 0 - a3) then (if 0 ≤ a3 then a3 else 0 - a3) else (if 0 ≤ a2 then a2 else 0 - a2)) then (if (if 0 ≤ a2 then a2 else 0 - a2) < (if 0 ≤ a3 then a3 else 0 - a3) then (if 0 ≤ a3 then a3 else 0 - a3) else (if 0 ≤ a2 then a2 else 0 - a2)) else (if 0 ≤ a1 then a1 else 0 - a1))), (9, .int o_z), (8, .int o_y), (7, .int o_x), (0, .ref h_o), (1, .int a1), (2, .int a2), (3, .int a3), (4, .int a4), (5, .ref h_p5), (6, .ref h_p6)]) dX1_travel_36 (by decide) rfl ?_
  refine z_iconst (pc := 38) (v := 1) dX1_travel_38 (by decide) ?_
  refine z_istore (pc := 39) (lv' := [(11, .int 1), (10, .int (if (if 0 ≤ a1 then a1 else 0 - a1) < (if (if 0 ≤ a2 then a2 else 0 - a2) < (if 0 ≤ a3 then a3 else 0 - a3) then (if 0 ≤ a3 then a3 else 0 - a3) else (if 0 ≤ a2 then a2 else 0 - a2)) then (if (if 0 ≤ a2 then a2 else 0 - a2) < (if 0 ≤ a3 then a3 else 0 - a3) then (if 0 ≤ a3 then a3 else 0 - a3) else (if 0 ≤ a2 then a2 else 0 - a2)) else (if 0 ≤ a1 then a1 else 0 - a1))), (9, .int o_z), (8, .int o_y), (7, .int o_x), (0, .ref h_o), (1, .int a1), (2, .int a2), (3, .int a3), (4, .int a4), (5, .ref h_p5), (6, .ref h_p6)]) dX1_travel_39 (by decide) rfl ?_
  have lp41 : ∀ (n : Nat) (x11_41 : Int32) (o_cut_41 : Int32) (o_time_41 : Int32) (o_x_41 : Int32) (o_y_41 : Int32) (o_z_41 : Int32) (p5_disc_41 : Nat → Int32) (p5_discSize_41 : Int32) (p5_heights_41 : Nat → Int32), LX1_travel_41 (if (if 0 ≤ a1 then a1 else 0 - a1) < (if (if 0 ≤ a2 then a2 else 0 - a2) < (if 0 ≤ a3 then a3 else 0 - a3) then (if 0 ≤ a3 then a3 else 0 - a3) else (if 0 ≤ a2 then a2 else 0 - a2)) then (if (if 0 ≤ a2 then a2 else 0 - a2) < (if 0 ≤ a3 then a3 else 0 - a3) then (if 0 ≤ a3 then a3 else 0 - a3) else (if 0 ≤ a2 then a2 else 0 - a2)) else (if 0 ≤ a1 then a1 else 0 - a1)) N o_x a1 o_y a2 o_z a3 p5_side p5_cells p6_radius p6_halfWidths_n p6_halfWidths p5_disc_n a4 p5_heights_n p6_feed p5_kept_n p5_kept n x11_41 o_cut_41 o_time_41 o_x_41 o_y_41 o_z_41 p5_disc_41 p5_discSize_41 p5_heights_41 = some res → V κ false l D cA rmX1_travel cX1_travel 13 RX1 (some .int) 0 0 41 [(10, .int (if (if 0 ≤ a1 then a1 else 0 - a1) < (if (if 0 ≤ a2 then a2 else 0 - a2) < (if 0 ≤ a3 then a3 else 0 - a3) then (if 0 ≤ a3 then a3 else 0 - a3) else (if 0 ≤ a2 then a2 else 0 - a2)) then (if (if 0 ≤ a2 then a2 else 0 - a2) < (if 0 ≤ a3 then a3 else 0 - a3) then (if 0 ≤ a3 then a3 else 0 - a3) else (if 0 ≤ a2 then a2 else 0 - a2)) else (if 0 ≤ a1 then a1 else 0 - a1))), (9, .int o_z), (8, .int o_y), (7, .int o_x), (0, .ref h_o), (1, .int a1), (2, .int a2), (3, .int a3), (4, .int a4), (5, .ref h_p5), (6, .ref h_p6), (11, .int x11_41)] [] (wsX1_travel cA h_o h_p5 h_p6 h_p6_halfWidths h_p5_disc h_p5_kept h_p5_heights o_hasRun o_time_41 o_ended o_x_41 o_y_41 o_z_41 o_cut_41 o_held p5_side p5_cells p5_targets p5_marks p5_discSize_41 p6_radius p6_feed p6_halfWidths_n p6_halfWidths p5_disc_n p5_disc_41 p5_kept_n p5_kept p5_heights_n p5_heights_41) := by
    intro n
    induction n with
    | zero => intro x11_41 o_cut_41 o_time_41 o_x_41 o_y_41 o_z_41 p5_disc_41 p5_discSize_41 p5_heights_41 hf0; rw [LX1_travel_41] at hf0; cases hf0
    | succ n41 ih41 =>
      intro x11_41 o_cut_41 o_time_41 o_x_41 o_y_41 o_z_41 p5_disc_41 p5_discSize_41 p5_heights_41 hf0
      rw [LX1_travel_41] at hf0
      refine z_iload 11 (pc := 41) dX1_travel_41 rfl ?_
      refine z_iload 0 (pc := 43) dX1_travel_43 rfl ?_
      refine z_icmp_gt (pc := 45) (tgt := 143) dX1_travel_45 (by decide) hf0 (fun hf0 => ?_) (fun hf0 => ?_)
      · refine z_iconst (pc := 143) (v := 0) dX1_travel_143 (by decide) ?_
        obtain rfl := Option.some.inj hf0
        exact z_iret hE dX1_travel_144
      · refine z_aload_n 4 (pc := 48) dX1_travel_48 rfl ?_
        refine z_iload 3 (pc := 49) dX1_travel_49 rfl ?_
        refine z_iload_n 5 (pc := 51) dX1_travel_51 rfl ?_
        refine z_iload 11 (pc := 52) dX1_travel_52 rfl ?_
        refine z_iload 0 (pc := 54) dX1_travel_54 rfl ?_
        obtain ⟨r2, er2, hf0⟩ := bp hf0
        refine z_calliS (pc := 56) (As := [.int o_x, .int a1, .int x11_41, .int (if (if 0 ≤ a1 then a1 else 0 - a1) < (if (if 0 ≤ a2 then a2 else 0 - a2) < (if 0 ≤ a3 then a3 else 0 - a3) then (if 0 ≤ a3 then a3 else 0 - a3) else (if 0 ≤ a2 then a2 else 0 - a2)) then (if (if 0 ≤ a2 then a2 else 0 - a2) < (if 0 ≤ a3 then a3 else 0 - a3) then (if 0 ≤ a3 then a3 else 0 - a3) else (if 0 ≤ a2 then a2 else 0 - a2)) else (if 0 ≤ a1 then a1 else 0 - a1))]) (rest := [.ref h_o]) (ws' := (wsX1_travel cA h_o h_p5 h_p6 h_p6_halfWidths h_p5_disc h_p5_kept h_p5_heights o_hasRun o_time_41 o_ended o_x_41 o_y_41 o_z_41 o_cut_41 o_held p5_side p5_cells p5_targets p5_marks p5_discSize_41 p6_radius p6_feed p6_halfWidths_n p6_halfWidths p5_disc_n p5_disc_41 p5_kept_n p5_kept p5_heights_n p5_heights_41)) (kX1_along l D cA   o_x a1 x11_41 (if (if 0 ≤ a1 then a1 else 0 - a1) < (if (if 0 ≤ a2 then a2 else 0 - a2) < (if 0 ≤ a3 then a3 else 0 - a3) then (if 0 ≤ a3 then a3 else 0 - a3) else (if 0 ≤ a2 then a2 else 0 - a2)) then (if (if 0 ≤ a2 then a2 else 0 - a2) < (if 0 ≤ a3 then a3 else 0 - a3) then (if 0 ≤ a3 then a3 else 0 - a3) else (if 0 ≤ a2 then a2 else 0 - a2)) else (if 0 ≤ a1 then a1 else 0 - a1)) N r2 er2) ivX1_83 ⟨rfl, rfl⟩ ⟨by decide, by decide⟩ rfl ⟨Nat.zero_le _, Nat.zero_le _⟩ [] rfl (by decide) rfl rfl rfl (Nat.le_of_ble_eq_true rfl) dX1_travel_56 ?_
        refine z_put 0 3 (pc := 59) (ws' := (wsX1_travel cA h_o h_p5 h_p6 h_p6_halfWidths h_p5_disc h_p5_kept h_p5_heights o_hasRun o_time_41 o_ended r2 o_y_41 o_z_41 o_cut_41 o_held p5_side p5_cells p5_targets p5_marks p5_discSize_41 p6_radius p6_feed p6_halfWidths_n p6_halfWidths p5_disc_n p5_disc_41 p5_kept_n p5_kept p5_heights_n p5_heights_41)) rfl rfl inX1 tyX1 tyX1_ok nmX1 (by decide) flX1_25 rfl rfl rfl rfl (Nat.le_of_ble_eq_true rfl) dX1_travel_59 rfl ?_
        refine z_aload_n 4 (pc := 62) dX1_travel_62 rfl ?_
        refine z_iload 2 (pc := 63) dX1_travel_63 rfl ?_
        refine z_iload_n 6 (pc := 65) dX1_travel_65 rfl ?_
        refine z_iload 11 (pc := 66) dX1_travel_66 rfl ?_
        refine z_iload 0 (pc := 68) dX1_travel_68 rfl ?_
        obtain ⟨r3, er3, hf0⟩ := bp hf0
        refine z_calliS (pc := 70) (As := [.int o_y, .int a2, .int x11_41, .int (if (if 0 ≤ a1 then a1 else 0 - a1) < (if (if 0 ≤ a2 then a2 else 0 - a2) < (if 0 ≤ a3 then a3 else 0 - a3) then (if 0 ≤ a3 then a3 else 0 - a3) else (if 0 ≤ a2 then a2 else 0 - a2)) then (if (if 0 ≤ a2 then a2 else 0 - a2) < (if 0 ≤ a3 then a3 else 0 - a3) then (if 0 ≤ a3 then a3 else 0 - a3) else (if 0 ≤ a2 then a2 else 0 - a2)) else (if 0 ≤ a1 then a1 else 0 - a1))]) (rest := [.ref h_o]) (ws' := (wsX1_travel cA h_o h_p5 h_p6 h_p6_halfWidths h_p5_disc h_p5_kept h_p5_heights o_hasRun o_time_41 o_ended r2 o_y_41 o_z_41 o_cut_41 o_held p5_side p5_cells p5_targets p5_marks p5_discSize_41 p6_radius p6_feed p6_halfWidths_n p6_halfWidths p5_disc_n p5_disc_41 p5_kept_n p5_kept p5_heights_n p5_heights_41)) (kX1_along l D cA   o_y a2 x11_41 (if (if 0 ≤ a1 then a1 else 0 - a1) < (if (if 0 ≤ a2 then a2 else 0 - a2) < (if 0 ≤ a3 then a3 else 0 - a3) then (if 0 ≤ a3 then a3 else 0 - a3) else (if 0 ≤ a2 then a2 else 0 - a2)) then (if (if 0 ≤ a2 then a2 else 0 - a2) < (if 0 ≤ a3 then a3 else 0 - a3) then (if 0 ≤ a3 then a3 else 0 - a3) else (if 0 ≤ a2 then a2 else 0 - a2)) else (if 0 ≤ a1 then a1 else 0 - a1)) N r3 er3) ivX1_83 ⟨rfl, rfl⟩ ⟨by decide, by decide⟩ rfl ⟨Nat.zero_le _, Nat.zero_le _⟩ [] rfl (by decide) rfl rfl rfl (Nat.le_of_ble_eq_true rfl) dX1_travel_70 ?_
        refine z_put 0 4 (pc := 73) (ws' := (wsX1_travel cA h_o h_p5 h_p6 h_p6_halfWidths h_p5_disc h_p5_kept h_p5_heights o_hasRun o_time_41 o_ended r2 r3 o_z_41 o_cut_41 o_held p5_side p5_cells p5_targets p5_marks p5_discSize_41 p6_radius p6_feed p6_halfWidths_n p6_halfWidths p5_disc_n p5_disc_41 p5_kept_n p5_kept p5_heights_n p5_heights_41)) rfl rfl inX1 tyX1 tyX1_ok nmX1 (by decide) flX1_28 rfl rfl rfl rfl (Nat.le_of_ble_eq_true rfl) dX1_travel_73 rfl ?_
        refine z_aload_n 4 (pc := 76) dX1_travel_76 rfl ?_
        refine z_iload 1 (pc := 77) dX1_travel_77 rfl ?_
        refine z_iload_n 7 (pc := 79) dX1_travel_79 rfl ?_
        refine z_iload 11 (pc := 80) dX1_travel_80 rfl ?_
        refine z_iload 0 (pc := 82) dX1_travel_82 rfl ?_
        obtain ⟨r4, er4, hf0⟩ := bp hf0
        refine z_calliS (pc := 84) (As := [.int o_z, .int a3, .int x11_41, .int (if (if 0 ≤ a1 then a1 else 0 - a1) < (if (if 0 ≤ a2 then a2 else 0 - a2) < (if 0 ≤ a3 then a3 else 0 - a3) then (if 0 ≤ a3 then a3 else 0 - a3) else (if 0 ≤ a2 then a2 else 0 - a2)) then (if (if 0 ≤ a2 then a2 else 0 - a2) < (if 0 ≤ a3 then a3 else 0 - a3) then (if 0 ≤ a3 then a3 else 0 - a3) else (if 0 ≤ a2 then a2 else 0 - a2)) else (if 0 ≤ a1 then a1 else 0 - a1))]) (rest := [.ref h_o]) (ws' := (wsX1_travel cA h_o h_p5 h_p6 h_p6_halfWidths h_p5_disc h_p5_kept h_p5_heights o_hasRun o_time_41 o_ended r2 r3 o_z_41 o_cut_41 o_held p5_side p5_cells p5_targets p5_marks p5_discSize_41 p6_radius p6_feed p6_halfWidths_n p6_halfWidths p5_disc_n p5_disc_41 p5_kept_n p5_kept p5_heights_n p5_heights_41)) (kX1_along l D cA   o_z a3 x11_41 (if (if 0 ≤ a1 then a1 else 0 - a1) < (if (if 0 ≤ a2 then a2 else 0 - a2) < (if 0 ≤ a3 then a3 else 0 - a3) then (if 0 ≤ a3 then a3 else 0 - a3) else (if 0 ≤ a2 then a2 else 0 - a2)) then (if (if 0 ≤ a2 then a2 else 0 - a2) < (if 0 ≤ a3 then a3 else 0 - a3) then (if 0 ≤ a3 then a3 else 0 - a3) else (if 0 ≤ a2 then a2 else 0 - a2)) else (if 0 ≤ a1 then a1 else 0 - a1)) N r4 er4) ivX1_83 ⟨rfl, rfl⟩ ⟨by decide, by decide⟩ rfl ⟨Nat.zero_le _, Nat.zero_le _⟩ [] rfl (by decide) rfl rfl rfl (Nat.le_of_ble_eq_true rfl) dX1_travel_84 ?_
        refine z_put 0 5 (pc := 87) (ws' := (wsX1_travel cA h_o h_p5 h_p6 h_p6_halfWidths h_p5_disc h_p5_kept h_p5_heights o_hasRun o_time_41 o_ended r2 r3 r4 o_cut_41 o_held p5_side p5_cells p5_targets p5_marks p5_discSize_41 p6_radius p6_feed p6_halfWidths_n p6_halfWidths p5_disc_n p5_disc_41 p5_kept_n p5_kept p5_heights_n p5_heights_41)) rfl rfl inX1 tyX1 tyX1_ok nmX1 (by decide) flX1_31 rfl rfl rfl rfl (Nat.le_of_ble_eq_true rfl) dX1_travel_87 rfl ?_
        refine z_aload 9 (pc := 90) dX1_travel_90 rfl ?_
        refine z_aload 10 (pc := 92) dX1_travel_92 rfl ?_
        refine z_aload_n 4 (pc := 94) dX1_travel_94 rfl ?_
        refine z_get 0 3 (pc := 95) (v := .int r2) rfl rfl inX1 (by decide) flX1_25 rfl dX1_travel_95 ?_
        refine z_aload_n 4 (pc := 98) dX1_travel_98 rfl ?_
        refine z_get 0 4 (pc := 99) (v := .int r3) rfl rfl inX1 (by decide) flX1_28 rfl dX1_travel_99 ?_
        obtain ⟨r5, er5, hf0⟩ := bp hf0
        refine z_callvV (pc := 102) (As := [.ref h_p6, .int r2, .int r3]) (rest := []) (ws' := (wsX1_travel cA h_o h_p5 h_p6 h_p6_halfWidths h_p5_disc h_p5_kept h_p5_heights o_hasRun o_time_41 o_ended r2 r3 r4 o_cut_41 o_held p5_side p5_cells p5_targets p5_marks r5.1 p6_radius p6_feed p6_halfWidths_n p6_halfWidths p5_disc_n r5.2 p5_kept_n p5_kept p5_heights_n p5_heights_41)) (kX0_layDisc l D cA h_p5 h_p6 h_p6_halfWidths h_p5_disc p5_side p5_cells (.ref h_p5_heights) p5_targets (.ref h_p5_kept) p5_marks p5_discSize_41 p6_radius p6_feed p6_halfWidths_n p6_halfWidths p5_disc_n p5_disc_41 r2 r3 N r5 er5) ivX1_87 ⟨rfl, rfl⟩ ⟨by decide, by decide⟩ rfl ⟨Nat.zero_le _, Nat.zero_le _⟩ rfl rfl [1, 2, 3, 4] rfl (by decide) rfl rfl rfl (Nat.le_of_ble_eq_true rfl) dX1_travel_102 ?_
        refine z_iload 8 (pc := 105) dX1_travel_105 rfl ?_
        refine z_if_eq (pc := 107) (tgt := 121) dX1_travel_107 (by decide) hf0 (fun hf0 => ?_) (fun hf0 => ?_)
        · refine z_aload_n 4 (pc := 121) dX1_travel_121 rfl ?_
          refine z_aload 9 (pc := 122) dX1_travel_122 rfl ?_
          obtain ⟨r6, er6, hf0⟩ := bp hf0
          refine z_calliV (pc := 124) (As := [.ref h_p5]) (rest := []) (ws' := (wsX1_travel cA h_o h_p5 h_p6 h_p6_halfWidths h_p5_disc h_p5_kept h_p5_heights o_hasRun r6.2 o_ended r2 r3 r4 o_cut_41 o_held p5_side p5_cells p5_targets p5_marks r5.1 p6_radius p6_feed p6_halfWidths_n p6_halfWidths p5_disc_n r5.2 p5_kept_n p5_kept p5_heights_n p5_heights_41)) (kX1_passHere l D cA h_o h_p5 h_p5_heights h_p5_disc o_hasRun o_time_41 o_ended r2 r3 r4 o_cut_41 o_held p5_side p5_cells p5_targets (.ref h_p5_kept) p5_marks r5.1 p5_heights_n p5_heights_41 p5_disc_n r5.2  N r6 er6) ivX1_97 ⟨rfl, rfl⟩ ⟨by decide, by decide⟩ rfl ⟨Nat.zero_le _, Nat.zero_le _⟩ rfl rfl [0, 1, 6, 4] rfl (by decide) rfl rfl rfl (Nat.le_of_ble_eq_true rfl) dX1_travel_124 ?_
          refine z_istore (pc := 127) (lv' := [(12, .int r6.1), (10, .int (if (if 0 ≤ a1 then a1 else 0 - a1) < (if (if 0 ≤ a2 then a2 else 0 - a2) < (if 0 ≤ a3 then a3 else 0 - a3) then (if 0 ≤ a3 then a3 else 0 - a3) else (if 0 ≤ a2 then a2 else 0 - a2)) then (if (if 0 ≤ a2 then a2 else 0 - a2) < (if 0 ≤ a3 then a3 else 0 - a3) then (if 0 ≤ a3 then a3 else 0 - a3) else (if 0 ≤ a2 then a2 else 0 - a2)) else (if 0 ≤ a1 then a1 else 0 - a1))), (9, .int o_z), (8, .int o_y), (7, .int o_x), (0, .ref h_o), (1, .int a1), (2, .int a2), (3, .int a3), (4, .int a4), (5, .ref h_p5), (6, .ref h_p6), (11, .int x11_41)]) dX1_travel_127 (by decide) rfl ?_
          refine z_iload 0 (pc := 129) dX1_travel_129 rfl ?_
          refine z_if_eq (pc := 131) (tgt := 137) dX1_travel_131 (by decide) hf0 (fun hf0 => ?_) (fun hf0 => ?_)
          · refine z_iinc 12 (pc := 137) (v := x11_41 + 1) (lv' := [(11, .int (x11_41 + 1)), (12, .int r6.1), (10, .int (if (if 0 ≤ a1 then a1 else 0 - a1) < (if (if 0 ≤ a2 then a2 else 0 - a2) < (if 0 ≤ a3 then a3 else 0 - a3) then (if 0 ≤ a3 then a3 else 0 - a3) else (if 0 ≤ a2 then a2 else 0 - a2)) then (if (if 0 ≤ a2 then a2 else 0 - a2) < (if 0 ≤ a3 then a3 else 0 - a3) then (if 0 ≤ a3 then a3 else 0 - a3) else (if 0 ≤ a2 then a2 else 0 - a2)) else (if 0 ≤ a1 then a1 else 0 - a1))), (9, .int o_z), (8, .int o_y), (7, .int o_x), (0, .ref h_o), (1, .int a1), (2, .int a2), (3, .int a3), (4, .int a4), (5, .ref h_p5), (6, .ref h_p6)]) dX1_travel_137 rfl rfl (by decide) rfl ?_
            refine z_goto (pc := 140) (tgt := 41) dX1_travel_140 (by decide) ?_
            exact z_lv [2, 3, 4, 5, 6, 7, 8, 9, 10, 11, 12, 0] rfl (ih41 (x11_41 + 1) o_cut_41 r6.2 r2 r3 r4 r5.2 r5.1 p5_heights_41 hf0)
          · refine z_iload 0 (pc := 134) dX1_travel_134 rfl ?_
            obtain rfl := Option.some.inj hf0
            exact z_iret hE dX1_travel_136
        · refine z_aload_n 4 (pc := 110) dX1_travel_110 rfl ?_
          refine z_aload 9 (pc := 111) dX1_travel_111 rfl ?_
          refine z_aload 10 (pc := 113) dX1_travel_113 rfl ?_
          obtain ⟨r7, er7, hf0⟩ := bp hf0
          refine z_calliV (pc := 115) (As := [.ref h_p5, .ref h_p6]) (rest := []) (ws' := (wsX1_travel cA h_o h_p5 h_p6 h_p6_halfWidths h_p5_disc h_p5_kept h_p5_heights o_hasRun r7.2.1 o_ended r2 r3 r4 r7.2.2.1 o_held p5_side p5_cells p5_targets p5_marks r5.1 p6_radius p6_feed p6_halfWidths_n p6_halfWidths p5_disc_n r5.2 p5_kept_n p5_kept p5_heights_n r7.2.2.2)) (kX1_cutHere l D cA h_o h_p5 h_p6 h_p5_kept h_p5_disc h_p5_heights o_hasRun o_time_41 o_ended r2 r3 r4 o_cut_41 o_held p5_side p5_cells p5_targets p5_marks r5.1 p6_radius p6_feed (.ref h_p6_halfWidths) p5_kept_n p5_kept p5_disc_n r5.2 p5_heights_n p5_heights_41  N r7 er7) ivX1_93 ⟨rfl, rfl⟩ ⟨by decide, by decide⟩ rfl ⟨Nat.zero_le _, Nat.zero_le _⟩ rfl rfl [0, 1, 2, 5, 4, 6] rfl (by decide) rfl rfl rfl (Nat.le_of_ble_eq_true rfl) dX1_travel_115 ?_
          refine z_goto (pc := 118) (tgt := 127) dX1_travel_118 (by decide) ?_
          refine z_istore (pc := 127) (lv' := [(12, .int r7.1), (10, .int (if (if 0 ≤ a1 then a1 else 0 - a1) < (if (if 0 ≤ a2 then a2 else 0 - a2) < (if 0 ≤ a3 then a3 else 0 - a3) then (if 0 ≤ a3 then a3 else 0 - a3) else (if 0 ≤ a2 then a2 else 0 - a2)) then (if (if 0 ≤ a2 then a2 else 0 - a2) < (if 0 ≤ a3 then a3 else 0 - a3) then (if 0 ≤ a3 then a3 else 0 - a3) else (if 0 ≤ a2 then a2 else 0 - a2)) else (if 0 ≤ a1 then a1 else 0 - a1))), (9, .int o_z), (8, .int o_y), (7, .int o_x), (0, .ref h_o), (1, .int a1), (2, .int a2), (3, .int a3), (4, .int a4), (5, .ref h_p5), (6, .ref h_p6), (11, .int x11_41)]) dX1_travel_127 (by decide) rfl ?_
          refine z_iload 0 (pc := 129) dX1_travel_129 rfl ?_
          refine z_if_eq (pc := 131) (tgt := 137) dX1_travel_131 (by decide) hf0 (fun hf0 => ?_) (fun hf0 => ?_)
          · refine z_iinc 12 (pc := 137) (v := x11_41 + 1) (lv' := [(11, .int (x11_41 + 1)), (12, .int r7.1), (10, .int (if (if 0 ≤ a1 then a1 else 0 - a1) < (if (if 0 ≤ a2 then a2 else 0 - a2) < (if 0 ≤ a3 then a3 else 0 - a3) then (if 0 ≤ a3 then a3 else 0 - a3) else (if 0 ≤ a2 then a2 else 0 - a2)) then (if (if 0 ≤ a2 then a2 else 0 - a2) < (if 0 ≤ a3 then a3 else 0 - a3) then (if 0 ≤ a3 then a3 else 0 - a3) else (if 0 ≤ a2 then a2 else 0 - a2)) else (if 0 ≤ a1 then a1 else 0 - a1))), (9, .int o_z), (8, .int o_y), (7, .int o_x), (0, .ref h_o), (1, .int a1), (2, .int a2), (3, .int a3), (4, .int a4), (5, .ref h_p5), (6, .ref h_p6)]) dX1_travel_137 rfl rfl (by decide) rfl ?_
            refine z_goto (pc := 140) (tgt := 41) dX1_travel_140 (by decide) ?_
            exact z_lv [2, 3, 4, 5, 6, 7, 8, 9, 10, 11, 12, 0] rfl (ih41 (x11_41 + 1) r7.2.2.1 r7.2.1 r2 r3 r4 r5.2 r5.1 r7.2.2.2 hf0)
          · refine z_iload 0 (pc := 134) dX1_travel_134 rfl ?_
            obtain rfl := Option.some.inj hf0
            exact z_iret hE dX1_travel_136
  exact z_lv [1, 2, 3, 4, 5, 6, 7, 8, 9, 10, 11, 0] rfl (lp41 N 1 o_cut o_time o_x o_y o_z p5_disc p5_discSize p5_heights hf0)

abbrev RX1_obey : Type := Int32 × Int32 × Int32 × Int32 × Int32 × Int32 × Int32 × Int32 × (Nat → Int32) × (Nat → Int32)
abbrev rmX1_obey : Room := { frames := 3, cells := 0, slots := 0, locals := 82 }
abbrev wsX1_obey (cA : Nat → ClassId) (h_o : Nat) (h_p1 : Nat) (h_p3 : Nat) (h_p4 : Nat) (h_p1_letters : Nat) (h_p1_digits : Nat) (h_p1_xs : Nat) (h_p1_ys : Nat) (h_p1_zs : Nat) (h_p4_0 : Nat) (h_p4_1 : Nat) (h_p4_2 : Nat) (h_p4_3 : Nat) (h_p4_0_halfWidths : Nat) (h_p4_1_halfWidths : Nat) (h_p4_2_halfWidths : Nat) (h_p4_3_halfWidths : Nat) (h_p3_disc : Nat) (h_p3_kept : Nat) (h_p3_heights : Nat) (o_hasRun : Int32) (o_time : Int32) (o_ended : Int32) (o_x : Int32) (o_y : Int32) (o_z : Int32) (o_cut : Int32) (o_held : Int32) (p1_count : Int32) (p3_side : Int32) (p3_cells : Int32) (p3_targets : Value) (p3_marks : Value) (p3_discSize : Int32) (p1_letters_n : Nat) (p1_letters : Nat → Int32) (p1_digits_n : Nat) (p1_digits : Nat → Int32) (p1_xs_n : Nat) (p1_xs : Nat → Int32) (p1_ys_n : Nat) (p1_ys : Nat → Int32) (p1_zs_n : Nat) (p1_zs : Nat → Int32) (p4_radius : Nat → Int32) (p4_feed : Nat → Int32) (p4_halfWidths_n : Nat) (p4_halfWidths : Nat → Nat → Int32) (p3_disc_n : Nat) (p3_disc : Nat → Int32) (p3_kept_n : Nat) (p3_kept : Nat → Int32) (p3_heights_n : Nat) (p3_heights : Nat → Int32) : va_W := [(h_o, .inr (1, [.int o_hasRun, .int o_time, .int o_ended, .int o_x, .int o_y, .int o_z, .int o_cut, .int o_held])), (h_p1, .inr (3, [.int p1_count, .ref h_p1_letters, .ref h_p1_digits, .ref h_p1_xs, .ref h_p1_ys, .ref h_p1_zs])), (h_p3, .inr (0, [.int p3_side, .int p3_cells, .ref h_p3_heights, p3_targets, .ref h_p3_kept, p3_marks, .ref h_p3_disc, .int p3_discSize])), (h_p4, .inl (cA 4, 4, .inr (.inr (.inr (.inr (rk4 h_p4_0 h_p4_1 h_p4_2 h_p4_3)))))), (h_p1_letters, .inl (cA 2, p1_letters_n, .inl p1_letters)), (h_p1_digits, .inl (cA 0, p1_digits_n, .inl p1_digits)), (h_p1_xs, .inl (cA 0, p1_xs_n, .inl p1_xs)), (h_p1_ys, .inl (cA 0, p1_ys_n, .inl p1_ys)), (h_p1_zs, .inl (cA 0, p1_zs_n, .inl p1_zs)), (h_p4_0, .inr (5, [.int (p4_radius 0), .int (p4_feed 0), .ref h_p4_0_halfWidths])), (h_p4_1, .inr (5, [.int (p4_radius 1), .int (p4_feed 1), .ref h_p4_1_halfWidths])), (h_p4_2, .inr (5, [.int (p4_radius 2), .int (p4_feed 2), .ref h_p4_2_halfWidths])), (h_p4_3, .inr (5, [.int (p4_radius 3), .int (p4_feed 3), .ref h_p4_3_halfWidths])), (h_p4_0_halfWidths, .inl (cA 0, p4_halfWidths_n, .inl (p4_halfWidths 0))), (h_p4_1_halfWidths, .inl (cA 0, p4_halfWidths_n, .inl (p4_halfWidths 1))), (h_p4_2_halfWidths, .inl (cA 0, p4_halfWidths_n, .inl (p4_halfWidths 2))), (h_p4_3_halfWidths, .inl (cA 0, p4_halfWidths_n, .inl (p4_halfWidths 3))), (h_p3_disc, .inl (cA 0, p3_disc_n, .inl p3_disc)), (h_p3_kept, .inl (cA 1, p3_kept_n, .inl p3_kept)), (h_p3_heights, .inl (cA 0, p3_heights_n, .inl p3_heights))]
def fX1_obey (N : Nat) (a2 : Int32) (o_time : Int32) (o_x : Int32) (o_y : Int32) (o_z : Int32) (o_cut : Int32) (o_held : Int32) (p3_side : Int32) (p3_cells : Int32) (p3_discSize : Int32) (p1_letters_n : Nat) (p1_letters : Nat → Int32) (p1_digits_n : Nat) (p1_digits : Nat → Int32) (p1_xs_n : Nat) (p1_xs : Nat → Int32) (p1_ys_n : Nat) (p1_ys : Nat → Int32) (p1_zs_n : Nat) (p1_zs : Nat → Int32) (p4_radius : Nat → Int32) (p4_feed : Nat → Int32) (p4_halfWidths_n : Nat) (p4_halfWidths : Nat → Nat → Int32) (p3_disc_n : Nat) (p3_disc : Nat → Int32) (p3_kept_n : Nat) (p3_kept : Nat → Int32) (p3_heights_n : Nat) (p3_heights : Nat → Int32) : Option RX1_obey :=
  (if a2 < 0 ∨ p1_letters_n ≤ a2.toNatClampNeg then none else (if (p1_letters a2.toNatClampNeg) = 84 then (if a2 < 0 ∨ p1_digits_n ≤ a2.toNatClampNeg then none else some (0, o_time + 10, o_x, o_y, o_z, o_cut, p1_digits a2.toNatClampNeg, p3_discSize, p3_disc, p3_heights)) else (if a2 < 0 ∨ p1_xs_n ≤ a2.toNatClampNeg then none else ((fX1_difference N o_x (p1_xs a2.toNatClampNeg)).bind fun r1 => (if a2 < 0 ∨ p1_ys_n ≤ a2.toNatClampNeg then none else ((fX1_difference N o_y (p1_ys a2.toNatClampNeg)).bind fun r2 => (if a2 < 0 ∨ p1_zs_n ≤ a2.toNatClampNeg then none else ((fX1_difference N o_z (p1_zs a2.toNatClampNeg)).bind fun r3 => (if a2 < 0 ∨ p1_digits_n ≤ a2.toNatClampNeg then none else (if (p1_digits a2.toNatClampNeg) = 1 then (if o_held < 0 ∨ 4 ≤ o_held.toNatClampNeg then none else ((fX1_travel N r1 r2 r3 1 o_time o_x o_y o_z o_cut p3_side p3_cells p3_discSize (p4_radius o_held.toNatClampNeg) (p4_feed o_held.toNatClampNeg) p4_halfWidths_n (p4_halfWidths o_held.toNatClampNeg) p3_disc_n p3_disc p3_kept_n p3_kept p3_heights_n p3_heights).bind fun r5 => some (r5.1, r5.2.1, r5.2.2.1, r5.2.2.2.1, r5.2.2.2.2.1, r5.2.2.2.2.2.1, o_held, r5.2.2.2.2.2.2.1, r5.2.2.2.2.2.2.2.1, r5.2.2.2.2.2.2.2.2))) else (if o_held < 0 ∨ 4 ≤ o_held.toNatClampNeg then none else ((fX1_travel N r1 r2 r3 0 o_time o_x o_y o_z o_cut p3_side p3_cells p3_discSize (p4_radius o_held.toNatClampNeg) (p4_feed o_held.toNatClampNeg) p4_halfWidths_n (p4_halfWidths o_held.toNatClampNeg) p3_disc_n p3_disc p3_kept_n p3_kept p3_heights_n p3_heights).bind fun r4 => some (r4.1, r4.2.1, r4.2.2.1, r4.2.2.2.1, r4.2.2.2.2.1, r4.2.2.2.2.2.1, o_held, r4.2.2.2.2.2.2.1, r4.2.2.2.2.2.2.2.1, r4.2.2.2.2.2.2.2.2)))))))))))))
set_option maxHeartbeats 4000000 in
set_option maxRecDepth 100000 in
theorem kX1_obey (l : Launch) (D : va_G) (cA : Nat → ClassId) (h_o : Nat) (h_p1 : Nat) (h_p3 : Nat) (h_p4 : Nat) (h_p1_letters : Nat) (h_p1_digits : Nat) (h_p1_xs : Nat) (h_p1_ys : Nat) (h_p1_zs : Nat) (h_p4_0 : Nat) (h_p4_1 : Nat) (h_p4_2 : Nat) (h_p4_3 : Nat) (h_p4_0_halfWidths : Nat) (h_p4_1_halfWidths : Nat) (h_p4_2_halfWidths : Nat) (h_p4_3_halfWidths : Nat) (h_p3_disc : Nat) (h_p3_kept : Nat) (h_p3_heights : Nat) (o_hasRun : Int32) (o_time : Int32) (o_ended : Int32) (o_x : Int32) (o_y : Int32) (o_z : Int32) (o_cut : Int32) (o_held : Int32) (p1_count : Int32) (p3_side : Int32) (p3_cells : Int32) (p3_targets : Value) (p3_marks : Value) (p3_discSize : Int32) (p1_letters_n : Nat) (p1_letters : Nat → Int32) (p1_digits_n : Nat) (p1_digits : Nat → Int32) (p1_xs_n : Nat) (p1_xs : Nat → Int32) (p1_ys_n : Nat) (p1_ys : Nat → Int32) (p1_zs_n : Nat) (p1_zs : Nat → Int32) (p4_radius : Nat → Int32) (p4_feed : Nat → Int32) (p4_halfWidths_n : Nat) (p4_halfWidths : Nat → Nat → Int32) (p3_disc_n : Nat) (p3_disc : Nat → Int32) (p3_kept_n : Nat) (p3_kept : Nat → Int32) (p3_heights_n : Nat) (p3_heights : Nat → Int32) (a2 : Int32) (N : Nat) (res : RX1_obey) (hf0 : fX1_obey N a2 o_time o_x o_y o_z o_cut o_held p3_side p3_cells p3_discSize p1_letters_n p1_letters p1_digits_n p1_digits p1_xs_n p1_xs p1_ys_n p1_ys p1_zs_n p1_zs p4_radius p4_feed p4_halfWidths_n p4_halfWidths p3_disc_n p3_disc p3_kept_n p3_kept p3_heights_n p3_heights = some res) : CtI l yX1_obey (Cond.code yX1_obey cX1_obey 8 (some .int) :: tblG) rmX1_obey D cA (wsX1_obey cA h_o h_p1 h_p3 h_p4 h_p1_letters h_p1_digits h_p1_xs h_p1_ys h_p1_zs h_p4_0 h_p4_1 h_p4_2 h_p4_3 h_p4_0_halfWidths h_p4_1_halfWidths h_p4_2_halfWidths h_p4_3_halfWidths h_p3_disc h_p3_kept h_p3_heights o_hasRun o_time o_ended o_x o_y o_z o_cut o_held p1_count p3_side p3_cells p3_targets p3_marks p3_discSize p1_letters_n p1_letters p1_digits_n p1_digits p1_xs_n p1_xs p1_ys_n p1_ys p1_zs_n p1_zs p4_radius p4_feed p4_halfWidths_n p4_halfWidths p3_disc_n p3_disc p3_kept_n p3_kept p3_heights_n p3_heights) [.ref h_o, .ref h_p1, .int a2, .ref h_p3, .ref h_p4] res.1 (wsX1_obey cA h_o h_p1 h_p3 h_p4 h_p1_letters h_p1_digits h_p1_xs h_p1_ys h_p1_zs h_p4_0 h_p4_1 h_p4_2 h_p4_3 h_p4_0_halfWidths h_p4_1_halfWidths h_p4_2_halfWidths h_p4_3_halfWidths h_p3_disc h_p3_kept h_p3_heights o_hasRun res.2.1 o_ended res.2.2.1 res.2.2.2.1 res.2.2.2.2.1 res.2.2.2.2.2.1 res.2.2.2.2.2.2.1 p1_count p3_side p3_cells p3_targets p3_marks res.2.2.2.2.2.2.2.1 p1_letters_n p1_letters p1_digits_n p1_digits p1_xs_n p1_xs p1_ys_n p1_ys p1_zs_n p1_zs p4_radius p4_feed p4_halfWidths_n p4_halfWidths p3_disc_n res.2.2.2.2.2.2.2.2.1 p3_kept_n p3_kept p3_heights_n res.2.2.2.2.2.2.2.2.2) := by
  refine CtI.start (lv := [(0, .ref h_o), (1, .ref h_p1), (2, .int a2), (3, .ref h_p3), (4, .ref h_p4)]) (by decide) (Nat.le_of_ble_eq_true rfl) rfl (fun κ hE => ?_)
  rw [fX1_obey] at hf0
  refine z_aload_n 1 (pc := 0) dX1_obey_0 rfl ?_
  refine z_get 1 1 (pc := 1) (v := .ref h_p1_letters) rfl rfl inX3 (by decide) flX1_49 rfl dX1_obey_1 ?_
  refine z_iload_n 2 (pc := 4) dX1_obey_4 rfl ?_
  refine z_caload 4 2 (pc := 5) rfl rfl dX1_obey_5 hf0 (fun hf0 => ?_)
  refine z_bipush (pc := 6) (v := 84) dX1_obey_6 (by decide) ?_
  refine z_icmp_ne (pc := 8) (tgt := 34) dX1_obey_8 (by decide) hf0 (fun hf0 => ?_) (fun hf0 => ?_)
  · refine z_aload_n 0 (pc := 34) dX1_obey_34 rfl ?_
    refine z_get 0 3 (pc := 35) (v := .int o_x) rfl rfl inX1 (by decide) flX1_25 rfl dX1_obey_35 ?_
    refine z_aload_n 1 (pc := 38) dX1_obey_38 rfl ?_
    refine z_get 1 3 (pc := 39) (v := .ref h_p1_xs) rfl rfl inX3 (by decide) flX1_57 rfl dX1_obey_39 ?_
    refine z_iload_n 2 (pc := 42) dX1_obey_42 rfl ?_
    refine z_iaload 6 0 (pc := 43) rfl rfl dX1_obey_43 hf0 (fun hf0 => ?_)
    obtain ⟨r1, er1, hf0⟩ := bp hf0
    refine z_calliS (pc := 44) (As := [.int o_x, .int (p1_xs a2.toNatClampNeg)]) (rest := []) (ws' := (wsX1_obey cA h_o h_p1 h_p3 h_p4 h_p1_letters h_p1_digits h_p1_xs h_p1_ys h_p1_zs h_p4_0 h_p4_1 h_p4_2 h_p4_3 h_p4_0_halfWidths h_p4_1_halfWidths h_p4_2_halfWidths h_p4_3_halfWidths h_p3_disc h_p3_kept h_p3_heights o_hasRun o_time o_ended o_x o_y o_z o_cut o_held p1_count p3_side p3_cells p3_targets p3_marks p3_discSize p1_letters_n p1_letters p1_digits_n p1_digits p1_xs_n p1_xs p1_ys_n p1_ys p1_zs_n p1_zs p4_radius p4_feed p4_halfWidths_n p4_halfWidths p3_disc_n p3_disc p3_kept_n p3_kept p3_heights_n p3_heights)) (kX1_difference l D cA   o_x (p1_xs a2.toNatClampNeg) N r1 er1) ivX1_60 ⟨rfl, rfl⟩ ⟨by decide, by decide⟩ rfl ⟨Nat.zero_le _, Nat.zero_le _⟩ [] rfl (by decide) rfl rfl rfl (Nat.le_of_ble_eq_true rfl) dX1_obey_44 ?_
    refine z_istore (pc := 47) (lv' := [(5, .int r1), (0, .ref h_o), (1, .ref h_p1), (2, .int a2), (3, .ref h_p3), (4, .ref h_p4)]) dX1_obey_47 (by decide) rfl ?_
    refine z_aload_n 1 (pc := 49) dX1_obey_49 rfl ?_
    refine z_get 0 4 (pc := 50) (v := .int o_y) rfl rfl inX1 (by decide) flX1_28 rfl dX1_obey_50 ?_
    refine z_aload_n 2 (pc := 53) dX1_obey_53 rfl ?_
    refine z_get 1 4 (pc := 54) (v := .ref h_p1_ys) rfl rfl inX3 (by decide) flX1_64 rfl dX1_obey_54 ?_
    refine z_iload_n 3 (pc := 57) dX1_obey_57 rfl ?_
    refine z_iaload 7 0 (pc := 58) rfl rfl dX1_obey_58 hf0 (fun hf0 => ?_)
    obtain ⟨r2, er2, hf0⟩ := bp hf0
    refine z_calliS (pc := 59) (As := [.int o_y, .int (p1_ys a2.toNatClampNeg)]) (rest := []) (ws' := (wsX1_obey cA h_o h_p1 h_p3 h_p4 h_p1_letters h_p1_digits h_p1_xs h_p1_ys h_p1_zs h_p4_0 h_p4_1 h_p4_2 h_p4_3 h_p4_0_halfWidths h_p4_1_halfWidths h_p4_2_halfWidths h_p4_3_halfWidths h_p3_disc h_p3_kept h_p3_heights o_hasRun o_time o_ended o_x o_y o_z o_cut o_held p1_count p3_side p3_cells p3_targets p3_marks p3_discSize p1_letters_n p1_letters p1_digits_n p1_digits p1_xs_n p1_xs p1_ys_n p1_ys p1_zs_n p1_zs p4_radius p4_feed p4_halfWidths_n p4_halfWidths p3_disc_n p3_disc p3_kept_n p3_kept p3_heights_n p3_heights)) (kX1_difference l D cA   o_y (p1_ys a2.toNatClampNeg) N r2 er2) ivX1_60 ⟨rfl, rfl⟩ ⟨by decide, by decide⟩ rfl ⟨Nat.zero_le _, Nat.zero_le _⟩ [] rfl (by decide) rfl rfl rfl (Nat.le_of_ble_eq_true rfl) dX1_obey_59 ?_
    refine z_istore (pc := 62) (lv' := [(6, .int r2), (5, .int r1), (0, .ref h_o), (1, .ref h_p1), (2, .int a2), (3, .ref h_p3), (4, .ref h_p4)]) dX1_obey_62 (by decide) rfl ?_
    refine z_aload_n 2 (pc := 64) dX1_obey_64 rfl ?_
    refine z_get 0 5 (pc := 65) (v := .int o_z) rfl rfl inX1 (by decide) flX1_31 rfl dX1_obey_65 ?_
    refine z_aload_n 3 (pc := 68) dX1_obey_68 rfl ?_
    refine z_get 1 5 (pc := 69) (v := .ref h_p1_zs) rfl rfl inX3 (by decide) flX1_67 rfl dX1_obey_69 ?_
    refine z_iload_n 4 (pc := 72) dX1_obey_72 rfl ?_
    refine z_iaload 8 0 (pc := 73) rfl rfl dX1_obey_73 hf0 (fun hf0 => ?_)
    obtain ⟨r3, er3, hf0⟩ := bp hf0
    refine z_calliS (pc := 74) (As := [.int o_z, .int (p1_zs a2.toNatClampNeg)]) (rest := []) (ws' := (wsX1_obey cA h_o h_p1 h_p3 h_p4 h_p1_letters h_p1_digits h_p1_xs h_p1_ys h_p1_zs h_p4_0 h_p4_1 h_p4_2 h_p4_3 h_p4_0_halfWidths h_p4_1_halfWidths h_p4_2_halfWidths h_p4_3_halfWidths h_p3_disc h_p3_kept h_p3_heights o_hasRun o_time o_ended o_x o_y o_z o_cut o_held p1_count p3_side p3_cells p3_targets p3_marks p3_discSize p1_letters_n p1_letters p1_digits_n p1_digits p1_xs_n p1_xs p1_ys_n p1_ys p1_zs_n p1_zs p4_radius p4_feed p4_halfWidths_n p4_halfWidths p3_disc_n p3_disc p3_kept_n p3_kept p3_heights_n p3_heights)) (kX1_difference l D cA   o_z (p1_zs a2.toNatClampNeg) N r3 er3) ivX1_60 ⟨rfl, rfl⟩ ⟨by decide, by decide⟩ rfl ⟨Nat.zero_le _, Nat.zero_le _⟩ [] rfl (by decide) rfl rfl rfl (Nat.le_of_ble_eq_true rfl) dX1_obey_74 ?_
    refine z_istore (pc := 77) (lv' := [(7, .int r3), (6, .int r2), (5, .int r1), (0, .ref h_o), (1, .ref h_p1), (2, .int a2), (3, .ref h_p3), (4, .ref h_p4)]) dX1_obey_77 (by decide) rfl ?_
    refine z_aload_n 3 (pc := 79) dX1_obey_79 rfl ?_
    refine z_iload 2 (pc := 80) dX1_obey_80 rfl ?_
    refine z_iload 1 (pc := 82) dX1_obey_82 rfl ?_
    refine z_iload 0 (pc := 84) dX1_obey_84 rfl ?_
    refine z_aload_n 4 (pc := 86) dX1_obey_86 rfl ?_
    refine z_get 1 2 (pc := 87) (v := .ref h_p1_digits) rfl rfl inX3 (by decide) flX1_53 rfl dX1_obey_87 ?_
    refine z_iload_n 5 (pc := 90) dX1_obey_90 rfl ?_
    refine z_iaload 5 0 (pc := 91) rfl rfl dX1_obey_91 hf0 (fun hf0 => ?_)
    refine z_iconst (pc := 92) (v := 1) dX1_obey_92 (by decide) ?_
    refine z_icmp_ne (pc := 93) (tgt := 100) dX1_obey_93 (by decide) hf0 (fun hf0 => ?_) (fun hf0 => ?_)
    · refine z_iconst (pc := 100) (v := 0) dX1_obey_100 (by decide) ?_
      refine z_aload_n 6 (pc := 101) dX1_obey_101 rfl ?_
      refine z_aload 7 (pc := 102) dX1_obey_102 rfl ?_
      refine z_aload_n 3 (pc := 104) dX1_obey_104 rfl ?_
      refine z_get 0 7 (pc := 105) (v := .int o_held) rfl rfl inX1 (by decide) flX1_37 rfl dX1_obey_105 ?_
      refine z_aaload 3 4 (pc := 108) rfl rfl dX1_obey_108 hf0 (fun hf0 hk108 => ?_)
      rcases fam4 hk108 with ek108 | ek108 | ek108 | ek108
      · rw [ek108] at hf0 ⊢
        refine z_stk (stk' := [.ref h_p4_0, .ref h_p3, .int 0, .int r3, .int r2, .int r1, .ref h_o]) rfl ?_
        obtain ⟨r4, er4, hf0⟩ := bp hf0
        refine z_calliV (pc := 109) (As := [.int r1, .int r2, .int r3, .int 0, .ref h_p3, .ref h_p4_0]) (rest := []) (ws' := (wsX1_obey cA h_o h_p1 h_p3 h_p4 h_p1_letters h_p1_digits h_p1_xs h_p1_ys h_p1_zs h_p4_0 h_p4_1 h_p4_2 h_p4_3 h_p4_0_halfWidths h_p4_1_halfWidths h_p4_2_halfWidths h_p4_3_halfWidths h_p3_disc h_p3_kept h_p3_heights o_hasRun r4.2.1 o_ended r4.2.2.1 r4.2.2.2.1 r4.2.2.2.2.1 r4.2.2.2.2.2.1 o_held p1_count p3_side p3_cells p3_targets p3_marks r4.2.2.2.2.2.2.1 p1_letters_n p1_letters p1_digits_n p1_digits p1_xs_n p1_xs p1_ys_n p1_ys p1_zs_n p1_zs p4_radius p4_feed p4_halfWidths_n p4_halfWidths p3_disc_n r4.2.2.2.2.2.2.2.1 p3_kept_n p3_kept p3_heights_n r4.2.2.2.2.2.2.2.2)) (kX1_travel l D cA h_o h_p3 h_p4_0 h_p4_0_halfWidths h_p3_disc h_p3_kept h_p3_heights o_hasRun o_time o_ended o_x o_y o_z o_cut o_held p3_side p3_cells p3_targets p3_marks p3_discSize (p4_radius 0) (p4_feed 0) p4_halfWidths_n (p4_halfWidths 0) p3_disc_n p3_disc p3_kept_n p3_kept p3_heights_n p3_heights r1 r2 r3 0 N r4 er4) ivX1_70 ⟨rfl, rfl⟩ ⟨by decide, by decide⟩ rfl ⟨Nat.zero_le _, Nat.zero_le _⟩ rfl rfl [0, 2, 9, 13, 17, 18, 19] rfl (by decide) rfl rfl rfl (Nat.le_of_ble_eq_true rfl) dX1_obey_109 ?_
        obtain rfl := Option.some.inj hf0
        exact z_iret hE dX1_obey_112
      · rw [ek108] at hf0 ⊢
        refine z_stk (stk' := [.ref h_p4_1, .ref h_p3, .int 0, .int r3, .int r2, .int r1, .ref h_o]) rfl ?_
        obtain ⟨r4, er4, hf0⟩ := bp hf0
        refine z_calliV (pc := 109) (As := [.int r1, .int r2, .int r3, .int 0, .ref h_p3, .ref h_p4_1]) (rest := []) (ws' := (wsX1_obey cA h_o h_p1 h_p3 h_p4 h_p1_letters h_p1_digits h_p1_xs h_p1_ys h_p1_zs h_p4_0 h_p4_1 h_p4_2 h_p4_3 h_p4_0_halfWidths h_p4_1_halfWidths h_p4_2_halfWidths h_p4_3_halfWidths h_p3_disc h_p3_kept h_p3_heights o_hasRun r4.2.1 o_ended r4.2.2.1 r4.2.2.2.1 r4.2.2.2.2.1 r4.2.2.2.2.2.1 o_held p1_count p3_side p3_cells p3_targets p3_marks r4.2.2.2.2.2.2.1 p1_letters_n p1_letters p1_digits_n p1_digits p1_xs_n p1_xs p1_ys_n p1_ys p1_zs_n p1_zs p4_radius p4_feed p4_halfWidths_n p4_halfWidths p3_disc_n r4.2.2.2.2.2.2.2.1 p3_kept_n p3_kept p3_heights_n r4.2.2.2.2.2.2.2.2)) (kX1_travel l D cA h_o h_p3 h_p4_1 h_p4_1_halfWidths h_p3_disc h_p3_kept h_p3_heights o_hasRun o_time o_ended o_x o_y o_z o_cut o_held p3_side p3_cells p3_targets p3_marks p3_discSize (p4_radius 1) (p4_feed 1) p4_halfWidths_n (p4_halfWidths 1) p3_disc_n p3_disc p3_kept_n p3_kept p3_heights_n p3_heights r1 r2 r3 0 N r4 er4) ivX1_70 ⟨rfl, rfl⟩ ⟨by decide, by decide⟩ rfl ⟨Nat.zero_le _, Nat.zero_le _⟩ rfl rfl [0, 2, 10, 14, 17, 18, 19] rfl (by decide) rfl rfl rfl (Nat.le_of_ble_eq_true rfl) dX1_obey_109 ?_
        obtain rfl := Option.some.inj hf0
        exact z_iret hE dX1_obey_112
      · rw [ek108] at hf0 ⊢
        refine z_stk (stk' := [.ref h_p4_2, .ref h_p3, .int 0, .int r3, .int r2, .int r1, .ref h_o]) rfl ?_
        obtain ⟨r4, er4, hf0⟩ := bp hf0
        refine z_calliV (pc := 109) (As := [.int r1, .int r2, .int r3, .int 0, .ref h_p3, .ref h_p4_2]) (rest := []) (ws' := (wsX1_obey cA h_o h_p1 h_p3 h_p4 h_p1_letters h_p1_digits h_p1_xs h_p1_ys h_p1_zs h_p4_0 h_p4_1 h_p4_2 h_p4_3 h_p4_0_halfWidths h_p4_1_halfWidths h_p4_2_halfWidths h_p4_3_halfWidths h_p3_disc h_p3_kept h_p3_heights o_hasRun r4.2.1 o_ended r4.2.2.1 r4.2.2.2.1 r4.2.2.2.2.1 r4.2.2.2.2.2.1 o_held p1_count p3_side p3_cells p3_targets p3_marks r4.2.2.2.2.2.2.1 p1_letters_n p1_letters p1_digits_n p1_digits p1_xs_n p1_xs p1_ys_n p1_ys p1_zs_n p1_zs p4_radius p4_feed p4_halfWidths_n p4_halfWidths p3_disc_n r4.2.2.2.2.2.2.2.1 p3_kept_n p3_kept p3_heights_n r4.2.2.2.2.2.2.2.2)) (kX1_travel l D cA h_o h_p3 h_p4_2 h_p4_2_halfWidths h_p3_disc h_p3_kept h_p3_heights o_hasRun o_time o_ended o_x o_y o_z o_cut o_held p3_side p3_cells p3_targets p3_marks p3_discSize (p4_radius 2) (p4_feed 2) p4_halfWidths_n (p4_halfWidths 2) p3_disc_n p3_disc p3_kept_n p3_kept p3_heights_n p3_heights r1 r2 r3 0 N r4 er4) ivX1_70 ⟨rfl, rfl⟩ ⟨by decide, by decide⟩ rfl ⟨Nat.zero_le _, Nat.zero_le _⟩ rfl rfl [0, 2, 11, 15, 17, 18, 19] rfl (by decide) rfl rfl rfl (Nat.le_of_ble_eq_true rfl) dX1_obey_109 ?_
        obtain rfl := Option.some.inj hf0
        exact z_iret hE dX1_obey_112
      · rw [ek108] at hf0 ⊢
        refine z_stk (stk' := [.ref h_p4_3, .ref h_p3, .int 0, .int r3, .int r2, .int r1, .ref h_o]) rfl ?_
        obtain ⟨r4, er4, hf0⟩ := bp hf0
        refine z_calliV (pc := 109) (As := [.int r1, .int r2, .int r3, .int 0, .ref h_p3, .ref h_p4_3]) (rest := []) (ws' := (wsX1_obey cA h_o h_p1 h_p3 h_p4 h_p1_letters h_p1_digits h_p1_xs h_p1_ys h_p1_zs h_p4_0 h_p4_1 h_p4_2 h_p4_3 h_p4_0_halfWidths h_p4_1_halfWidths h_p4_2_halfWidths h_p4_3_halfWidths h_p3_disc h_p3_kept h_p3_heights o_hasRun r4.2.1 o_ended r4.2.2.1 r4.2.2.2.1 r4.2.2.2.2.1 r4.2.2.2.2.2.1 o_held p1_count p3_side p3_cells p3_targets p3_marks r4.2.2.2.2.2.2.1 p1_letters_n p1_letters p1_digits_n p1_digits p1_xs_n p1_xs p1_ys_n p1_ys p1_zs_n p1_zs p4_radius p4_feed p4_halfWidths_n p4_halfWidths p3_disc_n r4.2.2.2.2.2.2.2.1 p3_kept_n p3_kept p3_heights_n r4.2.2.2.2.2.2.2.2)) (kX1_travel l D cA h_o h_p3 h_p4_3 h_p4_3_halfWidths h_p3_disc h_p3_kept h_p3_heights o_hasRun o_time o_ended o_x o_y o_z o_cut o_held p3_side p3_cells p3_targets p3_marks p3_discSize (p4_radius 3) (p4_feed 3) p4_halfWidths_n (p4_halfWidths 3) p3_disc_n p3_disc p3_kept_n p3_kept p3_heights_n p3_heights r1 r2 r3 0 N r4 er4) ivX1_70 ⟨rfl, rfl⟩ ⟨by decide, by decide⟩ rfl ⟨Nat.zero_le _, Nat.zero_le _⟩ rfl rfl [0, 2, 12, 16, 17, 18, 19] rfl (by decide) rfl rfl rfl (Nat.le_of_ble_eq_true rfl) dX1_obey_109 ?_
        obtain rfl := Option.some.inj hf0
        exact z_iret hE dX1_obey_112
    · refine z_iconst (pc := 96) (v := 1) dX1_obey_96 (by decide) ?_
      refine z_goto (pc := 97) (tgt := 101) dX1_obey_97 (by decide) ?_
      refine z_aload_n 6 (pc := 101) dX1_obey_101 rfl ?_
      refine z_aload 7 (pc := 102) dX1_obey_102 rfl ?_
      refine z_aload_n 3 (pc := 104) dX1_obey_104 rfl ?_
      refine z_get 0 7 (pc := 105) (v := .int o_held) rfl rfl inX1 (by decide) flX1_37 rfl dX1_obey_105 ?_
      refine z_aaload 3 4 (pc := 108) rfl rfl dX1_obey_108 hf0 (fun hf0 hk108 => ?_)
      rcases fam4 hk108 with ek108 | ek108 | ek108 | ek108
      · rw [ek108] at hf0 ⊢
        refine z_stk (stk' := [.ref h_p4_0, .ref h_p3, .int 1, .int r3, .int r2, .int r1, .ref h_o]) rfl ?_
        obtain ⟨r5, er5, hf0⟩ := bp hf0
        refine z_calliV (pc := 109) (As := [.int r1, .int r2, .int r3, .int 1, .ref h_p3, .ref h_p4_0]) (rest := []) (ws' := (wsX1_obey cA h_o h_p1 h_p3 h_p4 h_p1_letters h_p1_digits h_p1_xs h_p1_ys h_p1_zs h_p4_0 h_p4_1 h_p4_2 h_p4_3 h_p4_0_halfWidths h_p4_1_halfWidths h_p4_2_halfWidths h_p4_3_halfWidths h_p3_disc h_p3_kept h_p3_heights o_hasRun r5.2.1 o_ended r5.2.2.1 r5.2.2.2.1 r5.2.2.2.2.1 r5.2.2.2.2.2.1 o_held p1_count p3_side p3_cells p3_targets p3_marks r5.2.2.2.2.2.2.1 p1_letters_n p1_letters p1_digits_n p1_digits p1_xs_n p1_xs p1_ys_n p1_ys p1_zs_n p1_zs p4_radius p4_feed p4_halfWidths_n p4_halfWidths p3_disc_n r5.2.2.2.2.2.2.2.1 p3_kept_n p3_kept p3_heights_n r5.2.2.2.2.2.2.2.2)) (kX1_travel l D cA h_o h_p3 h_p4_0 h_p4_0_halfWidths h_p3_disc h_p3_kept h_p3_heights o_hasRun o_time o_ended o_x o_y o_z o_cut o_held p3_side p3_cells p3_targets p3_marks p3_discSize (p4_radius 0) (p4_feed 0) p4_halfWidths_n (p4_halfWidths 0) p3_disc_n p3_disc p3_kept_n p3_kept p3_heights_n p3_heights r1 r2 r3 1 N r5 er5) ivX1_70 ⟨rfl, rfl⟩ ⟨by decide, by decide⟩ rfl ⟨Nat.zero_le _, Nat.zero_le _⟩ rfl rfl [0, 2, 9, 13, 17, 18, 19] rfl (by decide) rfl rfl rfl (Nat.le_of_ble_eq_true rfl) dX1_obey_109 ?_
        obtain rfl := Option.some.inj hf0
        exact z_iret hE dX1_obey_112
      · rw [ek108] at hf0 ⊢
        refine z_stk (stk' := [.ref h_p4_1, .ref h_p3, .int 1, .int r3, .int r2, .int r1, .ref h_o]) rfl ?_
        obtain ⟨r5, er5, hf0⟩ := bp hf0
        refine z_calliV (pc := 109) (As := [.int r1, .int r2, .int r3, .int 1, .ref h_p3, .ref h_p4_1]) (rest := []) (ws' := (wsX1_obey cA h_o h_p1 h_p3 h_p4 h_p1_letters h_p1_digits h_p1_xs h_p1_ys h_p1_zs h_p4_0 h_p4_1 h_p4_2 h_p4_3 h_p4_0_halfWidths h_p4_1_halfWidths h_p4_2_halfWidths h_p4_3_halfWidths h_p3_disc h_p3_kept h_p3_heights o_hasRun r5.2.1 o_ended r5.2.2.1 r5.2.2.2.1 r5.2.2.2.2.1 r5.2.2.2.2.2.1 o_held p1_count p3_side p3_cells p3_targets p3_marks r5.2.2.2.2.2.2.1 p1_letters_n p1_letters p1_digits_n p1_digits p1_xs_n p1_xs p1_ys_n p1_ys p1_zs_n p1_zs p4_radius p4_feed p4_halfWidths_n p4_halfWidths p3_disc_n r5.2.2.2.2.2.2.2.1 p3_kept_n p3_kept p3_heights_n r5.2.2.2.2.2.2.2.2)) (kX1_travel l D cA h_o h_p3 h_p4_1 h_p4_1_halfWidths h_p3_disc h_p3_kept h_p3_heights o_hasRun o_time o_ended o_x o_y o_z o_cut o_held p3_side p3_cells p3_targets p3_marks p3_discSize (p4_radius 1) (p4_feed 1) p4_halfWidths_n (p4_halfWidths 1) p3_disc_n p3_disc p3_kept_n p3_kept p3_heights_n p3_heights r1 r2 r3 1 N r5 er5) ivX1_70 ⟨rfl, rfl⟩ ⟨by decide, by decide⟩ rfl ⟨Nat.zero_le _, Nat.zero_le _⟩ rfl rfl [0, 2, 10, 14, 17, 18, 19] rfl (by decide) rfl rfl rfl (Nat.le_of_ble_eq_true rfl) dX1_obey_109 ?_
        obtain rfl := Option.some.inj hf0
        exact z_iret hE dX1_obey_112
      · rw [ek108] at hf0 ⊢
        refine z_stk (stk' := [.ref h_p4_2, .ref h_p3, .int 1, .int r3, .int r2, .int r1, .ref h_o]) rfl ?_
        obtain ⟨r5, er5, hf0⟩ := bp hf0
        refine z_calliV (pc := 109) (As := [.int r1, .int r2, .int r3, .int 1, .ref h_p3, .ref h_p4_2]) (rest := []) (ws' := (wsX1_obey cA h_o h_p1 h_p3 h_p4 h_p1_letters h_p1_digits h_p1_xs h_p1_ys h_p1_zs h_p4_0 h_p4_1 h_p4_2 h_p4_3 h_p4_0_halfWidths h_p4_1_halfWidths h_p4_2_halfWidths h_p4_3_halfWidths h_p3_disc h_p3_kept h_p3_heights o_hasRun r5.2.1 o_ended r5.2.2.1 r5.2.2.2.1 r5.2.2.2.2.1 r5.2.2.2.2.2.1 o_held p1_count p3_side p3_cells p3_targets p3_marks r5.2.2.2.2.2.2.1 p1_letters_n p1_letters p1_digits_n p1_digits p1_xs_n p1_xs p1_ys_n p1_ys p1_zs_n p1_zs p4_radius p4_feed p4_halfWidths_n p4_halfWidths p3_disc_n r5.2.2.2.2.2.2.2.1 p3_kept_n p3_kept p3_heights_n r5.2.2.2.2.2.2.2.2)) (kX1_travel l D cA h_o h_p3 h_p4_2 h_p4_2_halfWidths h_p3_disc h_p3_kept h_p3_heights o_hasRun o_time o_ended o_x o_y o_z o_cut o_held p3_side p3_cells p3_targets p3_marks p3_discSize (p4_radius 2) (p4_feed 2) p4_halfWidths_n (p4_halfWidths 2) p3_disc_n p3_disc p3_kept_n p3_kept p3_heights_n p3_heights r1 r2 r3 1 N r5 er5) ivX1_70 ⟨rfl, rfl⟩ ⟨by decide, by decide⟩ rfl ⟨Nat.zero_le _, Nat.zero_le _⟩ rfl rfl [0, 2, 11, 15, 17, 18, 19] rfl (by decide) rfl rfl rfl (Nat.le_of_ble_eq_true rfl) dX1_obey_109 ?_
        obtain rfl := Option.some.inj hf0
        exact z_iret hE dX1_obey_112
      · rw [ek108] at hf0 ⊢
        refine z_stk (stk' := [.ref h_p4_3, .ref h_p3, .int 1, .int r3, .int r2, .int r1, .ref h_o]) rfl ?_
        obtain ⟨r5, er5, hf0⟩ := bp hf0
        refine z_calliV (pc := 109) (As := [.int r1, .int r2, .int r3, .int 1, .ref h_p3, .ref h_p4_3]) (rest := []) (ws' := (wsX1_obey cA h_o h_p1 h_p3 h_p4 h_p1_letters h_p1_digits h_p1_xs h_p1_ys h_p1_zs h_p4_0 h_p4_1 h_p4_2 h_p4_3 h_p4_0_halfWidths h_p4_1_halfWidths h_p4_2_halfWidths h_p4_3_halfWidths h_p3_disc h_p3_kept h_p3_heights o_hasRun r5.2.1 o_ended r5.2.2.1 r5.2.2.2.1 r5.2.2.2.2.1 r5.2.2.2.2.2.1 o_held p1_count p3_side p3_cells p3_targets p3_marks r5.2.2.2.2.2.2.1 p1_letters_n p1_letters p1_digits_n p1_digits p1_xs_n p1_xs p1_ys_n p1_ys p1_zs_n p1_zs p4_radius p4_feed p4_halfWidths_n p4_halfWidths p3_disc_n r5.2.2.2.2.2.2.2.1 p3_kept_n p3_kept p3_heights_n r5.2.2.2.2.2.2.2.2)) (kX1_travel l D cA h_o h_p3 h_p4_3 h_p4_3_halfWidths h_p3_disc h_p3_kept h_p3_heights o_hasRun o_time o_ended o_x o_y o_z o_cut o_held p3_side p3_cells p3_targets p3_marks p3_discSize (p4_radius 3) (p4_feed 3) p4_halfWidths_n (p4_halfWidths 3) p3_disc_n p3_disc p3_kept_n p3_kept p3_heights_n p3_heights r1 r2 r3 1 N r5 er5) ivX1_70 ⟨rfl, rfl⟩ ⟨by decide, by decide⟩ rfl ⟨Nat.zero_le _, Nat.zero_le _⟩ rfl rfl [0, 2, 12, 16, 17, 18, 19] rfl (by decide) rfl rfl rfl (Nat.le_of_ble_eq_true rfl) dX1_obey_109 ?_
        obtain rfl := Option.some.inj hf0
        exact z_iret hE dX1_obey_112
  · refine z_aload_n 0 (pc := 11) dX1_obey_11 rfl ?_
    refine z_aload_n 1 (pc := 12) dX1_obey_12 rfl ?_
    refine z_get 1 2 (pc := 13) (v := .ref h_p1_digits) rfl rfl inX3 (by decide) flX1_53 rfl dX1_obey_13 ?_
    refine z_iload_n 2 (pc := 16) dX1_obey_16 rfl ?_
    refine z_iaload 5 0 (pc := 17) rfl rfl dX1_obey_17 hf0 (fun hf0 => ?_)
    refine z_put 0 7 (pc := 18) (ws' := (wsX1_obey cA h_o h_p1 h_p3 h_p4 h_p1_letters h_p1_digits h_p1_xs h_p1_ys h_p1_zs h_p4_0 h_p4_1 h_p4_2 h_p4_3 h_p4_0_halfWidths h_p4_1_halfWidths h_p4_2_halfWidths h_p4_3_halfWidths h_p3_disc h_p3_kept h_p3_heights o_hasRun o_time o_ended o_x o_y o_z o_cut (p1_digits a2.toNatClampNeg) p1_count p3_side p3_cells p3_targets p3_marks p3_discSize p1_letters_n p1_letters p1_digits_n p1_digits p1_xs_n p1_xs p1_ys_n p1_ys p1_zs_n p1_zs p4_radius p4_feed p4_halfWidths_n p4_halfWidths p3_disc_n p3_disc p3_kept_n p3_kept p3_heights_n p3_heights)) rfl rfl inX1 tyX1 tyX1_ok nmX1 (by decide) flX1_37 rfl rfl rfl rfl (Nat.le_of_ble_eq_true rfl) dX1_obey_18 rfl ?_
    refine z_aload_n 0 (pc := 21) dX1_obey_21 rfl ?_
    refine z_dup (pc := 22) dX1_obey_22 rfl ?_
    refine z_get 0 1 (pc := 23) (v := .int o_time) rfl rfl inX1 (by decide) flX1_18 rfl dX1_obey_23 ?_
    refine z_bipush (pc := 26) (v := 10) dX1_obey_26 (by decide) ?_
    refine z_iadd (pc := 28) dX1_obey_28 ?_
    refine z_put 0 1 (pc := 29) (ws' := (wsX1_obey cA h_o h_p1 h_p3 h_p4 h_p1_letters h_p1_digits h_p1_xs h_p1_ys h_p1_zs h_p4_0 h_p4_1 h_p4_2 h_p4_3 h_p4_0_halfWidths h_p4_1_halfWidths h_p4_2_halfWidths h_p4_3_halfWidths h_p3_disc h_p3_kept h_p3_heights o_hasRun (o_time + 10) o_ended o_x o_y o_z o_cut (p1_digits a2.toNatClampNeg) p1_count p3_side p3_cells p3_targets p3_marks p3_discSize p1_letters_n p1_letters p1_digits_n p1_digits p1_xs_n p1_xs p1_ys_n p1_ys p1_zs_n p1_zs p4_radius p4_feed p4_halfWidths_n p4_halfWidths p3_disc_n p3_disc p3_kept_n p3_kept p3_heights_n p3_heights)) rfl rfl inX1 tyX1 tyX1_ok nmX1 (by decide) flX1_18 rfl rfl rfl rfl (Nat.le_of_ble_eq_true rfl) dX1_obey_29 rfl ?_
    refine z_iconst (pc := 32) (v := 0) dX1_obey_32 (by decide) ?_
    obtain rfl := Option.some.inj hf0
    exact z_iret hE dX1_obey_33

abbrev RX1_follow : Type := Int32 × Int32 × Int32 × Int32 × Int32 × Int32 × Int32 × Int32 × Int32 × Int32 × (Nat → Int32) × (Nat → Int32)
abbrev rmX1_follow : Room := { frames := 4, cells := 0, slots := 0, locals := 109 }
abbrev wsX1_follow (cA : Nat → ClassId) (h_o : Nat) (h_p1 : Nat) (h_p2 : Nat) (h_p3 : Nat) (h_p1_letters : Nat) (h_p1_digits : Nat) (h_p1_xs : Nat) (h_p1_ys : Nat) (h_p1_zs : Nat) (h_p3_0 : Nat) (h_p3_1 : Nat) (h_p3_2 : Nat) (h_p3_3 : Nat) (h_p3_0_halfWidths : Nat) (h_p3_1_halfWidths : Nat) (h_p3_2_halfWidths : Nat) (h_p3_3_halfWidths : Nat) (h_p2_disc : Nat) (h_p2_kept : Nat) (h_p2_heights : Nat) (o_hasRun : Int32) (o_time : Int32) (o_ended : Int32) (o_x : Int32) (o_y : Int32) (o_z : Int32) (o_cut : Int32) (o_held : Int32) (p1_count : Int32) (p2_side : Int32) (p2_cells : Int32) (p2_targets : Value) (p2_marks : Value) (p2_discSize : Int32) (p1_letters_n : Nat) (p1_letters : Nat → Int32) (p1_digits_n : Nat) (p1_digits : Nat → Int32) (p1_xs_n : Nat) (p1_xs : Nat → Int32) (p1_ys_n : Nat) (p1_ys : Nat → Int32) (p1_zs_n : Nat) (p1_zs : Nat → Int32) (p3_radius : Nat → Int32) (p3_feed : Nat → Int32) (p3_halfWidths_n : Nat) (p3_halfWidths : Nat → Nat → Int32) (p2_disc_n : Nat) (p2_disc : Nat → Int32) (p2_kept_n : Nat) (p2_kept : Nat → Int32) (p2_heights_n : Nat) (p2_heights : Nat → Int32) : va_W := [(h_o, .inr (1, [.int o_hasRun, .int o_time, .int o_ended, .int o_x, .int o_y, .int o_z, .int o_cut, .int o_held])), (h_p1, .inr (3, [.int p1_count, .ref h_p1_letters, .ref h_p1_digits, .ref h_p1_xs, .ref h_p1_ys, .ref h_p1_zs])), (h_p2, .inr (0, [.int p2_side, .int p2_cells, .ref h_p2_heights, p2_targets, .ref h_p2_kept, p2_marks, .ref h_p2_disc, .int p2_discSize])), (h_p3, .inl (cA 4, 4, .inr (.inr (.inr (.inr (rk4 h_p3_0 h_p3_1 h_p3_2 h_p3_3)))))), (h_p1_letters, .inl (cA 2, p1_letters_n, .inl p1_letters)), (h_p1_digits, .inl (cA 0, p1_digits_n, .inl p1_digits)), (h_p1_xs, .inl (cA 0, p1_xs_n, .inl p1_xs)), (h_p1_ys, .inl (cA 0, p1_ys_n, .inl p1_ys)), (h_p1_zs, .inl (cA 0, p1_zs_n, .inl p1_zs)), (h_p3_0, .inr (5, [.int (p3_radius 0), .int (p3_feed 0), .ref h_p3_0_halfWidths])), (h_p3_1, .inr (5, [.int (p3_radius 1), .int (p3_feed 1), .ref h_p3_1_halfWidths])), (h_p3_2, .inr (5, [.int (p3_radius 2), .int (p3_feed 2), .ref h_p3_2_halfWidths])), (h_p3_3, .inr (5, [.int (p3_radius 3), .int (p3_feed 3), .ref h_p3_3_halfWidths])), (h_p3_0_halfWidths, .inl (cA 0, p3_halfWidths_n, .inl (p3_halfWidths 0))), (h_p3_1_halfWidths, .inl (cA 0, p3_halfWidths_n, .inl (p3_halfWidths 1))), (h_p3_2_halfWidths, .inl (cA 0, p3_halfWidths_n, .inl (p3_halfWidths 2))), (h_p3_3_halfWidths, .inl (cA 0, p3_halfWidths_n, .inl (p3_halfWidths 3))), (h_p2_disc, .inl (cA 0, p2_disc_n, .inl p2_disc)), (h_p2_kept, .inl (cA 1, p2_kept_n, .inl p2_kept)), (h_p2_heights, .inl (cA 0, p2_heights_n, .inl p2_heights))]
def LX1_follow_12 (p1_count : Int32) (N : Nat) (p2_side : Int32) (p2_cells : Int32) (p1_letters_n : Nat) (p1_letters : Nat → Int32) (p1_digits_n : Nat) (p1_digits : Nat → Int32) (p1_xs_n : Nat) (p1_xs : Nat → Int32) (p1_ys_n : Nat) (p1_ys : Nat → Int32) (p1_zs_n : Nat) (p1_zs : Nat → Int32) (p3_radius : Nat → Int32) (p3_feed : Nat → Int32) (p3_halfWidths_n : Nat) (p3_halfWidths : Nat → Nat → Int32) (p2_disc_n : Nat) (p2_kept_n : Nat) (p2_kept : Nat → Int32) (p2_heights_n : Nat) : Nat → Int32 → Int32 → Int32 → Int32 → Int32 → Int32 → Int32 → Int32 → (Nat → Int32) → Int32 → (Nat → Int32) → Option (RX1_follow)
  | 0, _, _, _, _, _, _, _, _, _, _, _ => none
  | n + 1, x4_12, o_cut_12, o_ended_12, o_held_12, o_time_12, o_x_12, o_y_12, o_z_12, p2_disc_12, p2_discSize_12, p2_heights_12 => (if p1_count ≤ x4_12 then some (0, 1, o_time_12, p1_count, o_x_12, o_y_12, o_z_12, o_cut_12, o_held_12, p2_discSize_12, p2_disc_12, p2_heights_12) else ((fX1_obey N x4_12 o_time_12 o_x_12 o_y_12 o_z_12 o_cut_12 o_held_12 p2_side p2_cells p2_discSize_12 p1_letters_n p1_letters p1_digits_n p1_digits p1_xs_n p1_xs p1_ys_n p1_ys p1_zs_n p1_zs p3_radius p3_feed p3_halfWidths_n p3_halfWidths p2_disc_n p2_disc_12 p2_kept_n p2_kept p2_heights_n p2_heights_12).bind fun r2 => (if r2.1 = 0 then LX1_follow_12 p1_count N p2_side p2_cells p1_letters_n p1_letters p1_digits_n p1_digits p1_xs_n p1_xs p1_ys_n p1_ys p1_zs_n p1_zs p3_radius p3_feed p3_halfWidths_n p3_halfWidths p2_disc_n p2_kept_n p2_kept p2_heights_n n (x4_12 + 1) r2.2.2.2.2.2.1 x4_12 r2.2.2.2.2.2.2.1 r2.2.1 r2.2.2.1 r2.2.2.2.1 r2.2.2.2.2.1 r2.2.2.2.2.2.2.2.2.1 r2.2.2.2.2.2.2.2.1 r2.2.2.2.2.2.2.2.2.2 else some (r2.1, 1, r2.2.1, x4_12, r2.2.2.1, r2.2.2.2.1, r2.2.2.2.2.1, r2.2.2.2.2.2.1, r2.2.2.2.2.2.2.1, r2.2.2.2.2.2.2.2.1, r2.2.2.2.2.2.2.2.2.1, r2.2.2.2.2.2.2.2.2.2))))
def fX1_follow (N : Nat)  (o_hasRun : Int32) (o_time : Int32) (o_ended : Int32) (o_x : Int32) (o_y : Int32) (o_z : Int32) (o_cut : Int32) (o_held : Int32) (p1_count : Int32) (p2_side : Int32) (p2_cells : Int32) (p2_discSize : Int32) (p1_letters_n : Nat) (p1_letters : Nat → Int32) (p1_digits_n : Nat) (p1_digits : Nat → Int32) (p1_xs_n : Nat) (p1_xs : Nat → Int32) (p1_ys_n : Nat) (p1_ys : Nat → Int32) (p1_zs_n : Nat) (p1_zs : Nat → Int32) (p3_radius : Nat → Int32) (p3_feed : Nat → Int32) (p3_halfWidths_n : Nat) (p3_halfWidths : Nat → Nat → Int32) (p2_disc_n : Nat) (p2_disc : Nat → Int32) (p2_kept_n : Nat) (p2_kept : Nat → Int32) (p2_heights_n : Nat) (p2_heights : Nat → Int32) : Option RX1_follow :=
  ((fX1_startAnew N o_time o_ended o_x o_y o_z o_cut o_held).bind fun r1 => LX1_follow_12 p1_count N p2_side p2_cells p1_letters_n p1_letters p1_digits_n p1_digits p1_xs_n p1_xs p1_ys_n p1_ys p1_zs_n p1_zs p3_radius p3_feed p3_halfWidths_n p3_halfWidths p2_disc_n p2_kept_n p2_kept p2_heights_n N 0 r1.2.2.2.2.2.1 r1.2.1 r1.2.2.2.2.2.2 r1.1 r1.2.2.1 r1.2.2.2.1 r1.2.2.2.2.1 p2_disc p2_discSize p2_heights)
set_option maxHeartbeats 4000000 in
set_option maxRecDepth 100000 in
theorem kX1_follow (l : Launch) (D : va_G) (cA : Nat → ClassId) (h_o : Nat) (h_p1 : Nat) (h_p2 : Nat) (h_p3 : Nat) (h_p1_letters : Nat) (h_p1_digits : Nat) (h_p1_xs : Nat) (h_p1_ys : Nat) (h_p1_zs : Nat) (h_p3_0 : Nat) (h_p3_1 : Nat) (h_p3_2 : Nat) (h_p3_3 : Nat) (h_p3_0_halfWidths : Nat) (h_p3_1_halfWidths : Nat) (h_p3_2_halfWidths : Nat) (h_p3_3_halfWidths : Nat) (h_p2_disc : Nat) (h_p2_kept : Nat) (h_p2_heights : Nat) (o_hasRun : Int32) (o_time : Int32) (o_ended : Int32) (o_x : Int32) (o_y : Int32) (o_z : Int32) (o_cut : Int32) (o_held : Int32) (p1_count : Int32) (p2_side : Int32) (p2_cells : Int32) (p2_targets : Value) (p2_marks : Value) (p2_discSize : Int32) (p1_letters_n : Nat) (p1_letters : Nat → Int32) (p1_digits_n : Nat) (p1_digits : Nat → Int32) (p1_xs_n : Nat) (p1_xs : Nat → Int32) (p1_ys_n : Nat) (p1_ys : Nat → Int32) (p1_zs_n : Nat) (p1_zs : Nat → Int32) (p3_radius : Nat → Int32) (p3_feed : Nat → Int32) (p3_halfWidths_n : Nat) (p3_halfWidths : Nat → Nat → Int32) (p2_disc_n : Nat) (p2_disc : Nat → Int32) (p2_kept_n : Nat) (p2_kept : Nat → Int32) (p2_heights_n : Nat) (p2_heights : Nat → Int32)  (N : Nat) (res : RX1_follow) (hf0 : fX1_follow N o_hasRun o_time o_ended o_x o_y o_z o_cut o_held p1_count p2_side p2_cells p2_discSize p1_letters_n p1_letters p1_digits_n p1_digits p1_xs_n p1_xs p1_ys_n p1_ys p1_zs_n p1_zs p3_radius p3_feed p3_halfWidths_n p3_halfWidths p2_disc_n p2_disc p2_kept_n p2_kept p2_heights_n p2_heights = some res) : CtI l yX1_follow (Cond.code yX1_follow cX1_follow 6 (some .int) :: tblG) rmX1_follow D cA (wsX1_follow cA h_o h_p1 h_p2 h_p3 h_p1_letters h_p1_digits h_p1_xs h_p1_ys h_p1_zs h_p3_0 h_p3_1 h_p3_2 h_p3_3 h_p3_0_halfWidths h_p3_1_halfWidths h_p3_2_halfWidths h_p3_3_halfWidths h_p2_disc h_p2_kept h_p2_heights o_hasRun o_time o_ended o_x o_y o_z o_cut o_held p1_count p2_side p2_cells p2_targets p2_marks p2_discSize p1_letters_n p1_letters p1_digits_n p1_digits p1_xs_n p1_xs p1_ys_n p1_ys p1_zs_n p1_zs p3_radius p3_feed p3_halfWidths_n p3_halfWidths p2_disc_n p2_disc p2_kept_n p2_kept p2_heights_n p2_heights) [.ref h_o, .ref h_p1, .ref h_p2, .ref h_p3] res.1 (wsX1_follow cA h_o h_p1 h_p2 h_p3 h_p1_letters h_p1_digits h_p1_xs h_p1_ys h_p1_zs h_p3_0 h_p3_1 h_p3_2 h_p3_3 h_p3_0_halfWidths h_p3_1_halfWidths h_p3_2_halfWidths h_p3_3_halfWidths h_p2_disc h_p2_kept h_p2_heights res.2.1 res.2.2.1 res.2.2.2.1 res.2.2.2.2.1 res.2.2.2.2.2.1 res.2.2.2.2.2.2.1 res.2.2.2.2.2.2.2.1 res.2.2.2.2.2.2.2.2.1 p1_count p2_side p2_cells p2_targets p2_marks res.2.2.2.2.2.2.2.2.2.1 p1_letters_n p1_letters p1_digits_n p1_digits p1_xs_n p1_xs p1_ys_n p1_ys p1_zs_n p1_zs p3_radius p3_feed p3_halfWidths_n p3_halfWidths p2_disc_n res.2.2.2.2.2.2.2.2.2.2.1 p2_kept_n p2_kept p2_heights_n res.2.2.2.2.2.2.2.2.2.2.2) := by
  refine CtI.start (lv := [(0, .ref h_o), (1, .ref h_p1), (2, .ref h_p2), (3, .ref h_p3)]) (by decide) (Nat.le_of_ble_eq_true rfl) rfl (fun κ hE => ?_)
  rw [fX1_follow] at hf0
  refine z_aload_n 0 (pc := 0) dX1_follow_0 rfl ?_
  obtain ⟨r1, er1, hf0⟩ := bp hf0
  refine z_callvV (pc := 1) (As := []) (rest := []) (ws' := (wsX1_follow cA h_o h_p1 h_p2 h_p3 h_p1_letters h_p1_digits h_p1_xs h_p1_ys h_p1_zs h_p3_0 h_p3_1 h_p3_2 h_p3_3 h_p3_0_halfWidths h_p3_1_halfWidths h_p3_2_halfWidths h_p3_3_halfWidths h_p2_disc h_p2_kept h_p2_heights o_hasRun r1.1 r1.2.1 r1.2.2.1 r1.2.2.2.1 r1.2.2.2.2.1 r1.2.2.2.2.2.1 r1.2.2.2.2.2.2 p1_count p2_side p2_cells p2_targets p2_marks p2_discSize p1_letters_n p1_letters p1_digits_n p1_digits p1_xs_n p1_xs p1_ys_n p1_ys p1_zs_n p1_zs p3_radius p3_feed p3_halfWidths_n p3_halfWidths p2_disc_n p2_disc p2_kept_n p2_kept p2_heights_n p2_heights)) (kX1_startAnew l D cA h_o o_hasRun o_time o_ended o_x o_y o_z o_cut o_held  N r1 er1) ivX1_15 ⟨rfl, rfl⟩ ⟨by decide, by decide⟩ rfl ⟨Nat.zero_le _, Nat.zero_le _⟩ rfl rfl [0] rfl (by decide) rfl rfl rfl (Nat.le_of_ble_eq_true rfl) dX1_follow_1 ?_
  refine z_aload_n 0 (pc := 4) dX1_follow_4 rfl ?_
  refine z_iconst (pc := 5) (v := 1) dX1_follow_5 (by decide) ?_
  refine z_put 0 0 (pc := 6) (ws' := (wsX1_follow cA h_o h_p1 h_p2 h_p3 h_p1_letters h_p1_digits h_p1_xs h_p1_ys h_p1_zs h_p3_0 h_p3_1 h_p3_2 h_p3_3 h_p3_0_halfWidths h_p3_1_halfWidths h_p3_2_halfWidths h_p3_3_halfWidths h_p2_disc h_p2_kept h_p2_heights 1 r1.1 r1.2.1 r1.2.2.1 r1.2.2.2.1 r1.2.2.2.2.1 r1.2.2.2.2.2.1 r1.2.2.2.2.2.2 p1_count p2_side p2_cells p2_targets p2_marks p2_discSize p1_letters_n p1_letters p1_digits_n p1_digits p1_xs_n p1_xs p1_ys_n p1_ys p1_zs_n p1_zs p3_radius p3_feed p3_halfWidths_n p3_halfWidths p2_disc_n p2_disc p2_kept_n p2_kept p2_heights_n p2_heights)) rfl rfl inX1 tyX1 tyX1_ok nmX1 (by decide) flX1_9 rfl rfl (by decide) rfl (Nat.le_of_ble_eq_true rfl) dX1_follow_6 rfl ?_
  refine z_iconst (pc := 9) (v := 0) dX1_follow_9 (by decide) ?_
  refine z_istore (pc := 10) (lv' := [(4, .int 0), (0, .ref h_o), (1, .ref h_p1), (2, .ref h_p2), (3, .ref h_p3)]) dX1_follow_10 (by decide) rfl ?_
  have lp12 : ∀ (n : Nat) (x4_12 : Int32) (o_cut_12 : Int32) (o_ended_12 : Int32) (o_held_12 : Int32) (o_time_12 : Int32) (o_x_12 : Int32) (o_y_12 : Int32) (o_z_12 : Int32) (p2_disc_12 : Nat → Int32) (p2_discSize_12 : Int32) (p2_heights_12 : Nat → Int32), LX1_follow_12 p1_count N p2_side p2_cells p1_letters_n p1_letters p1_digits_n p1_digits p1_xs_n p1_xs p1_ys_n p1_ys p1_zs_n p1_zs p3_radius p3_feed p3_halfWidths_n p3_halfWidths p2_disc_n p2_kept_n p2_kept p2_heights_n n x4_12 o_cut_12 o_ended_12 o_held_12 o_time_12 o_x_12 o_y_12 o_z_12 p2_disc_12 p2_discSize_12 p2_heights_12 = some res → V κ false l D cA rmX1_follow cX1_follow 6 RX1 (some .int) 0 0 12 [(0, .ref h_o), (1, .ref h_p1), (2, .ref h_p2), (3, .ref h_p3), (4, .int x4_12)] [] (wsX1_follow cA h_o h_p1 h_p2 h_p3 h_p1_letters h_p1_digits h_p1_xs h_p1_ys h_p1_zs h_p3_0 h_p3_1 h_p3_2 h_p3_3 h_p3_0_halfWidths h_p3_1_halfWidths h_p3_2_halfWidths h_p3_3_halfWidths h_p2_disc h_p2_kept h_p2_heights 1 o_time_12 o_ended_12 o_x_12 o_y_12 o_z_12 o_cut_12 o_held_12 p1_count p2_side p2_cells p2_targets p2_marks p2_discSize_12 p1_letters_n p1_letters p1_digits_n p1_digits p1_xs_n p1_xs p1_ys_n p1_ys p1_zs_n p1_zs p3_radius p3_feed p3_halfWidths_n p3_halfWidths p2_disc_n p2_disc_12 p2_kept_n p2_kept p2_heights_n p2_heights_12) := by
    intro n
    induction n with
    | zero => intro x4_12 o_cut_12 o_ended_12 o_held_12 o_time_12 o_x_12 o_y_12 o_z_12 p2_disc_12 p2_discSize_12 p2_heights_12 hf0; rw [LX1_follow_12] at hf0; cases hf0
    | succ n12 ih12 =>
      intro x4_12 o_cut_12 o_ended_12 o_held_12 o_time_12 o_x_12 o_y_12 o_z_12 p2_disc_12 p2_discSize_12 p2_heights_12 hf0
      rw [LX1_follow_12] at hf0
      refine z_iload 4 (pc := 12) dX1_follow_12 rfl ?_
      refine z_aload_n 1 (pc := 14) dX1_follow_14 rfl ?_
      refine z_get 1 0 (pc := 15) (v := .int p1_count) rfl rfl inX3 (by decide) flX1_40 rfl dX1_follow_15 ?_
      refine z_icmp_ge (pc := 18) (tgt := 52) dX1_follow_18 (by decide) hf0 (fun hf0 => ?_) (fun hf0 => ?_)
      · refine z_aload_n 0 (pc := 52) dX1_follow_52 rfl ?_
        refine z_aload_n 1 (pc := 53) dX1_follow_53 rfl ?_
        refine z_get 1 0 (pc := 54) (v := .int p1_count) rfl rfl inX3 (by decide) flX1_40 rfl dX1_follow_54 ?_
        refine z_put 0 2 (pc := 57) (ws' := (wsX1_follow cA h_o h_p1 h_p2 h_p3 h_p1_letters h_p1_digits h_p1_xs h_p1_ys h_p1_zs h_p3_0 h_p3_1 h_p3_2 h_p3_3 h_p3_0_halfWidths h_p3_1_halfWidths h_p3_2_halfWidths h_p3_3_halfWidths h_p2_disc h_p2_kept h_p2_heights 1 o_time_12 p1_count o_x_12 o_y_12 o_z_12 o_cut_12 o_held_12 p1_count p2_side p2_cells p2_targets p2_marks p2_discSize_12 p1_letters_n p1_letters p1_digits_n p1_digits p1_xs_n p1_xs p1_ys_n p1_ys p1_zs_n p1_zs p3_radius p3_feed p3_halfWidths_n p3_halfWidths p2_disc_n p2_disc_12 p2_kept_n p2_kept p2_heights_n p2_heights_12)) rfl rfl inX1 tyX1 tyX1_ok nmX1 (by decide) flX1_22 rfl rfl rfl rfl (Nat.le_of_ble_eq_true rfl) dX1_follow_57 rfl ?_
        refine z_iconst (pc := 60) (v := 0) dX1_follow_60 (by decide) ?_
        obtain rfl := Option.some.inj hf0
        exact z_iret hE dX1_follow_61
      · refine z_aload_n 0 (pc := 21) dX1_follow_21 rfl ?_
        refine z_iload 4 (pc := 22) dX1_follow_22 rfl ?_
        refine z_put 0 2 (pc := 24) (ws' := (wsX1_follow cA h_o h_p1 h_p2 h_p3 h_p1_letters h_p1_digits h_p1_xs h_p1_ys h_p1_zs h_p3_0 h_p3_1 h_p3_2 h_p3_3 h_p3_0_halfWidths h_p3_1_halfWidths h_p3_2_halfWidths h_p3_3_halfWidths h_p2_disc h_p2_kept h_p2_heights 1 o_time_12 x4_12 o_x_12 o_y_12 o_z_12 o_cut_12 o_held_12 p1_count p2_side p2_cells p2_targets p2_marks p2_discSize_12 p1_letters_n p1_letters p1_digits_n p1_digits p1_xs_n p1_xs p1_ys_n p1_ys p1_zs_n p1_zs p3_radius p3_feed p3_halfWidths_n p3_halfWidths p2_disc_n p2_disc_12 p2_kept_n p2_kept p2_heights_n p2_heights_12)) rfl rfl inX1 tyX1 tyX1_ok nmX1 (by decide) flX1_22 rfl rfl rfl rfl (Nat.le_of_ble_eq_true rfl) dX1_follow_24 rfl ?_
        refine z_aload_n 0 (pc := 27) dX1_follow_27 rfl ?_
        refine z_aload_n 1 (pc := 28) dX1_follow_28 rfl ?_
        refine z_iload 4 (pc := 29) dX1_follow_29 rfl ?_
        refine z_aload_n 2 (pc := 31) dX1_follow_31 rfl ?_
        refine z_aload_n 3 (pc := 32) dX1_follow_32 rfl ?_
        obtain ⟨r2, er2, hf0⟩ := bp hf0
        refine z_calliV (pc := 33) (As := [.ref h_p1, .int x4_12, .ref h_p2, .ref h_p3]) (rest := []) (ws' := (wsX1_follow cA h_o h_p1 h_p2 h_p3 h_p1_letters h_p1_digits h_p1_xs h_p1_ys h_p1_zs h_p3_0 h_p3_1 h_p3_2 h_p3_3 h_p3_0_halfWidths h_p3_1_halfWidths h_p3_2_halfWidths h_p3_3_halfWidths h_p2_disc h_p2_kept h_p2_heights 1 r2.2.1 x4_12 r2.2.2.1 r2.2.2.2.1 r2.2.2.2.2.1 r2.2.2.2.2.2.1 r2.2.2.2.2.2.2.1 p1_count p2_side p2_cells p2_targets p2_marks r2.2.2.2.2.2.2.2.1 p1_letters_n p1_letters p1_digits_n p1_digits p1_xs_n p1_xs p1_ys_n p1_ys p1_zs_n p1_zs p3_radius p3_feed p3_halfWidths_n p3_halfWidths p2_disc_n r2.2.2.2.2.2.2.2.2.1 p2_kept_n p2_kept p2_heights_n r2.2.2.2.2.2.2.2.2.2)) (kX1_obey l D cA h_o h_p1 h_p2 h_p3 h_p1_letters h_p1_digits h_p1_xs h_p1_ys h_p1_zs h_p3_0 h_p3_1 h_p3_2 h_p3_3 h_p3_0_halfWidths h_p3_1_halfWidths h_p3_2_halfWidths h_p3_3_halfWidths h_p2_disc h_p2_kept h_p2_heights 1 o_time_12 x4_12 o_x_12 o_y_12 o_z_12 o_cut_12 o_held_12 p1_count p2_side p2_cells p2_targets p2_marks p2_discSize_12 p1_letters_n p1_letters p1_digits_n p1_digits p1_xs_n p1_xs p1_ys_n p1_ys p1_zs_n p1_zs p3_radius p3_feed p3_halfWidths_n p3_halfWidths p2_disc_n p2_disc_12 p2_kept_n p2_kept p2_heights_n p2_heights_12 x4_12 N r2 er2) ivX1_45 ⟨rfl, rfl⟩ ⟨by decide, by decide⟩ rfl ⟨Nat.zero_le _, Nat.zero_le _⟩ rfl rfl [0, 1, 2, 3, 4, 5, 6, 7, 8, 9, 10, 11, 12, 13, 14, 15, 16, 17, 18, 19] rfl (by decide) rfl rfl rfl (Nat.le_of_ble_eq_true rfl) dX1_follow_33 ?_
        refine z_istore (pc := 36) (lv' := [(5, .int r2.1), (0, .ref h_o), (1, .ref h_p1), (2, .ref h_p2), (3, .ref h_p3), (4, .int x4_12)]) dX1_follow_36 (by decide) rfl ?_
        refine z_iload 0 (pc := 38) dX1_follow_38 rfl ?_
        refine z_if_eq (pc := 40) (tgt := 46) dX1_follow_40 (by decide) hf0 (fun hf0 => ?_) (fun hf0 => ?_)
        · refine z_iinc 5 (pc := 46) (v := x4_12 + 1) (lv' := [(4, .int (x4_12 + 1)), (5, .int r2.1), (0, .ref h_o), (1, .ref h_p1), (2, .ref h_p2), (3, .ref h_p3)]) dX1_follow_46 rfl rfl (by decide) rfl ?_
          refine z_goto (pc := 49) (tgt := 12) dX1_follow_49 (by decide) ?_
          exact z_lv [2, 3, 4, 5, 0] rfl (ih12 (x4_12 + 1) r2.2.2.2.2.2.1 x4_12 r2.2.2.2.2.2.2.1 r2.2.1 r2.2.2.1 r2.2.2.2.1 r2.2.2.2.2.1 r2.2.2.2.2.2.2.2.2.1 r2.2.2.2.2.2.2.2.1 r2.2.2.2.2.2.2.2.2.2 hf0)
        · refine z_iload 0 (pc := 43) dX1_follow_43 rfl ?_
          obtain rfl := Option.some.inj hf0
          exact z_iret hE dX1_follow_45
  exact z_lv [1, 2, 3, 4, 0] rfl (lp12 N 0 r1.2.2.2.2.2.1 r1.2.1 r1.2.2.2.2.2.2 r1.1 r1.2.2.1 r1.2.2.2.1 r1.2.2.2.2.1 p2_disc p2_discSize p2_heights hf0)
