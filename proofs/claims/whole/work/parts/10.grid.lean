abbrev RX0_holds : Type := Int32
abbrev rmX0_holds : Room := { frames := 0, cells := 0, slots := 0, locals := 0 }
abbrev wsX0_holds (cA : Nat → ClassId) (h_o : Nat) (o_side : Int32) (o_cells : Int32) (o_heights : Value) (o_targets : Value) (o_kept : Value) (o_marks : Value) (o_disc : Value) (o_discSize : Int32) : va_W := [(h_o, .inr (0, [.int o_side, .int o_cells, o_heights, o_targets, o_kept, o_marks, o_disc, .int o_discSize]))]
def fX0_holds (N : Nat) (a1 : Int32) (a2 : Int32) (o_side : Int32) : Option RX0_holds :=
  (if a1 < 0 then some 0 else (if o_side ≤ a1 then some 0 else (if a2 < 0 then some 0 else (if o_side ≤ a2 then some 0 else some 1))))
set_option maxHeartbeats 4000000 in
set_option maxRecDepth 100000 in
theorem kX0_holds (l : Launch) (D : va_G) (cA : Nat → ClassId) (h_o : Nat) (o_side : Int32) (o_cells : Int32) (o_heights : Value) (o_targets : Value) (o_kept : Value) (o_marks : Value) (o_disc : Value) (o_discSize : Int32) (a1 : Int32) (a2 : Int32) (N : Nat) (res : RX0_holds) (hf0 : fX0_holds N a1 a2 o_side = some res) : CtI l yX0_holds (Cond.code yX0_holds cX0_holds 3 (some .boolean) :: tblG) rmX0_holds D cA (wsX0_holds cA h_o o_side o_cells o_heights o_targets o_kept o_marks o_disc o_discSize) [.ref h_o, .int a1, .int a2] res (wsX0_holds cA h_o o_side o_cells o_heights o_targets o_kept o_marks o_disc o_discSize) := by
  refine CtI.start (lv := [(0, .ref h_o), (1, .int a1), (2, .int a2)]) (by decide) (Nat.le_of_ble_eq_true rfl) rfl (fun κ hE => ?_)
  rw [fX0_holds] at hf0
  refine z_iload_n 1 (pc := 0) dX0_holds_0 rfl ?_
  refine z_if_lt (pc := 1) (tgt := 28) dX0_holds_1 (by decide) hf0 (fun hf0 => ?_) (fun hf0 => ?_)
  · refine z_iconst (pc := 28) (v := 0) dX0_holds_28 (by decide) ?_
    obtain rfl := Option.some.inj hf0
    exact z_zretL (by decide) hE dX0_holds_29
  · refine z_iload_n 1 (pc := 4) dX0_holds_4 rfl ?_
    refine z_aload_n 0 (pc := 5) dX0_holds_5 rfl ?_
    refine z_get 0 0 (pc := 6) (v := .int o_side) rfl rfl inX0 (by decide) flX0_9 rfl dX0_holds_6 ?_
    refine z_icmp_ge (pc := 9) (tgt := 28) dX0_holds_9 (by decide) hf0 (fun hf0 => ?_) (fun hf0 => ?_)
    · refine z_iconst (pc := 28) (v := 0) dX0_holds_28 (by decide) ?_
      obtain rfl := Option.some.inj hf0
      exact z_zretL (by decide) hE dX0_holds_29
    · refine z_iload_n 2 (pc := 12) dX0_holds_12 rfl ?_
      refine z_if_lt (pc := 13) (tgt := 28) dX0_holds_13 (by decide) hf0 (fun hf0 => ?_) (fun hf0 => ?_)
      · refine z_iconst (pc := 28) (v := 0) dX0_holds_28 (by decide) ?_
        obtain rfl := Option.some.inj hf0
        exact z_zretL (by decide) hE dX0_holds_29
      · refine z_iload_n 2 (pc := 16) dX0_holds_16 rfl ?_
        refine z_aload_n 0 (pc := 17) dX0_holds_17 rfl ?_
        refine z_get 0 0 (pc := 18) (v := .int o_side) rfl rfl inX0 (by decide) flX0_9 rfl dX0_holds_18 ?_
        refine z_icmp_ge (pc := 21) (tgt := 28) dX0_holds_21 (by decide) hf0 (fun hf0 => ?_) (fun hf0 => ?_)
        · refine z_iconst (pc := 28) (v := 0) dX0_holds_28 (by decide) ?_
          obtain rfl := Option.some.inj hf0
          exact z_zretL (by decide) hE dX0_holds_29
        · refine z_iconst (pc := 24) (v := 1) dX0_holds_24 (by decide) ?_
          refine z_goto (pc := 25) (tgt := 29) dX0_holds_25 (by decide) ?_
          obtain rfl := Option.some.inj hf0
          exact z_zretL (by decide) hE dX0_holds_29

abbrev RX0_placeOf : Type := Int32
abbrev rmX0_placeOf : Room := { frames := 0, cells := 0, slots := 0, locals := 0 }
abbrev wsX0_placeOf (cA : Nat → ClassId) (h_o : Nat) (o_side : Int32) (o_cells : Int32) (o_heights : Value) (o_targets : Value) (o_kept : Value) (o_marks : Value) (o_disc : Value) (o_discSize : Int32) : va_W := [(h_o, .inr (0, [.int o_side, .int o_cells, o_heights, o_targets, o_kept, o_marks, o_disc, .int o_discSize]))]
def fX0_placeOf (N : Nat) (a1 : Int32) (a2 : Int32) (o_side : Int32) : Option RX0_placeOf :=
  some ((o_side * a2) + a1)
set_option maxHeartbeats 4000000 in
set_option maxRecDepth 100000 in
theorem kX0_placeOf (l : Launch) (D : va_G) (cA : Nat → ClassId) (h_o : Nat) (o_side : Int32) (o_cells : Int32) (o_heights : Value) (o_targets : Value) (o_kept : Value) (o_marks : Value) (o_disc : Value) (o_discSize : Int32) (a1 : Int32) (a2 : Int32) (N : Nat) (res : RX0_placeOf) (hf0 : fX0_placeOf N a1 a2 o_side = some res) : CtI l yX0_placeOf (Cond.code yX0_placeOf cX0_placeOf 3 (some .int) :: tblG) rmX0_placeOf D cA (wsX0_placeOf cA h_o o_side o_cells o_heights o_targets o_kept o_marks o_disc o_discSize) [.ref h_o, .int a1, .int a2] res (wsX0_placeOf cA h_o o_side o_cells o_heights o_targets o_kept o_marks o_disc o_discSize) := by
  refine CtI.start (lv := [(0, .ref h_o), (1, .int a1), (2, .int a2)]) (by decide) (Nat.le_of_ble_eq_true rfl) rfl (fun κ hE => ?_)
  rw [fX0_placeOf] at hf0
  refine z_aload_n 0 (pc := 0) dX0_placeOf_0 rfl ?_
  refine z_get 0 0 (pc := 1) (v := .int o_side) rfl rfl inX0 (by decide) flX0_9 rfl dX0_placeOf_1 ?_
  refine z_iload_n 2 (pc := 4) dX0_placeOf_4 rfl ?_
  refine z_imul (pc := 5) dX0_placeOf_5 ?_
  refine z_iload_n 1 (pc := 6) dX0_placeOf_6 rfl ?_
  refine z_iadd (pc := 7) dX0_placeOf_7 ?_
  obtain rfl := Option.some.inj hf0
  exact z_iret hE dX0_placeOf_8

abbrev RX0_aimBlock : Type := (Nat → Int32)
abbrev rmX0_aimBlock : Room := { frames := 1, cells := 0, slots := 0, locals := 22 }
abbrev wsX0_aimBlock (cA : Nat → ClassId) (h_o : Nat) (h_o_targets : Nat) (o_side : Int32) (o_cells : Int32) (o_heights : Value) (o_kept : Value) (o_marks : Value) (o_disc : Value) (o_discSize : Int32) (o_targets_n : Nat) (o_targets : Nat → Int32) : va_W := [(h_o, .inr (0, [.int o_side, .int o_cells, o_heights, .ref h_o_targets, o_kept, o_marks, o_disc, .int o_discSize])), (h_o_targets, .inl (cA 0, o_targets_n, .inl o_targets))]
def LX0_aimBlock_13 (a3 : Int32) (N : Nat) (x6_3 : Int32) (o_side : Int32) (o_targets_n : Nat) (a5 : Int32) : Nat → Int32 → (Nat → Int32) → Option (Int32 × (Nat → Int32))
  | 0, _, _ => none
  | n + 1, x7_13, o_targets_13 => (if a3 < x7_13 then some (x7_13, o_targets_13) else ((fX0_placeOf N x7_13 x6_3 o_side).bind fun r3 => (if r3 < 0 ∨ o_targets_n ≤ r3.toNatClampNeg then none else LX0_aimBlock_13 a3 N x6_3 o_side o_targets_n a5 n (x7_13 + 1) (upd o_targets_13 r3.toNatClampNeg a5))))
def LX0_aimBlock_3 (a4 : Int32) (a3 : Int32) (N : Nat) (o_side : Int32) (o_targets_n : Nat) (a5 : Int32) (a1 : Int32) : Nat → Int32 → (Nat → Int32) → Option (Int32 × (Nat → Int32))
  | 0, _, _ => none
  | n + 1, x6_3, o_targets_3 => (if a4 < x6_3 then some (x6_3, o_targets_3) else ((LX0_aimBlock_13 a3 N x6_3 o_side o_targets_n a5 N a1 o_targets_3).bind fun r2 => LX0_aimBlock_3 a4 a3 N o_side o_targets_n a5 a1 n (x6_3 + 1) r2.2))
def fX0_aimBlock (N : Nat) (a1 : Int32) (a2 : Int32) (a3 : Int32) (a4 : Int32) (a5 : Int32) (o_side : Int32) (o_targets_n : Nat) (o_targets : Nat → Int32) : Option RX0_aimBlock :=
  ((LX0_aimBlock_3 a4 a3 N o_side o_targets_n a5 a1 N a2 o_targets).bind fun r1 => some r1.2)
set_option maxHeartbeats 4000000 in
set_option maxRecDepth 100000 in
theorem kX0_aimBlock (l : Launch) (D : va_G) (cA : Nat → ClassId) (h_o : Nat) (h_o_targets : Nat) (o_side : Int32) (o_cells : Int32) (o_heights : Value) (o_kept : Value) (o_marks : Value) (o_disc : Value) (o_discSize : Int32) (o_targets_n : Nat) (o_targets : Nat → Int32) (a1 : Int32) (a2 : Int32) (a3 : Int32) (a4 : Int32) (a5 : Int32) (N : Nat) (res : RX0_aimBlock) (hf0 : fX0_aimBlock N a1 a2 a3 a4 a5 o_side o_targets_n o_targets = some res) : CtV l yX0_aimBlock (Cond.code yX0_aimBlock cX0_aimBlock 8 (none) :: tblG) rmX0_aimBlock D cA (wsX0_aimBlock cA h_o h_o_targets o_side o_cells o_heights o_kept o_marks o_disc o_discSize o_targets_n o_targets) [.ref h_o, .int a1, .int a2, .int a3, .int a4, .int a5] (wsX0_aimBlock cA h_o h_o_targets o_side o_cells o_heights o_kept o_marks o_disc o_discSize o_targets_n res) := by
  refine CtV.start (lv := [(0, .ref h_o), (1, .int a1), (2, .int a2), (3, .int a3), (4, .int a4), (5, .int a5)]) (by decide) (Nat.le_of_ble_eq_true rfl) rfl (fun κ hE => ?_)
  rw [fX0_aimBlock] at hf0
  refine z_iload_n 2 (pc := 0) dX0_aimBlock_0 rfl ?_
  refine z_istore (pc := 1) (lv' := [(6, .int a2), (0, .ref h_o), (1, .int a1), (2, .int a2), (3, .int a3), (4, .int a4), (5, .int a5)]) dX0_aimBlock_1 (by decide) rfl ?_
  obtain ⟨y3, hf0_3, hf0⟩ := bp hf0
  have lp3 : ∀ (n : Nat) (x6_3 : Int32) (o_targets_3 : Nat → Int32), LX0_aimBlock_3 a4 a3 N o_side o_targets_n a5 a1 n x6_3 o_targets_3 = some y3 → V κ false l D cA rmX0_aimBlock cX0_aimBlock 8 RX0 (none) 0 0 3 [(0, .ref h_o), (1, .int a1), (2, .int a2), (3, .int a3), (4, .int a4), (5, .int a5), (6, .int x6_3)] [] (wsX0_aimBlock cA h_o h_o_targets o_side o_cells o_heights o_kept o_marks o_disc o_discSize o_targets_n o_targets_3) := by
    intro n
    induction n with
    | zero => intro x6_3 o_targets_3 hf0_3; rw [LX0_aimBlock_3] at hf0_3; cases hf0_3
    | succ n3 ih3 =>
      intro x6_3 o_targets_3 hf0_3
      rw [LX0_aimBlock_3] at hf0_3
      refine z_iload 6 (pc := 3) dX0_aimBlock_3 rfl ?_
      refine z_iload 4 (pc := 5) dX0_aimBlock_5 rfl ?_
      refine z_icmp_gt (pc := 7) (tgt := 46) dX0_aimBlock_7 (by decide) hf0_3 (fun hf0_3 => ?_) (fun hf0_3 => ?_)
      · obtain rfl := Option.some.inj hf0_3
        obtain rfl := Option.some.inj hf0
        exact z_vret hE dX0_aimBlock_46
      · refine z_iload_n 1 (pc := 10) dX0_aimBlock_10 rfl ?_
        refine z_istore (pc := 11) (lv' := [(7, .int a1), (0, .ref h_o), (1, .int a1), (2, .int a2), (3, .int a3), (4, .int a4), (5, .int a5), (6, .int x6_3)]) dX0_aimBlock_11 (by decide) rfl ?_
        obtain ⟨y13, hf0_3_13, hf0_3⟩ := bp hf0_3
        have lp13 : ∀ (n : Nat) (x7_13 : Int32) (o_targets_13 : Nat → Int32), LX0_aimBlock_13 a3 N x6_3 o_side o_targets_n a5 n x7_13 o_targets_13 = some y13 → V κ false l D cA rmX0_aimBlock cX0_aimBlock 8 RX0 (none) 0 0 13 [(0, .ref h_o), (1, .int a1), (2, .int a2), (3, .int a3), (4, .int a4), (5, .int a5), (6, .int x6_3), (7, .int x7_13)] [] (wsX0_aimBlock cA h_o h_o_targets o_side o_cells o_heights o_kept o_marks o_disc o_discSize o_targets_n o_targets_13) := by
          intro n
          induction n with
          | zero => intro x7_13 o_targets_13 hf0_3_13; rw [LX0_aimBlock_13] at hf0_3_13; cases hf0_3_13
          | succ n13 ih13 =>
            intro x7_13 o_targets_13 hf0_3_13
            rw [LX0_aimBlock_13] at hf0_3_13
            refine z_iload 7 (pc := 13) dX0_aimBlock_13 rfl ?_
            refine z_iload_n 3 (pc := 15) dX0_aimBlock_15 rfl ?_
            refine z_icmp_gt (pc := 16) (tgt := 40) dX0_aimBlock_16 (by decide) hf0_3_13 (fun hf0_3_13 => ?_) (fun hf0_3_13 => ?_)
            · obtain rfl := Option.some.inj hf0_3_13
              refine z_iinc 6 (pc := 40) (v := x6_3 + 1) (lv' := [(6, .int (x6_3 + 1)), (0, .ref h_o), (1, .int a1), (2, .int a2), (3, .int a3), (4, .int a4), (5, .int a5), (7, .int x7_13)]) dX0_aimBlock_40 rfl rfl (by decide) rfl ?_
              refine z_goto (pc := 43) (tgt := 3) dX0_aimBlock_43 (by decide) ?_
              exact z_lv [1, 2, 3, 4, 5, 6, 0] rfl (ih3 (x6_3 + 1) o_targets_13 hf0_3)
            · refine z_aload_n 0 (pc := 19) dX0_aimBlock_19 rfl ?_
              refine z_get 0 3 (pc := 20) (v := .ref h_o_targets) rfl rfl inX0 (by decide) flX0_22 rfl dX0_aimBlock_20 ?_
              refine z_aload_n 0 (pc := 23) dX0_aimBlock_23 rfl ?_
              refine z_iload 7 (pc := 24) dX0_aimBlock_24 rfl ?_
              refine z_iload 6 (pc := 26) dX0_aimBlock_26 rfl ?_
              obtain ⟨r3, er3, hf0_3_13⟩ := bp hf0_3_13
              refine z_calliV (pc := 28) (As := [.int x7_13, .int x6_3]) (rest := [.ref h_o_targets]) (ws' := (wsX0_aimBlock cA h_o h_o_targets o_side o_cells o_heights o_kept o_marks o_disc o_discSize o_targets_n o_targets_13)) (kX0_placeOf l D cA h_o o_side o_cells o_heights (.ref h_o_targets) o_kept o_marks o_disc o_discSize x7_13 x6_3 N r3 er3) ivX0_38 ⟨rfl, rfl⟩ ⟨by decide, by decide⟩ rfl ⟨Nat.zero_le _, Nat.zero_le _⟩ rfl rfl [0] rfl (by decide) rfl rfl rfl (Nat.le_of_ble_eq_true rfl) dX0_aimBlock_28 ?_
              refine z_iload 5 (pc := 31) dX0_aimBlock_31 rfl ?_
              refine z_iastore 1 0 (pc := 33) (ws' := (wsX0_aimBlock cA h_o h_o_targets o_side o_cells o_heights o_kept o_marks o_disc o_discSize o_targets_n (upd o_targets_13 r3.toNatClampNeg a5))) rfl rfl dX0_aimBlock_33 rfl hf0_3_13 (fun hf0_3_13 => ?_)
              refine z_iinc 7 (pc := 34) (v := x7_13 + 1) (lv' := [(7, .int (x7_13 + 1)), (0, .ref h_o), (1, .int a1), (2, .int a2), (3, .int a3), (4, .int a4), (5, .int a5), (6, .int x6_3)]) dX0_aimBlock_34 rfl rfl (by decide) rfl ?_
              refine z_goto (pc := 37) (tgt := 13) dX0_aimBlock_37 (by decide) ?_
              exact z_lv [1, 2, 3, 4, 5, 6, 7, 0] rfl (ih13 (x7_13 + 1) (upd o_targets_13 r3.toNatClampNeg a5) hf0_3_13)
        exact z_lv [1, 2, 3, 4, 5, 6, 7, 0] rfl (lp13 N a1 o_targets_3 hf0_3_13)
  exact z_lv [1, 2, 3, 4, 5, 6, 0] rfl (lp3 N a2 o_targets hf0_3)

abbrev RX0_guardBlock : Type := (Nat → Int32)
abbrev rmX0_guardBlock : Room := { frames := 1, cells := 0, slots := 0, locals := 22 }
abbrev wsX0_guardBlock (cA : Nat → ClassId) (h_o : Nat) (h_o_kept : Nat) (o_side : Int32) (o_cells : Int32) (o_heights : Value) (o_targets : Value) (o_marks : Value) (o_disc : Value) (o_discSize : Int32) (o_kept_n : Nat) (o_kept : Nat → Int32) : va_W := [(h_o, .inr (0, [.int o_side, .int o_cells, o_heights, o_targets, .ref h_o_kept, o_marks, o_disc, .int o_discSize])), (h_o_kept, .inl (cA 1, o_kept_n, .inl o_kept))]
def LX0_guardBlock_13 (a3 : Int32) (N : Nat) (x6_3 : Int32) (o_side : Int32) (o_kept_n : Nat) (a5 : Int32) : Nat → Int32 → (Nat → Int32) → Option (Int32 × (Nat → Int32))
  | 0, _, _ => none
  | n + 1, x7_13, o_kept_13 => (if a3 < x7_13 then some (x7_13, o_kept_13) else ((fX0_placeOf N x7_13 x6_3 o_side).bind fun r3 => (if r3 < 0 ∨ o_kept_n ≤ r3.toNatClampNeg then none else LX0_guardBlock_13 a3 N x6_3 o_side o_kept_n a5 n (x7_13 + 1) (upd o_kept_13 r3.toNatClampNeg (vp_nar .boolean a5)))))
def LX0_guardBlock_3 (a4 : Int32) (a3 : Int32) (N : Nat) (o_side : Int32) (o_kept_n : Nat) (a5 : Int32) (a1 : Int32) : Nat → Int32 → (Nat → Int32) → Option (Int32 × (Nat → Int32))
  | 0, _, _ => none
  | n + 1, x6_3, o_kept_3 => (if a4 < x6_3 then some (x6_3, o_kept_3) else ((LX0_guardBlock_13 a3 N x6_3 o_side o_kept_n a5 N a1 o_kept_3).bind fun r2 => LX0_guardBlock_3 a4 a3 N o_side o_kept_n a5 a1 n (x6_3 + 1) r2.2))
def fX0_guardBlock (N : Nat) (a1 : Int32) (a2 : Int32) (a3 : Int32) (a4 : Int32) (a5 : Int32) (o_side : Int32) (o_kept_n : Nat) (o_kept : Nat → Int32) : Option RX0_guardBlock :=
  ((LX0_guardBlock_3 a4 a3 N o_side o_kept_n a5 a1 N a2 o_kept).bind fun r1 => some r1.2)
set_option maxHeartbeats 4000000 in
set_option maxRecDepth 100000 in
theorem kX0_guardBlock (l : Launch) (D : va_G) (cA : Nat → ClassId) (h_o : Nat) (h_o_kept : Nat) (o_side : Int32) (o_cells : Int32) (o_heights : Value) (o_targets : Value) (o_marks : Value) (o_disc : Value) (o_discSize : Int32) (o_kept_n : Nat) (o_kept : Nat → Int32) (a1 : Int32) (a2 : Int32) (a3 : Int32) (a4 : Int32) (a5 : Int32) (N : Nat) (res : RX0_guardBlock) (hf0 : fX0_guardBlock N a1 a2 a3 a4 a5 o_side o_kept_n o_kept = some res) : CtV l yX0_guardBlock (Cond.code yX0_guardBlock cX0_guardBlock 8 (none) :: tblG) rmX0_guardBlock D cA (wsX0_guardBlock cA h_o h_o_kept o_side o_cells o_heights o_targets o_marks o_disc o_discSize o_kept_n o_kept) [.ref h_o, .int a1, .int a2, .int a3, .int a4, .int a5] (wsX0_guardBlock cA h_o h_o_kept o_side o_cells o_heights o_targets o_marks o_disc o_discSize o_kept_n res) := by
  refine CtV.start (lv := [(0, .ref h_o), (1, .int a1), (2, .int a2), (3, .int a3), (4, .int a4), (5, .int a5)]) (by decide) (Nat.le_of_ble_eq_true rfl) rfl (fun κ hE => ?_)
  rw [fX0_guardBlock] at hf0
  refine z_iload_n 2 (pc := 0) dX0_guardBlock_0 rfl ?_
  refine z_istore (pc := 1) (lv' := [(6, .int a2), (0, .ref h_o), (1, .int a1), (2, .int a2), (3, .int a3), (4, .int a4), (5, .int a5)]) dX0_guardBlock_1 (by decide) rfl ?_
  obtain ⟨y3, hf0_3, hf0⟩ := bp hf0
  have lp3 : ∀ (n : Nat) (x6_3 : Int32) (o_kept_3 : Nat → Int32), LX0_guardBlock_3 a4 a3 N o_side o_kept_n a5 a1 n x6_3 o_kept_3 = some y3 → V κ false l D cA rmX0_guardBlock cX0_guardBlock 8 RX0 (none) 0 0 3 [(0, .ref h_o), (1, .int a1), (2, .int a2), (3, .int a3), (4, .int a4), (5, .int a5), (6, .int x6_3)] [] (wsX0_guardBlock cA h_o h_o_kept o_side o_cells o_heights o_targets o_marks o_disc o_discSize o_kept_n o_kept_3) := by
    intro n
    induction n with
    | zero => intro x6_3 o_kept_3 hf0_3; rw [LX0_guardBlock_3] at hf0_3; cases hf0_3
    | succ n3 ih3 =>
      intro x6_3 o_kept_3 hf0_3
      rw [LX0_guardBlock_3] at hf0_3
      refine z_iload 6 (pc := 3) dX0_guardBlock_3 rfl ?_
      refine z_iload 4 (pc := 5) dX0_guardBlock_5 rfl ?_
      refine z_icmp_gt (pc := 7) (tgt := 46) dX0_guardBlock_7 (by decide) hf0_3 (fun hf0_3 => ?_) (fun hf0_3 => ?_)
      · obtain rfl := Option.some.inj hf0_3
        obtain rfl := Option.some.inj hf0
        exact z_vret hE dX0_guardBlock_46
      · refine z_iload_n 1 (pc := 10) dX0_guardBlock_10 rfl ?_
        refine z_istore (pc := 11) (lv' := [(7, .int a1), (0, .ref h_o), (1, .int a1), (2, .int a2), (3, .int a3), (4, .int a4), (5, .int a5), (6, .int x6_3)]) dX0_guardBlock_11 (by decide) rfl ?_
        obtain ⟨y13, hf0_3_13, hf0_3⟩ := bp hf0_3
        have lp13 : ∀ (n : Nat) (x7_13 : Int32) (o_kept_13 : Nat → Int32), LX0_guardBlock_13 a3 N x6_3 o_side o_kept_n a5 n x7_13 o_kept_13 = some y13 → V κ false l D cA rmX0_guardBlock cX0_guardBlock 8 RX0 (none) 0 0 13 [(0, .ref h_o), (1, .int a1), (2, .int a2), (3, .int a3), (4, .int a4), (5, .int a5), (6, .int x6_3), (7, .int x7_13)] [] (wsX0_guardBlock cA h_o h_o_kept o_side o_cells o_heights o_targets o_marks o_disc o_discSize o_kept_n o_kept_13) := by
          intro n
          induction n with
          | zero => intro x7_13 o_kept_13 hf0_3_13; rw [LX0_guardBlock_13] at hf0_3_13; cases hf0_3_13
          | succ n13 ih13 =>
            intro x7_13 o_kept_13 hf0_3_13
            rw [LX0_guardBlock_13] at hf0_3_13
            refine z_iload 7 (pc := 13) dX0_guardBlock_13 rfl ?_
            refine z_iload_n 3 (pc := 15) dX0_guardBlock_15 rfl ?_
            refine z_icmp_gt (pc := 16) (tgt := 40) dX0_guardBlock_16 (by decide) hf0_3_13 (fun hf0_3_13 => ?_) (fun hf0_3_13 => ?_)
            · obtain rfl := Option.some.inj hf0_3_13
              refine z_iinc 6 (pc := 40) (v := x6_3 + 1) (lv' := [(6, .int (x6_3 + 1)), (0, .ref h_o), (1, .int a1), (2, .int a2), (3, .int a3), (4, .int a4), (5, .int a5), (7, .int x7_13)]) dX0_guardBlock_40 rfl rfl (by decide) rfl ?_
              refine z_goto (pc := 43) (tgt := 3) dX0_guardBlock_43 (by decide) ?_
              exact z_lv [1, 2, 3, 4, 5, 6, 0] rfl (ih3 (x6_3 + 1) o_kept_13 hf0_3)
            · refine z_aload_n 0 (pc := 19) dX0_guardBlock_19 rfl ?_
              refine z_get 0 4 (pc := 20) (v := .ref h_o_kept) rfl rfl inX0 (by decide) flX0_25 rfl dX0_guardBlock_20 ?_
              refine z_aload_n 0 (pc := 23) dX0_guardBlock_23 rfl ?_
              refine z_iload 7 (pc := 24) dX0_guardBlock_24 rfl ?_
              refine z_iload 6 (pc := 26) dX0_guardBlock_26 rfl ?_
              obtain ⟨r3, er3, hf0_3_13⟩ := bp hf0_3_13
              refine z_calliV (pc := 28) (As := [.int x7_13, .int x6_3]) (rest := [.ref h_o_kept]) (ws' := (wsX0_guardBlock cA h_o h_o_kept o_side o_cells o_heights o_targets o_marks o_disc o_discSize o_kept_n o_kept_13)) (kX0_placeOf l D cA h_o o_side o_cells o_heights o_targets (.ref h_o_kept) o_marks o_disc o_discSize x7_13 x6_3 N r3 er3) ivX0_38 ⟨rfl, rfl⟩ ⟨by decide, by decide⟩ rfl ⟨Nat.zero_le _, Nat.zero_le _⟩ rfl rfl [0] rfl (by decide) rfl rfl rfl (Nat.le_of_ble_eq_true rfl) dX0_guardBlock_28 ?_
              refine z_iload 5 (pc := 31) dX0_guardBlock_31 rfl ?_
              refine z_zastore 1 1 (pc := 33) (ws' := (wsX0_guardBlock cA h_o h_o_kept o_side o_cells o_heights o_targets o_marks o_disc o_discSize o_kept_n (upd o_kept_13 r3.toNatClampNeg (vp_nar .boolean a5)))) rfl rfl dX0_guardBlock_33 rfl hf0_3_13 (fun hf0_3_13 => ?_)
              refine z_iinc 7 (pc := 34) (v := x7_13 + 1) (lv' := [(7, .int (x7_13 + 1)), (0, .ref h_o), (1, .int a1), (2, .int a2), (3, .int a3), (4, .int a4), (5, .int a5), (6, .int x6_3)]) dX0_guardBlock_34 rfl rfl (by decide) rfl ?_
              refine z_goto (pc := 37) (tgt := 13) dX0_guardBlock_37 (by decide) ?_
              exact z_lv [1, 2, 3, 4, 5, 6, 7, 0] rfl (ih13 (x7_13 + 1) (upd o_kept_13 r3.toNatClampNeg (vp_nar .boolean a5)) hf0_3_13)
        exact z_lv [1, 2, 3, 4, 5, 6, 7, 0] rfl (lp13 N a1 o_kept_3 hf0_3_13)
  exact z_lv [1, 2, 3, 4, 5, 6, 0] rfl (lp3 N a2 o_kept hf0_3)

abbrev RX0_fillUp : Type := (Nat → Int32)
abbrev rmX0_fillUp : Room := { frames := 0, cells := 0, slots := 0, locals := 0 }
abbrev wsX0_fillUp (cA : Nat → ClassId) (h_o : Nat) (h_o_heights : Nat) (o_side : Int32) (o_cells : Int32) (o_targets : Value) (o_kept : Value) (o_marks : Value) (o_disc : Value) (o_discSize : Int32) (o_heights_n : Nat) (o_heights : Nat → Int32) : va_W := [(h_o, .inr (0, [.int o_side, .int o_cells, .ref h_o_heights, o_targets, o_kept, o_marks, o_disc, .int o_discSize])), (h_o_heights, .inl (cA 0, o_heights_n, .inl o_heights))]
def LX0_fillUp_2 (o_cells : Int32) (o_heights_n : Nat) : Nat → Int32 → (Nat → Int32) → Option (Int32 × (Nat → Int32))
  | 0, _, _ => none
  | n + 1, x1_2, o_heights_2 => (if o_cells ≤ x1_2 then some (x1_2, o_heights_2) else (if x1_2 < 0 ∨ o_heights_n ≤ x1_2.toNatClampNeg then none else LX0_fillUp_2 o_cells o_heights_n n (x1_2 + 1) (upd o_heights_2 x1_2.toNatClampNeg 100)))
def fX0_fillUp (N : Nat)  (o_cells : Int32) (o_heights_n : Nat) (o_heights : Nat → Int32) : Option RX0_fillUp :=
  ((LX0_fillUp_2 o_cells o_heights_n N 0 o_heights).bind fun r1 => some r1.2)
set_option maxHeartbeats 4000000 in
set_option maxRecDepth 100000 in
theorem kX0_fillUp (l : Launch) (D : va_G) (cA : Nat → ClassId) (h_o : Nat) (h_o_heights : Nat) (o_side : Int32) (o_cells : Int32) (o_targets : Value) (o_kept : Value) (o_marks : Value) (o_disc : Value) (o_discSize : Int32) (o_heights_n : Nat) (o_heights : Nat → Int32)  (N : Nat) (res : RX0_fillUp) (hf0 : fX0_fillUp N o_cells o_heights_n o_heights = some res) : CtV l yX0_fillUp (Cond.code yX0_fillUp cX0_fillUp 2 (none) :: tblG) rmX0_fillUp D cA (wsX0_fillUp cA h_o h_o_heights o_side o_cells o_targets o_kept o_marks o_disc o_discSize o_heights_n o_heights) [.ref h_o] (wsX0_fillUp cA h_o h_o_heights o_side o_cells o_targets o_kept o_marks o_disc o_discSize o_heights_n res) := by
  refine CtV.start (lv := [(0, .ref h_o)]) (by decide) (Nat.le_of_ble_eq_true rfl) rfl (fun κ hE => ?_)
  rw [fX0_fillUp] at hf0
  refine z_iconst (pc := 0) (v := 0) dX0_fillUp_0 (by decide) ?_
  refine z_istore_n (pc := 1) (lv' := [(1, .int 0), (0, .ref h_o)]) dX0_fillUp_1 (by decide) rfl ?_
  obtain ⟨y2, hf0_2, hf0⟩ := bp hf0
  have lp2 : ∀ (n : Nat) (x1_2 : Int32) (o_heights_2 : Nat → Int32), LX0_fillUp_2 o_cells o_heights_n n x1_2 o_heights_2 = some y2 → V κ false l D cA rmX0_fillUp cX0_fillUp 2 RX0 (none) 0 0 2 [(0, .ref h_o), (1, .int x1_2)] [] (wsX0_fillUp cA h_o h_o_heights o_side o_cells o_targets o_kept o_marks o_disc o_discSize o_heights_n o_heights_2) := by
    intro n
    induction n with
    | zero => intro x1_2 o_heights_2 hf0_2; rw [LX0_fillUp_2] at hf0_2; cases hf0_2
    | succ n2 ih2 =>
      intro x1_2 o_heights_2 hf0_2
      rw [LX0_fillUp_2] at hf0_2
      refine z_iload_n 1 (pc := 2) dX0_fillUp_2 rfl ?_
      refine z_aload_n 0 (pc := 3) dX0_fillUp_3 rfl ?_
      refine z_get 0 1 (pc := 4) (v := .int o_cells) rfl rfl inX0 (by decide) flX0_15 rfl dX0_fillUp_4 ?_
      refine z_icmp_ge (pc := 7) (tgt := 24) dX0_fillUp_7 (by decide) hf0_2 (fun hf0_2 => ?_) (fun hf0_2 => ?_)
      · obtain rfl := Option.some.inj hf0_2
        obtain rfl := Option.some.inj hf0
        exact z_vret hE dX0_fillUp_24
      · refine z_aload_n 0 (pc := 10) dX0_fillUp_10 rfl ?_
        refine z_get 0 2 (pc := 11) (v := .ref h_o_heights) rfl rfl inX0 (by decide) flX0_18 rfl dX0_fillUp_11 ?_
        refine z_iload_n 1 (pc := 14) dX0_fillUp_14 rfl ?_
        refine z_bipush (pc := 15) (v := 100) dX0_fillUp_15 (by decide) ?_
        refine z_iastore 1 0 (pc := 17) (ws' := (wsX0_fillUp cA h_o h_o_heights o_side o_cells o_targets o_kept o_marks o_disc o_discSize o_heights_n (upd o_heights_2 x1_2.toNatClampNeg 100))) rfl rfl dX0_fillUp_17 rfl hf0_2 (fun hf0_2 => ?_)
        refine z_iinc 1 (pc := 18) (v := x1_2 + 1) (lv' := [(1, .int (x1_2 + 1)), (0, .ref h_o)]) dX0_fillUp_18 rfl rfl (by decide) rfl ?_
        refine z_goto (pc := 21) (tgt := 2) dX0_fillUp_21 (by decide) ?_
        exact z_lv [1, 0] rfl (ih2 (x1_2 + 1) (upd o_heights_2 x1_2.toNatClampNeg 100) hf0_2)
  exact z_lv [1, 0] rfl (lp2 N 0 o_heights hf0_2)

abbrev RX0_isOff : Type := Int32
abbrev rmX0_isOff : Room := { frames := 0, cells := 0, slots := 0, locals := 0 }
abbrev wsX0_isOff (cA : Nat → ClassId) (h_o : Nat) (h_o_heights : Nat) (h_o_targets : Nat) (o_side : Int32) (o_cells : Int32) (o_kept : Value) (o_marks : Value) (o_disc : Value) (o_discSize : Int32) (o_heights_n : Nat) (o_heights : Nat → Int32) (o_targets_n : Nat) (o_targets : Nat → Int32) : va_W := [(h_o, .inr (0, [.int o_side, .int o_cells, .ref h_o_heights, .ref h_o_targets, o_kept, o_marks, o_disc, .int o_discSize])), (h_o_heights, .inl (cA 0, o_heights_n, .inl o_heights)), (h_o_targets, .inl (cA 0, o_targets_n, .inl o_targets))]
def fX0_isOff (N : Nat) (a1 : Int32) (a2 : Int32) (o_heights_n : Nat) (o_heights : Nat → Int32) (o_targets_n : Nat) (o_targets : Nat → Int32) : Option RX0_isOff :=
  (if a2 = 0 then (if a1 < 0 ∨ o_heights_n ≤ a1.toNatClampNeg then none else (if a1 < 0 ∨ o_targets_n ≤ a1.toNatClampNeg then none else (if (o_targets a1.toNatClampNeg) ≤ (o_heights a1.toNatClampNeg) then some 0 else some 1))) else (if a1 < 0 ∨ o_heights_n ≤ a1.toNatClampNeg then none else (if a1 < 0 ∨ o_targets_n ≤ a1.toNatClampNeg then none else (if (o_heights a1.toNatClampNeg) ≤ (o_targets a1.toNatClampNeg) then some 0 else some 1))))
set_option maxHeartbeats 4000000 in
set_option maxRecDepth 100000 in
theorem kX0_isOff (l : Launch) (D : va_G) (cA : Nat → ClassId) (h_o : Nat) (h_o_heights : Nat) (h_o_targets : Nat) (o_side : Int32) (o_cells : Int32) (o_kept : Value) (o_marks : Value) (o_disc : Value) (o_discSize : Int32) (o_heights_n : Nat) (o_heights : Nat → Int32) (o_targets_n : Nat) (o_targets : Nat → Int32) (a1 : Int32) (a2 : Int32) (N : Nat) (res : RX0_isOff) (hf0 : fX0_isOff N a1 a2 o_heights_n o_heights o_targets_n o_targets = some res) : CtI l yX0_isOff (Cond.code yX0_isOff cX0_isOff 3 (some .boolean) :: tblG) rmX0_isOff D cA (wsX0_isOff cA h_o h_o_heights h_o_targets o_side o_cells o_kept o_marks o_disc o_discSize o_heights_n o_heights o_targets_n o_targets) [.ref h_o, .int a1, .int a2] res (wsX0_isOff cA h_o h_o_heights h_o_targets o_side o_cells o_kept o_marks o_disc o_discSize o_heights_n o_heights o_targets_n o_targets) := by
  refine CtI.start (lv := [(0, .ref h_o), (1, .int a1), (2, .int a2)]) (by decide) (Nat.le_of_ble_eq_true rfl) rfl (fun κ hE => ?_)
  rw [fX0_isOff] at hf0
  refine z_iload_n 2 (pc := 0) dX0_isOff_0 rfl ?_
  refine z_if_eq (pc := 1) (tgt := 27) dX0_isOff_1 (by decide) hf0 (fun hf0 => ?_) (fun hf0 => ?_)
  · refine z_aload_n 0 (pc := 27) dX0_isOff_27 rfl ?_
    refine z_get 0 2 (pc := 28) (v := .ref h_o_heights) rfl rfl inX0 (by decide) flX0_18 rfl dX0_isOff_28 ?_
    refine z_iload_n 1 (pc := 31) dX0_isOff_31 rfl ?_
    refine z_iaload 1 0 (pc := 32) rfl rfl dX0_isOff_32 hf0 (fun hf0 => ?_)
    refine z_aload_n 0 (pc := 33) dX0_isOff_33 rfl ?_
    refine z_get 0 3 (pc := 34) (v := .ref h_o_targets) rfl rfl inX0 (by decide) flX0_22 rfl dX0_isOff_34 ?_
    refine z_iload_n 1 (pc := 37) dX0_isOff_37 rfl ?_
    refine z_iaload 2 0 (pc := 38) rfl rfl dX0_isOff_38 hf0 (fun hf0 => ?_)
    refine z_icmp_ge (pc := 39) (tgt := 46) dX0_isOff_39 (by decide) hf0 (fun hf0 => ?_) (fun hf0 => ?_)
    · refine z_iconst (pc := 46) (v := 0) dX0_isOff_46 (by decide) ?_
      obtain rfl := Option.some.inj hf0
      exact z_zretL (by decide) hE dX0_isOff_47
    · refine z_iconst (pc := 42) (v := 1) dX0_isOff_42 (by decide) ?_
      refine z_goto (pc := 43) (tgt := 47) dX0_isOff_43 (by decide) ?_
      obtain rfl := Option.some.inj hf0
      exact z_zretL (by decide) hE dX0_isOff_47
  · refine z_aload_n 0 (pc := 4) dX0_isOff_4 rfl ?_
    refine z_get 0 2 (pc := 5) (v := .ref h_o_heights) rfl rfl inX0 (by decide) flX0_18 rfl dX0_isOff_5 ?_
    refine z_iload_n 1 (pc := 8) dX0_isOff_8 rfl ?_
    refine z_iaload 1 0 (pc := 9) rfl rfl dX0_isOff_9 hf0 (fun hf0 => ?_)
    refine z_aload_n 0 (pc := 10) dX0_isOff_10 rfl ?_
    refine z_get 0 3 (pc := 11) (v := .ref h_o_targets) rfl rfl inX0 (by decide) flX0_22 rfl dX0_isOff_11 ?_
    refine z_iload_n 1 (pc := 14) dX0_isOff_14 rfl ?_
    refine z_iaload 2 0 (pc := 15) rfl rfl dX0_isOff_15 hf0 (fun hf0 => ?_)
    refine z_icmp_le (pc := 16) (tgt := 23) dX0_isOff_16 (by decide) hf0 (fun hf0 => ?_) (fun hf0 => ?_)
    · refine z_iconst (pc := 23) (v := 0) dX0_isOff_23 (by decide) ?_
      refine z_goto (pc := 24) (tgt := 47) dX0_isOff_24 (by decide) ?_
      obtain rfl := Option.some.inj hf0
      exact z_zretL (by decide) hE dX0_isOff_47
    · refine z_iconst (pc := 19) (v := 1) dX0_isOff_19 (by decide) ?_
      refine z_goto (pc := 20) (tgt := 47) dX0_isOff_20 (by decide) ?_
      obtain rfl := Option.some.inj hf0
      exact z_zretL (by decide) hE dX0_isOff_47

abbrev RX0_countOff : Type := Int32
abbrev rmX0_countOff : Room := { frames := 1, cells := 0, slots := 0, locals := 22 }
abbrev wsX0_countOff (cA : Nat → ClassId) (h_o : Nat) (h_o_heights : Nat) (h_o_targets : Nat) (o_side : Int32) (o_cells : Int32) (o_kept : Value) (o_marks : Value) (o_disc : Value) (o_discSize : Int32) (o_heights_n : Nat) (o_heights : Nat → Int32) (o_targets_n : Nat) (o_targets : Nat → Int32) : va_W := [(h_o, .inr (0, [.int o_side, .int o_cells, .ref h_o_heights, .ref h_o_targets, o_kept, o_marks, o_disc, .int o_discSize])), (h_o_heights, .inl (cA 0, o_heights_n, .inl o_heights)), (h_o_targets, .inl (cA 0, o_targets_n, .inl o_targets))]
def LX0_countOff_4 (o_cells : Int32) (N : Nat) (a1 : Int32) (o_heights_n : Nat) (o_heights : Nat → Int32) (o_targets_n : Nat) (o_targets : Nat → Int32) : Nat → Int32 → Int32 → Option (Int32 × Int32)
  | 0, _, _ => none
  | n + 1, x2_4, x3_4 => (if o_cells ≤ x3_4 then some (x2_4, x3_4) else ((fX0_isOff N x3_4 a1 o_heights_n o_heights o_targets_n o_targets).bind fun r2 => (if r2 = 0 then LX0_countOff_4 o_cells N a1 o_heights_n o_heights o_targets_n o_targets n x2_4 (x3_4 + 1) else LX0_countOff_4 o_cells N a1 o_heights_n o_heights o_targets_n o_targets n (x2_4 + 1) (x3_4 + 1))))
def fX0_countOff (N : Nat) (a1 : Int32) (o_cells : Int32) (o_heights_n : Nat) (o_heights : Nat → Int32) (o_targets_n : Nat) (o_targets : Nat → Int32) : Option RX0_countOff :=
  ((LX0_countOff_4 o_cells N a1 o_heights_n o_heights o_targets_n o_targets N 0 0).bind fun r1 => some r1.1)
set_option maxHeartbeats 4000000 in
set_option maxRecDepth 100000 in
theorem kX0_countOff (l : Launch) (D : va_G) (cA : Nat → ClassId) (h_o : Nat) (h_o_heights : Nat) (h_o_targets : Nat) (o_side : Int32) (o_cells : Int32) (o_kept : Value) (o_marks : Value) (o_disc : Value) (o_discSize : Int32) (o_heights_n : Nat) (o_heights : Nat → Int32) (o_targets_n : Nat) (o_targets : Nat → Int32) (a1 : Int32) (N : Nat) (res : RX0_countOff) (hf0 : fX0_countOff N a1 o_cells o_heights_n o_heights o_targets_n o_targets = some res) : CtI l yX0_countOff (Cond.code yX0_countOff cX0_countOff 4 (some .int) :: tblG) rmX0_countOff D cA (wsX0_countOff cA h_o h_o_heights h_o_targets o_side o_cells o_kept o_marks o_disc o_discSize o_heights_n o_heights o_targets_n o_targets) [.ref h_o, .int a1] res (wsX0_countOff cA h_o h_o_heights h_o_targets o_side o_cells o_kept o_marks o_disc o_discSize o_heights_n o_heights o_targets_n o_targets) := by
  refine CtI.start (lv := [(0, .ref h_o), (1, .int a1)]) (by decide) (Nat.le_of_ble_eq_true rfl) rfl (fun κ hE => ?_)
  rw [fX0_countOff] at hf0
  refine z_iconst (pc := 0) (v := 0) dX0_countOff_0 (by decide) ?_
  refine z_istore_n (pc := 1) (lv' := [(2, .int 0), (0, .ref h_o), (1, .int a1)]) dX0_countOff_1 (by decide) rfl ?_
  refine z_iconst (pc := 2) (v := 0) dX0_countOff_2 (by decide) ?_
  refine z_istore_n (pc := 3) (lv' := [(3, .int 0), (2, .int 0), (0, .ref h_o), (1, .int a1)]) dX0_countOff_3 (by decide) rfl ?_
  obtain ⟨y4, hf0_4, hf0⟩ := bp hf0
  have lp4 : ∀ (n : Nat) (x2_4 : Int32) (x3_4 : Int32), LX0_countOff_4 o_cells N a1 o_heights_n o_heights o_targets_n o_targets n x2_4 x3_4 = some y4 → V κ false l D cA rmX0_countOff cX0_countOff 4 RX0 (some .int) 0 0 4 [(0, .ref h_o), (1, .int a1), (2, .int x2_4), (3, .int x3_4)] [] (wsX0_countOff cA h_o h_o_heights h_o_targets o_side o_cells o_kept o_marks o_disc o_discSize o_heights_n o_heights o_targets_n o_targets) := by
    intro n
    induction n with
    | zero => intro x2_4 x3_4 hf0_4; rw [LX0_countOff_4] at hf0_4; cases hf0_4
    | succ n4 ih4 =>
      intro x2_4 x3_4 hf0_4
      rw [LX0_countOff_4] at hf0_4
      refine z_iload_n 3 (pc := 4) dX0_countOff_4 rfl ?_
      refine z_aload_n 0 (pc := 5) dX0_countOff_5 rfl ?_
      refine z_get 0 1 (pc := 6) (v := .int o_cells) rfl rfl inX0 (by decide) flX0_15 rfl dX0_countOff_6 ?_
      refine z_icmp_ge (pc := 9) (tgt := 30) dX0_countOff_9 (by decide) hf0_4 (fun hf0_4 => ?_) (fun hf0_4 => ?_)
      · obtain rfl := Option.some.inj hf0_4
        refine z_iload_n 2 (pc := 30) dX0_countOff_30 rfl ?_
        obtain rfl := Option.some.inj hf0
        exact z_iret hE dX0_countOff_31
      · refine z_aload_n 0 (pc := 12) dX0_countOff_12 rfl ?_
        refine z_iload_n 3 (pc := 13) dX0_countOff_13 rfl ?_
        refine z_iload_n 1 (pc := 14) dX0_countOff_14 rfl ?_
        obtain ⟨r2, er2, hf0_4⟩ := bp hf0_4
        refine z_calliV (pc := 15) (As := [.int x3_4, .int a1]) (rest := []) (ws' := (wsX0_countOff cA h_o h_o_heights h_o_targets o_side o_cells o_kept o_marks o_disc o_discSize o_heights_n o_heights o_targets_n o_targets)) (kX0_isOff l D cA h_o h_o_heights h_o_targets o_side o_cells o_kept o_marks o_disc o_discSize o_heights_n o_heights o_targets_n o_targets x3_4 a1 N r2 er2) ivX0_42 ⟨rfl, rfl⟩ ⟨by decide, by decide⟩ rfl ⟨Nat.zero_le _, Nat.zero_le _⟩ rfl rfl [0, 1, 2] rfl (by decide) rfl rfl rfl (Nat.le_of_ble_eq_true rfl) dX0_countOff_15 ?_
        refine z_if_eq (pc := 18) (tgt := 24) dX0_countOff_18 (by decide) hf0_4 (fun hf0_4 => ?_) (fun hf0_4 => ?_)
        · refine z_iinc 3 (pc := 24) (v := x3_4 + 1) (lv' := [(3, .int (x3_4 + 1)), (0, .ref h_o), (1, .int a1), (2, .int x2_4)]) dX0_countOff_24 rfl rfl (by decide) rfl ?_
          refine z_goto (pc := 27) (tgt := 4) dX0_countOff_27 (by decide) ?_
          exact z_lv [1, 2, 3, 0] rfl (ih4 x2_4 (x3_4 + 1) hf0_4)
        · refine z_iinc 2 (pc := 21) (v := x2_4 + 1) (lv' := [(2, .int (x2_4 + 1)), (0, .ref h_o), (1, .int a1), (3, .int x3_4)]) dX0_countOff_21 rfl rfl (by decide) rfl ?_
          refine z_iinc 3 (pc := 24) (v := x3_4 + 1) (lv' := [(3, .int (x3_4 + 1)), (2, .int (x2_4 + 1)), (0, .ref h_o), (1, .int a1)]) dX0_countOff_24 rfl rfl (by decide) rfl ?_
          refine z_goto (pc := 27) (tgt := 4) dX0_countOff_27 (by decide) ?_
          exact z_lv [2, 3, 1, 0] rfl (ih4 (x2_4 + 1) (x3_4 + 1) hf0_4)
  exact z_lv [2, 3, 1, 0] rfl (lp4 N 0 0 hf0_4)

abbrev RX0_firstOff : Type := Int32
abbrev rmX0_firstOff : Room := { frames := 1, cells := 0, slots := 0, locals := 22 }
abbrev wsX0_firstOff (cA : Nat → ClassId) (h_o : Nat) (h_o_heights : Nat) (h_o_targets : Nat) (o_side : Int32) (o_cells : Int32) (o_kept : Value) (o_marks : Value) (o_disc : Value) (o_discSize : Int32) (o_heights_n : Nat) (o_heights : Nat → Int32) (o_targets_n : Nat) (o_targets : Nat → Int32) : va_W := [(h_o, .inr (0, [.int o_side, .int o_cells, .ref h_o_heights, .ref h_o_targets, o_kept, o_marks, o_disc, .int o_discSize])), (h_o_heights, .inl (cA 0, o_heights_n, .inl o_heights)), (h_o_targets, .inl (cA 0, o_targets_n, .inl o_targets))]
def LX0_firstOff_2 (o_cells : Int32) (N : Nat) (a1 : Int32) (o_heights_n : Nat) (o_heights : Nat → Int32) (o_targets_n : Nat) (o_targets : Nat → Int32) : Nat → Int32 → Option (RX0_firstOff)
  | 0, _ => none
  | n + 1, x2_2 => (if o_cells ≤ x2_2 then some (-1) else ((fX0_isOff N x2_2 a1 o_heights_n o_heights o_targets_n o_targets).bind fun r1 => (if r1 = 0 then LX0_firstOff_2 o_cells N a1 o_heights_n o_heights o_targets_n o_targets n (x2_2 + 1) else some x2_2)))
def fX0_firstOff (N : Nat) (a1 : Int32) (o_cells : Int32) (o_heights_n : Nat) (o_heights : Nat → Int32) (o_targets_n : Nat) (o_targets : Nat → Int32) : Option RX0_firstOff :=
  LX0_firstOff_2 o_cells N a1 o_heights_n o_heights o_targets_n o_targets N 0
set_option maxHeartbeats 4000000 in
set_option maxRecDepth 100000 in
theorem kX0_firstOff (l : Launch) (D : va_G) (cA : Nat → ClassId) (h_o : Nat) (h_o_heights : Nat) (h_o_targets : Nat) (o_side : Int32) (o_cells : Int32) (o_kept : Value) (o_marks : Value) (o_disc : Value) (o_discSize : Int32) (o_heights_n : Nat) (o_heights : Nat → Int32) (o_targets_n : Nat) (o_targets : Nat → Int32) (a1 : Int32) (N : Nat) (res : RX0_firstOff) (hf0 : fX0_firstOff N a1 o_cells o_heights_n o_heights o_targets_n o_targets = some res) : CtI l yX0_firstOff (Cond.code yX0_firstOff cX0_firstOff 3 (some .int) :: tblG) rmX0_firstOff D cA (wsX0_firstOff cA h_o h_o_heights h_o_targets o_side o_cells o_kept o_marks o_disc o_discSize o_heights_n o_heights o_targets_n o_targets) [.ref h_o, .int a1] res (wsX0_firstOff cA h_o h_o_heights h_o_targets o_side o_cells o_kept o_marks o_disc o_discSize o_heights_n o_heights o_targets_n o_targets) := by
  refine CtI.start (lv := [(0, .ref h_o), (1, .int a1)]) (by decide) (Nat.le_of_ble_eq_true rfl) rfl (fun κ hE => ?_)
  rw [fX0_firstOff] at hf0
  refine z_iconst (pc := 0) (v := 0) dX0_firstOff_0 (by decide) ?_
  refine z_istore_n (pc := 1) (lv' := [(2, .int 0), (0, .ref h_o), (1, .int a1)]) dX0_firstOff_1 (by decide) rfl ?_
  have lp2 : ∀ (n : Nat) (x2_2 : Int32), LX0_firstOff_2 o_cells N a1 o_heights_n o_heights o_targets_n o_targets n x2_2 = some res → V κ false l D cA rmX0_firstOff cX0_firstOff 3 RX0 (some .int) 0 0 2 [(0, .ref h_o), (1, .int a1), (2, .int x2_2)] [] (wsX0_firstOff cA h_o h_o_heights h_o_targets o_side o_cells o_kept o_marks o_disc o_discSize o_heights_n o_heights o_targets_n o_targets) := by
    intro n
    induction n with
    | zero => intro x2_2 hf0; rw [LX0_firstOff_2] at hf0; cases hf0
    | succ n2 ih2 =>
      intro x2_2 hf0
      rw [LX0_firstOff_2] at hf0
      refine z_iload_n 2 (pc := 2) dX0_firstOff_2 rfl ?_
      refine z_aload_n 0 (pc := 3) dX0_firstOff_3 rfl ?_
      refine z_get 0 1 (pc := 4) (v := .int o_cells) rfl rfl inX0 (by decide) flX0_15 rfl dX0_firstOff_4 ?_
      refine z_icmp_ge (pc := 7) (tgt := 27) dX0_firstOff_7 (by decide) hf0 (fun hf0 => ?_) (fun hf0 => ?_)
      · refine z_iconst (pc := 27) (v := (-1)) dX0_firstOff_27 (by decide) ?_
        obtain rfl := Option.some.inj hf0
        exact z_iret hE dX0_firstOff_28
      · refine z_aload_n 0 (pc := 10) dX0_firstOff_10 rfl ?_
        refine z_iload_n 2 (pc := 11) dX0_firstOff_11 rfl ?_
        refine z_iload_n 1 (pc := 12) dX0_firstOff_12 rfl ?_
        obtain ⟨r1, er1, hf0⟩ := bp hf0
        refine z_calliV (pc := 13) (As := [.int x2_2, .int a1]) (rest := []) (ws' := (wsX0_firstOff cA h_o h_o_heights h_o_targets o_side o_cells o_kept o_marks o_disc o_discSize o_heights_n o_heights o_targets_n o_targets)) (kX0_isOff l D cA h_o h_o_heights h_o_targets o_side o_cells o_kept o_marks o_disc o_discSize o_heights_n o_heights o_targets_n o_targets x2_2 a1 N r1 er1) ivX0_42 ⟨rfl, rfl⟩ ⟨by decide, by decide⟩ rfl ⟨Nat.zero_le _, Nat.zero_le _⟩ rfl rfl [0, 1, 2] rfl (by decide) rfl rfl rfl (Nat.le_of_ble_eq_true rfl) dX0_firstOff_13 ?_
        refine z_if_eq (pc := 16) (tgt := 21) dX0_firstOff_16 (by decide) hf0 (fun hf0 => ?_) (fun hf0 => ?_)
        · refine z_iinc 2 (pc := 21) (v := x2_2 + 1) (lv' := [(2, .int (x2_2 + 1)), (0, .ref h_o), (1, .int a1)]) dX0_firstOff_21 rfl rfl (by decide) rfl ?_
          refine z_goto (pc := 24) (tgt := 2) dX0_firstOff_24 (by decide) ?_
          exact z_lv [1, 2, 0] rfl (ih2 (x2_2 + 1) hf0)
        · refine z_iload_n 2 (pc := 19) dX0_firstOff_19 rfl ?_
          obtain rfl := Option.some.inj hf0
          exact z_iret hE dX0_firstOff_20
  exact z_lv [1, 2, 0] rfl (lp2 N 0 hf0)

abbrev RX0_layDisc : Type := Int32 × (Nat → Int32)
abbrev rmX0_layDisc : Room := { frames := 1, cells := 0, slots := 0, locals := 22 }
abbrev wsX0_layDisc (cA : Nat → ClassId) (h_o : Nat) (h_p1 : Nat) (h_p1_halfWidths : Nat) (h_o_disc : Nat) (o_side : Int32) (o_cells : Int32) (o_heights : Value) (o_targets : Value) (o_kept : Value) (o_marks : Value) (o_discSize : Int32) (p1_radius : Int32) (p1_feed : Int32) (p1_halfWidths_n : Nat) (p1_halfWidths : Nat → Int32) (o_disc_n : Nat) (o_disc : Nat → Int32) : va_W := [(h_o, .inr (0, [.int o_side, .int o_cells, o_heights, o_targets, o_kept, o_marks, .ref h_o_disc, .int o_discSize])), (h_p1, .inr (5, [.int p1_radius, .int p1_feed, .ref h_p1_halfWidths])), (h_p1_halfWidths, .inl (cA 0, p1_halfWidths_n, .inl p1_halfWidths)), (h_o_disc, .inl (cA 0, o_disc_n, .inl o_disc))]
def LX0_layDisc_80 (k3 : Int32) (o_cells : Int32) (N : Nat) (x5_34 : Int32) (o_side : Int32) (o_disc_n : Nat) : Nat → Int32 → (Nat → Int32) → Int32 → Option (Int32 × (Nat → Int32) × Int32)
  | 0, _, _, _ => none
  | n + 1, x8_80, o_disc_80, o_discSize_80 => (if k3 < x8_80 then some (x8_80, o_disc_80, o_discSize_80) else (if o_cells ≤ o_discSize_80 then some (x8_80, o_disc_80, o_discSize_80) else ((fX0_placeOf N x8_80 x5_34 o_side).bind fun r6 => (if o_discSize_80 < 0 ∨ o_disc_n ≤ o_discSize_80.toNatClampNeg then none else LX0_layDisc_80 k3 o_cells N x5_34 o_side o_disc_n n (x8_80 + 1) (upd o_disc_80 o_discSize_80.toNatClampNeg r6) (o_discSize_80 + 1)))))
def LX0_layDisc_34 (k1 : Int32) (a3 : Int32) (p1_halfWidths_n : Nat) (a2 : Int32) (p1_halfWidths : Nat → Int32) (o_side : Int32) (o_cells : Int32) (N : Nat) (o_disc_n : Nat) : Nat → Int32 → (Nat → Int32) → Int32 → Option (Int32 × (Nat → Int32) × Int32)
  | 0, _, _, _ => none
  | n + 1, x5_34, o_disc_34, o_discSize_34 => (if k1 < x5_34 then some (x5_34, o_disc_34, o_discSize_34) else (if (if 0 ≤ (x5_34 - a3) then (x5_34 - a3) else 0 - (x5_34 - a3)) < 0 ∨ p1_halfWidths_n ≤ (if 0 ≤ (x5_34 - a3) then (x5_34 - a3) else 0 - (x5_34 - a3)).toNatClampNeg then none else ((LX0_layDisc_80 (if (a2 + (p1_halfWidths (if 0 ≤ (x5_34 - a3) then (x5_34 - a3) else 0 - (x5_34 - a3)).toNatClampNeg)) < (o_side - 1) then (a2 + (p1_halfWidths (if 0 ≤ (x5_34 - a3) then (x5_34 - a3) else 0 - (x5_34 - a3)).toNatClampNeg)) else (o_side - 1)) o_cells N x5_34 o_side o_disc_n N (if 0 < (a2 - (p1_halfWidths (if 0 ≤ (x5_34 - a3) then (x5_34 - a3) else 0 - (x5_34 - a3)).toNatClampNeg)) then (a2 - (p1_halfWidths (if 0 ≤ (x5_34 - a3) then (x5_34 - a3) else 0 - (x5_34 - a3)).toNatClampNeg)) else 0) o_disc_34 o_discSize_34).bind fun r5 => LX0_layDisc_34 k1 a3 p1_halfWidths_n a2 p1_halfWidths o_side o_cells N o_disc_n n (x5_34 + 1) r5.2.1 r5.2.2)))
def fX0_layDisc (N : Nat) (a2 : Int32) (a3 : Int32) (o_side : Int32) (o_cells : Int32) (o_discSize : Int32) (p1_radius : Int32) (p1_halfWidths_n : Nat) (p1_halfWidths : Nat → Int32) (o_disc_n : Nat) (o_disc : Nat → Int32) : Option RX0_layDisc :=
  ((LX0_layDisc_34 (if (a3 + p1_radius) < (o_side - 1) then (a3 + p1_radius) else (o_side - 1)) a3 p1_halfWidths_n a2 p1_halfWidths o_side o_cells N o_disc_n N (if 0 < (a3 - p1_radius) then (a3 - p1_radius) else 0) o_disc 0).bind fun r2 => some (r2.2.2, r2.2.1))
set_option maxHeartbeats 4000000 in
set_option maxRecDepth 100000 in
theorem kX0_layDisc (l : Launch) (D : va_G) (cA : Nat → ClassId) (h_o : Nat) (h_p1 : Nat) (h_p1_halfWidths : Nat) (h_o_disc : Nat) (o_side : Int32) (o_cells : Int32) (o_heights : Value) (o_targets : Value) (o_kept : Value) (o_marks : Value) (o_discSize : Int32) (p1_radius : Int32) (p1_feed : Int32) (p1_halfWidths_n : Nat) (p1_halfWidths : Nat → Int32) (o_disc_n : Nat) (o_disc : Nat → Int32) (a2 : Int32) (a3 : Int32) (N : Nat) (res : RX0_layDisc) (hf0 : fX0_layDisc N a2 a3 o_side o_cells o_discSize p1_radius p1_halfWidths_n p1_halfWidths o_disc_n o_disc = some res) : CtV l yX0_layDisc (Cond.code yX0_layDisc cX0_layDisc 9 (none) :: tblG) rmX0_layDisc D cA (wsX0_layDisc cA h_o h_p1 h_p1_halfWidths h_o_disc o_side o_cells o_heights o_targets o_kept o_marks o_discSize p1_radius p1_feed p1_halfWidths_n p1_halfWidths o_disc_n o_disc) [.ref h_o, .ref h_p1, .int a2, .int a3] (wsX0_layDisc cA h_o h_p1 h_p1_halfWidths h_o_disc o_side o_cells o_heights o_targets o_kept o_marks res.1 p1_radius p1_feed p1_halfWidths_n p1_halfWidths o_disc_n res.2) := by
  refine CtV.start (lv := [(0, .ref h_o), (1, .ref h_p1), (2, .int a2), (3, .int a3)]) (by decide) (Nat.le_of_ble_eq_true rfl) rfl (fun κ hE => ?_)
  rw [fX0_layDisc] at hf0
  refine z_aload_n 0 (pc := 0) dX0_layDisc_0 rfl ?_
  refine z_iconst (pc := 1) (v := 0) dX0_layDisc_1 (by decide) ?_
  refine z_put 0 7 (pc := 2) (ws' := (wsX0_layDisc cA h_o h_p1 h_p1_halfWidths h_o_disc o_side o_cells o_heights o_targets o_kept o_marks 0 p1_radius p1_feed p1_halfWidths_n p1_halfWidths o_disc_n o_disc)) rfl rfl inX0 tyX0 tyX0_ok nmX0 (by decide) flX0_35 rfl rfl rfl rfl (Nat.le_of_ble_eq_true rfl) dX0_layDisc_2 rfl ?_
  refine z_aload_n 0 (pc := 5) dX0_layDisc_5 rfl ?_
  refine z_get 0 0 (pc := 6) (v := .int o_side) rfl rfl inX0 (by decide) flX0_9 rfl dX0_layDisc_6 ?_
  refine z_iconst (pc := 9) (v := 1) dX0_layDisc_9 (by decide) ?_
  refine z_isub (pc := 10) dX0_layDisc_10 ?_
  refine z_iload_n 3 (pc := 11) dX0_layDisc_11 rfl ?_
  refine z_aload_n 1 (pc := 12) dX0_layDisc_12 rfl ?_
  refine z_get 1 0 (pc := 13) (v := .int p1_radius) rfl rfl inX5 (by decide) flX0_46 rfl dX0_layDisc_13 ?_
  refine z_iadd (pc := 16) dX0_layDisc_16 ?_
  refine z_mmin (pc := 17) mlX0_51 mst_min mini mcd_min (by decide) (Nat.le_of_ble_eq_true rfl) (Nat.zero_le _) (Nat.zero_le _) dX0_layDisc_17 ?_
  refine z_istore (pc := 20) (lv' := [(4, .int (if (a3 + p1_radius) < (o_side - 1) then (a3 + p1_radius) else (o_side - 1))), (0, .ref h_o), (1, .ref h_p1), (2, .int a2), (3, .int a3)]) dX0_layDisc_20 (by decide) rfl ?_
  refine z_iconst (pc := 22) (v := 0) dX0_layDisc_22 (by decide) ?_
  refine z_iload_n 4 (pc := 23) dX0_layDisc_23 rfl ?_
  refine z_aload_n 2 (pc := 24) dX0_layDisc_24 rfl ?_
  refine z_get 1 0 (pc := 25) (v := .int p1_radius) rfl rfl inX5 (by decide) flX0_46 rfl dX0_layDisc_25 ?_
  refine z_isub (pc := 28) dX0_layDisc_28 ?_
  refine z_mmax (pc := 29) mlX0_56 mst_max mini mcd_max (by decide) (Nat.le_of_ble_eq_true rfl) (Nat.zero_le _) (Nat.zero_le _) dX0_layDisc_29 ?_
  refine z_istore (pc := 32) (lv' := [(5, .int (if 0 < (a3 - p1_radius) then (a3 - p1_radius) else 0)), (4, .int (if (a3 + p1_radius) < (o_side - 1) then (a3 + p1_radius) else (o_side - 1))), (0, .ref h_o), (1, .ref h_p1), (2, .int a2), (3, .int a3)]) dX0_layDisc_32 (by decide) rfl ?_
  obtain ⟨y34, hf0_34, hf0⟩ := bp hf0
  have lp34 : ∀ (n : Nat) (x5_34 : Int32) (o_disc_34 : Nat → Int32) (o_discSize_34 : Int32), LX0_layDisc_34 (if (a3 + p1_radius) < (o_side - 1) then (a3 + p1_radius) else (o_side - 1)) a3 p1_halfWidths_n a2 p1_halfWidths o_side o_cells N o_disc_n n x5_34 o_disc_34 o_discSize_34 = some y34 → V κ false l D cA rmX0_layDisc cX0_layDisc 9 RX0 (none) 0 0 34 [(4, .int (if (a3 + p1_radius) < (o_side - 1) then (a3 + p1_radius) else (o_side - 1))), (0, .ref h_o), (1, .ref h_p1), (2, .int a2), (3, .int a3), (5, .int x5_34)] [] (wsX0_layDisc cA h_o h_p1 h_p1_halfWidths h_o_disc o_side o_cells o_heights o_targets o_kept o_marks o_discSize_34 p1_radius p1_feed p1_halfWidths_n p1_halfWidths o_disc_n o_disc_34) := by
    intro n
    induction n with
    | zero => intro x5_34 o_disc_34 o_discSize_34 hf0_34; rw [LX0_layDisc_34] at hf0_34; cases hf0_34
    | succ n34 ih34 =>
      intro x5_34 o_disc_34 o_discSize_34 hf0_34
      rw [LX0_layDisc_34] at hf0_34
      refine z_iload 5 (pc := 34) dX0_layDisc_34 rfl ?_
      refine z_iload 0 (pc := 36) dX0_layDisc_36 rfl ?_
      refine z_icmp_gt (pc := 38) (tgt := 137) dX0_layDisc_38 (by decide) hf0_34 (fun hf0_34 => ?_) (fun hf0_34 => ?_)
      · obtain rfl := Option.some.inj hf0_34
        obtain rfl := Option.some.inj hf0
        exact z_vret hE dX0_layDisc_137
      · refine z_aload_n 2 (pc := 41) dX0_layDisc_41 rfl ?_
        refine z_get 1 2 (pc := 42) (v := .ref h_p1_halfWidths) rfl rfl inX5 (by decide) flX0_59 rfl dX0_layDisc_42 ?_
        refine z_iload 5 (pc := 45) dX0_layDisc_45 rfl ?_
        refine z_iload_n 4 (pc := 47) dX0_layDisc_47 rfl ?_
        refine z_isub (pc := 48) dX0_layDisc_48 ?_
        refine z_mabs (pc := 49) mlX0_62 mst_abs mini mcd_abs (by decide) (Nat.le_of_ble_eq_true rfl) (Nat.zero_le _) (Nat.zero_le _) dX0_layDisc_49 ?_
        refine z_iaload 2 0 (pc := 52) rfl rfl dX0_layDisc_52 hf0_34 (fun hf0_34 => ?_)
        refine z_istore (pc := 53) (lv' := [(6, .int (p1_halfWidths (if 0 ≤ (x5_34 - a3) then (x5_34 - a3) else 0 - (x5_34 - a3)).toNatClampNeg)), (4, .int (if (a3 + p1_radius) < (o_side - 1) then (a3 + p1_radius) else (o_side - 1))), (0, .ref h_o), (1, .ref h_p1), (2, .int a2), (3, .int a3), (5, .int x5_34)]) dX0_layDisc_53 (by decide) rfl ?_
        refine z_aload_n 2 (pc := 55) dX0_layDisc_55 rfl ?_
        refine z_get 0 0 (pc := 56) (v := .int o_side) rfl rfl inX0 (by decide) flX0_9 rfl dX0_layDisc_56 ?_
        refine z_iconst (pc := 59) (v := 1) dX0_layDisc_59 (by decide) ?_
        refine z_isub (pc := 60) dX0_layDisc_60 ?_
        refine z_iload_n 4 (pc := 61) dX0_layDisc_61 rfl ?_
        refine z_iload 0 (pc := 62) dX0_layDisc_62 rfl ?_
        refine z_iadd (pc := 64) dX0_layDisc_64 ?_
        refine z_mmin (pc := 65) mlX0_51 mst_min mini mcd_min (by decide) (Nat.le_of_ble_eq_true rfl) (Nat.zero_le _) (Nat.zero_le _) dX0_layDisc_65 ?_
        refine z_istore (pc := 68) (lv' := [(7, .int (if (a2 + (p1_halfWidths (if 0 ≤ (x5_34 - a3) then (x5_34 - a3) else 0 - (x5_34 - a3)).toNatClampNeg)) < (o_side - 1) then (a2 + (p1_halfWidths (if 0 ≤ (x5_34 - a3) then (x5_34 - a3) else 0 - (x5_34 - a3)).toNatClampNeg)) else (o_side - 1))), (6, .int (p1_halfWidths (if 0 ≤ (x5_34 - a3) then (x5_34 - a3) else 0 - (x5_34 - a3)).toNatClampNeg)), (4, .int (if (a3 + p1_radius) < (o_side - 1) then (a3 + p1_radius) else (o_side - 1))), (0, .ref h_o), (1, .ref h_p1), (2, .int a2), (3, .int a3), (5, .int x5_34)]) dX0_layDisc_68 (by decide) rfl ?_
        refine z_iconst (pc := 70) (v := 0) dX0_layDisc_70 (by decide) ?_
        refine z_iload_n 5 (pc := 71) dX0_layDisc_71 rfl ?_
        refine z_iload 1 (pc := 72) dX0_layDisc_72 rfl ?_
        refine z_isub (pc := 74) dX0_layDisc_74 ?_
        refine z_mmax (pc := 75) mlX0_56 mst_max mini mcd_max (by decide) (Nat.le_of_ble_eq_true rfl) (Nat.zero_le _) (Nat.zero_le _) dX0_layDisc_75 ?_
        refine z_istore (pc := 78) (lv' := [(8, .int (if 0 < (a2 - (p1_halfWidths (if 0 ≤ (x5_34 - a3) then (x5_34 - a3) else 0 - (x5_34 - a3)).toNatClampNeg)) then (a2 - (p1_halfWidths (if 0 ≤ (x5_34 - a3) then (x5_34 - a3) else 0 - (x5_34 - a3)).toNatClampNeg)) else 0)), (7, .int (if (a2 + (p1_halfWidths (if 0 ≤ (x5_34 - a3) then (x5_34 - a3) else 0 - (x5_34 - a3)).toNatClampNeg)) < (o_side - 1) then (a2 + (p1_halfWidths (if 0 ≤ (x5_34 - a3) then (x5_34 - a3) else 0 - (x5_34 - a3)).toNatClampNeg)) else (o_side - 1))), (6, .int (p1_halfWidths (if 0 ≤ (x5_34 - a3) then (x5_34 - a3) else 0 - (x5_34 - a3)).toNatClampNeg)), (4, .int (if (a3 + p1_radius) < (o_side - 1) then (a3 + p1_radius) else (o_side - 1))), (0, .ref h_o), (1, .ref h_p1), (2, .int a2), (3, .int a3), (5, .int x5_34)]) dX0_layDisc_78 (by decide) rfl ?_
        obtain ⟨y80, hf0_34_80, hf0_34⟩ := bp hf0_34
        have lp80 : ∀ (n : Nat) (x8_80 : Int32) (o_disc_80 : Nat → Int32) (o_discSize_80 : Int32), LX0_layDisc_80 (if (a2 + (p1_halfWidths (if 0 ≤ (x5_34 - a3) then (x5_34 - a3) else 0 - (x5_34 - a3)).toNatClampNeg)) < (o_side - 1) then (a2 + (p1_halfWidths (if 0 ≤ (x5_34 - a3) then (x5_34 - a3) else 0 - (x5_34 - a3)).toNatClampNeg)) else (o_side - 1)) o_cells N x5_34 o_side o_disc_n n x8_80 o_disc_80 o_discSize_80 = some y80 → V κ false l D cA rmX0_layDisc cX0_layDisc 9 RX0 (none) 0 0 80 [(7, .int (if (a2 + (p1_halfWidths (if 0 ≤ (x5_34 - a3) then (x5_34 - a3) else 0 - (x5_34 - a3)).toNatClampNeg)) < (o_side - 1) then (a2 + (p1_halfWidths (if 0 ≤ (x5_34 - a3) then (x5_34 - a3) else 0 - (x5_34 - a3)).toNatClampNeg)) else (o_side - 1))), (6, .int (p1_halfWidths (if 0 ≤ (x5_34 - a3) then (x5_34 - a3) else 0 - (x5_34 - a3)).toNatClampNeg)), (4, .int (if (a3 + p1_radius) < (o_side - 1) then (a3 + p1_radius) else (o_side - 1))), (0, .ref h_o), (1, .ref h_p1), (2, .int a2), (3, .int a3), (5, .int x5_34), (8, .int x8_80)] [] (wsX0_layDisc cA h_o h_p1 h_p1_halfWidths h_o_disc o_side o_cells o_heights o_targets o_kept o_marks o_discSize_80 p1_radius p1_feed p1_halfWidths_n p1_halfWidths o_disc_n o_disc_80) := by
          intro n
          induction n with
          | zero => intro x8_80 o_disc_80 o_discSize_80 hf0_34_80; rw [LX0_layDisc_80] at hf0_34_80; cases hf0_34_80
          | succ n80 ih80 =>
            intro x8_80 o_disc_80 o_discSize_80 hf0_34_80
            rw [LX0_layDisc_80] at hf0_34_80
            refine z_iload 8 (pc := 80) dX0_layDisc_80 rfl ?_
            refine z_iload 0 (pc := 82) dX0_layDisc_82 rfl ?_
            refine z_icmp_gt (pc := 84) (tgt := 131) dX0_layDisc_84 (by decide) hf0_34_80 (fun hf0_34_80 => ?_) (fun hf0_34_80 => ?_)
            · obtain rfl := Option.some.inj hf0_34_80
              refine z_iinc 7 (pc := 131) (v := x5_34 + 1) (lv' := [(5, .int (x5_34 + 1)), (7, .int (if (a2 + (p1_halfWidths (if 0 ≤ (x5_34 - a3) then (x5_34 - a3) else 0 - (x5_34 - a3)).toNatClampNeg)) < (o_side - 1) then (a2 + (p1_halfWidths (if 0 ≤ (x5_34 - a3) then (x5_34 - a3) else 0 - (x5_34 - a3)).toNatClampNeg)) else (o_side - 1))), (6, .int (p1_halfWidths (if 0 ≤ (x5_34 - a3) then (x5_34 - a3) else 0 - (x5_34 - a3)).toNatClampNeg)), (4, .int (if (a3 + p1_radius) < (o_side - 1) then (a3 + p1_radius) else (o_side - 1))), (0, .ref h_o), (1, .ref h_p1), (2, .int a2), (3, .int a3), (8, .int x8_80)]) dX0_layDisc_131 rfl rfl (by decide) rfl ?_
              refine z_goto (pc := 134) (tgt := 34) dX0_layDisc_134 (by decide) ?_
              exact z_lv [3, 4, 5, 6, 7, 0] rfl (ih34 (x5_34 + 1) o_disc_80 o_discSize_80 hf0_34)
            · refine z_aload_n 3 (pc := 87) dX0_layDisc_87 rfl ?_
              refine z_get 0 7 (pc := 88) (v := .int o_discSize_80) rfl rfl inX0 (by decide) flX0_35 rfl dX0_layDisc_88 ?_
              refine z_aload_n 3 (pc := 91) dX0_layDisc_91 rfl ?_
              refine z_get 0 1 (pc := 92) (v := .int o_cells) rfl rfl inX0 (by decide) flX0_15 rfl dX0_layDisc_92 ?_
              refine z_icmp_ge (pc := 95) (tgt := 131) dX0_layDisc_95 (by decide) hf0_34_80 (fun hf0_34_80 => ?_) (fun hf0_34_80 => ?_)
              · obtain rfl := Option.some.inj hf0_34_80
                refine z_iinc 7 (pc := 131) (v := x5_34 + 1) (lv' := [(5, .int (x5_34 + 1)), (7, .int (if (a2 + (p1_halfWidths (if 0 ≤ (x5_34 - a3) then (x5_34 - a3) else 0 - (x5_34 - a3)).toNatClampNeg)) < (o_side - 1) then (a2 + (p1_halfWidths (if 0 ≤ (x5_34 - a3) then (x5_34 - a3) else 0 - (x5_34 - a3)).toNatClampNeg)) else (o_side - 1))), (6, .int (p1_halfWidths (if 0 ≤ (x5_34 - a3) then (x5_34 - a3) else 0 - (x5_34 - a3)).toNatClampNeg)), (4, .int (if (a3 + p1_radius) < (o_side - 1) then (a3 + p1_radius) else (o_side - 1))), (0, .ref h_o), (1, .ref h_p1), (2, .int a2), (3, .int a3), (8, .int x8_80)]) dX0_layDisc_131 rfl rfl (by decide) rfl ?_
                refine z_goto (pc := 134) (tgt := 34) dX0_layDisc_134 (by decide) ?_
                exact z_lv [3, 4, 5, 6, 7, 0] rfl (ih34 (x5_34 + 1) o_disc_80 o_discSize_80 hf0_34)
              · refine z_aload_n 3 (pc := 98) dX0_layDisc_98 rfl ?_
                refine z_get 0 6 (pc := 99) (v := .ref h_o_disc) rfl rfl inX0 (by decide) flX0_32 rfl dX0_layDisc_99 ?_
                refine z_aload_n 3 (pc := 102) dX0_layDisc_102 rfl ?_
                refine z_get 0 7 (pc := 103) (v := .int o_discSize_80) rfl rfl inX0 (by decide) flX0_35 rfl dX0_layDisc_103 ?_
                refine z_aload_n 3 (pc := 106) dX0_layDisc_106 rfl ?_
                refine z_iload 8 (pc := 107) dX0_layDisc_107 rfl ?_
                refine z_iload 7 (pc := 109) dX0_layDisc_109 rfl ?_
                obtain ⟨r6, er6, hf0_34_80⟩ := bp hf0_34_80
                refine z_calliV (pc := 111) (As := [.int x8_80, .int x5_34]) (rest := [.int o_discSize_80, .ref h_o_disc]) (ws' := (wsX0_layDisc cA h_o h_p1 h_p1_halfWidths h_o_disc o_side o_cells o_heights o_targets o_kept o_marks o_discSize_80 p1_radius p1_feed p1_halfWidths_n p1_halfWidths o_disc_n o_disc_80)) (kX0_placeOf l D cA h_o o_side o_cells o_heights o_targets o_kept o_marks (.ref h_o_disc) o_discSize_80 x8_80 x5_34 N r6 er6) ivX0_38 ⟨rfl, rfl⟩ ⟨by decide, by decide⟩ rfl ⟨Nat.zero_le _, Nat.zero_le _⟩ rfl rfl [0] rfl (by decide) rfl rfl rfl (Nat.le_of_ble_eq_true rfl) dX0_layDisc_111 ?_
                refine z_iastore 3 0 (pc := 114) (ws' := (wsX0_layDisc cA h_o h_p1 h_p1_halfWidths h_o_disc o_side o_cells o_heights o_targets o_kept o_marks o_discSize_80 p1_radius p1_feed p1_halfWidths_n p1_halfWidths o_disc_n (upd o_disc_80 o_discSize_80.toNatClampNeg r6))) rfl rfl dX0_layDisc_114 rfl hf0_34_80 (fun hf0_34_80 => ?_)
                refine z_aload_n 3 (pc := 115) dX0_layDisc_115 rfl ?_
                refine z_dup (pc := 116) dX0_layDisc_116 rfl ?_
                refine z_get 0 7 (pc := 117) (v := .int o_discSize_80) rfl rfl inX0 (by decide) flX0_35 rfl dX0_layDisc_117 ?_
                refine z_iconst (pc := 120) (v := 1) dX0_layDisc_120 (by decide) ?_
                refine z_iadd (pc := 121) dX0_layDisc_121 ?_
                refine z_put 0 7 (pc := 122) (ws' := (wsX0_layDisc cA h_o h_p1 h_p1_halfWidths h_o_disc o_side o_cells o_heights o_targets o_kept o_marks (o_discSize_80 + 1) p1_radius p1_feed p1_halfWidths_n p1_halfWidths o_disc_n (upd o_disc_80 o_discSize_80.toNatClampNeg r6))) rfl rfl inX0 tyX0 tyX0_ok nmX0 (by decide) flX0_35 rfl rfl rfl rfl (Nat.le_of_ble_eq_true rfl) dX0_layDisc_122 rfl ?_
                refine z_iinc 8 (pc := 125) (v := x8_80 + 1) (lv' := [(8, .int (x8_80 + 1)), (7, .int (if (a2 + (p1_halfWidths (if 0 ≤ (x5_34 - a3) then (x5_34 - a3) else 0 - (x5_34 - a3)).toNatClampNeg)) < (o_side - 1) then (a2 + (p1_halfWidths (if 0 ≤ (x5_34 - a3) then (x5_34 - a3) else 0 - (x5_34 - a3)).toNatClampNeg)) else (o_side - 1))), (6, .int (p1_halfWidths (if 0 ≤ (x5_34 - a3) then (x5_34 - a3) else 0 - (x5_34 - a3)).toNatClampNeg)), (4, .int (if (a3 + p1_radius) < (o_side - 1) then (a3 + p1_radius) else (o_side - 1))), (0, .ref h_o), (1, .ref h_p1), (2, .int a2), (3, .int a3), (5, .int x5_34)]) dX0_layDisc_125 rfl rfl (by decide) rfl ?_
                refine z_goto (pc := 128) (tgt := 80) dX0_layDisc_128 (by decide) ?_
                exact z_lv [1, 2, 3, 4, 5, 6, 7, 8, 0] rfl (ih80 (x8_80 + 1) (upd o_disc_80 o_discSize_80.toNatClampNeg r6) (o_discSize_80 + 1) hf0_34_80)
        exact z_lv [1, 2, 3, 4, 5, 6, 7, 8, 0] rfl (lp80 N (if 0 < (a2 - (p1_halfWidths (if 0 ≤ (x5_34 - a3) then (x5_34 - a3) else 0 - (x5_34 - a3)).toNatClampNeg)) then (a2 - (p1_halfWidths (if 0 ≤ (x5_34 - a3) then (x5_34 - a3) else 0 - (x5_34 - a3)).toNatClampNeg)) else 0) o_disc_34 o_discSize_34 hf0_34_80)
  exact z_lv [1, 2, 3, 4, 5, 0] rfl (lp34 N (if 0 < (a3 - p1_radius) then (a3 - p1_radius) else 0) o_disc 0 hf0_34)

abbrev RX0_discRisesAbove : Type := Int32
abbrev rmX0_discRisesAbove : Room := { frames := 0, cells := 0, slots := 0, locals := 0 }
abbrev wsX0_discRisesAbove (cA : Nat → ClassId) (h_o : Nat) (h_o_heights : Nat) (h_o_disc : Nat) (o_side : Int32) (o_cells : Int32) (o_targets : Value) (o_kept : Value) (o_marks : Value) (o_discSize : Int32) (o_heights_n : Nat) (o_heights : Nat → Int32) (o_disc_n : Nat) (o_disc : Nat → Int32) : va_W := [(h_o, .inr (0, [.int o_side, .int o_cells, .ref h_o_heights, o_targets, o_kept, o_marks, .ref h_o_disc, .int o_discSize])), (h_o_heights, .inl (cA 0, o_heights_n, .inl o_heights)), (h_o_disc, .inl (cA 0, o_disc_n, .inl o_disc))]
def LX0_discRisesAbove_2 (o_discSize : Int32) (o_disc_n : Nat) (o_disc : Nat → Int32) (o_heights_n : Nat) (o_heights : Nat → Int32) (a1 : Int32) : Nat → Int32 → Option (RX0_discRisesAbove)
  | 0, _ => none
  | n + 1, x2_2 => (if o_discSize ≤ x2_2 then some 0 else (if x2_2 < 0 ∨ o_disc_n ≤ x2_2.toNatClampNeg then none else (if (o_disc x2_2.toNatClampNeg) < 0 ∨ o_heights_n ≤ (o_disc x2_2.toNatClampNeg).toNatClampNeg then none else (if (o_heights (o_disc x2_2.toNatClampNeg).toNatClampNeg) ≤ a1 then LX0_discRisesAbove_2 o_discSize o_disc_n o_disc o_heights_n o_heights a1 n (x2_2 + 1) else some 1))))
def fX0_discRisesAbove (N : Nat) (a1 : Int32) (o_discSize : Int32) (o_heights_n : Nat) (o_heights : Nat → Int32) (o_disc_n : Nat) (o_disc : Nat → Int32) : Option RX0_discRisesAbove :=
  LX0_discRisesAbove_2 o_discSize o_disc_n o_disc o_heights_n o_heights a1 N 0
set_option maxHeartbeats 4000000 in
set_option maxRecDepth 100000 in
theorem kX0_discRisesAbove (l : Launch) (D : va_G) (cA : Nat → ClassId) (h_o : Nat) (h_o_heights : Nat) (h_o_disc : Nat) (o_side : Int32) (o_cells : Int32) (o_targets : Value) (o_kept : Value) (o_marks : Value) (o_discSize : Int32) (o_heights_n : Nat) (o_heights : Nat → Int32) (o_disc_n : Nat) (o_disc : Nat → Int32) (a1 : Int32) (N : Nat) (res : RX0_discRisesAbove) (hf0 : fX0_discRisesAbove N a1 o_discSize o_heights_n o_heights o_disc_n o_disc = some res) : CtI l yX0_discRisesAbove (Cond.code yX0_discRisesAbove cX0_discRisesAbove 3 (some .boolean) :: tblG) rmX0_discRisesAbove D cA (wsX0_discRisesAbove cA h_o h_o_heights h_o_disc o_side o_cells o_targets o_kept o_marks o_discSize o_heights_n o_heights o_disc_n o_disc) [.ref h_o, .int a1] res (wsX0_discRisesAbove cA h_o h_o_heights h_o_disc o_side o_cells o_targets o_kept o_marks o_discSize o_heights_n o_heights o_disc_n o_disc) := by
  refine CtI.start (lv := [(0, .ref h_o), (1, .int a1)]) (by decide) (Nat.le_of_ble_eq_true rfl) rfl (fun κ hE => ?_)
  rw [fX0_discRisesAbove] at hf0
  refine z_iconst (pc := 0) (v := 0) dX0_discRisesAbove_0 (by decide) ?_
  refine z_istore_n (pc := 1) (lv' := [(2, .int 0), (0, .ref h_o), (1, .int a1)]) dX0_discRisesAbove_1 (by decide) rfl ?_
  have lp2 : ∀ (n : Nat) (x2_2 : Int32), LX0_discRisesAbove_2 o_discSize o_disc_n o_disc o_heights_n o_heights a1 n x2_2 = some res → V κ false l D cA rmX0_discRisesAbove cX0_discRisesAbove 3 RX0 (some .boolean) 0 0 2 [(0, .ref h_o), (1, .int a1), (2, .int x2_2)] [] (wsX0_discRisesAbove cA h_o h_o_heights h_o_disc o_side o_cells o_targets o_kept o_marks o_discSize o_heights_n o_heights o_disc_n o_disc) := by
    intro n
    induction n with
    | zero => intro x2_2 hf0; rw [LX0_discRisesAbove_2] at hf0; cases hf0
    | succ n2 ih2 =>
      intro x2_2 hf0
      rw [LX0_discRisesAbove_2] at hf0
      refine z_iload_n 2 (pc := 2) dX0_discRisesAbove_2 rfl ?_
      refine z_aload_n 0 (pc := 3) dX0_discRisesAbove_3 rfl ?_
      refine z_get 0 7 (pc := 4) (v := .int o_discSize) rfl rfl inX0 (by decide) flX0_35 rfl dX0_discRisesAbove_4 ?_
      refine z_icmp_ge (pc := 7) (tgt := 33) dX0_discRisesAbove_7 (by decide) hf0 (fun hf0 => ?_) (fun hf0 => ?_)
      · refine z_iconst (pc := 33) (v := 0) dX0_discRisesAbove_33 (by decide) ?_
        obtain rfl := Option.some.inj hf0
        exact z_zretL (by decide) hE dX0_discRisesAbove_34
      · refine z_aload_n 0 (pc := 10) dX0_discRisesAbove_10 rfl ?_
        refine z_get 0 2 (pc := 11) (v := .ref h_o_heights) rfl rfl inX0 (by decide) flX0_18 rfl dX0_discRisesAbove_11 ?_
        refine z_aload_n 0 (pc := 14) dX0_discRisesAbove_14 rfl ?_
        refine z_get 0 6 (pc := 15) (v := .ref h_o_disc) rfl rfl inX0 (by decide) flX0_32 rfl dX0_discRisesAbove_15 ?_
        refine z_iload_n 2 (pc := 18) dX0_discRisesAbove_18 rfl ?_
        refine z_iaload 2 0 (pc := 19) rfl rfl dX0_discRisesAbove_19 hf0 (fun hf0 => ?_)
        refine z_iaload 1 0 (pc := 20) rfl rfl dX0_discRisesAbove_20 hf0 (fun hf0 => ?_)
        refine z_iload_n 1 (pc := 21) dX0_discRisesAbove_21 rfl ?_
        refine z_icmp_le (pc := 22) (tgt := 27) dX0_discRisesAbove_22 (by decide) hf0 (fun hf0 => ?_) (fun hf0 => ?_)
        · refine z_iinc 2 (pc := 27) (v := x2_2 + 1) (lv' := [(2, .int (x2_2 + 1)), (0, .ref h_o), (1, .int a1)]) dX0_discRisesAbove_27 rfl rfl (by decide) rfl ?_
          refine z_goto (pc := 30) (tgt := 2) dX0_discRisesAbove_30 (by decide) ?_
          exact z_lv [1, 2, 0] rfl (ih2 (x2_2 + 1) hf0)
        · refine z_iconst (pc := 25) (v := 1) dX0_discRisesAbove_25 (by decide) ?_
          obtain rfl := Option.some.inj hf0
          exact z_zretL (by decide) hE dX0_discRisesAbove_26
  exact z_lv [1, 2, 0] rfl (lp2 N 0 hf0)

abbrev RX0_discHasKeptAbove : Type := Int32
abbrev rmX0_discHasKeptAbove : Room := { frames := 0, cells := 0, slots := 0, locals := 0 }
abbrev wsX0_discHasKeptAbove (cA : Nat → ClassId) (h_o : Nat) (h_o_kept : Nat) (h_o_disc : Nat) (h_o_heights : Nat) (o_side : Int32) (o_cells : Int32) (o_targets : Value) (o_marks : Value) (o_discSize : Int32) (o_kept_n : Nat) (o_kept : Nat → Int32) (o_disc_n : Nat) (o_disc : Nat → Int32) (o_heights_n : Nat) (o_heights : Nat → Int32) : va_W := [(h_o, .inr (0, [.int o_side, .int o_cells, .ref h_o_heights, o_targets, .ref h_o_kept, o_marks, .ref h_o_disc, .int o_discSize])), (h_o_kept, .inl (cA 1, o_kept_n, .inl o_kept)), (h_o_disc, .inl (cA 0, o_disc_n, .inl o_disc)), (h_o_heights, .inl (cA 0, o_heights_n, .inl o_heights))]
def LX0_discHasKeptAbove_2 (o_discSize : Int32) (o_disc_n : Nat) (o_disc : Nat → Int32) (o_kept_n : Nat) (o_kept : Nat → Int32) (o_heights_n : Nat) (o_heights : Nat → Int32) (a1 : Int32) : Nat → Int32 → Option (RX0_discHasKeptAbove)
  | 0, _ => none
  | n + 1, x2_2 => (if o_discSize ≤ x2_2 then some 0 else (if x2_2 < 0 ∨ o_disc_n ≤ x2_2.toNatClampNeg then none else (if (o_disc x2_2.toNatClampNeg) < 0 ∨ o_kept_n ≤ (o_disc x2_2.toNatClampNeg).toNatClampNeg then none else (if (o_kept (o_disc x2_2.toNatClampNeg).toNatClampNeg) = 0 then LX0_discHasKeptAbove_2 o_discSize o_disc_n o_disc o_kept_n o_kept o_heights_n o_heights a1 n (x2_2 + 1) else (if x2_2 < 0 ∨ o_disc_n ≤ x2_2.toNatClampNeg then none else (if (o_disc x2_2.toNatClampNeg) < 0 ∨ o_heights_n ≤ (o_disc x2_2.toNatClampNeg).toNatClampNeg then none else (if (o_heights (o_disc x2_2.toNatClampNeg).toNatClampNeg) ≤ a1 then LX0_discHasKeptAbove_2 o_discSize o_disc_n o_disc o_kept_n o_kept o_heights_n o_heights a1 n (x2_2 + 1) else some 1)))))))
def fX0_discHasKeptAbove (N : Nat) (a1 : Int32) (o_discSize : Int32) (o_kept_n : Nat) (o_kept : Nat → Int32) (o_disc_n : Nat) (o_disc : Nat → Int32) (o_heights_n : Nat) (o_heights : Nat → Int32) : Option RX0_discHasKeptAbove :=
  LX0_discHasKeptAbove_2 o_discSize o_disc_n o_disc o_kept_n o_kept o_heights_n o_heights a1 N 0
set_option maxHeartbeats 4000000 in
set_option maxRecDepth 100000 in
theorem kX0_discHasKeptAbove (l : Launch) (D : va_G) (cA : Nat → ClassId) (h_o : Nat) (h_o_kept : Nat) (h_o_disc : Nat) (h_o_heights : Nat) (o_side : Int32) (o_cells : Int32) (o_targets : Value) (o_marks : Value) (o_discSize : Int32) (o_kept_n : Nat) (o_kept : Nat → Int32) (o_disc_n : Nat) (o_disc : Nat → Int32) (o_heights_n : Nat) (o_heights : Nat → Int32) (a1 : Int32) (N : Nat) (res : RX0_discHasKeptAbove) (hf0 : fX0_discHasKeptAbove N a1 o_discSize o_kept_n o_kept o_disc_n o_disc o_heights_n o_heights = some res) : CtI l yX0_discHasKeptAbove (Cond.code yX0_discHasKeptAbove cX0_discHasKeptAbove 3 (some .boolean) :: tblG) rmX0_discHasKeptAbove D cA (wsX0_discHasKeptAbove cA h_o h_o_kept h_o_disc h_o_heights o_side o_cells o_targets o_marks o_discSize o_kept_n o_kept o_disc_n o_disc o_heights_n o_heights) [.ref h_o, .int a1] res (wsX0_discHasKeptAbove cA h_o h_o_kept h_o_disc h_o_heights o_side o_cells o_targets o_marks o_discSize o_kept_n o_kept o_disc_n o_disc o_heights_n o_heights) := by
  refine CtI.start (lv := [(0, .ref h_o), (1, .int a1)]) (by decide) (Nat.le_of_ble_eq_true rfl) rfl (fun κ hE => ?_)
  rw [fX0_discHasKeptAbove] at hf0
  refine z_iconst (pc := 0) (v := 0) dX0_discHasKeptAbove_0 (by decide) ?_
  refine z_istore_n (pc := 1) (lv' := [(2, .int 0), (0, .ref h_o), (1, .int a1)]) dX0_discHasKeptAbove_1 (by decide) rfl ?_
  have lp2 : ∀ (n : Nat) (x2_2 : Int32), LX0_discHasKeptAbove_2 o_discSize o_disc_n o_disc o_kept_n o_kept o_heights_n o_heights a1 n x2_2 = some res → V κ false l D cA rmX0_discHasKeptAbove cX0_discHasKeptAbove 3 RX0 (some .boolean) 0 0 2 [(0, .ref h_o), (1, .int a1), (2, .int x2_2)] [] (wsX0_discHasKeptAbove cA h_o h_o_kept h_o_disc h_o_heights o_side o_cells o_targets o_marks o_discSize o_kept_n o_kept o_disc_n o_disc o_heights_n o_heights) := by
    intro n
    induction n with
    | zero => intro x2_2 hf0; rw [LX0_discHasKeptAbove_2] at hf0; cases hf0
    | succ n2 ih2 =>
      intro x2_2 hf0
      rw [LX0_discHasKeptAbove_2] at hf0
      refine z_iload_n 2 (pc := 2) dX0_discHasKeptAbove_2 rfl ?_
      refine z_aload_n 0 (pc := 3) dX0_discHasKeptAbove_3 rfl ?_
      refine z_get 0 7 (pc := 4) (v := .int o_discSize) rfl rfl inX0 (by decide) flX0_35 rfl dX0_discHasKeptAbove_4 ?_
      refine z_icmp_ge (pc := 7) (tgt := 47) dX0_discHasKeptAbove_7 (by decide) hf0 (fun hf0 => ?_) (fun hf0 => ?_)
      · refine z_iconst (pc := 47) (v := 0) dX0_discHasKeptAbove_47 (by decide) ?_
        obtain rfl := Option.some.inj hf0
        exact z_zretL (by decide) hE dX0_discHasKeptAbove_48
      · refine z_aload_n 0 (pc := 10) dX0_discHasKeptAbove_10 rfl ?_
        refine z_get 0 4 (pc := 11) (v := .ref h_o_kept) rfl rfl inX0 (by decide) flX0_25 rfl dX0_discHasKeptAbove_11 ?_
        refine z_aload_n 0 (pc := 14) dX0_discHasKeptAbove_14 rfl ?_
        refine z_get 0 6 (pc := 15) (v := .ref h_o_disc) rfl rfl inX0 (by decide) flX0_32 rfl dX0_discHasKeptAbove_15 ?_
        refine z_iload_n 2 (pc := 18) dX0_discHasKeptAbove_18 rfl ?_
        refine z_iaload 2 0 (pc := 19) rfl rfl dX0_discHasKeptAbove_19 hf0 (fun hf0 => ?_)
        refine z_zaload 1 1 (pc := 20) rfl rfl dX0_discHasKeptAbove_20 hf0 (fun hf0 => ?_)
        refine z_if_eq (pc := 21) (tgt := 41) dX0_discHasKeptAbove_21 (by decide) hf0 (fun hf0 => ?_) (fun hf0 => ?_)
        · refine z_iinc 2 (pc := 41) (v := x2_2 + 1) (lv' := [(2, .int (x2_2 + 1)), (0, .ref h_o), (1, .int a1)]) dX0_discHasKeptAbove_41 rfl rfl (by decide) rfl ?_
          refine z_goto (pc := 44) (tgt := 2) dX0_discHasKeptAbove_44 (by decide) ?_
          exact z_lv [1, 2, 0] rfl (ih2 (x2_2 + 1) hf0)
        · refine z_aload_n 0 (pc := 24) dX0_discHasKeptAbove_24 rfl ?_
          refine z_get 0 2 (pc := 25) (v := .ref h_o_heights) rfl rfl inX0 (by decide) flX0_18 rfl dX0_discHasKeptAbove_25 ?_
          refine z_aload_n 0 (pc := 28) dX0_discHasKeptAbove_28 rfl ?_
          refine z_get 0 6 (pc := 29) (v := .ref h_o_disc) rfl rfl inX0 (by decide) flX0_32 rfl dX0_discHasKeptAbove_29 ?_
          refine z_iload_n 2 (pc := 32) dX0_discHasKeptAbove_32 rfl ?_
          refine z_iaload 2 0 (pc := 33) rfl rfl dX0_discHasKeptAbove_33 hf0 (fun hf0 => ?_)
          refine z_iaload 3 0 (pc := 34) rfl rfl dX0_discHasKeptAbove_34 hf0 (fun hf0 => ?_)
          refine z_iload_n 1 (pc := 35) dX0_discHasKeptAbove_35 rfl ?_
          refine z_icmp_le (pc := 36) (tgt := 41) dX0_discHasKeptAbove_36 (by decide) hf0 (fun hf0 => ?_) (fun hf0 => ?_)
          · refine z_iinc 2 (pc := 41) (v := x2_2 + 1) (lv' := [(2, .int (x2_2 + 1)), (0, .ref h_o), (1, .int a1)]) dX0_discHasKeptAbove_41 rfl rfl (by decide) rfl ?_
            refine z_goto (pc := 44) (tgt := 2) dX0_discHasKeptAbove_44 (by decide) ?_
            exact z_lv [1, 2, 0] rfl (ih2 (x2_2 + 1) hf0)
          · refine z_iconst (pc := 39) (v := 1) dX0_discHasKeptAbove_39 (by decide) ?_
            obtain rfl := Option.some.inj hf0
            exact z_zretL (by decide) hE dX0_discHasKeptAbove_40
  exact z_lv [1, 2, 0] rfl (lp2 N 0 hf0)

abbrev RX0_lowerDisc : Type := Int32 × (Nat → Int32)
abbrev rmX0_lowerDisc : Room := { frames := 0, cells := 0, slots := 0, locals := 0 }
abbrev wsX0_lowerDisc (cA : Nat → ClassId) (h_o : Nat) (h_o_heights : Nat) (h_o_disc : Nat) (o_side : Int32) (o_cells : Int32) (o_targets : Value) (o_kept : Value) (o_marks : Value) (o_discSize : Int32) (o_heights_n : Nat) (o_heights : Nat → Int32) (o_disc_n : Nat) (o_disc : Nat → Int32) : va_W := [(h_o, .inr (0, [.int o_side, .int o_cells, .ref h_o_heights, o_targets, o_kept, o_marks, .ref h_o_disc, .int o_discSize])), (h_o_heights, .inl (cA 0, o_heights_n, .inl o_heights)), (h_o_disc, .inl (cA 0, o_disc_n, .inl o_disc))]
def LX0_lowerDisc_4 (o_discSize : Int32) (o_disc_n : Nat) (o_disc : Nat → Int32) (o_heights_n : Nat) (a1 : Int32) : Nat → Int32 → Int32 → (Nat → Int32) → Option (Int32 × Int32 × (Nat → Int32))
  | 0, _, _, _ => none
  | n + 1, x2_4, x3_4, o_heights_4 => (if o_discSize ≤ x3_4 then some (x2_4, x3_4, o_heights_4) else (if x3_4 < 0 ∨ o_disc_n ≤ x3_4.toNatClampNeg then none else (if (o_disc x3_4.toNatClampNeg) < 0 ∨ o_heights_n ≤ (o_disc x3_4.toNatClampNeg).toNatClampNeg then none else (if (o_heights_4 (o_disc x3_4.toNatClampNeg).toNatClampNeg) ≤ a1 then LX0_lowerDisc_4 o_discSize o_disc_n o_disc o_heights_n a1 n x2_4 (x3_4 + 1) o_heights_4 else (if x3_4 < 0 ∨ o_disc_n ≤ x3_4.toNatClampNeg then none else (if (o_disc x3_4.toNatClampNeg) < 0 ∨ o_heights_n ≤ (o_disc x3_4.toNatClampNeg).toNatClampNeg then none else LX0_lowerDisc_4 o_discSize o_disc_n o_disc o_heights_n a1 n (x2_4 + 1) (x3_4 + 1) (upd o_heights_4 (o_disc x3_4.toNatClampNeg).toNatClampNeg a1)))))))
def fX0_lowerDisc (N : Nat) (a1 : Int32) (o_discSize : Int32) (o_heights_n : Nat) (o_heights : Nat → Int32) (o_disc_n : Nat) (o_disc : Nat → Int32) : Option RX0_lowerDisc :=
  ((LX0_lowerDisc_4 o_discSize o_disc_n o_disc o_heights_n a1 N 0 0 o_heights).bind fun r1 => some (r1.1, r1.2.2))
set_option maxHeartbeats 4000000 in
set_option maxRecDepth 100000 in
theorem kX0_lowerDisc (l : Launch) (D : va_G) (cA : Nat → ClassId) (h_o : Nat) (h_o_heights : Nat) (h_o_disc : Nat) (o_side : Int32) (o_cells : Int32) (o_targets : Value) (o_kept : Value) (o_marks : Value) (o_discSize : Int32) (o_heights_n : Nat) (o_heights : Nat → Int32) (o_disc_n : Nat) (o_disc : Nat → Int32) (a1 : Int32) (N : Nat) (res : RX0_lowerDisc) (hf0 : fX0_lowerDisc N a1 o_discSize o_heights_n o_heights o_disc_n o_disc = some res) : CtI l yX0_lowerDisc (Cond.code yX0_lowerDisc cX0_lowerDisc 4 (some .int) :: tblG) rmX0_lowerDisc D cA (wsX0_lowerDisc cA h_o h_o_heights h_o_disc o_side o_cells o_targets o_kept o_marks o_discSize o_heights_n o_heights o_disc_n o_disc) [.ref h_o, .int a1] res.1 (wsX0_lowerDisc cA h_o h_o_heights h_o_disc o_side o_cells o_targets o_kept o_marks o_discSize o_heights_n res.2 o_disc_n o_disc) := by
  refine CtI.start (lv := [(0, .ref h_o), (1, .int a1)]) (by decide) (Nat.le_of_ble_eq_true rfl) rfl (fun κ hE => ?_)
  rw [fX0_lowerDisc] at hf0
  refine z_iconst (pc := 0) (v := 0) dX0_lowerDisc_0 (by decide) ?_
  refine z_istore_n (pc := 1) (lv' := [(2, .int 0), (0, .ref h_o), (1, .int a1)]) dX0_lowerDisc_1 (by decide) rfl ?_
  refine z_iconst (pc := 2) (v := 0) dX0_lowerDisc_2 (by decide) ?_
  refine z_istore_n (pc := 3) (lv' := [(3, .int 0), (2, .int 0), (0, .ref h_o), (1, .int a1)]) dX0_lowerDisc_3 (by decide) rfl ?_
  obtain ⟨y4, hf0_4, hf0⟩ := bp hf0
  have lp4 : ∀ (n : Nat) (x2_4 : Int32) (x3_4 : Int32) (o_heights_4 : Nat → Int32), LX0_lowerDisc_4 o_discSize o_disc_n o_disc o_heights_n a1 n x2_4 x3_4 o_heights_4 = some y4 → V κ false l D cA rmX0_lowerDisc cX0_lowerDisc 4 RX0 (some .int) 0 0 4 [(0, .ref h_o), (1, .int a1), (2, .int x2_4), (3, .int x3_4)] [] (wsX0_lowerDisc cA h_o h_o_heights h_o_disc o_side o_cells o_targets o_kept o_marks o_discSize o_heights_n o_heights_4 o_disc_n o_disc) := by
    intro n
    induction n with
    | zero => intro x2_4 x3_4 o_heights_4 hf0_4; rw [LX0_lowerDisc_4] at hf0_4; cases hf0_4
    | succ n4 ih4 =>
      intro x2_4 x3_4 o_heights_4 hf0_4
      rw [LX0_lowerDisc_4] at hf0_4
      refine z_iload_n 3 (pc := 4) dX0_lowerDisc_4 rfl ?_
      refine z_aload_n 0 (pc := 5) dX0_lowerDisc_5 rfl ?_
      refine z_get 0 7 (pc := 6) (v := .int o_discSize) rfl rfl inX0 (by decide) flX0_35 rfl dX0_lowerDisc_6 ?_
      refine z_icmp_ge (pc := 9) (tgt := 48) dX0_lowerDisc_9 (by decide) hf0_4 (fun hf0_4 => ?_) (fun hf0_4 => ?_)
      · obtain rfl := Option.some.inj hf0_4
        refine z_iload_n 2 (pc := 48) dX0_lowerDisc_48 rfl ?_
        obtain rfl := Option.some.inj hf0
        exact z_iret hE dX0_lowerDisc_49
      · refine z_aload_n 0 (pc := 12) dX0_lowerDisc_12 rfl ?_
        refine z_get 0 2 (pc := 13) (v := .ref h_o_heights) rfl rfl inX0 (by decide) flX0_18 rfl dX0_lowerDisc_13 ?_
        refine z_aload_n 0 (pc := 16) dX0_lowerDisc_16 rfl ?_
        refine z_get 0 6 (pc := 17) (v := .ref h_o_disc) rfl rfl inX0 (by decide) flX0_32 rfl dX0_lowerDisc_17 ?_
        refine z_iload_n 3 (pc := 20) dX0_lowerDisc_20 rfl ?_
        refine z_iaload 2 0 (pc := 21) rfl rfl dX0_lowerDisc_21 hf0_4 (fun hf0_4 => ?_)
        refine z_iaload 1 0 (pc := 22) rfl rfl dX0_lowerDisc_22 hf0_4 (fun hf0_4 => ?_)
        refine z_iload_n 1 (pc := 23) dX0_lowerDisc_23 rfl ?_
        refine z_icmp_le (pc := 24) (tgt := 42) dX0_lowerDisc_24 (by decide) hf0_4 (fun hf0_4 => ?_) (fun hf0_4 => ?_)
        · refine z_iinc 3 (pc := 42) (v := x3_4 + 1) (lv' := [(3, .int (x3_4 + 1)), (0, .ref h_o), (1, .int a1), (2, .int x2_4)]) dX0_lowerDisc_42 rfl rfl (by decide) rfl ?_
          refine z_goto (pc := 45) (tgt := 4) dX0_lowerDisc_45 (by decide) ?_
          exact z_lv [1, 2, 3, 0] rfl (ih4 x2_4 (x3_4 + 1) o_heights_4 hf0_4)
        · refine z_aload_n 0 (pc := 27) dX0_lowerDisc_27 rfl ?_
          refine z_get 0 2 (pc := 28) (v := .ref h_o_heights) rfl rfl inX0 (by decide) flX0_18 rfl dX0_lowerDisc_28 ?_
          refine z_aload_n 0 (pc := 31) dX0_lowerDisc_31 rfl ?_
          refine z_get 0 6 (pc := 32) (v := .ref h_o_disc) rfl rfl inX0 (by decide) flX0_32 rfl dX0_lowerDisc_32 ?_
          refine z_iload_n 3 (pc := 35) dX0_lowerDisc_35 rfl ?_
          refine z_iaload 2 0 (pc := 36) rfl rfl dX0_lowerDisc_36 hf0_4 (fun hf0_4 => ?_)
          refine z_iload_n 1 (pc := 37) dX0_lowerDisc_37 rfl ?_
          refine z_iastore 1 0 (pc := 38) (ws' := (wsX0_lowerDisc cA h_o h_o_heights h_o_disc o_side o_cells o_targets o_kept o_marks o_discSize o_heights_n (upd o_heights_4 (o_disc x3_4.toNatClampNeg).toNatClampNeg a1) o_disc_n o_disc)) rfl rfl dX0_lowerDisc_38 rfl hf0_4 (fun hf0_4 => ?_)
          refine z_iinc 2 (pc := 39) (v := x2_4 + 1) (lv' := [(2, .int (x2_4 + 1)), (0, .ref h_o), (1, .int a1), (3, .int x3_4)]) dX0_lowerDisc_39 rfl rfl (by decide) rfl ?_
          refine z_iinc 3 (pc := 42) (v := x3_4 + 1) (lv' := [(3, .int (x3_4 + 1)), (2, .int (x2_4 + 1)), (0, .ref h_o), (1, .int a1)]) dX0_lowerDisc_42 rfl rfl (by decide) rfl ?_
          refine z_goto (pc := 45) (tgt := 4) dX0_lowerDisc_45 (by decide) ?_
          exact z_lv [2, 3, 1, 0] rfl (ih4 (x2_4 + 1) (x3_4 + 1) (upd o_heights_4 (o_disc x3_4.toNatClampNeg).toNatClampNeg a1) hf0_4)
  exact z_lv [2, 3, 1, 0] rfl (lp4 N 0 0 o_heights hf0_4)

abbrev RX0_discHasKept : Type := Int32
abbrev rmX0_discHasKept : Room := { frames := 0, cells := 0, slots := 0, locals := 0 }
abbrev wsX0_discHasKept (cA : Nat → ClassId) (h_o : Nat) (h_o_kept : Nat) (h_o_disc : Nat) (o_side : Int32) (o_cells : Int32) (o_heights : Value) (o_targets : Value) (o_marks : Value) (o_discSize : Int32) (o_kept_n : Nat) (o_kept : Nat → Int32) (o_disc_n : Nat) (o_disc : Nat → Int32) : va_W := [(h_o, .inr (0, [.int o_side, .int o_cells, o_heights, o_targets, .ref h_o_kept, o_marks, .ref h_o_disc, .int o_discSize])), (h_o_kept, .inl (cA 1, o_kept_n, .inl o_kept)), (h_o_disc, .inl (cA 0, o_disc_n, .inl o_disc))]
def LX0_discHasKept_2 (o_discSize : Int32) (o_disc_n : Nat) (o_disc : Nat → Int32) (o_kept_n : Nat) (o_kept : Nat → Int32) : Nat → Int32 → Option (RX0_discHasKept)
  | 0, _ => none
  | n + 1, x1_2 => (if o_discSize ≤ x1_2 then some 0 else (if x1_2 < 0 ∨ o_disc_n ≤ x1_2.toNatClampNeg then none else (if (o_disc x1_2.toNatClampNeg) < 0 ∨ o_kept_n ≤ (o_disc x1_2.toNatClampNeg).toNatClampNeg then none else (if (o_kept (o_disc x1_2.toNatClampNeg).toNatClampNeg) = 0 then LX0_discHasKept_2 o_discSize o_disc_n o_disc o_kept_n o_kept n (x1_2 + 1) else some 1))))
def fX0_discHasKept (N : Nat)  (o_discSize : Int32) (o_kept_n : Nat) (o_kept : Nat → Int32) (o_disc_n : Nat) (o_disc : Nat → Int32) : Option RX0_discHasKept :=
  LX0_discHasKept_2 o_discSize o_disc_n o_disc o_kept_n o_kept N 0
set_option maxHeartbeats 4000000 in
set_option maxRecDepth 100000 in
theorem kX0_discHasKept (l : Launch) (D : va_G) (cA : Nat → ClassId) (h_o : Nat) (h_o_kept : Nat) (h_o_disc : Nat) (o_side : Int32) (o_cells : Int32) (o_heights : Value) (o_targets : Value) (o_marks : Value) (o_discSize : Int32) (o_kept_n : Nat) (o_kept : Nat → Int32) (o_disc_n : Nat) (o_disc : Nat → Int32)  (N : Nat) (res : RX0_discHasKept) (hf0 : fX0_discHasKept N o_discSize o_kept_n o_kept o_disc_n o_disc = some res) : CtI l yX0_discHasKept (Cond.code yX0_discHasKept cX0_discHasKept 2 (some .boolean) :: tblG) rmX0_discHasKept D cA (wsX0_discHasKept cA h_o h_o_kept h_o_disc o_side o_cells o_heights o_targets o_marks o_discSize o_kept_n o_kept o_disc_n o_disc) [.ref h_o] res (wsX0_discHasKept cA h_o h_o_kept h_o_disc o_side o_cells o_heights o_targets o_marks o_discSize o_kept_n o_kept o_disc_n o_disc) := by
  refine CtI.start (lv := [(0, .ref h_o)]) (by decide) (Nat.le_of_ble_eq_true rfl) rfl (fun κ hE => ?_)
  rw [fX0_discHasKept] at hf0
  refine z_iconst (pc := 0) (v := 0) dX0_discHasKept_0 (by decide) ?_
  refine z_istore_n (pc := 1) (lv' := [(1, .int 0), (0, .ref h_o)]) dX0_discHasKept_1 (by decide) rfl ?_
  have lp2 : ∀ (n : Nat) (x1_2 : Int32), LX0_discHasKept_2 o_discSize o_disc_n o_disc o_kept_n o_kept n x1_2 = some res → V κ false l D cA rmX0_discHasKept cX0_discHasKept 2 RX0 (some .boolean) 0 0 2 [(0, .ref h_o), (1, .int x1_2)] [] (wsX0_discHasKept cA h_o h_o_kept h_o_disc o_side o_cells o_heights o_targets o_marks o_discSize o_kept_n o_kept o_disc_n o_disc) := by
    intro n
    induction n with
    | zero => intro x1_2 hf0; rw [LX0_discHasKept_2] at hf0; cases hf0
    | succ n2 ih2 =>
      intro x1_2 hf0
      rw [LX0_discHasKept_2] at hf0
      refine z_iload_n 1 (pc := 2) dX0_discHasKept_2 rfl ?_
      refine z_aload_n 0 (pc := 3) dX0_discHasKept_3 rfl ?_
      refine z_get 0 7 (pc := 4) (v := .int o_discSize) rfl rfl inX0 (by decide) flX0_35 rfl dX0_discHasKept_4 ?_
      refine z_icmp_ge (pc := 7) (tgt := 32) dX0_discHasKept_7 (by decide) hf0 (fun hf0 => ?_) (fun hf0 => ?_)
      · refine z_iconst (pc := 32) (v := 0) dX0_discHasKept_32 (by decide) ?_
        obtain rfl := Option.some.inj hf0
        exact z_zretL (by decide) hE dX0_discHasKept_33
      · refine z_aload_n 0 (pc := 10) dX0_discHasKept_10 rfl ?_
        refine z_get 0 4 (pc := 11) (v := .ref h_o_kept) rfl rfl inX0 (by decide) flX0_25 rfl dX0_discHasKept_11 ?_
        refine z_aload_n 0 (pc := 14) dX0_discHasKept_14 rfl ?_
        refine z_get 0 6 (pc := 15) (v := .ref h_o_disc) rfl rfl inX0 (by decide) flX0_32 rfl dX0_discHasKept_15 ?_
        refine z_iload_n 1 (pc := 18) dX0_discHasKept_18 rfl ?_
        refine z_iaload 2 0 (pc := 19) rfl rfl dX0_discHasKept_19 hf0 (fun hf0 => ?_)
        refine z_zaload 1 1 (pc := 20) rfl rfl dX0_discHasKept_20 hf0 (fun hf0 => ?_)
        refine z_if_eq (pc := 21) (tgt := 26) dX0_discHasKept_21 (by decide) hf0 (fun hf0 => ?_) (fun hf0 => ?_)
        · refine z_iinc 1 (pc := 26) (v := x1_2 + 1) (lv' := [(1, .int (x1_2 + 1)), (0, .ref h_o)]) dX0_discHasKept_26 rfl rfl (by decide) rfl ?_
          refine z_goto (pc := 29) (tgt := 2) dX0_discHasKept_29 (by decide) ?_
          exact z_lv [1, 0] rfl (ih2 (x1_2 + 1) hf0)
        · refine z_iconst (pc := 24) (v := 1) dX0_discHasKept_24 (by decide) ?_
          obtain rfl := Option.some.inj hf0
          exact z_zretL (by decide) hE dX0_discHasKept_25
  exact z_lv [1, 0] rfl (lp2 N 0 hf0)

abbrev RX0_highestTargetInDisc : Type := Int32
abbrev rmX0_highestTargetInDisc : Room := { frames := 1, cells := 0, slots := 0, locals := 21 }
abbrev wsX0_highestTargetInDisc (cA : Nat → ClassId) (h_o : Nat) (h_o_targets : Nat) (h_o_disc : Nat) (o_side : Int32) (o_cells : Int32) (o_heights : Value) (o_kept : Value) (o_marks : Value) (o_discSize : Int32) (o_targets_n : Nat) (o_targets : Nat → Int32) (o_disc_n : Nat) (o_disc : Nat → Int32) : va_W := [(h_o, .inr (0, [.int o_side, .int o_cells, o_heights, .ref h_o_targets, o_kept, o_marks, .ref h_o_disc, .int o_discSize])), (h_o_targets, .inl (cA 0, o_targets_n, .inl o_targets)), (h_o_disc, .inl (cA 0, o_disc_n, .inl o_disc))]
def LX0_highestTargetInDisc_4 (o_discSize : Int32) (o_disc_n : Nat) (o_disc : Nat → Int32) (o_targets_n : Nat) (o_targets : Nat → Int32) : Nat → Int32 → Int32 → Option (Int32 × Int32)
  | 0, _, _ => none
  | n + 1, x1_4, x2_4 => (if o_discSize ≤ x2_4 then some (x1_4, x2_4) else (if x2_4 < 0 ∨ o_disc_n ≤ x2_4.toNatClampNeg then none else (if (o_disc x2_4.toNatClampNeg) < 0 ∨ o_targets_n ≤ (o_disc x2_4.toNatClampNeg).toNatClampNeg then none else LX0_highestTargetInDisc_4 o_discSize o_disc_n o_disc o_targets_n o_targets n (if x1_4 < (o_targets (o_disc x2_4.toNatClampNeg).toNatClampNeg) then (o_targets (o_disc x2_4.toNatClampNeg).toNatClampNeg) else x1_4) (x2_4 + 1))))
def fX0_highestTargetInDisc (N : Nat)  (o_discSize : Int32) (o_targets_n : Nat) (o_targets : Nat → Int32) (o_disc_n : Nat) (o_disc : Nat → Int32) : Option RX0_highestTargetInDisc :=
  ((LX0_highestTargetInDisc_4 o_discSize o_disc_n o_disc o_targets_n o_targets N 0 0).bind fun r1 => some r1.1)
set_option maxHeartbeats 4000000 in
set_option maxRecDepth 100000 in
theorem kX0_highestTargetInDisc (l : Launch) (D : va_G) (cA : Nat → ClassId) (h_o : Nat) (h_o_targets : Nat) (h_o_disc : Nat) (o_side : Int32) (o_cells : Int32) (o_heights : Value) (o_kept : Value) (o_marks : Value) (o_discSize : Int32) (o_targets_n : Nat) (o_targets : Nat → Int32) (o_disc_n : Nat) (o_disc : Nat → Int32)  (N : Nat) (res : RX0_highestTargetInDisc) (hf0 : fX0_highestTargetInDisc N o_discSize o_targets_n o_targets o_disc_n o_disc = some res) : CtI l yX0_highestTargetInDisc (Cond.code yX0_highestTargetInDisc cX0_highestTargetInDisc 3 (some .int) :: tblG) rmX0_highestTargetInDisc D cA (wsX0_highestTargetInDisc cA h_o h_o_targets h_o_disc o_side o_cells o_heights o_kept o_marks o_discSize o_targets_n o_targets o_disc_n o_disc) [.ref h_o] res (wsX0_highestTargetInDisc cA h_o h_o_targets h_o_disc o_side o_cells o_heights o_kept o_marks o_discSize o_targets_n o_targets o_disc_n o_disc) := by
  refine CtI.start (lv := [(0, .ref h_o)]) (by decide) (Nat.le_of_ble_eq_true rfl) rfl (fun κ hE => ?_)
  rw [fX0_highestTargetInDisc] at hf0
  refine z_iconst (pc := 0) (v := 0) dX0_highestTargetInDisc_0 (by decide) ?_
  refine z_istore_n (pc := 1) (lv' := [(1, .int 0), (0, .ref h_o)]) dX0_highestTargetInDisc_1 (by decide) rfl ?_
  refine z_iconst (pc := 2) (v := 0) dX0_highestTargetInDisc_2 (by decide) ?_
  refine z_istore_n (pc := 3) (lv' := [(2, .int 0), (1, .int 0), (0, .ref h_o)]) dX0_highestTargetInDisc_3 (by decide) rfl ?_
  obtain ⟨y4, hf0_4, hf0⟩ := bp hf0
  have lp4 : ∀ (n : Nat) (x1_4 : Int32) (x2_4 : Int32), LX0_highestTargetInDisc_4 o_discSize o_disc_n o_disc o_targets_n o_targets n x1_4 x2_4 = some y4 → V κ false l D cA rmX0_highestTargetInDisc cX0_highestTargetInDisc 3 RX0 (some .int) 0 0 4 [(0, .ref h_o), (1, .int x1_4), (2, .int x2_4)] [] (wsX0_highestTargetInDisc cA h_o h_o_targets h_o_disc o_side o_cells o_heights o_kept o_marks o_discSize o_targets_n o_targets o_disc_n o_disc) := by
    intro n
    induction n with
    | zero => intro x1_4 x2_4 hf0_4; rw [LX0_highestTargetInDisc_4] at hf0_4; cases hf0_4
    | succ n4 ih4 =>
      intro x1_4 x2_4 hf0_4
      rw [LX0_highestTargetInDisc_4] at hf0_4
      refine z_iload_n 2 (pc := 4) dX0_highestTargetInDisc_4 rfl ?_
      refine z_aload_n 0 (pc := 5) dX0_highestTargetInDisc_5 rfl ?_
      refine z_get 0 7 (pc := 6) (v := .int o_discSize) rfl rfl inX0 (by decide) flX0_35 rfl dX0_highestTargetInDisc_6 ?_
      refine z_icmp_ge (pc := 9) (tgt := 34) dX0_highestTargetInDisc_9 (by decide) hf0_4 (fun hf0_4 => ?_) (fun hf0_4 => ?_)
      · obtain rfl := Option.some.inj hf0_4
        refine z_iload_n 1 (pc := 34) dX0_highestTargetInDisc_34 rfl ?_
        obtain rfl := Option.some.inj hf0
        exact z_iret hE dX0_highestTargetInDisc_35
      · refine z_iload_n 1 (pc := 12) dX0_highestTargetInDisc_12 rfl ?_
        refine z_aload_n 0 (pc := 13) dX0_highestTargetInDisc_13 rfl ?_
        refine z_get 0 3 (pc := 14) (v := .ref h_o_targets) rfl rfl inX0 (by decide) flX0_22 rfl dX0_highestTargetInDisc_14 ?_
        refine z_aload_n 0 (pc := 17) dX0_highestTargetInDisc_17 rfl ?_
        refine z_get 0 6 (pc := 18) (v := .ref h_o_disc) rfl rfl inX0 (by decide) flX0_32 rfl dX0_highestTargetInDisc_18 ?_
        refine z_iload_n 2 (pc := 21) dX0_highestTargetInDisc_21 rfl ?_
        refine z_iaload 2 0 (pc := 22) rfl rfl dX0_highestTargetInDisc_22 hf0_4 (fun hf0_4 => ?_)
        refine z_iaload 1 0 (pc := 23) rfl rfl dX0_highestTargetInDisc_23 hf0_4 (fun hf0_4 => ?_)
        refine z_mmax (pc := 24) mlX0_56 mst_max mini mcd_max (by decide) (Nat.le_of_ble_eq_true rfl) (Nat.zero_le _) (Nat.zero_le _) dX0_highestTargetInDisc_24 ?_
        refine z_istore_n (pc := 27) (lv' := [(1, .int (if x1_4 < (o_targets (o_disc x2_4.toNatClampNeg).toNatClampNeg) then (o_targets (o_disc x2_4.toNatClampNeg).toNatClampNeg) else x1_4)), (0, .ref h_o), (2, .int x2_4)]) dX0_highestTargetInDisc_27 (by decide) rfl ?_
        refine z_iinc 2 (pc := 28) (v := x2_4 + 1) (lv' := [(2, .int (x2_4 + 1)), (1, .int (if x1_4 < (o_targets (o_disc x2_4.toNatClampNeg).toNatClampNeg) then (o_targets (o_disc x2_4.toNatClampNeg).toNatClampNeg) else x1_4)), (0, .ref h_o)]) dX0_highestTargetInDisc_28 rfl rfl (by decide) rfl ?_
        refine z_goto (pc := 31) (tgt := 4) dX0_highestTargetInDisc_31 (by decide) ?_
        exact z_lv [2, 1, 0] rfl (ih4 (if x1_4 < (o_targets (o_disc x2_4.toNatClampNeg).toNatClampNeg) then (o_targets (o_disc x2_4.toNatClampNeg).toNatClampNeg) else x1_4) (x2_4 + 1) hf0_4)
  exact z_lv [2, 1, 0] rfl (lp4 N 0 0 hf0_4)

abbrev RX0_markReached : Type := Int32 × (Nat → Int32)
abbrev rmX0_markReached : Room := { frames := 1, cells := 0, slots := 0, locals := 22 }
abbrev wsX0_markReached (cA : Nat → ClassId) (h_o : Nat) (h_o_disc : Nat) (h_o_marks : Nat) (h_o_targets : Nat) (h_o_heights : Nat) (o_side : Int32) (o_cells : Int32) (o_kept : Value) (o_discSize : Int32) (o_disc_n : Nat) (o_disc : Nat → Int32) (o_marks_n : Nat) (o_marks : Nat → Int32) (o_targets_n : Nat) (o_targets : Nat → Int32) (o_heights_n : Nat) (o_heights : Nat → Int32) : va_W := [(h_o, .inr (0, [.int o_side, .int o_cells, .ref h_o_heights, .ref h_o_targets, o_kept, .ref h_o_marks, .ref h_o_disc, .int o_discSize])), (h_o_disc, .inl (cA 0, o_disc_n, .inl o_disc)), (h_o_marks, .inl (cA 1, o_marks_n, .inl o_marks)), (h_o_targets, .inl (cA 0, o_targets_n, .inl o_targets)), (h_o_heights, .inl (cA 0, o_heights_n, .inl o_heights))]
def LX0_markReached_4 (o_discSize : Int32) (o_disc_n : Nat) (o_disc : Nat → Int32) (o_marks_n : Nat) (o_targets_n : Nat) (o_targets : Nat → Int32) (a1 : Int32) (N : Nat) (o_heights_n : Nat) (o_heights : Nat → Int32) : Nat → Int32 → Int32 → (Nat → Int32) → Option (Int32 × Int32 × (Nat → Int32))
  | 0, _, _, _ => none
  | n + 1, x2_4, x3_4, o_marks_4 => (if o_discSize ≤ x3_4 then some (x2_4, x3_4, o_marks_4) else (if x3_4 < 0 ∨ o_disc_n ≤ x3_4.toNatClampNeg then none else (if (o_disc x3_4.toNatClampNeg) < 0 ∨ o_marks_n ≤ (o_disc x3_4.toNatClampNeg).toNatClampNeg then none else (if (o_marks_4 (o_disc x3_4.toNatClampNeg).toNatClampNeg) = 0 then (if (o_disc x3_4.toNatClampNeg) < 0 ∨ o_targets_n ≤ (o_disc x3_4.toNatClampNeg).toNatClampNeg then none else (if (o_targets (o_disc x3_4.toNatClampNeg).toNatClampNeg) = a1 then ((fX0_isOff N (o_disc x3_4.toNatClampNeg) 1 o_heights_n o_heights o_targets_n o_targets).bind fun r2 => (if r2 = 0 then LX0_markReached_4 o_discSize o_disc_n o_disc o_marks_n o_targets_n o_targets a1 N o_heights_n o_heights n x2_4 (x3_4 + 1) o_marks_4 else (if (o_disc x3_4.toNatClampNeg) < 0 ∨ o_marks_n ≤ (o_disc x3_4.toNatClampNeg).toNatClampNeg then none else LX0_markReached_4 o_discSize o_disc_n o_disc o_marks_n o_targets_n o_targets a1 N o_heights_n o_heights n (x2_4 + 1) (x3_4 + 1) (upd o_marks_4 (o_disc x3_4.toNatClampNeg).toNatClampNeg (vp_nar .boolean 1))))) else LX0_markReached_4 o_discSize o_disc_n o_disc o_marks_n o_targets_n o_targets a1 N o_heights_n o_heights n x2_4 (x3_4 + 1) o_marks_4)) else LX0_markReached_4 o_discSize o_disc_n o_disc o_marks_n o_targets_n o_targets a1 N o_heights_n o_heights n x2_4 (x3_4 + 1) o_marks_4))))
def fX0_markReached (N : Nat) (a1 : Int32) (o_discSize : Int32) (o_disc_n : Nat) (o_disc : Nat → Int32) (o_marks_n : Nat) (o_marks : Nat → Int32) (o_targets_n : Nat) (o_targets : Nat → Int32) (o_heights_n : Nat) (o_heights : Nat → Int32) : Option RX0_markReached :=
  ((LX0_markReached_4 o_discSize o_disc_n o_disc o_marks_n o_targets_n o_targets a1 N o_heights_n o_heights N 0 0 o_marks).bind fun r1 => some (r1.1, r1.2.2))
set_option maxHeartbeats 4000000 in
set_option maxRecDepth 100000 in
theorem kX0_markReached (l : Launch) (D : va_G) (cA : Nat → ClassId) (h_o : Nat) (h_o_disc : Nat) (h_o_marks : Nat) (h_o_targets : Nat) (h_o_heights : Nat) (o_side : Int32) (o_cells : Int32) (o_kept : Value) (o_discSize : Int32) (o_disc_n : Nat) (o_disc : Nat → Int32) (o_marks_n : Nat) (o_marks : Nat → Int32) (o_targets_n : Nat) (o_targets : Nat → Int32) (o_heights_n : Nat) (o_heights : Nat → Int32) (a1 : Int32) (N : Nat) (res : RX0_markReached) (hf0 : fX0_markReached N a1 o_discSize o_disc_n o_disc o_marks_n o_marks o_targets_n o_targets o_heights_n o_heights = some res) : CtI l yX0_markReached (Cond.code yX0_markReached cX0_markReached 5 (some .int) :: tblG) rmX0_markReached D cA (wsX0_markReached cA h_o h_o_disc h_o_marks h_o_targets h_o_heights o_side o_cells o_kept o_discSize o_disc_n o_disc o_marks_n o_marks o_targets_n o_targets o_heights_n o_heights) [.ref h_o, .int a1] res.1 (wsX0_markReached cA h_o h_o_disc h_o_marks h_o_targets h_o_heights o_side o_cells o_kept o_discSize o_disc_n o_disc o_marks_n res.2 o_targets_n o_targets o_heights_n o_heights) := by
  refine CtI.start (lv := [(0, .ref h_o), (1, .int a1)]) (by decide) (Nat.le_of_ble_eq_true rfl) rfl (fun κ hE => ?_)
  rw [fX0_markReached] at hf0
  refine z_iconst (pc := 0) (v := 0) dX0_markReached_0 (by decide) ?_
  refine z_istore_n (pc := 1) (lv' := [(2, .int 0), (0, .ref h_o), (1, .int a1)]) dX0_markReached_1 (by decide) rfl ?_
  refine z_iconst (pc := 2) (v := 0) dX0_markReached_2 (by decide) ?_
  refine z_istore_n (pc := 3) (lv' := [(3, .int 0), (2, .int 0), (0, .ref h_o), (1, .int a1)]) dX0_markReached_3 (by decide) rfl ?_
  obtain ⟨y4, hf0_4, hf0⟩ := bp hf0
  have lp4 : ∀ (n : Nat) (x2_4 : Int32) (x3_4 : Int32) (o_marks_4 : Nat → Int32), LX0_markReached_4 o_discSize o_disc_n o_disc o_marks_n o_targets_n o_targets a1 N o_heights_n o_heights n x2_4 x3_4 o_marks_4 = some y4 → V κ false l D cA rmX0_markReached cX0_markReached 5 RX0 (some .int) 0 0 4 [(0, .ref h_o), (1, .int a1), (2, .int x2_4), (3, .int x3_4)] [] (wsX0_markReached cA h_o h_o_disc h_o_marks h_o_targets h_o_heights o_side o_cells o_kept o_discSize o_disc_n o_disc o_marks_n o_marks_4 o_targets_n o_targets o_heights_n o_heights) := by
    intro n
    induction n with
    | zero => intro x2_4 x3_4 o_marks_4 hf0_4; rw [LX0_markReached_4] at hf0_4; cases hf0_4
    | succ n4 ih4 =>
      intro x2_4 x3_4 o_marks_4 hf0_4
      rw [LX0_markReached_4] at hf0_4
      refine z_iload_n 3 (pc := 4) dX0_markReached_4 rfl ?_
      refine z_aload_n 0 (pc := 5) dX0_markReached_5 rfl ?_
      refine z_get 0 7 (pc := 6) (v := .int o_discSize) rfl rfl inX0 (by decide) flX0_35 rfl dX0_markReached_6 ?_
      refine z_icmp_ge (pc := 9) (tgt := 68) dX0_markReached_9 (by decide) hf0_4 (fun hf0_4 => ?_) (fun hf0_4 => ?_)
      · obtain rfl := Option.some.inj hf0_4
        refine z_iload_n 2 (pc := 68) dX0_markReached_68 rfl ?_
        obtain rfl := Option.some.inj hf0
        exact z_iret hE dX0_markReached_69
      · refine z_aload_n 0 (pc := 12) dX0_markReached_12 rfl ?_
        refine z_get 0 6 (pc := 13) (v := .ref h_o_disc) rfl rfl inX0 (by decide) flX0_32 rfl dX0_markReached_13 ?_
        refine z_iload_n 3 (pc := 16) dX0_markReached_16 rfl ?_
        refine z_iaload 1 0 (pc := 17) rfl rfl dX0_markReached_17 hf0_4 (fun hf0_4 => ?_)
        refine z_istore (pc := 18) (lv' := [(4, .int (o_disc x3_4.toNatClampNeg)), (0, .ref h_o), (1, .int a1), (2, .int x2_4), (3, .int x3_4)]) dX0_markReached_18 (by decide) rfl ?_
        refine z_aload_n 1 (pc := 20) dX0_markReached_20 rfl ?_
        refine z_get 0 5 (pc := 21) (v := .ref h_o_marks) rfl rfl inX0 (by decide) flX0_29 rfl dX0_markReached_21 ?_
        refine z_iload 0 (pc := 24) dX0_markReached_24 rfl ?_
        refine z_zaload 2 1 (pc := 26) rfl rfl dX0_markReached_26 hf0_4 (fun hf0_4 => ?_)
        refine z_if_ne (pc := 27) (tgt := 62) dX0_markReached_27 (by decide) hf0_4 (fun hf0_4 => ?_) (fun hf0_4 => ?_)
        · refine z_iinc 4 (pc := 62) (v := x3_4 + 1) (lv' := [(3, .int (x3_4 + 1)), (4, .int (o_disc x3_4.toNatClampNeg)), (0, .ref h_o), (1, .int a1), (2, .int x2_4)]) dX0_markReached_62 rfl rfl (by decide) rfl ?_
          refine z_goto (pc := 65) (tgt := 4) dX0_markReached_65 (by decide) ?_
          exact z_lv [2, 3, 4, 0] rfl (ih4 x2_4 (x3_4 + 1) o_marks_4 hf0_4)
        · refine z_aload_n 1 (pc := 30) dX0_markReached_30 rfl ?_
          refine z_get 0 3 (pc := 31) (v := .ref h_o_targets) rfl rfl inX0 (by decide) flX0_22 rfl dX0_markReached_31 ?_
          refine z_iload 0 (pc := 34) dX0_markReached_34 rfl ?_
          refine z_iaload 3 0 (pc := 36) rfl rfl dX0_markReached_36 hf0_4 (fun hf0_4 => ?_)
          refine z_iload_n 2 (pc := 37) dX0_markReached_37 rfl ?_
          refine z_icmp_ne (pc := 38) (tgt := 62) dX0_markReached_38 (by decide) hf0_4 (fun hf0_4 => ?_) (fun hf0_4 => ?_)
          · refine z_iinc 4 (pc := 62) (v := x3_4 + 1) (lv' := [(3, .int (x3_4 + 1)), (4, .int (o_disc x3_4.toNatClampNeg)), (0, .ref h_o), (1, .int a1), (2, .int x2_4)]) dX0_markReached_62 rfl rfl (by decide) rfl ?_
            refine z_goto (pc := 65) (tgt := 4) dX0_markReached_65 (by decide) ?_
            exact z_lv [2, 3, 4, 0] rfl (ih4 x2_4 (x3_4 + 1) o_marks_4 hf0_4)
          · refine z_aload_n 1 (pc := 41) dX0_markReached_41 rfl ?_
            refine z_iload 0 (pc := 42) dX0_markReached_42 rfl ?_
            refine z_iconst (pc := 44) (v := 1) dX0_markReached_44 (by decide) ?_
            obtain ⟨r2, er2, hf0_4⟩ := bp hf0_4
            refine z_calliV (pc := 45) (As := [.int (o_disc x3_4.toNatClampNeg), .int 1]) (rest := []) (ws' := (wsX0_markReached cA h_o h_o_disc h_o_marks h_o_targets h_o_heights o_side o_cells o_kept o_discSize o_disc_n o_disc o_marks_n o_marks_4 o_targets_n o_targets o_heights_n o_heights)) (kX0_isOff l D cA h_o h_o_heights h_o_targets o_side o_cells o_kept (.ref h_o_marks) (.ref h_o_disc) o_discSize o_heights_n o_heights o_targets_n o_targets (o_disc x3_4.toNatClampNeg) 1 N r2 er2) ivX0_42 ⟨rfl, rfl⟩ ⟨by decide, by decide⟩ rfl ⟨Nat.zero_le _, Nat.zero_le _⟩ rfl rfl [0, 4, 3] rfl (by decide) rfl rfl rfl (Nat.le_of_ble_eq_true rfl) dX0_markReached_45 ?_
            refine z_if_eq (pc := 48) (tgt := 62) dX0_markReached_48 (by decide) hf0_4 (fun hf0_4 => ?_) (fun hf0_4 => ?_)
            · refine z_iinc 4 (pc := 62) (v := x3_4 + 1) (lv' := [(3, .int (x3_4 + 1)), (4, .int (o_disc x3_4.toNatClampNeg)), (0, .ref h_o), (1, .int a1), (2, .int x2_4)]) dX0_markReached_62 rfl rfl (by decide) rfl ?_
              refine z_goto (pc := 65) (tgt := 4) dX0_markReached_65 (by decide) ?_
              exact z_lv [2, 3, 4, 0] rfl (ih4 x2_4 (x3_4 + 1) o_marks_4 hf0_4)
            · refine z_aload_n 1 (pc := 51) dX0_markReached_51 rfl ?_
              refine z_get 0 5 (pc := 52) (v := .ref h_o_marks) rfl rfl inX0 (by decide) flX0_29 rfl dX0_markReached_52 ?_
              refine z_iload 0 (pc := 55) dX0_markReached_55 rfl ?_
              refine z_iconst (pc := 57) (v := 1) dX0_markReached_57 (by decide) ?_
              refine z_zastore 2 1 (pc := 58) (ws' := (wsX0_markReached cA h_o h_o_disc h_o_marks h_o_targets h_o_heights o_side o_cells o_kept o_discSize o_disc_n o_disc o_marks_n (upd o_marks_4 (o_disc x3_4.toNatClampNeg).toNatClampNeg (vp_nar .boolean 1)) o_targets_n o_targets o_heights_n o_heights)) rfl rfl dX0_markReached_58 rfl hf0_4 (fun hf0_4 => ?_)
              refine z_iinc 3 (pc := 59) (v := x2_4 + 1) (lv' := [(2, .int (x2_4 + 1)), (4, .int (o_disc x3_4.toNatClampNeg)), (0, .ref h_o), (1, .int a1), (3, .int x3_4)]) dX0_markReached_59 rfl rfl (by decide) rfl ?_
              refine z_iinc 4 (pc := 62) (v := x3_4 + 1) (lv' := [(3, .int (x3_4 + 1)), (2, .int (x2_4 + 1)), (4, .int (o_disc x3_4.toNatClampNeg)), (0, .ref h_o), (1, .int a1)]) dX0_markReached_62 rfl rfl (by decide) rfl ?_
              refine z_goto (pc := 65) (tgt := 4) dX0_markReached_65 (by decide) ?_
              exact z_lv [3, 4, 1, 0] rfl (ih4 (x2_4 + 1) (x3_4 + 1) (upd o_marks_4 (o_disc x3_4.toNatClampNeg).toNatClampNeg (vp_nar .boolean 1)) hf0_4)
  exact z_lv [2, 3, 1, 0] rfl (lp4 N 0 0 o_marks hf0_4)

abbrev RX0_countReached : Type := Int32 × Int32 × (Nat → Int32) × (Nat → Int32)
abbrev rmX0_countReached : Room := { frames := 2, cells := 0, slots := 0, locals := 50 }
abbrev wsX0_countReached (cA : Nat → ClassId) (h_o : Nat) (h_p1 : Nat) (h_o_marks : Nat) (h_p1_halfWidths : Nat) (h_o_disc : Nat) (h_o_kept : Nat) (h_o_targets : Nat) (h_o_heights : Nat) (o_side : Int32) (o_cells : Int32) (o_discSize : Int32) (p1_radius : Int32) (p1_feed : Int32) (o_marks_n : Nat) (o_marks : Nat → Int32) (p1_halfWidths_n : Nat) (p1_halfWidths : Nat → Int32) (o_disc_n : Nat) (o_disc : Nat → Int32) (o_kept_n : Nat) (o_kept : Nat → Int32) (o_targets_n : Nat) (o_targets : Nat → Int32) (o_heights_n : Nat) (o_heights : Nat → Int32) : va_W := [(h_o, .inr (0, [.int o_side, .int o_cells, .ref h_o_heights, .ref h_o_targets, .ref h_o_kept, .ref h_o_marks, .ref h_o_disc, .int o_discSize])), (h_p1, .inr (5, [.int p1_radius, .int p1_feed, .ref h_p1_halfWidths])), (h_o_marks, .inl (cA 1, o_marks_n, .inl o_marks)), (h_p1_halfWidths, .inl (cA 0, p1_halfWidths_n, .inl p1_halfWidths)), (h_o_disc, .inl (cA 0, o_disc_n, .inl o_disc)), (h_o_kept, .inl (cA 1, o_kept_n, .inl o_kept)), (h_o_targets, .inl (cA 0, o_targets_n, .inl o_targets)), (h_o_heights, .inl (cA 0, o_heights_n, .inl o_heights))]
def LX0_countReached_38 (o_side : Int32) (N : Nat) (x3_27 : Int32) (o_cells : Int32) (p1_radius : Int32) (p1_halfWidths_n : Nat) (p1_halfWidths : Nat → Int32) (o_disc_n : Nat) (o_kept_n : Nat) (o_kept : Nat → Int32) (o_targets_n : Nat) (o_targets : Nat → Int32) (o_marks_n : Nat) (o_heights_n : Nat) (o_heights : Nat → Int32) : Nat → Int32 → Int32 → (Nat → Int32) → Int32 → (Nat → Int32) → Option (Int32 × Int32 × (Nat → Int32) × Int32 × (Nat → Int32))
  | 0, _, _, _, _, _ => none
  | n + 1, x2_38, x4_38, o_disc_38, o_discSize_38, o_marks_38 => (if o_side ≤ x4_38 then some (x2_38, x4_38, o_disc_38, o_discSize_38, o_marks_38) else ((fX0_layDisc N x4_38 x3_27 o_side o_cells o_discSize_38 p1_radius p1_halfWidths_n p1_halfWidths o_disc_n o_disc_38).bind fun r4 => ((fX0_discHasKept N r4.1 o_kept_n o_kept o_disc_n r4.2).bind fun r5 => (if r5 = 0 then ((fX0_highestTargetInDisc N r4.1 o_targets_n o_targets o_disc_n r4.2).bind fun r6 => ((fX0_markReached N r6 r4.1 o_disc_n r4.2 o_marks_n o_marks_38 o_targets_n o_targets o_heights_n o_heights).bind fun r7 => LX0_countReached_38 o_side N x3_27 o_cells p1_radius p1_halfWidths_n p1_halfWidths o_disc_n o_kept_n o_kept o_targets_n o_targets o_marks_n o_heights_n o_heights n (x2_38 + r7.1) (x4_38 + 1) r4.2 r4.1 r7.2)) else LX0_countReached_38 o_side N x3_27 o_cells p1_radius p1_halfWidths_n p1_halfWidths o_disc_n o_kept_n o_kept o_targets_n o_targets o_marks_n o_heights_n o_heights n x2_38 (x4_38 + 1) r4.2 r4.1 o_marks_38))))
def LX0_countReached_27 (o_side : Int32) (N : Nat) (o_cells : Int32) (p1_radius : Int32) (p1_halfWidths_n : Nat) (p1_halfWidths : Nat → Int32) (o_disc_n : Nat) (o_kept_n : Nat) (o_kept : Nat → Int32) (o_targets_n : Nat) (o_targets : Nat → Int32) (o_marks_n : Nat) (o_heights_n : Nat) (o_heights : Nat → Int32) : Nat → Int32 → Int32 → (Nat → Int32) → Int32 → (Nat → Int32) → Option (Int32 × Int32 × (Nat → Int32) × Int32 × (Nat → Int32))
  | 0, _, _, _, _, _ => none
  | n + 1, x2_27, x3_27, o_disc_27, o_discSize_27, o_marks_27 => (if o_side ≤ x3_27 then some (x2_27, x3_27, o_disc_27, o_discSize_27, o_marks_27) else ((LX0_countReached_38 o_side N x3_27 o_cells p1_radius p1_halfWidths_n p1_halfWidths o_disc_n o_kept_n o_kept o_targets_n o_targets o_marks_n o_heights_n o_heights N x2_27 0 o_disc_27 o_discSize_27 o_marks_27).bind fun r3 => LX0_countReached_27 o_side N o_cells p1_radius p1_halfWidths_n p1_halfWidths o_disc_n o_kept_n o_kept o_targets_n o_targets o_marks_n o_heights_n o_heights n r3.1 (x3_27 + 1) r3.2.2.1 r3.2.2.2.1 r3.2.2.2.2))
def LX0_countReached_2 (o_cells : Int32) (o_marks_n : Nat) : Nat → Int32 → (Nat → Int32) → Option (Int32 × (Nat → Int32))
  | 0, _, _ => none
  | n + 1, x2_2, o_marks_2 => (if o_cells ≤ x2_2 then some (x2_2, o_marks_2) else (if x2_2 < 0 ∨ o_marks_n ≤ x2_2.toNatClampNeg then none else LX0_countReached_2 o_cells o_marks_n n (x2_2 + 1) (upd o_marks_2 x2_2.toNatClampNeg (vp_nar .boolean 0))))
def fX0_countReached (N : Nat)  (o_side : Int32) (o_cells : Int32) (o_discSize : Int32) (p1_radius : Int32) (o_marks_n : Nat) (o_marks : Nat → Int32) (p1_halfWidths_n : Nat) (p1_halfWidths : Nat → Int32) (o_disc_n : Nat) (o_disc : Nat → Int32) (o_kept_n : Nat) (o_kept : Nat → Int32) (o_targets_n : Nat) (o_targets : Nat → Int32) (o_heights_n : Nat) (o_heights : Nat → Int32) : Option RX0_countReached :=
  ((LX0_countReached_2 o_cells o_marks_n N 0 o_marks).bind fun r1 => ((LX0_countReached_27 o_side N o_cells p1_radius p1_halfWidths_n p1_halfWidths o_disc_n o_kept_n o_kept o_targets_n o_targets o_marks_n o_heights_n o_heights N 0 0 o_disc o_discSize r1.2).bind fun r2 => some (r2.1, r2.2.2.2.1, r2.2.2.2.2, r2.2.2.1)))
set_option maxHeartbeats 4000000 in
set_option maxRecDepth 100000 in
theorem kX0_countReached (l : Launch) (D : va_G) (cA : Nat → ClassId) (h_o : Nat) (h_p1 : Nat) (h_o_marks : Nat) (h_p1_halfWidths : Nat) (h_o_disc : Nat) (h_o_kept : Nat) (h_o_targets : Nat) (h_o_heights : Nat) (o_side : Int32) (o_cells : Int32) (o_discSize : Int32) (p1_radius : Int32) (p1_feed : Int32) (o_marks_n : Nat) (o_marks : Nat → Int32) (p1_halfWidths_n : Nat) (p1_halfWidths : Nat → Int32) (o_disc_n : Nat) (o_disc : Nat → Int32) (o_kept_n : Nat) (o_kept : Nat → Int32) (o_targets_n : Nat) (o_targets : Nat → Int32) (o_heights_n : Nat) (o_heights : Nat → Int32)  (N : Nat) (res : RX0_countReached) (hf0 : fX0_countReached N o_side o_cells o_discSize p1_radius o_marks_n o_marks p1_halfWidths_n p1_halfWidths o_disc_n o_disc o_kept_n o_kept o_targets_n o_targets o_heights_n o_heights = some res) : CtI l yX0_countReached (Cond.code yX0_countReached cX0_countReached 5 (some .int) :: tblG) rmX0_countReached D cA (wsX0_countReached cA h_o h_p1 h_o_marks h_p1_halfWidths h_o_disc h_o_kept h_o_targets h_o_heights o_side o_cells o_discSize p1_radius p1_feed o_marks_n o_marks p1_halfWidths_n p1_halfWidths o_disc_n o_disc o_kept_n o_kept o_targets_n o_targets o_heights_n o_heights) [.ref h_o, .ref h_p1] res.1 (wsX0_countReached cA h_o h_p1 h_o_marks h_p1_halfWidths h_o_disc h_o_kept h_o_targets h_o_heights o_side o_cells res.2.1 p1_radius p1_feed o_marks_n res.2.2.1 p1_halfWidths_n p1_halfWidths o_disc_n res.2.2.2 o_kept_n o_kept o_targets_n o_targets o_heights_n o_heights) := by
  refine CtI.start (lv := [(0, .ref h_o), (1, .ref h_p1)]) (by decide) (Nat.le_of_ble_eq_true rfl) rfl (fun κ hE => ?_)
  rw [fX0_countReached] at hf0
  refine z_iconst (pc := 0) (v := 0) dX0_countReached_0 (by decide) ?_
  refine z_istore_n (pc := 1) (lv' := [(2, .int 0), (0, .ref h_o), (1, .ref h_p1)]) dX0_countReached_1 (by decide) rfl ?_
  obtain ⟨y2, hf0_2, hf0⟩ := bp hf0
  have lp2 : ∀ (n : Nat) (x2_2 : Int32) (o_marks_2 : Nat → Int32), LX0_countReached_2 o_cells o_marks_n n x2_2 o_marks_2 = some y2 → V κ false l D cA rmX0_countReached cX0_countReached 5 RX0 (some .int) 0 0 2 [(0, .ref h_o), (1, .ref h_p1), (2, .int x2_2)] [] (wsX0_countReached cA h_o h_p1 h_o_marks h_p1_halfWidths h_o_disc h_o_kept h_o_targets h_o_heights o_side o_cells o_discSize p1_radius p1_feed o_marks_n o_marks_2 p1_halfWidths_n p1_halfWidths o_disc_n o_disc o_kept_n o_kept o_targets_n o_targets o_heights_n o_heights) := by
    intro n
    induction n with
    | zero => intro x2_2 o_marks_2 hf0_2; rw [LX0_countReached_2] at hf0_2; cases hf0_2
    | succ n2 ih2 =>
      intro x2_2 o_marks_2 hf0_2
      rw [LX0_countReached_2] at hf0_2
      refine z_iload_n 2 (pc := 2) dX0_countReached_2 rfl ?_
      refine z_aload_n 0 (pc := 3) dX0_countReached_3 rfl ?_
      refine z_get 0 1 (pc := 4) (v := .int o_cells) rfl rfl inX0 (by decide) flX0_15 rfl dX0_countReached_4 ?_
      refine z_icmp_ge (pc := 7) (tgt := 23) dX0_countReached_7 (by decide) hf0_2 (fun hf0_2 => ?_) (fun hf0_2 => ?_)
      · obtain rfl := Option.some.inj hf0_2
        refine z_iconst (pc := 23) (v := 0) dX0_countReached_23 (by decide) ?_
        refine z_istore_n (pc := 24) (lv' := [(2, .int 0), (0, .ref h_o), (1, .ref h_p1)]) dX0_countReached_24 (by decide) rfl ?_
        refine z_iconst (pc := 25) (v := 0) dX0_countReached_25 (by decide) ?_
        refine z_istore_n (pc := 26) (lv' := [(3, .int 0), (2, .int 0), (0, .ref h_o), (1, .ref h_p1)]) dX0_countReached_26 (by decide) rfl ?_
        obtain ⟨y27, hf0_27, hf0⟩ := bp hf0
        have lp27 : ∀ (n : Nat) (x2_27 : Int32) (x3_27 : Int32) (o_disc_27 : Nat → Int32) (o_discSize_27 : Int32) (o_marks_27 : Nat → Int32), LX0_countReached_27 o_side N o_cells p1_radius p1_halfWidths_n p1_halfWidths o_disc_n o_kept_n o_kept o_targets_n o_targets o_marks_n o_heights_n o_heights n x2_27 x3_27 o_disc_27 o_discSize_27 o_marks_27 = some y27 → V κ false l D cA rmX0_countReached cX0_countReached 5 RX0 (some .int) 0 0 27 [(0, .ref h_o), (1, .ref h_p1), (2, .int x2_27), (3, .int x3_27)] [] (wsX0_countReached cA h_o h_p1 h_o_marks h_p1_halfWidths h_o_disc h_o_kept h_o_targets h_o_heights o_side o_cells o_discSize_27 p1_radius p1_feed o_marks_n o_marks_27 p1_halfWidths_n p1_halfWidths o_disc_n o_disc_27 o_kept_n o_kept o_targets_n o_targets o_heights_n o_heights) := by
          intro n
          induction n with
          | zero => intro x2_27 x3_27 o_disc_27 o_discSize_27 o_marks_27 hf0_27; rw [LX0_countReached_27] at hf0_27; cases hf0_27
          | succ n27 ih27 =>
            intro x2_27 x3_27 o_disc_27 o_discSize_27 o_marks_27 hf0_27
            rw [LX0_countReached_27] at hf0_27
            refine z_iload_n 3 (pc := 27) dX0_countReached_27 rfl ?_
            refine z_aload_n 0 (pc := 28) dX0_countReached_28 rfl ?_
            refine z_get 0 0 (pc := 29) (v := .int o_side) rfl rfl inX0 (by decide) flX0_9 rfl dX0_countReached_29 ?_
            refine z_icmp_ge (pc := 32) (tgt := 85) dX0_countReached_32 (by decide) hf0_27 (fun hf0_27 => ?_) (fun hf0_27 => ?_)
            · obtain rfl := Option.some.inj hf0_27
              refine z_iload_n 2 (pc := 85) dX0_countReached_85 rfl ?_
              obtain rfl := Option.some.inj hf0
              exact z_iret hE dX0_countReached_86
            · refine z_iconst (pc := 35) (v := 0) dX0_countReached_35 (by decide) ?_
              refine z_istore (pc := 36) (lv' := [(4, .int 0), (0, .ref h_o), (1, .ref h_p1), (2, .int x2_27), (3, .int x3_27)]) dX0_countReached_36 (by decide) rfl ?_
              obtain ⟨y38, hf0_27_38, hf0_27⟩ := bp hf0_27
              have lp38 : ∀ (n : Nat) (x2_38 : Int32) (x4_38 : Int32) (o_disc_38 : Nat → Int32) (o_discSize_38 : Int32) (o_marks_38 : Nat → Int32), LX0_countReached_38 o_side N x3_27 o_cells p1_radius p1_halfWidths_n p1_halfWidths o_disc_n o_kept_n o_kept o_targets_n o_targets o_marks_n o_heights_n o_heights n x2_38 x4_38 o_disc_38 o_discSize_38 o_marks_38 = some y38 → V κ false l D cA rmX0_countReached cX0_countReached 5 RX0 (some .int) 0 0 38 [(0, .ref h_o), (1, .ref h_p1), (3, .int x3_27), (2, .int x2_38), (4, .int x4_38)] [] (wsX0_countReached cA h_o h_p1 h_o_marks h_p1_halfWidths h_o_disc h_o_kept h_o_targets h_o_heights o_side o_cells o_discSize_38 p1_radius p1_feed o_marks_n o_marks_38 p1_halfWidths_n p1_halfWidths o_disc_n o_disc_38 o_kept_n o_kept o_targets_n o_targets o_heights_n o_heights) := by
                intro n
                induction n with
                | zero => intro x2_38 x4_38 o_disc_38 o_discSize_38 o_marks_38 hf0_27_38; rw [LX0_countReached_38] at hf0_27_38; cases hf0_27_38
                | succ n38 ih38 =>
                  intro x2_38 x4_38 o_disc_38 o_discSize_38 o_marks_38 hf0_27_38
                  rw [LX0_countReached_38] at hf0_27_38
                  refine z_iload 4 (pc := 38) dX0_countReached_38 rfl ?_
                  refine z_aload_n 0 (pc := 40) dX0_countReached_40 rfl ?_
                  refine z_get 0 0 (pc := 41) (v := .int o_side) rfl rfl inX0 (by decide) flX0_9 rfl dX0_countReached_41 ?_
                  refine z_icmp_ge (pc := 44) (tgt := 79) dX0_countReached_44 (by decide) hf0_27_38 (fun hf0_27_38 => ?_) (fun hf0_27_38 => ?_)
                  · obtain rfl := Option.some.inj hf0_27_38
                    refine z_iinc 2 (pc := 79) (v := x3_27 + 1) (lv' := [(3, .int (x3_27 + 1)), (0, .ref h_o), (1, .ref h_p1), (2, .int x2_38), (4, .int x4_38)]) dX0_countReached_79 rfl rfl (by decide) rfl ?_
                    refine z_goto (pc := 82) (tgt := 27) dX0_countReached_82 (by decide) ?_
                    exact z_lv [1, 2, 3, 0] rfl (ih27 x2_38 (x3_27 + 1) o_disc_38 o_discSize_38 o_marks_38 hf0_27)
                  · refine z_aload_n 0 (pc := 47) dX0_countReached_47 rfl ?_
                    refine z_aload_n 1 (pc := 48) dX0_countReached_48 rfl ?_
                    refine z_iload 4 (pc := 49) dX0_countReached_49 rfl ?_
                    refine z_iload_n 2 (pc := 51) dX0_countReached_51 rfl ?_
                    obtain ⟨r4, er4, hf0_27_38⟩ := bp hf0_27_38
                    refine z_callvV (pc := 52) (As := [.ref h_p1, .int x4_38, .int x3_27]) (rest := []) (ws' := (wsX0_countReached cA h_o h_p1 h_o_marks h_p1_halfWidths h_o_disc h_o_kept h_o_targets h_o_heights o_side o_cells r4.1 p1_radius p1_feed o_marks_n o_marks_38 p1_halfWidths_n p1_halfWidths o_disc_n r4.2 o_kept_n o_kept o_targets_n o_targets o_heights_n o_heights)) (kX0_layDisc l D cA h_o h_p1 h_p1_halfWidths h_o_disc o_side o_cells (.ref h_o_heights) (.ref h_o_targets) (.ref h_o_kept) (.ref h_o_marks) o_discSize_38 p1_radius p1_feed p1_halfWidths_n p1_halfWidths o_disc_n o_disc_38 x4_38 x3_27 N r4 er4) ivX0_66 ⟨rfl, rfl⟩ ⟨by decide, by decide⟩ rfl ⟨Nat.zero_le _, Nat.zero_le _⟩ rfl rfl [0, 1, 3, 4] rfl (by decide) rfl rfl rfl (Nat.le_of_ble_eq_true rfl) dX0_countReached_52 ?_
                    refine z_aload_n 0 (pc := 55) dX0_countReached_55 rfl ?_
                    obtain ⟨r5, er5, hf0_27_38⟩ := bp hf0_27_38
                    refine z_calliV (pc := 56) (As := []) (rest := []) (ws' := (wsX0_countReached cA h_o h_p1 h_o_marks h_p1_halfWidths h_o_disc h_o_kept h_o_targets h_o_heights o_side o_cells r4.1 p1_radius p1_feed o_marks_n o_marks_38 p1_halfWidths_n p1_halfWidths o_disc_n r4.2 o_kept_n o_kept o_targets_n o_targets o_heights_n o_heights)) (kX0_discHasKept l D cA h_o h_o_kept h_o_disc o_side o_cells (.ref h_o_heights) (.ref h_o_targets) (.ref h_o_marks) r4.1 o_kept_n o_kept o_disc_n r4.2  N r5 er5) ivX0_70 ⟨rfl, rfl⟩ ⟨by decide, by decide⟩ rfl ⟨Nat.zero_le _, Nat.zero_le _⟩ rfl rfl [0, 5, 4] rfl (by decide) rfl rfl rfl (Nat.le_of_ble_eq_true rfl) dX0_countReached_56 ?_
                    refine z_if_ne (pc := 59) (tgt := 73) dX0_countReached_59 (by decide) hf0_27_38 (fun hf0_27_38 => ?_) (fun hf0_27_38 => ?_)
                    · refine z_iinc 4 (pc := 73) (v := x4_38 + 1) (lv' := [(4, .int (x4_38 + 1)), (0, .ref h_o), (1, .ref h_p1), (3, .int x3_27), (2, .int x2_38)]) dX0_countReached_73 rfl rfl (by decide) rfl ?_
                      refine z_goto (pc := 76) (tgt := 38) dX0_countReached_76 (by decide) ?_
                      exact z_lv [1, 2, 3, 4, 0] rfl (ih38 x2_38 (x4_38 + 1) r4.2 r4.1 o_marks_38 hf0_27_38)
                    · refine z_iload_n 3 (pc := 62) dX0_countReached_62 rfl ?_
                      refine z_aload_n 0 (pc := 63) dX0_countReached_63 rfl ?_
                      refine z_aload_n 0 (pc := 64) dX0_countReached_64 rfl ?_
                      obtain ⟨r6, er6, hf0_27_38⟩ := bp hf0_27_38
                      refine z_calliV (pc := 65) (As := []) (rest := [.ref h_o, .int x2_38]) (ws' := (wsX0_countReached cA h_o h_p1 h_o_marks h_p1_halfWidths h_o_disc h_o_kept h_o_targets h_o_heights o_side o_cells r4.1 p1_radius p1_feed o_marks_n o_marks_38 p1_halfWidths_n p1_halfWidths o_disc_n r4.2 o_kept_n o_kept o_targets_n o_targets o_heights_n o_heights)) (kX0_highestTargetInDisc l D cA h_o h_o_targets h_o_disc o_side o_cells (.ref h_o_heights) (.ref h_o_kept) (.ref h_o_marks) r4.1 o_targets_n o_targets o_disc_n r4.2  N r6 er6) ivX0_74 ⟨rfl, rfl⟩ ⟨by decide, by decide⟩ rfl ⟨Nat.zero_le _, Nat.zero_le _⟩ rfl rfl [0, 6, 4] rfl (by decide) rfl rfl rfl (Nat.le_of_ble_eq_true rfl) dX0_countReached_65 ?_
                      obtain ⟨r7, er7, hf0_27_38⟩ := bp hf0_27_38
                      refine z_calliV (pc := 68) (As := [.int r6]) (rest := [.int x2_38]) (ws' := (wsX0_countReached cA h_o h_p1 h_o_marks h_p1_halfWidths h_o_disc h_o_kept h_o_targets h_o_heights o_side o_cells r4.1 p1_radius p1_feed o_marks_n r7.2 p1_halfWidths_n p1_halfWidths o_disc_n r4.2 o_kept_n o_kept o_targets_n o_targets o_heights_n o_heights)) (kX0_markReached l D cA h_o h_o_disc h_o_marks h_o_targets h_o_heights o_side o_cells (.ref h_o_kept) r4.1 o_disc_n r4.2 o_marks_n o_marks_38 o_targets_n o_targets o_heights_n o_heights r6 N r7 er7) ivX0_78 ⟨rfl, rfl⟩ ⟨by decide, by decide⟩ rfl ⟨Nat.zero_le _, Nat.zero_le _⟩ rfl rfl [0, 4, 2, 6, 7] rfl (by decide) rfl rfl rfl (Nat.le_of_ble_eq_true rfl) dX0_countReached_68 ?_
                      refine z_iadd (pc := 71) dX0_countReached_71 ?_
                      refine z_istore_n (pc := 72) (lv' := [(2, .int (x2_38 + r7.1)), (0, .ref h_o), (1, .ref h_p1), (3, .int x3_27), (4, .int x4_38)]) dX0_countReached_72 (by decide) rfl ?_
                      refine z_iinc 4 (pc := 73) (v := x4_38 + 1) (lv' := [(4, .int (x4_38 + 1)), (2, .int (x2_38 + r7.1)), (0, .ref h_o), (1, .ref h_p1), (3, .int x3_27)]) dX0_countReached_73 rfl rfl (by decide) rfl ?_
                      refine z_goto (pc := 76) (tgt := 38) dX0_countReached_76 (by decide) ?_
                      exact z_lv [2, 3, 4, 1, 0] rfl (ih38 (x2_38 + r7.1) (x4_38 + 1) r4.2 r4.1 r7.2 hf0_27_38)
              exact z_lv [1, 2, 4, 3, 0] rfl (lp38 N x2_27 0 o_disc_27 o_discSize_27 o_marks_27 hf0_27_38)
        exact z_lv [2, 3, 1, 0] rfl (lp27 N 0 0 o_disc o_discSize o_marks_2 hf0_27)
      · refine z_aload_n 0 (pc := 10) dX0_countReached_10 rfl ?_
        refine z_get 0 5 (pc := 11) (v := .ref h_o_marks) rfl rfl inX0 (by decide) flX0_29 rfl dX0_countReached_11 ?_
        refine z_iload_n 2 (pc := 14) dX0_countReached_14 rfl ?_
        refine z_iconst (pc := 15) (v := 0) dX0_countReached_15 (by decide) ?_
        refine z_zastore 2 1 (pc := 16) (ws' := (wsX0_countReached cA h_o h_p1 h_o_marks h_p1_halfWidths h_o_disc h_o_kept h_o_targets h_o_heights o_side o_cells o_discSize p1_radius p1_feed o_marks_n (upd o_marks_2 x2_2.toNatClampNeg (vp_nar .boolean 0)) p1_halfWidths_n p1_halfWidths o_disc_n o_disc o_kept_n o_kept o_targets_n o_targets o_heights_n o_heights)) rfl rfl dX0_countReached_16 rfl hf0_2 (fun hf0_2 => ?_)
        refine z_iinc 2 (pc := 17) (v := x2_2 + 1) (lv' := [(2, .int (x2_2 + 1)), (0, .ref h_o), (1, .ref h_p1)]) dX0_countReached_17 rfl rfl (by decide) rfl ?_
        refine z_goto (pc := 20) (tgt := 2) dX0_countReached_20 (by decide) ?_
        exact z_lv [1, 2, 0] rfl (ih2 (x2_2 + 1) (upd o_marks_2 x2_2.toNatClampNeg (vp_nar .boolean 0)) hf0_2)
  exact z_lv [1, 2, 0] rfl (lp2 N 0 o_marks hf0_2)

abbrev RX5_halfWidthAt : Type := Int32
abbrev rmX5_halfWidthAt : Room := { frames := 0, cells := 0, slots := 0, locals := 0 }
abbrev wsX5_halfWidthAt (cA : Nat → ClassId)   : va_W := []
def LX5_halfWidthAt_4 (a1 : Int32) (a0 : Int32) : Nat → Int32 → Int32 → Option (Int32 × Int32)
  | 0, _, _ => none
  | n + 1, x2_4, x3_4 => (if a1 < x3_4 then some (x2_4, x3_4) else (if (a1 * a1) < ((x3_4 * x3_4) + (a0 * a0)) then LX5_halfWidthAt_4 a1 a0 n x2_4 (x3_4 + 1) else LX5_halfWidthAt_4 a1 a0 n x3_4 (x3_4 + 1)))
def fX5_halfWidthAt (N : Nat) (a0 : Int32) (a1 : Int32)  : Option RX5_halfWidthAt :=
  ((LX5_halfWidthAt_4 a1 a0 N 0 1).bind fun r1 => some r1.1)
set_option maxHeartbeats 4000000 in
set_option maxRecDepth 100000 in
theorem kX5_halfWidthAt (l : Launch) (D : va_G) (cA : Nat → ClassId)   (a0 : Int32) (a1 : Int32) (N : Nat) (res : RX5_halfWidthAt) (hf0 : fX5_halfWidthAt N a0 a1 = some res) : CtI l yX5_halfWidthAt (Cond.code yX5_halfWidthAt cX5_halfWidthAt 4 (some .int) :: tblG) rmX5_halfWidthAt D cA (wsX5_halfWidthAt cA ) [.int a0, .int a1] res (wsX5_halfWidthAt cA ) := by
  refine CtI.start (lv := [(0, .int a0), (1, .int a1)]) (by decide) (Nat.le_of_ble_eq_true rfl) rfl (fun κ hE => ?_)
  rw [fX5_halfWidthAt] at hf0
  refine z_iconst (pc := 0) (v := 0) dX5_halfWidthAt_0 (by decide) ?_
  refine z_istore_n (pc := 1) (lv' := [(2, .int 0), (0, .int a0), (1, .int a1)]) dX5_halfWidthAt_1 (by decide) rfl ?_
  refine z_iconst (pc := 2) (v := 1) dX5_halfWidthAt_2 (by decide) ?_
  refine z_istore_n (pc := 3) (lv' := [(3, .int 1), (2, .int 0), (0, .int a0), (1, .int a1)]) dX5_halfWidthAt_3 (by decide) rfl ?_
  obtain ⟨y4, hf0_4, hf0⟩ := bp hf0
  have lp4 : ∀ (n : Nat) (x2_4 : Int32) (x3_4 : Int32), LX5_halfWidthAt_4 a1 a0 n x2_4 x3_4 = some y4 → V κ false l D cA rmX5_halfWidthAt cX5_halfWidthAt 4 RX5 (some .int) 0 0 4 [(0, .int a0), (1, .int a1), (2, .int x2_4), (3, .int x3_4)] [] (wsX5_halfWidthAt cA ) := by
    intro n
    induction n with
    | zero => intro x2_4 x3_4 hf0_4; rw [LX5_halfWidthAt_4] at hf0_4; cases hf0_4
    | succ n4 ih4 =>
      intro x2_4 x3_4 hf0_4
      rw [LX5_halfWidthAt_4] at hf0_4
      refine z_iload_n 3 (pc := 4) dX5_halfWidthAt_4 rfl ?_
      refine z_iload_n 1 (pc := 5) dX5_halfWidthAt_5 rfl ?_
      refine z_icmp_gt (pc := 6) (tgt := 30) dX5_halfWidthAt_6 (by decide) hf0_4 (fun hf0_4 => ?_) (fun hf0_4 => ?_)
      · obtain rfl := Option.some.inj hf0_4
        refine z_iload_n 2 (pc := 30) dX5_halfWidthAt_30 rfl ?_
        obtain rfl := Option.some.inj hf0
        exact z_iret hE dX5_halfWidthAt_31
      · refine z_iload_n 3 (pc := 9) dX5_halfWidthAt_9 rfl ?_
        refine z_iload_n 3 (pc := 10) dX5_halfWidthAt_10 rfl ?_
        refine z_imul (pc := 11) dX5_halfWidthAt_11 ?_
        refine z_iload_n 0 (pc := 12) dX5_halfWidthAt_12 rfl ?_
        refine z_iload_n 0 (pc := 13) dX5_halfWidthAt_13 rfl ?_
        refine z_imul (pc := 14) dX5_halfWidthAt_14 ?_
        refine z_iadd (pc := 15) dX5_halfWidthAt_15 ?_
        refine z_iload_n 1 (pc := 16) dX5_halfWidthAt_16 rfl ?_
        refine z_iload_n 1 (pc := 17) dX5_halfWidthAt_17 rfl ?_
        refine z_imul (pc := 18) dX5_halfWidthAt_18 ?_
        refine z_icmp_gt (pc := 19) (tgt := 24) dX5_halfWidthAt_19 (by decide) hf0_4 (fun hf0_4 => ?_) (fun hf0_4 => ?_)
        · refine z_iinc 3 (pc := 24) (v := x3_4 + 1) (lv' := [(3, .int (x3_4 + 1)), (0, .int a0), (1, .int a1), (2, .int x2_4)]) dX5_halfWidthAt_24 rfl rfl (by decide) rfl ?_
          refine z_goto (pc := 27) (tgt := 4) dX5_halfWidthAt_27 (by decide) ?_
          exact z_lv [1, 2, 3, 0] rfl (ih4 x2_4 (x3_4 + 1) hf0_4)
        · refine z_iload_n 3 (pc := 22) dX5_halfWidthAt_22 rfl ?_
          refine z_istore_n (pc := 23) (lv' := [(2, .int x3_4), (0, .int a0), (1, .int a1), (3, .int x3_4)]) dX5_halfWidthAt_23 (by decide) rfl ?_
          refine z_iinc 3 (pc := 24) (v := x3_4 + 1) (lv' := [(3, .int (x3_4 + 1)), (2, .int x3_4), (0, .int a0), (1, .int a1)]) dX5_halfWidthAt_24 rfl rfl (by decide) rfl ?_
          refine z_goto (pc := 27) (tgt := 4) dX5_halfWidthAt_27 (by decide) ?_
          exact z_lv [2, 3, 1, 0] rfl (ih4 x3_4 (x3_4 + 1) hf0_4)
  exact z_lv [2, 3, 1, 0] rfl (lp4 N 0 1 hf0_4)

abbrev RX5_become : Type := Int32 × Int32 × (Nat → Int32)
abbrev rmX5_become : Room := { frames := 1, cells := 0, slots := 0, locals := 23 }
abbrev wsX5_become (cA : Nat → ClassId) (h_o : Nat) (h_o_halfWidths : Nat) (o_radius : Int32) (o_feed : Int32) (o_halfWidths_n : Nat) (o_halfWidths : Nat → Int32) : va_W := [(h_o, .inr (5, [.int o_radius, .int o_feed, .ref h_o_halfWidths])), (h_o_halfWidths, .inl (cA 0, o_halfWidths_n, .inl o_halfWidths))]
def LX5_become_12 (N : Nat) (a1 : Int32) (o_halfWidths_n : Nat) : Nat → Int32 → (Nat → Int32) → Option (Int32 × (Nat → Int32))
  | 0, _, _ => none
  | n + 1, x3_12, o_halfWidths_12 => (if 6 < x3_12 then some (x3_12, o_halfWidths_12) else ((fX5_halfWidthAt N x3_12 a1).bind fun r2 => (if x3_12 < 0 ∨ o_halfWidths_n ≤ x3_12.toNatClampNeg then none else LX5_become_12 N a1 o_halfWidths_n n (x3_12 + 1) (upd o_halfWidths_12 x3_12.toNatClampNeg r2))))
def fX5_become (N : Nat) (a1 : Int32) (a2 : Int32) (o_radius : Int32) (o_feed : Int32) (o_halfWidths_n : Nat) (o_halfWidths : Nat → Int32) : Option RX5_become :=
  ((LX5_become_12 N a1 o_halfWidths_n N 0 o_halfWidths).bind fun r1 => some (a1, a2, r1.2))
set_option maxHeartbeats 4000000 in
set_option maxRecDepth 100000 in
theorem kX5_become (l : Launch) (D : va_G) (cA : Nat → ClassId) (h_o : Nat) (h_o_halfWidths : Nat) (o_radius : Int32) (o_feed : Int32) (o_halfWidths_n : Nat) (o_halfWidths : Nat → Int32) (a1 : Int32) (a2 : Int32) (N : Nat) (res : RX5_become) (hf0 : fX5_become N a1 a2 o_radius o_feed o_halfWidths_n o_halfWidths = some res) : CtV l yX5_become (Cond.code yX5_become cX5_become 4 (none) :: tblG) rmX5_become D cA (wsX5_become cA h_o h_o_halfWidths o_radius o_feed o_halfWidths_n o_halfWidths) [.ref h_o, .int a1, .int a2] (wsX5_become cA h_o h_o_halfWidths res.1 res.2.1 o_halfWidths_n res.2.2) := by
  refine CtV.start (lv := [(0, .ref h_o), (1, .int a1), (2, .int a2)]) (by decide) (Nat.le_of_ble_eq_true rfl) rfl (fun κ hE => ?_)
  rw [fX5_become] at hf0
  refine z_aload_n 0 (pc := 0) dX5_become_0 rfl ?_
  refine z_iload_n 1 (pc := 1) dX5_become_1 rfl ?_
  refine z_put 0 0 (pc := 2) (ws' := (wsX5_become cA h_o h_o_halfWidths a1 o_feed o_halfWidths_n o_halfWidths)) rfl rfl inX5 tyX5 tyX5_ok nmX5 (by decide) flX5_9 rfl rfl rfl rfl (Nat.le_of_ble_eq_true rfl) dX5_become_2 rfl ?_
  refine z_aload_n 0 (pc := 5) dX5_become_5 rfl ?_
  refine z_iload_n 2 (pc := 6) dX5_become_6 rfl ?_
  refine z_put 0 1 (pc := 7) (ws' := (wsX5_become cA h_o h_o_halfWidths a1 a2 o_halfWidths_n o_halfWidths)) rfl rfl inX5 tyX5 tyX5_ok nmX5 (by decide) flX5_15 rfl rfl rfl rfl (Nat.le_of_ble_eq_true rfl) dX5_become_7 rfl ?_
  refine z_iconst (pc := 10) (v := 0) dX5_become_10 (by decide) ?_
  refine z_istore_n (pc := 11) (lv' := [(3, .int 0), (0, .ref h_o), (1, .int a1), (2, .int a2)]) dX5_become_11 (by decide) rfl ?_
  obtain ⟨y12, hf0_12, hf0⟩ := bp hf0
  have lp12 : ∀ (n : Nat) (x3_12 : Int32) (o_halfWidths_12 : Nat → Int32), LX5_become_12 N a1 o_halfWidths_n n x3_12 o_halfWidths_12 = some y12 → V κ false l D cA rmX5_become cX5_become 4 RX5 (none) 0 0 12 [(0, .ref h_o), (1, .int a1), (2, .int a2), (3, .int x3_12)] [] (wsX5_become cA h_o h_o_halfWidths a1 a2 o_halfWidths_n o_halfWidths_12) := by
    intro n
    induction n with
    | zero => intro x3_12 o_halfWidths_12 hf0_12; rw [LX5_become_12] at hf0_12; cases hf0_12
    | succ n12 ih12 =>
      intro x3_12 o_halfWidths_12 hf0_12
      rw [LX5_become_12] at hf0_12
      refine z_iload_n 3 (pc := 12) dX5_become_12 rfl ?_
      refine z_bipush (pc := 13) (v := 6) dX5_become_13 (by decide) ?_
      refine z_icmp_gt (pc := 15) (tgt := 35) dX5_become_15 (by decide) hf0_12 (fun hf0_12 => ?_) (fun hf0_12 => ?_)
      · obtain rfl := Option.some.inj hf0_12
        obtain rfl := Option.some.inj hf0
        exact z_vret hE dX5_become_35
      · refine z_aload_n 0 (pc := 18) dX5_become_18 rfl ?_
        refine z_get 0 2 (pc := 19) (v := .ref h_o_halfWidths) rfl rfl inX5 (by decide) flX5_18 rfl dX5_become_19 ?_
        refine z_iload_n 3 (pc := 22) dX5_become_22 rfl ?_
        refine z_iload_n 3 (pc := 23) dX5_become_23 rfl ?_
        refine z_iload_n 1 (pc := 24) dX5_become_24 rfl ?_
        obtain ⟨r2, er2, hf0_12⟩ := bp hf0_12
        refine z_calliS (pc := 25) (As := [.int x3_12, .int a1]) (rest := [.int x3_12, .ref h_o_halfWidths]) (ws' := (wsX5_become cA h_o h_o_halfWidths a1 a2 o_halfWidths_n o_halfWidths_12)) (kX5_halfWidthAt l D cA   x3_12 a1 N r2 er2) ivX5_22 ⟨rfl, rfl⟩ ⟨by decide, by decide⟩ rfl ⟨Nat.zero_le _, Nat.zero_le _⟩ [] rfl (by decide) rfl rfl rfl (Nat.le_of_ble_eq_true rfl) dX5_become_25 ?_
        refine z_iastore 1 0 (pc := 28) (ws' := (wsX5_become cA h_o h_o_halfWidths a1 a2 o_halfWidths_n (upd o_halfWidths_12 x3_12.toNatClampNeg r2))) rfl rfl dX5_become_28 rfl hf0_12 (fun hf0_12 => ?_)
        refine z_iinc 3 (pc := 29) (v := x3_12 + 1) (lv' := [(3, .int (x3_12 + 1)), (0, .ref h_o), (1, .int a1), (2, .int a2)]) dX5_become_29 rfl rfl (by decide) rfl ?_
        refine z_goto (pc := 32) (tgt := 12) dX5_become_32 (by decide) ?_
        exact z_lv [1, 2, 3, 0] rfl (ih12 (x3_12 + 1) (upd o_halfWidths_12 x3_12.toNatClampNeg r2) hf0_12)
  exact z_lv [1, 2, 3, 0] rfl (lp12 N 0 o_halfWidths hf0_12)
