abbrev RX4_append : Type := Int32 × Int32 × (Nat → Int32)
abbrev rmX4_append : Room := { frames := 0, cells := 0, slots := 0, locals := 0 }
abbrev wsX4_append (cA : Nat → ClassId) (h_o : Nat) (h_o_text : Nat) (o_side : Int32) (o_length : Int32) (o_place : Int32) (o_text_n : Nat) (o_text : Nat → Int32) : va_W := [(h_o, .inr (4, [.int o_side, .ref h_o_text, .int o_length, .int o_place])), (h_o_text, .inl (cA 0, o_text_n, .inl o_text))]
def fX4_append (N : Nat) (a1 : Int32) (o_length : Int32) (o_text_n : Nat) (o_text : Nat → Int32) : Option RX4_append :=
  (if 240 ≤ o_length then some (0, o_length, o_text) else (if a1 < 32 then some (0, o_length, o_text) else (if a1 ≤ 126 then (if o_length < 0 ∨ o_text_n ≤ o_length.toNatClampNeg then none else some (1, o_length + 1, upd o_text o_length.toNatClampNeg a1)) else some (0, o_length, o_text))))
set_option maxHeartbeats 4000000 in
set_option maxRecDepth 100000 in
theorem kX4_append (l : Launch) (D : va_G) (cA : Nat → ClassId) (h_o : Nat) (h_o_text : Nat) (o_side : Int32) (o_length : Int32) (o_place : Int32) (o_text_n : Nat) (o_text : Nat → Int32) (a1 : Int32) (N : Nat) (res : RX4_append) (hf0 : fX4_append N a1 o_length o_text_n o_text = some res) : CtI l yX4_append (Cond.code yX4_append cX4_append 2 (some .boolean) :: tblG) rmX4_append D cA (wsX4_append cA h_o h_o_text o_side o_length o_place o_text_n o_text) [.ref h_o, .int a1] res.1 (wsX4_append cA h_o h_o_text o_side res.2.1 o_place o_text_n res.2.2) := by
  refine CtI.start (lv := [(0, .ref h_o), (1, .int a1)]) (by decide) (Nat.le_of_ble_eq_true rfl) rfl (fun κ hE => ?_)
  rw [fX4_append] at hf0
  refine z_aload_n 0 (pc := 0) dX4_append_0 rfl ?_
  refine z_get 0 2 (pc := 1) (v := .int o_length) rfl rfl inX4 (by decide) flX4_19 rfl dX4_append_1 ?_
  refine z_sipush (pc := 4) (v := 240) dX4_append_4 (by decide) ?_
  refine z_icmp_ge (pc := 7) (tgt := 22) dX4_append_7 (by decide) hf0 (fun hf0 => ?_) (fun hf0 => ?_)
  · refine z_iconst (pc := 22) (v := 0) dX4_append_22 (by decide) ?_
    obtain rfl := Option.some.inj hf0
    exact z_zretL (by decide) hE dX4_append_23
  · refine z_iload_n 1 (pc := 10) dX4_append_10 rfl ?_
    refine z_bipush (pc := 11) (v := 32) dX4_append_11 (by decide) ?_
    refine z_icmp_lt (pc := 13) (tgt := 22) dX4_append_13 (by decide) hf0 (fun hf0 => ?_) (fun hf0 => ?_)
    · refine z_iconst (pc := 22) (v := 0) dX4_append_22 (by decide) ?_
      obtain rfl := Option.some.inj hf0
      exact z_zretL (by decide) hE dX4_append_23
    · refine z_iload_n 1 (pc := 16) dX4_append_16 rfl ?_
      refine z_bipush (pc := 17) (v := 126) dX4_append_17 (by decide) ?_
      refine z_icmp_le (pc := 19) (tgt := 24) dX4_append_19 (by decide) hf0 (fun hf0 => ?_) (fun hf0 => ?_)
      · refine z_aload_n 0 (pc := 24) dX4_append_24 rfl ?_
        refine z_get 0 1 (pc := 25) (v := .ref h_o_text) rfl rfl inX4 (by decide) flX4_15 rfl dX4_append_25 ?_
        refine z_aload_n 0 (pc := 28) dX4_append_28 rfl ?_
        refine z_get 0 2 (pc := 29) (v := .int o_length) rfl rfl inX4 (by decide) flX4_19 rfl dX4_append_29 ?_
        refine z_iload_n 1 (pc := 32) dX4_append_32 rfl ?_
        refine z_iastore 1 0 (pc := 33) (ws' := (wsX4_append cA h_o h_o_text o_side o_length o_place o_text_n (upd o_text o_length.toNatClampNeg a1))) rfl rfl dX4_append_33 rfl hf0 (fun hf0 => ?_)
        refine z_aload_n 0 (pc := 34) dX4_append_34 rfl ?_
        refine z_dup (pc := 35) dX4_append_35 rfl ?_
        refine z_get 0 2 (pc := 36) (v := .int o_length) rfl rfl inX4 (by decide) flX4_19 rfl dX4_append_36 ?_
        refine z_iconst (pc := 39) (v := 1) dX4_append_39 (by decide) ?_
        refine z_iadd (pc := 40) dX4_append_40 ?_
        refine z_put 0 2 (pc := 41) (ws' := (wsX4_append cA h_o h_o_text o_side (o_length + 1) o_place o_text_n (upd o_text o_length.toNatClampNeg a1))) rfl rfl inX4 tyX4 tyX4_ok nmX4 (by decide) flX4_19 rfl rfl rfl rfl (Nat.le_of_ble_eq_true rfl) dX4_append_41 rfl ?_
        refine z_iconst (pc := 44) (v := 1) dX4_append_44 (by decide) ?_
        obtain rfl := Option.some.inj hf0
        exact z_zretL (by decide) hE dX4_append_45
      · refine z_iconst (pc := 22) (v := 0) dX4_append_22 (by decide) ?_
        obtain rfl := Option.some.inj hf0
        exact z_zretL (by decide) hE dX4_append_23

abbrev RX4_here : Type := Int32
abbrev rmX4_here : Room := { frames := 0, cells := 0, slots := 0, locals := 0 }
abbrev wsX4_here (cA : Nat → ClassId) (h_o : Nat) (h_o_text : Nat) (o_side : Int32) (o_length : Int32) (o_place : Int32) (o_text_n : Nat) (o_text : Nat → Int32) : va_W := [(h_o, .inr (4, [.int o_side, .ref h_o_text, .int o_length, .int o_place])), (h_o_text, .inl (cA 0, o_text_n, .inl o_text))]
def fX4_here (N : Nat)  (o_length : Int32) (o_place : Int32) (o_text_n : Nat) (o_text : Nat → Int32) : Option RX4_here :=
  (if o_place < 0 then some (-1) else (if o_length ≤ o_place then some (-1) else (if o_place < 0 ∨ o_text_n ≤ o_place.toNatClampNeg then none else some (o_text o_place.toNatClampNeg))))
set_option maxHeartbeats 4000000 in
set_option maxRecDepth 100000 in
theorem kX4_here (l : Launch) (D : va_G) (cA : Nat → ClassId) (h_o : Nat) (h_o_text : Nat) (o_side : Int32) (o_length : Int32) (o_place : Int32) (o_text_n : Nat) (o_text : Nat → Int32)  (N : Nat) (res : RX4_here) (hf0 : fX4_here N o_length o_place o_text_n o_text = some res) : CtI l yX4_here (Cond.code yX4_here cX4_here 1 (some .int) :: tblG) rmX4_here D cA (wsX4_here cA h_o h_o_text o_side o_length o_place o_text_n o_text) [.ref h_o] res (wsX4_here cA h_o h_o_text o_side o_length o_place o_text_n o_text) := by
  refine CtI.start (lv := [(0, .ref h_o)]) (by decide) (Nat.le_of_ble_eq_true rfl) rfl (fun κ hE => ?_)
  rw [fX4_here] at hf0
  refine z_aload_n 0 (pc := 0) dX4_here_0 rfl ?_
  refine z_get 0 3 (pc := 1) (v := .int o_place) rfl rfl inX4 (by decide) flX4_22 rfl dX4_here_1 ?_
  refine z_if_lt (pc := 4) (tgt := 30) dX4_here_4 (by decide) hf0 (fun hf0 => ?_) (fun hf0 => ?_)
  · refine z_iconst (pc := 30) (v := (-1)) dX4_here_30 (by decide) ?_
    obtain rfl := Option.some.inj hf0
    exact z_iret hE dX4_here_31
  · refine z_aload_n 0 (pc := 7) dX4_here_7 rfl ?_
    refine z_get 0 3 (pc := 8) (v := .int o_place) rfl rfl inX4 (by decide) flX4_22 rfl dX4_here_8 ?_
    refine z_aload_n 0 (pc := 11) dX4_here_11 rfl ?_
    refine z_get 0 2 (pc := 12) (v := .int o_length) rfl rfl inX4 (by decide) flX4_19 rfl dX4_here_12 ?_
    refine z_icmp_ge (pc := 15) (tgt := 30) dX4_here_15 (by decide) hf0 (fun hf0 => ?_) (fun hf0 => ?_)
    · refine z_iconst (pc := 30) (v := (-1)) dX4_here_30 (by decide) ?_
      obtain rfl := Option.some.inj hf0
      exact z_iret hE dX4_here_31
    · refine z_aload_n 0 (pc := 18) dX4_here_18 rfl ?_
      refine z_get 0 1 (pc := 19) (v := .ref h_o_text) rfl rfl inX4 (by decide) flX4_15 rfl dX4_here_19 ?_
      refine z_aload_n 0 (pc := 22) dX4_here_22 rfl ?_
      refine z_get 0 3 (pc := 23) (v := .int o_place) rfl rfl inX4 (by decide) flX4_22 rfl dX4_here_23 ?_
      refine z_iaload 1 0 (pc := 26) rfl rfl dX4_here_26 hf0 (fun hf0 => ?_)
      refine z_goto (pc := 27) (tgt := 31) dX4_here_27 (by decide) ?_
      obtain rfl := Option.some.inj hf0
      exact z_iret hE dX4_here_31

abbrev RX4_skipSpaces : Type := Int32
abbrev rmX4_skipSpaces : Room := { frames := 1, cells := 0, slots := 0, locals := 20 }
abbrev wsX4_skipSpaces (cA : Nat → ClassId) (h_o : Nat) (h_o_text : Nat) (o_side : Int32) (o_length : Int32) (o_place : Int32) (o_text_n : Nat) (o_text : Nat → Int32) : va_W := [(h_o, .inr (4, [.int o_side, .ref h_o_text, .int o_length, .int o_place])), (h_o_text, .inl (cA 0, o_text_n, .inl o_text))]
def LX4_skipSpaces_0 (o_length : Int32) (N : Nat) (o_text_n : Nat) (o_text : Nat → Int32) : Nat → Int32 → Option (Int32)
  | 0, _ => none
  | n + 1, o_place_0 => (if o_length ≤ o_place_0 then some o_place_0 else ((fX4_here N o_length o_place_0 o_text_n o_text).bind fun r2 => (if r2 = 32 then LX4_skipSpaces_0 o_length N o_text_n o_text n (o_place_0 + 1) else some o_place_0)))
def fX4_skipSpaces (N : Nat)  (o_length : Int32) (o_place : Int32) (o_text_n : Nat) (o_text : Nat → Int32) : Option RX4_skipSpaces :=
  ((LX4_skipSpaces_0 o_length N o_text_n o_text N o_place).bind fun r1 => some r1)
set_option maxHeartbeats 4000000 in
set_option maxRecDepth 100000 in
theorem kX4_skipSpaces (l : Launch) (D : va_G) (cA : Nat → ClassId) (h_o : Nat) (h_o_text : Nat) (o_side : Int32) (o_length : Int32) (o_place : Int32) (o_text_n : Nat) (o_text : Nat → Int32)  (N : Nat) (res : RX4_skipSpaces) (hf0 : fX4_skipSpaces N o_length o_place o_text_n o_text = some res) : CtV l yX4_skipSpaces (Cond.code yX4_skipSpaces cX4_skipSpaces 1 (none) :: tblG) rmX4_skipSpaces D cA (wsX4_skipSpaces cA h_o h_o_text o_side o_length o_place o_text_n o_text) [.ref h_o] (wsX4_skipSpaces cA h_o h_o_text o_side o_length res o_text_n o_text) := by
  refine CtV.start (lv := [(0, .ref h_o)]) (by decide) (Nat.le_of_ble_eq_true rfl) rfl (fun κ hE => ?_)
  rw [fX4_skipSpaces] at hf0
  obtain ⟨y0, hf0_0, hf0⟩ := bp hf0
  have lp0 : ∀ (n : Nat) (o_place_0 : Int32), LX4_skipSpaces_0 o_length N o_text_n o_text n o_place_0 = some y0 → V κ false l D cA rmX4_skipSpaces cX4_skipSpaces 1 RX4 (none) 0 0 0 [(0, .ref h_o)] [] (wsX4_skipSpaces cA h_o h_o_text o_side o_length o_place_0 o_text_n o_text) := by
    intro n
    induction n with
    | zero => intro o_place_0 hf0_0; rw [LX4_skipSpaces_0] at hf0_0; cases hf0_0
    | succ n0 ih0 =>
      intro o_place_0 hf0_0
      rw [LX4_skipSpaces_0] at hf0_0
      refine z_aload_n 0 (pc := 0) dX4_skipSpaces_0 rfl ?_
      refine z_get 0 3 (pc := 1) (v := .int o_place_0) rfl rfl inX4 (by decide) flX4_22 rfl dX4_skipSpaces_1 ?_
      refine z_aload_n 0 (pc := 4) dX4_skipSpaces_4 rfl ?_
      refine z_get 0 2 (pc := 5) (v := .int o_length) rfl rfl inX4 (by decide) flX4_19 rfl dX4_skipSpaces_5 ?_
      refine z_icmp_ge (pc := 8) (tgt := 33) dX4_skipSpaces_8 (by decide) hf0_0 (fun hf0_0 => ?_) (fun hf0_0 => ?_)
      · obtain rfl := Option.some.inj hf0_0
        obtain rfl := Option.some.inj hf0
        exact z_vret hE dX4_skipSpaces_33
      · refine z_aload_n 0 (pc := 11) dX4_skipSpaces_11 rfl ?_
        obtain ⟨r2, er2, hf0_0⟩ := bp hf0_0
        refine z_calliV (pc := 12) (As := []) (rest := []) (ws' := (wsX4_skipSpaces cA h_o h_o_text o_side o_length o_place_0 o_text_n o_text)) (kX4_here l D cA h_o h_o_text o_side o_length o_place_0 o_text_n o_text  N r2 er2) ivX4_40 ⟨rfl, rfl⟩ ⟨by decide, by decide⟩ rfl ⟨Nat.zero_le _, Nat.zero_le _⟩ rfl rfl [0, 1] rfl (by decide) rfl rfl rfl (Nat.le_of_ble_eq_true rfl) dX4_skipSpaces_12 ?_
        refine z_bipush (pc := 15) (v := 32) dX4_skipSpaces_15 (by decide) ?_
        refine z_icmp_ne (pc := 17) (tgt := 33) dX4_skipSpaces_17 (by decide) hf0_0 (fun hf0_0 => ?_) (fun hf0_0 => ?_)
        · obtain rfl := Option.some.inj hf0_0
          obtain rfl := Option.some.inj hf0
          exact z_vret hE dX4_skipSpaces_33
        · refine z_aload_n 0 (pc := 20) dX4_skipSpaces_20 rfl ?_
          refine z_dup (pc := 21) dX4_skipSpaces_21 rfl ?_
          refine z_get 0 3 (pc := 22) (v := .int o_place_0) rfl rfl inX4 (by decide) flX4_22 rfl dX4_skipSpaces_22 ?_
          refine z_iconst (pc := 25) (v := 1) dX4_skipSpaces_25 (by decide) ?_
          refine z_iadd (pc := 26) dX4_skipSpaces_26 ?_
          refine z_put 0 3 (pc := 27) (ws' := (wsX4_skipSpaces cA h_o h_o_text o_side o_length (o_place_0 + 1) o_text_n o_text)) rfl rfl inX4 tyX4 tyX4_ok nmX4 (by decide) flX4_22 rfl rfl rfl rfl (Nat.le_of_ble_eq_true rfl) dX4_skipSpaces_27 rfl ?_
          refine z_goto (pc := 30) (tgt := 0) dX4_skipSpaces_30 (by decide) ?_
          exact z_lv [0] rfl (ih0 (o_place_0 + 1) hf0_0)
  exact z_lv [0] rfl (lp0 N o_place hf0_0)

abbrev RX4_takeDigit : Type := Int32 × Int32
abbrev rmX4_takeDigit : Room := { frames := 1, cells := 0, slots := 0, locals := 20 }
abbrev wsX4_takeDigit (cA : Nat → ClassId) (h_o : Nat) (h_o_text : Nat) (o_side : Int32) (o_length : Int32) (o_place : Int32) (o_text_n : Nat) (o_text : Nat → Int32) : va_W := [(h_o, .inr (4, [.int o_side, .ref h_o_text, .int o_length, .int o_place])), (h_o_text, .inl (cA 0, o_text_n, .inl o_text))]
def fX4_takeDigit (N : Nat) (a1 : Int32) (o_length : Int32) (o_place : Int32) (o_text_n : Nat) (o_text : Nat → Int32) : Option RX4_takeDigit :=
  ((fX4_here N o_length o_place o_text_n o_text).bind fun r1 => (if (r1 - 48) < 0 then some ((-2), o_place) else (if (r1 - 48) ≤ a1 then some (r1 - 48, o_place + 1) else some ((-2), o_place))))
set_option maxHeartbeats 4000000 in
set_option maxRecDepth 100000 in
theorem kX4_takeDigit (l : Launch) (D : va_G) (cA : Nat → ClassId) (h_o : Nat) (h_o_text : Nat) (o_side : Int32) (o_length : Int32) (o_place : Int32) (o_text_n : Nat) (o_text : Nat → Int32) (a1 : Int32) (N : Nat) (res : RX4_takeDigit) (hf0 : fX4_takeDigit N a1 o_length o_place o_text_n o_text = some res) : CtI l yX4_takeDigit (Cond.code yX4_takeDigit cX4_takeDigit 3 (some .int) :: tblG) rmX4_takeDigit D cA (wsX4_takeDigit cA h_o h_o_text o_side o_length o_place o_text_n o_text) [.ref h_o, .int a1] res.1 (wsX4_takeDigit cA h_o h_o_text o_side o_length res.2 o_text_n o_text) := by
  refine CtI.start (lv := [(0, .ref h_o), (1, .int a1)]) (by decide) (Nat.le_of_ble_eq_true rfl) rfl (fun κ hE => ?_)
  rw [fX4_takeDigit] at hf0
  refine z_aload_n 0 (pc := 0) dX4_takeDigit_0 rfl ?_
  obtain ⟨r1, er1, hf0⟩ := bp hf0
  refine z_calliV (pc := 1) (As := []) (rest := []) (ws' := (wsX4_takeDigit cA h_o h_o_text o_side o_length o_place o_text_n o_text)) (kX4_here l D cA h_o h_o_text o_side o_length o_place o_text_n o_text  N r1 er1) ivX4_40 ⟨rfl, rfl⟩ ⟨by decide, by decide⟩ rfl ⟨Nat.zero_le _, Nat.zero_le _⟩ rfl rfl [0, 1] rfl (by decide) rfl rfl rfl (Nat.le_of_ble_eq_true rfl) dX4_takeDigit_1 ?_
  refine z_bipush (pc := 4) (v := 48) dX4_takeDigit_4 (by decide) ?_
  refine z_isub (pc := 6) dX4_takeDigit_6 ?_
  refine z_istore_n (pc := 7) (lv' := [(2, .int (r1 - 48)), (0, .ref h_o), (1, .int a1)]) dX4_takeDigit_7 (by decide) rfl ?_
  refine z_iload_n 0 (pc := 8) dX4_takeDigit_8 rfl ?_
  refine z_if_lt (pc := 9) (tgt := 17) dX4_takeDigit_9 (by decide) hf0 (fun hf0 => ?_) (fun hf0 => ?_)
  · refine z_bipush (pc := 17) (v := (-2)) dX4_takeDigit_17 (by decide) ?_
    obtain rfl := Option.some.inj hf0
    exact z_iret hE dX4_takeDigit_19
  · refine z_iload_n 0 (pc := 12) dX4_takeDigit_12 rfl ?_
    refine z_iload_n 2 (pc := 13) dX4_takeDigit_13 rfl ?_
    refine z_icmp_le (pc := 14) (tgt := 20) dX4_takeDigit_14 (by decide) hf0 (fun hf0 => ?_) (fun hf0 => ?_)
    · refine z_aload_n 1 (pc := 20) dX4_takeDigit_20 rfl ?_
      refine z_dup (pc := 21) dX4_takeDigit_21 rfl ?_
      refine z_get 0 3 (pc := 22) (v := .int o_place) rfl rfl inX4 (by decide) flX4_22 rfl dX4_takeDigit_22 ?_
      refine z_iconst (pc := 25) (v := 1) dX4_takeDigit_25 (by decide) ?_
      refine z_iadd (pc := 26) dX4_takeDigit_26 ?_
      refine z_put 0 3 (pc := 27) (ws' := (wsX4_takeDigit cA h_o h_o_text o_side o_length (o_place + 1) o_text_n o_text)) rfl rfl inX4 tyX4 tyX4_ok nmX4 (by decide) flX4_22 rfl rfl rfl rfl (Nat.le_of_ble_eq_true rfl) dX4_takeDigit_27 rfl ?_
      refine z_iload_n 0 (pc := 30) dX4_takeDigit_30 rfl ?_
      obtain rfl := Option.some.inj hf0
      exact z_iret hE dX4_takeDigit_31
    · refine z_bipush (pc := 17) (v := (-2)) dX4_takeDigit_17 (by decide) ?_
      obtain rfl := Option.some.inj hf0
      exact z_iret hE dX4_takeDigit_19

abbrev RX4_takeEnd : Type := Int32 × Int32
abbrev rmX4_takeEnd : Room := { frames := 2, cells := 0, slots := 0, locals := 40 }
abbrev wsX4_takeEnd (cA : Nat → ClassId) (h_o : Nat) (h_o_text : Nat) (o_side : Int32) (o_length : Int32) (o_place : Int32) (o_text_n : Nat) (o_text : Nat → Int32) : va_W := [(h_o, .inr (4, [.int o_side, .ref h_o_text, .int o_length, .int o_place])), (h_o_text, .inl (cA 0, o_text_n, .inl o_text))]
def fX4_takeEnd (N : Nat)  (o_length : Int32) (o_place : Int32) (o_text_n : Nat) (o_text : Nat → Int32) : Option RX4_takeEnd :=
  ((fX4_skipSpaces N o_length o_place o_text_n o_text).bind fun r1 => ((fX4_here N o_length r1 o_text_n o_text).bind fun r2 => (if r2 = 59 then some (1, r1 + 1) else some (0, r1))))
set_option maxHeartbeats 4000000 in
set_option maxRecDepth 100000 in
theorem kX4_takeEnd (l : Launch) (D : va_G) (cA : Nat → ClassId) (h_o : Nat) (h_o_text : Nat) (o_side : Int32) (o_length : Int32) (o_place : Int32) (o_text_n : Nat) (o_text : Nat → Int32)  (N : Nat) (res : RX4_takeEnd) (hf0 : fX4_takeEnd N o_length o_place o_text_n o_text = some res) : CtI l yX4_takeEnd (Cond.code yX4_takeEnd cX4_takeEnd 1 (some .boolean) :: tblG) rmX4_takeEnd D cA (wsX4_takeEnd cA h_o h_o_text o_side o_length o_place o_text_n o_text) [.ref h_o] res.1 (wsX4_takeEnd cA h_o h_o_text o_side o_length res.2 o_text_n o_text) := by
  refine CtI.start (lv := [(0, .ref h_o)]) (by decide) (Nat.le_of_ble_eq_true rfl) rfl (fun κ hE => ?_)
  rw [fX4_takeEnd] at hf0
  refine z_aload_n 0 (pc := 0) dX4_takeEnd_0 rfl ?_
  obtain ⟨r1, er1, hf0⟩ := bp hf0
  refine z_callvV (pc := 1) (As := []) (rest := []) (ws' := (wsX4_takeEnd cA h_o h_o_text o_side o_length r1 o_text_n o_text)) (kX4_skipSpaces l D cA h_o h_o_text o_side o_length o_place o_text_n o_text  N r1 er1) ivX4_37 ⟨rfl, rfl⟩ ⟨by decide, by decide⟩ rfl ⟨Nat.zero_le _, Nat.zero_le _⟩ rfl rfl [0, 1] rfl (by decide) rfl rfl rfl (Nat.le_of_ble_eq_true rfl) dX4_takeEnd_1 ?_
  refine z_aload_n 0 (pc := 4) dX4_takeEnd_4 rfl ?_
  obtain ⟨r2, er2, hf0⟩ := bp hf0
  refine z_calliV (pc := 5) (As := []) (rest := []) (ws' := (wsX4_takeEnd cA h_o h_o_text o_side o_length r1 o_text_n o_text)) (kX4_here l D cA h_o h_o_text o_side o_length r1 o_text_n o_text  N r2 er2) ivX4_40 ⟨rfl, rfl⟩ ⟨by decide, by decide⟩ rfl ⟨Nat.zero_le _, Nat.zero_le _⟩ rfl rfl [0, 1] rfl (by decide) rfl rfl rfl (Nat.le_of_ble_eq_true rfl) dX4_takeEnd_5 ?_
  refine z_bipush (pc := 8) (v := 59) dX4_takeEnd_8 (by decide) ?_
  refine z_icmp_eq (pc := 10) (tgt := 15) dX4_takeEnd_10 (by decide) hf0 (fun hf0 => ?_) (fun hf0 => ?_)
  · refine z_aload_n 0 (pc := 15) dX4_takeEnd_15 rfl ?_
    refine z_dup (pc := 16) dX4_takeEnd_16 rfl ?_
    refine z_get 0 3 (pc := 17) (v := .int r1) rfl rfl inX4 (by decide) flX4_22 rfl dX4_takeEnd_17 ?_
    refine z_iconst (pc := 20) (v := 1) dX4_takeEnd_20 (by decide) ?_
    refine z_iadd (pc := 21) dX4_takeEnd_21 ?_
    refine z_put 0 3 (pc := 22) (ws' := (wsX4_takeEnd cA h_o h_o_text o_side o_length (r1 + 1) o_text_n o_text)) rfl rfl inX4 tyX4 tyX4_ok nmX4 (by decide) flX4_22 rfl rfl rfl rfl (Nat.le_of_ble_eq_true rfl) dX4_takeEnd_22 rfl ?_
    refine z_iconst (pc := 25) (v := 1) dX4_takeEnd_25 (by decide) ?_
    obtain rfl := Option.some.inj hf0
    exact z_zretL (by decide) hE dX4_takeEnd_26
  · refine z_iconst (pc := 13) (v := 0) dX4_takeEnd_13 (by decide) ?_
    obtain rfl := Option.some.inj hf0
    exact z_zretL (by decide) hE dX4_takeEnd_14

abbrev RX4_takeChange : Type := Int32 × Int32 × Int32 × (Nat → Int32) × (Nat → Int32) × (Nat → Int32) × (Nat → Int32) × (Nat → Int32)
abbrev rmX4_takeChange : Room := { frames := 3, cells := 0, slots := 0, locals := 60 }
abbrev wsX4_takeChange (cA : Nat → ClassId) (h_o : Nat) (h_p1 : Nat) (h_o_text : Nat) (h_p1_letters : Nat) (h_p1_digits : Nat) (h_p1_xs : Nat) (h_p1_ys : Nat) (h_p1_zs : Nat) (o_side : Int32) (o_length : Int32) (o_place : Int32) (p1_count : Int32) (o_text_n : Nat) (o_text : Nat → Int32) (p1_letters_n : Nat) (p1_letters : Nat → Int32) (p1_digits_n : Nat) (p1_digits : Nat → Int32) (p1_xs_n : Nat) (p1_xs : Nat → Int32) (p1_ys_n : Nat) (p1_ys : Nat → Int32) (p1_zs_n : Nat) (p1_zs : Nat → Int32) : va_W := [(h_o, .inr (4, [.int o_side, .ref h_o_text, .int o_length, .int o_place])), (h_p1, .inr (3, [.int p1_count, .ref h_p1_letters, .ref h_p1_digits, .ref h_p1_xs, .ref h_p1_ys, .ref h_p1_zs])), (h_o_text, .inl (cA 0, o_text_n, .inl o_text)), (h_p1_letters, .inl (cA 2, p1_letters_n, .inl p1_letters)), (h_p1_digits, .inl (cA 0, p1_digits_n, .inl p1_digits)), (h_p1_xs, .inl (cA 0, p1_xs_n, .inl p1_xs)), (h_p1_ys, .inl (cA 0, p1_ys_n, .inl p1_ys)), (h_p1_zs, .inl (cA 0, p1_zs_n, .inl p1_zs))]
def fX4_takeChange (N : Nat)  (o_length : Int32) (o_place : Int32) (p1_count : Int32) (o_text_n : Nat) (o_text : Nat → Int32) (p1_letters_n : Nat) (p1_letters : Nat → Int32) (p1_digits_n : Nat) (p1_digits : Nat → Int32) (p1_xs_n : Nat) (p1_xs : Nat → Int32) (p1_ys_n : Nat) (p1_ys : Nat → Int32) (p1_zs_n : Nat) (p1_zs : Nat → Int32) : Option RX4_takeChange :=
  ((fX4_takeDigit N 3 o_length (o_place + 1) o_text_n o_text).bind fun r1 => (if r1.1 = (-2) then some (0, r1.2, p1_count, p1_letters, p1_digits, p1_xs, p1_ys, p1_zs) else ((fX4_takeEnd N o_length r1.2 o_text_n o_text).bind fun r2 => (if r2.1 = 0 then some (0, r2.2, p1_count, p1_letters, p1_digits, p1_xs, p1_ys, p1_zs) else ((fX3_add N 84 r1.1 (-1) (-1) (-1) p1_count p1_letters_n p1_letters p1_digits_n p1_digits p1_xs_n p1_xs p1_ys_n p1_ys p1_zs_n p1_zs).bind fun r3 => some (1, r2.2, r3.1, r3.2.1, r3.2.2.1, r3.2.2.2.1, r3.2.2.2.2.1, r3.2.2.2.2.2))))))
set_option maxHeartbeats 4000000 in
set_option maxRecDepth 100000 in
theorem kX4_takeChange (l : Launch) (D : va_G) (cA : Nat → ClassId) (h_o : Nat) (h_p1 : Nat) (h_o_text : Nat) (h_p1_letters : Nat) (h_p1_digits : Nat) (h_p1_xs : Nat) (h_p1_ys : Nat) (h_p1_zs : Nat) (o_side : Int32) (o_length : Int32) (o_place : Int32) (p1_count : Int32) (o_text_n : Nat) (o_text : Nat → Int32) (p1_letters_n : Nat) (p1_letters : Nat → Int32) (p1_digits_n : Nat) (p1_digits : Nat → Int32) (p1_xs_n : Nat) (p1_xs : Nat → Int32) (p1_ys_n : Nat) (p1_ys : Nat → Int32) (p1_zs_n : Nat) (p1_zs : Nat → Int32)  (N : Nat) (res : RX4_takeChange) (hf0 : fX4_takeChange N o_length o_place p1_count o_text_n o_text p1_letters_n p1_letters p1_digits_n p1_digits p1_xs_n p1_xs p1_ys_n p1_ys p1_zs_n p1_zs = some res) : CtI l yX4_takeChange (Cond.code yX4_takeChange cX4_takeChange 3 (some .boolean) :: tblG) rmX4_takeChange D cA (wsX4_takeChange cA h_o h_p1 h_o_text h_p1_letters h_p1_digits h_p1_xs h_p1_ys h_p1_zs o_side o_length o_place p1_count o_text_n o_text p1_letters_n p1_letters p1_digits_n p1_digits p1_xs_n p1_xs p1_ys_n p1_ys p1_zs_n p1_zs) [.ref h_o, .ref h_p1] res.1 (wsX4_takeChange cA h_o h_p1 h_o_text h_p1_letters h_p1_digits h_p1_xs h_p1_ys h_p1_zs o_side o_length res.2.1 res.2.2.1 o_text_n o_text p1_letters_n res.2.2.2.1 p1_digits_n res.2.2.2.2.1 p1_xs_n res.2.2.2.2.2.1 p1_ys_n res.2.2.2.2.2.2.1 p1_zs_n res.2.2.2.2.2.2.2) := by
  refine CtI.start (lv := [(0, .ref h_o), (1, .ref h_p1)]) (by decide) (Nat.le_of_ble_eq_true rfl) rfl (fun κ hE => ?_)
  rw [fX4_takeChange] at hf0
  refine z_aload_n 0 (pc := 0) dX4_takeChange_0 rfl ?_
  refine z_dup (pc := 1) dX4_takeChange_1 rfl ?_
  refine z_get 0 3 (pc := 2) (v := .int o_place) rfl rfl inX4 (by decide) flX4_22 rfl dX4_takeChange_2 ?_
  refine z_iconst (pc := 5) (v := 1) dX4_takeChange_5 (by decide) ?_
  refine z_iadd (pc := 6) dX4_takeChange_6 ?_
  refine z_put 0 3 (pc := 7) (ws' := (wsX4_takeChange cA h_o h_p1 h_o_text h_p1_letters h_p1_digits h_p1_xs h_p1_ys h_p1_zs o_side o_length (o_place + 1) p1_count o_text_n o_text p1_letters_n p1_letters p1_digits_n p1_digits p1_xs_n p1_xs p1_ys_n p1_ys p1_zs_n p1_zs)) rfl rfl inX4 tyX4 tyX4_ok nmX4 (by decide) flX4_22 rfl rfl rfl rfl (Nat.le_of_ble_eq_true rfl) dX4_takeChange_7 rfl ?_
  refine z_aload_n 0 (pc := 10) dX4_takeChange_10 rfl ?_
  refine z_iconst (pc := 11) (v := 3) dX4_takeChange_11 (by decide) ?_
  obtain ⟨r1, er1, hf0⟩ := bp hf0
  refine z_calliV (pc := 12) (As := [.int 3]) (rest := []) (ws' := (wsX4_takeChange cA h_o h_p1 h_o_text h_p1_letters h_p1_digits h_p1_xs h_p1_ys h_p1_zs o_side o_length r1.2 p1_count o_text_n o_text p1_letters_n p1_letters p1_digits_n p1_digits p1_xs_n p1_xs p1_ys_n p1_ys p1_zs_n p1_zs)) (kX4_takeDigit l D cA h_o h_o_text o_side o_length (o_place + 1) o_text_n o_text 3 N r1 er1) ivX4_50 ⟨rfl, rfl⟩ ⟨by decide, by decide⟩ rfl ⟨Nat.zero_le _, Nat.zero_le _⟩ rfl rfl [0, 2] rfl (by decide) rfl rfl rfl (Nat.le_of_ble_eq_true rfl) dX4_takeChange_12 ?_
  refine z_istore_n (pc := 15) (lv' := [(2, .int r1.1), (0, .ref h_o), (1, .ref h_p1)]) dX4_takeChange_15 (by decide) rfl ?_
  refine z_iload_n 0 (pc := 16) dX4_takeChange_16 rfl ?_
  refine z_bipush (pc := 17) (v := (-2)) dX4_takeChange_17 (by decide) ?_
  refine z_icmp_eq (pc := 19) (tgt := 29) dX4_takeChange_19 (by decide) hf0 (fun hf0 => ?_) (fun hf0 => ?_)
  · refine z_iconst (pc := 29) (v := 0) dX4_takeChange_29 (by decide) ?_
    obtain rfl := Option.some.inj hf0
    exact z_zretL (by decide) hE dX4_takeChange_30
  · refine z_aload_n 1 (pc := 22) dX4_takeChange_22 rfl ?_
    obtain ⟨r2, er2, hf0⟩ := bp hf0
    refine z_calliV (pc := 23) (As := []) (rest := []) (ws' := (wsX4_takeChange cA h_o h_p1 h_o_text h_p1_letters h_p1_digits h_p1_xs h_p1_ys h_p1_zs o_side o_length r2.2 p1_count o_text_n o_text p1_letters_n p1_letters p1_digits_n p1_digits p1_xs_n p1_xs p1_ys_n p1_ys p1_zs_n p1_zs)) (kX4_takeEnd l D cA h_o h_o_text o_side o_length r1.2 o_text_n o_text  N r2 er2) ivX4_54 ⟨rfl, rfl⟩ ⟨by decide, by decide⟩ rfl ⟨Nat.zero_le _, Nat.zero_le _⟩ rfl rfl [0, 2] rfl (by decide) rfl rfl rfl (Nat.le_of_ble_eq_true rfl) dX4_takeChange_23 ?_
    refine z_if_ne (pc := 26) (tgt := 31) dX4_takeChange_26 (by decide) hf0 (fun hf0 => ?_) (fun hf0 => ?_)
    · refine z_aload_n 2 (pc := 31) dX4_takeChange_31 rfl ?_
      refine z_bipush (pc := 32) (v := 84) dX4_takeChange_32 (by decide) ?_
      refine z_iload_n 0 (pc := 34) dX4_takeChange_34 rfl ?_
      refine z_iconst (pc := 35) (v := (-1)) dX4_takeChange_35 (by decide) ?_
      refine z_iconst (pc := 36) (v := (-1)) dX4_takeChange_36 (by decide) ?_
      refine z_iconst (pc := 37) (v := (-1)) dX4_takeChange_37 (by decide) ?_
      obtain ⟨r3, er3, hf0⟩ := bp hf0
      refine z_callvV (pc := 38) (As := [.int 84, .int r1.1, .int (-1), .int (-1), .int (-1)]) (rest := []) (ws' := (wsX4_takeChange cA h_o h_p1 h_o_text h_p1_letters h_p1_digits h_p1_xs h_p1_ys h_p1_zs o_side o_length r2.2 r3.1 o_text_n o_text p1_letters_n r3.2.1 p1_digits_n r3.2.2.1 p1_xs_n r3.2.2.2.1 p1_ys_n r3.2.2.2.2.1 p1_zs_n r3.2.2.2.2.2)) (kX3_add l D cA h_p1 h_p1_letters h_p1_digits h_p1_xs h_p1_ys h_p1_zs p1_count p1_letters_n p1_letters p1_digits_n p1_digits p1_xs_n p1_xs p1_ys_n p1_ys p1_zs_n p1_zs 84 r1.1 (-1) (-1) (-1) N r3 er3) ivX4_58 ⟨rfl, rfl⟩ ⟨by decide, by decide⟩ rfl ⟨Nat.zero_le _, Nat.zero_le _⟩ rfl rfl [1, 3, 4, 5, 6, 7] rfl (by decide) rfl rfl rfl (Nat.le_of_ble_eq_true rfl) dX4_takeChange_38 ?_
      refine z_iconst (pc := 41) (v := 1) dX4_takeChange_41 (by decide) ?_
      obtain rfl := Option.some.inj hf0
      exact z_zretL (by decide) hE dX4_takeChange_42
    · refine z_iconst (pc := 29) (v := 0) dX4_takeChange_29 (by decide) ?_
      obtain rfl := Option.some.inj hf0
      exact z_zretL (by decide) hE dX4_takeChange_30

abbrev RX4_takeNumber : Type := Int32 × Int32
abbrev rmX4_takeNumber : Room := { frames := 2, cells := 0, slots := 0, locals := 40 }
abbrev wsX4_takeNumber (cA : Nat → ClassId) (h_o : Nat) (h_o_text : Nat) (o_side : Int32) (o_length : Int32) (o_place : Int32) (o_text_n : Nat) (o_text : Nat → Int32) : va_W := [(h_o, .inr (4, [.int o_side, .ref h_o_text, .int o_length, .int o_place])), (h_o_text, .inl (cA 0, o_text_n, .inl o_text))]
def JX4_takeNumber_90 (k5 : Int32) (a2 : Int32) (x4_90 : Int32) (o_place_90 : Int32) : Option (RX4_takeNumber) :=
  (if o_place_90 = k5 then some ((-2), o_place_90) else (if x4_90 ≤ a2 then some (x4_90, o_place_90) else some ((-2), k5)))
def LX4_takeNumber_35 (N : Nat) (o_length : Int32) (o_text_n : Nat) (o_text : Nat → Int32) : Nat → Int32 → Int32 → Int32 → Option (Int32 × Int32 × Int32)
  | 0, _, _, _ => none
  | n + 1, x4_35, x5_35, o_place_35 => (if 3 ≤ x5_35 then some (x4_35, x5_35, o_place_35) else ((fX4_here N o_length o_place_35 o_text_n o_text).bind fun r6 => (if r6 < 48 then some (x4_35, x5_35, o_place_35) else ((fX4_here N o_length o_place_35 o_text_n o_text).bind fun r7 => (if 57 < r7 then some (x4_35, x5_35, o_place_35) else ((fX4_here N o_length o_place_35 o_text_n o_text).bind fun r8 => LX4_takeNumber_35 N o_length o_text_n o_text n ((10 * x4_35) + (r8 - 48)) (x5_35 + 1) (o_place_35 + 1)))))))
def fX4_takeNumber (N : Nat) (a1 : Int32) (a2 : Int32) (o_length : Int32) (o_place : Int32) (o_text_n : Nat) (o_text : Nat → Int32) : Option RX4_takeNumber :=
  ((fX4_skipSpaces N o_length o_place o_text_n o_text).bind fun r1 => ((fX4_here N o_length r1 o_text_n o_text).bind fun r2 => (if r2 = a1 then ((LX4_takeNumber_35 N o_length o_text_n o_text N 0 0 (r1 + 1)).bind fun r4 => JX4_takeNumber_90 (r1 + 1) a2 r4.1 r4.2.2) else some ((-1), r1))))
set_option maxHeartbeats 4000000 in
set_option maxRecDepth 100000 in
theorem kX4_takeNumber (l : Launch) (D : va_G) (cA : Nat → ClassId) (h_o : Nat) (h_o_text : Nat) (o_side : Int32) (o_length : Int32) (o_place : Int32) (o_text_n : Nat) (o_text : Nat → Int32) (a1 : Int32) (a2 : Int32) (N : Nat) (res : RX4_takeNumber) (hf0 : fX4_takeNumber N a1 a2 o_length o_place o_text_n o_text = some res) : CtI l yX4_takeNumber (Cond.code yX4_takeNumber cX4_takeNumber 6 (some .int) :: tblG) rmX4_takeNumber D cA (wsX4_takeNumber cA h_o h_o_text o_side o_length o_place o_text_n o_text) [.ref h_o, .int a1, .int a2] res.1 (wsX4_takeNumber cA h_o h_o_text o_side o_length res.2 o_text_n o_text) := by
  refine CtI.start (lv := [(0, .ref h_o), (1, .int a1), (2, .int a2)]) (by decide) (Nat.le_of_ble_eq_true rfl) rfl (fun κ hE => ?_)
  rw [fX4_takeNumber] at hf0
  refine z_aload_n 0 (pc := 0) dX4_takeNumber_0 rfl ?_
  obtain ⟨r1, er1, hf0⟩ := bp hf0
  refine z_callvV (pc := 1) (As := []) (rest := []) (ws' := (wsX4_takeNumber cA h_o h_o_text o_side o_length r1 o_text_n o_text)) (kX4_skipSpaces l D cA h_o h_o_text o_side o_length o_place o_text_n o_text  N r1 er1) ivX4_37 ⟨rfl, rfl⟩ ⟨by decide, by decide⟩ rfl ⟨Nat.zero_le _, Nat.zero_le _⟩ rfl rfl [0, 1] rfl (by decide) rfl rfl rfl (Nat.le_of_ble_eq_true rfl) dX4_takeNumber_1 ?_
  refine z_aload_n 0 (pc := 4) dX4_takeNumber_4 rfl ?_
  obtain ⟨r2, er2, hf0⟩ := bp hf0
  refine z_calliV (pc := 5) (As := []) (rest := []) (ws' := (wsX4_takeNumber cA h_o h_o_text o_side o_length r1 o_text_n o_text)) (kX4_here l D cA h_o h_o_text o_side o_length r1 o_text_n o_text  N r2 er2) ivX4_40 ⟨rfl, rfl⟩ ⟨by decide, by decide⟩ rfl ⟨Nat.zero_le _, Nat.zero_le _⟩ rfl rfl [0, 1] rfl (by decide) rfl rfl rfl (Nat.le_of_ble_eq_true rfl) dX4_takeNumber_5 ?_
  refine z_iload_n 1 (pc := 8) dX4_takeNumber_8 rfl ?_
  refine z_icmp_eq (pc := 9) (tgt := 14) dX4_takeNumber_9 (by decide) hf0 (fun hf0 => ?_) (fun hf0 => ?_)
  · refine z_aload_n 0 (pc := 14) dX4_takeNumber_14 rfl ?_
    refine z_dup (pc := 15) dX4_takeNumber_15 rfl ?_
    refine z_get 0 3 (pc := 16) (v := .int r1) rfl rfl inX4 (by decide) flX4_22 rfl dX4_takeNumber_16 ?_
    refine z_iconst (pc := 19) (v := 1) dX4_takeNumber_19 (by decide) ?_
    refine z_iadd (pc := 20) dX4_takeNumber_20 ?_
    refine z_put 0 3 (pc := 21) (ws' := (wsX4_takeNumber cA h_o h_o_text o_side o_length (r1 + 1) o_text_n o_text)) rfl rfl inX4 tyX4 tyX4_ok nmX4 (by decide) flX4_22 rfl rfl rfl rfl (Nat.le_of_ble_eq_true rfl) dX4_takeNumber_21 rfl ?_
    refine z_aload_n 0 (pc := 24) dX4_takeNumber_24 rfl ?_
    refine z_get 0 3 (pc := 25) (v := .int (r1 + 1)) rfl rfl inX4 (by decide) flX4_22 rfl dX4_takeNumber_25 ?_
    refine z_istore_n (pc := 28) (lv' := [(3, .int (r1 + 1)), (0, .ref h_o), (1, .int a1), (2, .int a2)]) dX4_takeNumber_28 (by decide) rfl ?_
    refine z_iconst (pc := 29) (v := 0) dX4_takeNumber_29 (by decide) ?_
    refine z_istore (pc := 30) (lv' := [(4, .int 0), (3, .int (r1 + 1)), (0, .ref h_o), (1, .int a1), (2, .int a2)]) dX4_takeNumber_30 (by decide) rfl ?_
    refine z_iconst (pc := 32) (v := 0) dX4_takeNumber_32 (by decide) ?_
    refine z_istore (pc := 33) (lv' := [(5, .int 0), (4, .int 0), (3, .int (r1 + 1)), (0, .ref h_o), (1, .int a1), (2, .int a2)]) dX4_takeNumber_33 (by decide) rfl ?_
    have j90 : ∀ (x4_90 : Int32) (o_place_90 : Int32), JX4_takeNumber_90 (r1 + 1) a2 x4_90 o_place_90 = some res → V κ false l D cA rmX4_takeNumber cX4_takeNumber 6 RX4 (some .int) 0 0 90 [(3, .int (r1 + 1)), (0, .ref h_o), (1, .int a1), (2, .int a2), (4, .int x4_90)] [] (wsX4_takeNumber cA h_o h_o_text o_side o_length o_place_90 o_text_n o_text) := by
      intro x4_90 o_place_90 hf0
      rw [JX4_takeNumber_90] at hf0
      refine z_aload_n 1 (pc := 90) dX4_takeNumber_90 rfl ?_
      refine z_get 0 3 (pc := 91) (v := .int o_place_90) rfl rfl inX4 (by decide) flX4_22 rfl dX4_takeNumber_91 ?_
      refine z_iload_n 0 (pc := 94) dX4_takeNumber_94 rfl ?_
      refine z_icmp_ne (pc := 95) (tgt := 101) dX4_takeNumber_95 (by decide) hf0 (fun hf0 => ?_) (fun hf0 => ?_)
      · refine z_iload 4 (pc := 101) dX4_takeNumber_101 rfl ?_
        refine z_iload_n 3 (pc := 103) dX4_takeNumber_103 rfl ?_
        refine z_icmp_le (pc := 104) (tgt := 115) dX4_takeNumber_104 (by decide) hf0 (fun hf0 => ?_) (fun hf0 => ?_)
        · refine z_iload 4 (pc := 115) dX4_takeNumber_115 rfl ?_
          obtain rfl := Option.some.inj hf0
          exact z_iret hE dX4_takeNumber_117
        · refine z_aload_n 1 (pc := 107) dX4_takeNumber_107 rfl ?_
          refine z_iload_n 0 (pc := 108) dX4_takeNumber_108 rfl ?_
          refine z_put 0 3 (pc := 109) (ws' := (wsX4_takeNumber cA h_o h_o_text o_side o_length (r1 + 1) o_text_n o_text)) rfl rfl inX4 tyX4 tyX4_ok nmX4 (by decide) flX4_22 rfl rfl rfl rfl (Nat.le_of_ble_eq_true rfl) dX4_takeNumber_109 rfl ?_
          refine z_bipush (pc := 112) (v := (-2)) dX4_takeNumber_112 (by decide) ?_
          obtain rfl := Option.some.inj hf0
          exact z_iret hE dX4_takeNumber_114
      · refine z_bipush (pc := 98) (v := (-2)) dX4_takeNumber_98 (by decide) ?_
        obtain rfl := Option.some.inj hf0
        exact z_iret hE dX4_takeNumber_100
    obtain ⟨y35, hf0_35, hf0⟩ := bp hf0
    have lp35 : ∀ (n : Nat) (x4_35 : Int32) (x5_35 : Int32) (o_place_35 : Int32), LX4_takeNumber_35 N o_length o_text_n o_text n x4_35 x5_35 o_place_35 = some y35 → V κ false l D cA rmX4_takeNumber cX4_takeNumber 6 RX4 (some .int) 0 0 35 [(3, .int (r1 + 1)), (0, .ref h_o), (1, .int a1), (2, .int a2), (4, .int x4_35), (5, .int x5_35)] [] (wsX4_takeNumber cA h_o h_o_text o_side o_length o_place_35 o_text_n o_text) := by
      intro n
      induction n with
      | zero => intro x4_35 x5_35 o_place_35 hf0_35; rw [LX4_takeNumber_35] at hf0_35; cases hf0_35
      | succ n35 ih35 =>
        intro x4_35 x5_35 o_place_35 hf0_35
        rw [LX4_takeNumber_35] at hf0_35
        refine z_iload 5 (pc := 35) dX4_takeNumber_35 rfl ?_
        refine z_iconst (pc := 37) (v := 3) dX4_takeNumber_37 (by decide) ?_
        refine z_icmp_ge (pc := 38) (tgt := 90) dX4_takeNumber_38 (by decide) hf0_35 (fun hf0_35 => ?_) (fun hf0_35 => ?_)
        · obtain rfl := Option.some.inj hf0_35
          exact z_lv [0, 1, 2, 3, 4] rfl (j90 x4_35 o_place_35 hf0)
        · refine z_aload_n 1 (pc := 41) dX4_takeNumber_41 rfl ?_
          obtain ⟨r6, er6, hf0_35⟩ := bp hf0_35
          refine z_calliV (pc := 42) (As := []) (rest := []) (ws' := (wsX4_takeNumber cA h_o h_o_text o_side o_length o_place_35 o_text_n o_text)) (kX4_here l D cA h_o h_o_text o_side o_length o_place_35 o_text_n o_text  N r6 er6) ivX4_40 ⟨rfl, rfl⟩ ⟨by decide, by decide⟩ rfl ⟨Nat.zero_le _, Nat.zero_le _⟩ rfl rfl [0, 1] rfl (by decide) rfl rfl rfl (Nat.le_of_ble_eq_true rfl) dX4_takeNumber_42 ?_
          refine z_bipush (pc := 45) (v := 48) dX4_takeNumber_45 (by decide) ?_
          refine z_icmp_lt (pc := 47) (tgt := 90) dX4_takeNumber_47 (by decide) hf0_35 (fun hf0_35 => ?_) (fun hf0_35 => ?_)
          · obtain rfl := Option.some.inj hf0_35
            exact z_lv [0, 1, 2, 3, 4] rfl (j90 x4_35 o_place_35 hf0)
          · refine z_aload_n 1 (pc := 50) dX4_takeNumber_50 rfl ?_
            obtain ⟨r7, er7, hf0_35⟩ := bp hf0_35
            refine z_calliV (pc := 51) (As := []) (rest := []) (ws' := (wsX4_takeNumber cA h_o h_o_text o_side o_length o_place_35 o_text_n o_text)) (kX4_here l D cA h_o h_o_text o_side o_length o_place_35 o_text_n o_text  N r7 er7) ivX4_40 ⟨rfl, rfl⟩ ⟨by decide, by decide⟩ rfl ⟨Nat.zero_le _, Nat.zero_le _⟩ rfl rfl [0, 1] rfl (by decide) rfl rfl rfl (Nat.le_of_ble_eq_true rfl) dX4_takeNumber_51 ?_
            refine z_bipush (pc := 54) (v := 57) dX4_takeNumber_54 (by decide) ?_
            refine z_icmp_gt (pc := 56) (tgt := 90) dX4_takeNumber_56 (by decide) hf0_35 (fun hf0_35 => ?_) (fun hf0_35 => ?_)
            · obtain rfl := Option.some.inj hf0_35
              exact z_lv [0, 1, 2, 3, 4] rfl (j90 x4_35 o_place_35 hf0)
            · refine z_bipush (pc := 59) (v := 10) dX4_takeNumber_59 (by decide) ?_
              refine z_iload 4 (pc := 61) dX4_takeNumber_61 rfl ?_
              refine z_imul (pc := 63) dX4_takeNumber_63 ?_
              refine z_aload_n 1 (pc := 64) dX4_takeNumber_64 rfl ?_
              obtain ⟨r8, er8, hf0_35⟩ := bp hf0_35
              refine z_calliV (pc := 65) (As := []) (rest := [.int (10 * x4_35)]) (ws' := (wsX4_takeNumber cA h_o h_o_text o_side o_length o_place_35 o_text_n o_text)) (kX4_here l D cA h_o h_o_text o_side o_length o_place_35 o_text_n o_text  N r8 er8) ivX4_40 ⟨rfl, rfl⟩ ⟨by decide, by decide⟩ rfl ⟨Nat.zero_le _, Nat.zero_le _⟩ rfl rfl [0, 1] rfl (by decide) rfl rfl rfl (Nat.le_of_ble_eq_true rfl) dX4_takeNumber_65 ?_
              refine z_bipush (pc := 68) (v := 48) dX4_takeNumber_68 (by decide) ?_
              refine z_isub (pc := 70) dX4_takeNumber_70 ?_
              refine z_iadd (pc := 71) dX4_takeNumber_71 ?_
              refine z_istore (pc := 72) (lv' := [(4, .int ((10 * x4_35) + (r8 - 48))), (3, .int (r1 + 1)), (0, .ref h_o), (1, .int a1), (2, .int a2), (5, .int x5_35)]) dX4_takeNumber_72 (by decide) rfl ?_
              refine z_aload_n 2 (pc := 74) dX4_takeNumber_74 rfl ?_
              refine z_dup (pc := 75) dX4_takeNumber_75 rfl ?_
              refine z_get 0 3 (pc := 76) (v := .int o_place_35) rfl rfl inX4 (by decide) flX4_22 rfl dX4_takeNumber_76 ?_
              refine z_iconst (pc := 79) (v := 1) dX4_takeNumber_79 (by decide) ?_
              refine z_iadd (pc := 80) dX4_takeNumber_80 ?_
              refine z_put 0 3 (pc := 81) (ws' := (wsX4_takeNumber cA h_o h_o_text o_side o_length (o_place_35 + 1) o_text_n o_text)) rfl rfl inX4 tyX4 tyX4_ok nmX4 (by decide) flX4_22 rfl rfl rfl rfl (Nat.le_of_ble_eq_true rfl) dX4_takeNumber_81 rfl ?_
              refine z_iinc 5 (pc := 84) (v := x5_35 + 1) (lv' := [(5, .int (x5_35 + 1)), (4, .int ((10 * x4_35) + (r8 - 48))), (3, .int (r1 + 1)), (0, .ref h_o), (1, .int a1), (2, .int a2)]) dX4_takeNumber_84 rfl rfl (by decide) rfl ?_
              refine z_goto (pc := 87) (tgt := 35) dX4_takeNumber_87 (by decide) ?_
              exact z_lv [2, 3, 4, 5, 1, 0] rfl (ih35 ((10 * x4_35) + (r8 - 48)) (x5_35 + 1) (o_place_35 + 1) hf0_35)
    exact z_lv [2, 3, 4, 5, 1, 0] rfl (lp35 N 0 0 (r1 + 1) hf0_35)
  · refine z_iconst (pc := 12) (v := (-1)) dX4_takeNumber_12 (by decide) ?_
    obtain rfl := Option.some.inj hf0
    exact z_iret hE dX4_takeNumber_13

abbrev RX4_takeMove : Type := Int32 × Int32 × Int32 × (Nat → Int32) × (Nat → Int32) × (Nat → Int32) × (Nat → Int32) × (Nat → Int32)
abbrev rmX4_takeMove : Room := { frames := 3, cells := 0, slots := 0, locals := 65 }
abbrev wsX4_takeMove (cA : Nat → ClassId) (h_o : Nat) (h_p1 : Nat) (h_o_text : Nat) (h_p1_letters : Nat) (h_p1_digits : Nat) (h_p1_xs : Nat) (h_p1_ys : Nat) (h_p1_zs : Nat) (o_side : Int32) (o_length : Int32) (o_place : Int32) (p1_count : Int32) (o_text_n : Nat) (o_text : Nat → Int32) (p1_letters_n : Nat) (p1_letters : Nat → Int32) (p1_digits_n : Nat) (p1_digits : Nat → Int32) (p1_xs_n : Nat) (p1_xs : Nat → Int32) (p1_ys_n : Nat) (p1_ys : Nat → Int32) (p1_zs_n : Nat) (p1_zs : Nat → Int32) : va_W := [(h_o, .inr (4, [.int o_side, .ref h_o_text, .int o_length, .int o_place])), (h_p1, .inr (3, [.int p1_count, .ref h_p1_letters, .ref h_p1_digits, .ref h_p1_xs, .ref h_p1_ys, .ref h_p1_zs])), (h_o_text, .inl (cA 0, o_text_n, .inl o_text)), (h_p1_letters, .inl (cA 2, p1_letters_n, .inl p1_letters)), (h_p1_digits, .inl (cA 0, p1_digits_n, .inl p1_digits)), (h_p1_xs, .inl (cA 0, p1_xs_n, .inl p1_xs)), (h_p1_ys, .inl (cA 0, p1_ys_n, .inl p1_ys)), (h_p1_zs, .inl (cA 0, p1_zs_n, .inl p1_zs))]
def JX4_takeMove_109 (N : Nat) (o_length : Int32) (r4 : RX4_takeNumber) (o_text_n : Nat) (o_text : Nat → Int32) (p1_count : Int32) (p1_letters : Nat → Int32) (p1_digits : Nat → Int32) (p1_xs : Nat → Int32) (p1_ys : Nat → Int32) (p1_zs : Nat → Int32) (r1 : RX4_takeDigit) (r2 : RX4_takeNumber) (r3 : RX4_takeNumber) (p1_letters_n : Nat) (p1_digits_n : Nat) (p1_xs_n : Nat) (p1_ys_n : Nat) (p1_zs_n : Nat) (s_109 : Int32) : Option (RX4_takeMove) :=
  (if s_109 = 0 then ((fX4_takeEnd N o_length r4.2 o_text_n o_text).bind fun r5 => (if r5.1 = 0 then some (0, r5.2, p1_count, p1_letters, p1_digits, p1_xs, p1_ys, p1_zs) else ((fX3_add N 71 r1.1 r2.1 r3.1 r4.1 p1_count p1_letters_n p1_letters p1_digits_n p1_digits p1_xs_n p1_xs p1_ys_n p1_ys p1_zs_n p1_zs).bind fun r6 => some (1, r5.2, r6.1, r6.2.1, r6.2.2.1, r6.2.2.2.1, r6.2.2.2.2.1, r6.2.2.2.2.2)))) else some (0, r4.2, p1_count, p1_letters, p1_digits, p1_xs, p1_ys, p1_zs))
def JX4_takeMove_108 (N : Nat) (o_length : Int32) (r4 : RX4_takeNumber) (o_text_n : Nat) (o_text : Nat → Int32) (p1_count : Int32) (p1_letters : Nat → Int32) (p1_digits : Nat → Int32) (p1_xs : Nat → Int32) (p1_ys : Nat → Int32) (p1_zs : Nat → Int32) (r1 : RX4_takeDigit) (r2 : RX4_takeNumber) (r3 : RX4_takeNumber) (p1_letters_n : Nat) (p1_digits_n : Nat) (p1_xs_n : Nat) (p1_ys_n : Nat) (p1_zs_n : Nat)  : Option (RX4_takeMove) :=
  JX4_takeMove_109 N o_length r4 o_text_n o_text p1_count p1_letters p1_digits p1_xs p1_ys p1_zs r1 r2 r3 p1_letters_n p1_digits_n p1_xs_n p1_ys_n p1_zs_n 0
def fX4_takeMove (N : Nat)  (o_side : Int32) (o_length : Int32) (o_place : Int32) (p1_count : Int32) (o_text_n : Nat) (o_text : Nat → Int32) (p1_letters_n : Nat) (p1_letters : Nat → Int32) (p1_digits_n : Nat) (p1_digits : Nat → Int32) (p1_xs_n : Nat) (p1_xs : Nat → Int32) (p1_ys_n : Nat) (p1_ys : Nat → Int32) (p1_zs_n : Nat) (p1_zs : Nat → Int32) : Option RX4_takeMove :=
  ((fX4_takeDigit N 1 o_length (o_place + 1) o_text_n o_text).bind fun r1 => (if r1.1 = (-2) then some (0, r1.2, p1_count, p1_letters, p1_digits, p1_xs, p1_ys, p1_zs) else ((fX4_takeNumber N 88 (o_side - 1) o_length r1.2 o_text_n o_text).bind fun r2 => (if r2.1 = (-2) then some (0, r2.2, p1_count, p1_letters, p1_digits, p1_xs, p1_ys, p1_zs) else ((fX4_takeNumber N 89 (o_side - 1) o_length r2.2 o_text_n o_text).bind fun r3 => (if r3.1 = (-2) then some (0, r3.2, p1_count, p1_letters, p1_digits, p1_xs, p1_ys, p1_zs) else ((fX4_takeNumber N 90 100 o_length r3.2 o_text_n o_text).bind fun r4 => (if r4.1 = (-2) then some (0, r4.2, p1_count, p1_letters, p1_digits, p1_xs, p1_ys, p1_zs) else (if r2.1 = (-1) then (if r3.1 = (-1) then (if r4.1 = (-1) then JX4_takeMove_109 N o_length r4 o_text_n o_text p1_count p1_letters p1_digits p1_xs p1_ys p1_zs r1 r2 r3 p1_letters_n p1_digits_n p1_xs_n p1_ys_n p1_zs_n 1 else JX4_takeMove_108 N o_length r4 o_text_n o_text p1_count p1_letters p1_digits p1_xs p1_ys p1_zs r1 r2 r3 p1_letters_n p1_digits_n p1_xs_n p1_ys_n p1_zs_n ) else JX4_takeMove_108 N o_length r4 o_text_n o_text p1_count p1_letters p1_digits p1_xs p1_ys p1_zs r1 r2 r3 p1_letters_n p1_digits_n p1_xs_n p1_ys_n p1_zs_n ) else JX4_takeMove_108 N o_length r4 o_text_n o_text p1_count p1_letters p1_digits p1_xs p1_ys p1_zs r1 r2 r3 p1_letters_n p1_digits_n p1_xs_n p1_ys_n p1_zs_n )))))))))
set_option maxHeartbeats 4000000 in
set_option maxRecDepth 100000 in
theorem kX4_takeMove (l : Launch) (D : va_G) (cA : Nat → ClassId) (h_o : Nat) (h_p1 : Nat) (h_o_text : Nat) (h_p1_letters : Nat) (h_p1_digits : Nat) (h_p1_xs : Nat) (h_p1_ys : Nat) (h_p1_zs : Nat) (o_side : Int32) (o_length : Int32) (o_place : Int32) (p1_count : Int32) (o_text_n : Nat) (o_text : Nat → Int32) (p1_letters_n : Nat) (p1_letters : Nat → Int32) (p1_digits_n : Nat) (p1_digits : Nat → Int32) (p1_xs_n : Nat) (p1_xs : Nat → Int32) (p1_ys_n : Nat) (p1_ys : Nat → Int32) (p1_zs_n : Nat) (p1_zs : Nat → Int32)  (N : Nat) (res : RX4_takeMove) (hf0 : fX4_takeMove N o_side o_length o_place p1_count o_text_n o_text p1_letters_n p1_letters p1_digits_n p1_digits p1_xs_n p1_xs p1_ys_n p1_ys p1_zs_n p1_zs = some res) : CtI l yX4_takeMove (Cond.code yX4_takeMove cX4_takeMove 7 (some .boolean) :: tblG) rmX4_takeMove D cA (wsX4_takeMove cA h_o h_p1 h_o_text h_p1_letters h_p1_digits h_p1_xs h_p1_ys h_p1_zs o_side o_length o_place p1_count o_text_n o_text p1_letters_n p1_letters p1_digits_n p1_digits p1_xs_n p1_xs p1_ys_n p1_ys p1_zs_n p1_zs) [.ref h_o, .ref h_p1] res.1 (wsX4_takeMove cA h_o h_p1 h_o_text h_p1_letters h_p1_digits h_p1_xs h_p1_ys h_p1_zs o_side o_length res.2.1 res.2.2.1 o_text_n o_text p1_letters_n res.2.2.2.1 p1_digits_n res.2.2.2.2.1 p1_xs_n res.2.2.2.2.2.1 p1_ys_n res.2.2.2.2.2.2.1 p1_zs_n res.2.2.2.2.2.2.2) := by
  refine CtI.start (lv := [(0, .ref h_o), (1, .ref h_p1)]) (by decide) (Nat.le_of_ble_eq_true rfl) rfl (fun κ hE => ?_)
  rw [fX4_takeMove] at hf0
  refine z_aload_n 0 (pc := 0) dX4_takeMove_0 rfl ?_
  refine z_dup (pc := 1) dX4_takeMove_1 rfl ?_
  refine z_get 0 3 (pc := 2) (v := .int o_place) rfl rfl inX4 (by decide) flX4_22 rfl dX4_takeMove_2 ?_
  refine z_iconst (pc := 5) (v := 1) dX4_takeMove_5 (by decide) ?_
  refine z_iadd (pc := 6) dX4_takeMove_6 ?_
  refine z_put 0 3 (pc := 7) (ws' := (wsX4_takeMove cA h_o h_p1 h_o_text h_p1_letters h_p1_digits h_p1_xs h_p1_ys h_p1_zs o_side o_length (o_place + 1) p1_count o_text_n o_text p1_letters_n p1_letters p1_digits_n p1_digits p1_xs_n p1_xs p1_ys_n p1_ys p1_zs_n p1_zs)) rfl rfl inX4 tyX4 tyX4_ok nmX4 (by decide) flX4_22 rfl rfl rfl rfl (Nat.le_of_ble_eq_true rfl) dX4_takeMove_7 rfl ?_
  refine z_aload_n 0 (pc := 10) dX4_takeMove_10 rfl ?_
  refine z_iconst (pc := 11) (v := 1) dX4_takeMove_11 (by decide) ?_
  obtain ⟨r1, er1, hf0⟩ := bp hf0
  refine z_calliV (pc := 12) (As := [.int 1]) (rest := []) (ws' := (wsX4_takeMove cA h_o h_p1 h_o_text h_p1_letters h_p1_digits h_p1_xs h_p1_ys h_p1_zs o_side o_length r1.2 p1_count o_text_n o_text p1_letters_n p1_letters p1_digits_n p1_digits p1_xs_n p1_xs p1_ys_n p1_ys p1_zs_n p1_zs)) (kX4_takeDigit l D cA h_o h_o_text o_side o_length (o_place + 1) o_text_n o_text 1 N r1 er1) ivX4_50 ⟨rfl, rfl⟩ ⟨by decide, by decide⟩ rfl ⟨Nat.zero_le _, Nat.zero_le _⟩ rfl rfl [0, 2] rfl (by decide) rfl rfl rfl (Nat.le_of_ble_eq_true rfl) dX4_takeMove_12 ?_
  refine z_istore_n (pc := 15) (lv' := [(2, .int r1.1), (0, .ref h_o), (1, .ref h_p1)]) dX4_takeMove_15 (by decide) rfl ?_
  refine z_iload_n 0 (pc := 16) dX4_takeMove_16 rfl ?_
  refine z_bipush (pc := 17) (v := (-2)) dX4_takeMove_17 (by decide) ?_
  refine z_icmp_ne (pc := 19) (tgt := 24) dX4_takeMove_19 (by decide) hf0 (fun hf0 => ?_) (fun hf0 => ?_)
  · refine z_aload_n 1 (pc := 24) dX4_takeMove_24 rfl ?_
    refine z_bipush (pc := 25) (v := 88) dX4_takeMove_25 (by decide) ?_
    refine z_aload_n 1 (pc := 27) dX4_takeMove_27 rfl ?_
    refine z_get 0 0 (pc := 28) (v := .int o_side) rfl rfl inX4 (by decide) flX4_9 rfl dX4_takeMove_28 ?_
    refine z_iconst (pc := 31) (v := 1) dX4_takeMove_31 (by decide) ?_
    refine z_isub (pc := 32) dX4_takeMove_32 ?_
    obtain ⟨r2, er2, hf0⟩ := bp hf0
    refine z_calliV (pc := 33) (As := [.int 88, .int (o_side - 1)]) (rest := []) (ws' := (wsX4_takeMove cA h_o h_p1 h_o_text h_p1_letters h_p1_digits h_p1_xs h_p1_ys h_p1_zs o_side o_length r2.2 p1_count o_text_n o_text p1_letters_n p1_letters p1_digits_n p1_digits p1_xs_n p1_xs p1_ys_n p1_ys p1_zs_n p1_zs)) (kX4_takeNumber l D cA h_o h_o_text o_side o_length r1.2 o_text_n o_text 88 (o_side - 1) N r2 er2) ivX4_62 ⟨rfl, rfl⟩ ⟨by decide, by decide⟩ rfl ⟨Nat.zero_le _, Nat.zero_le _⟩ rfl rfl [0, 2] rfl (by decide) rfl rfl rfl (Nat.le_of_ble_eq_true rfl) dX4_takeMove_33 ?_
    refine z_istore_n (pc := 36) (lv' := [(3, .int r2.1), (2, .int r1.1), (0, .ref h_o), (1, .ref h_p1)]) dX4_takeMove_36 (by decide) rfl ?_
    refine z_iload_n 0 (pc := 37) dX4_takeMove_37 rfl ?_
    refine z_bipush (pc := 38) (v := (-2)) dX4_takeMove_38 (by decide) ?_
    refine z_icmp_ne (pc := 40) (tgt := 45) dX4_takeMove_40 (by decide) hf0 (fun hf0 => ?_) (fun hf0 => ?_)
    · refine z_aload_n 2 (pc := 45) dX4_takeMove_45 rfl ?_
      refine z_bipush (pc := 46) (v := 89) dX4_takeMove_46 (by decide) ?_
      refine z_aload_n 2 (pc := 48) dX4_takeMove_48 rfl ?_
      refine z_get 0 0 (pc := 49) (v := .int o_side) rfl rfl inX4 (by decide) flX4_9 rfl dX4_takeMove_49 ?_
      refine z_iconst (pc := 52) (v := 1) dX4_takeMove_52 (by decide) ?_
      refine z_isub (pc := 53) dX4_takeMove_53 ?_
      obtain ⟨r3, er3, hf0⟩ := bp hf0
      refine z_calliV (pc := 54) (As := [.int 89, .int (o_side - 1)]) (rest := []) (ws' := (wsX4_takeMove cA h_o h_p1 h_o_text h_p1_letters h_p1_digits h_p1_xs h_p1_ys h_p1_zs o_side o_length r3.2 p1_count o_text_n o_text p1_letters_n p1_letters p1_digits_n p1_digits p1_xs_n p1_xs p1_ys_n p1_ys p1_zs_n p1_zs)) (kX4_takeNumber l D cA h_o h_o_text o_side o_length r2.2 o_text_n o_text 89 (o_side - 1) N r3 er3) ivX4_62 ⟨rfl, rfl⟩ ⟨by decide, by decide⟩ rfl ⟨Nat.zero_le _, Nat.zero_le _⟩ rfl rfl [0, 2] rfl (by decide) rfl rfl rfl (Nat.le_of_ble_eq_true rfl) dX4_takeMove_54 ?_
      refine z_istore (pc := 57) (lv' := [(4, .int r3.1), (3, .int r2.1), (2, .int r1.1), (0, .ref h_o), (1, .ref h_p1)]) dX4_takeMove_57 (by decide) rfl ?_
      refine z_iload 0 (pc := 59) dX4_takeMove_59 rfl ?_
      refine z_bipush (pc := 61) (v := (-2)) dX4_takeMove_61 (by decide) ?_
      refine z_icmp_ne (pc := 63) (tgt := 68) dX4_takeMove_63 (by decide) hf0 (fun hf0 => ?_) (fun hf0 => ?_)
      · refine z_aload_n 3 (pc := 68) dX4_takeMove_68 rfl ?_
        refine z_bipush (pc := 69) (v := 90) dX4_takeMove_69 (by decide) ?_
        refine z_bipush (pc := 71) (v := 100) dX4_takeMove_71 (by decide) ?_
        obtain ⟨r4, er4, hf0⟩ := bp hf0
        refine z_calliV (pc := 73) (As := [.int 90, .int 100]) (rest := []) (ws' := (wsX4_takeMove cA h_o h_p1 h_o_text h_p1_letters h_p1_digits h_p1_xs h_p1_ys h_p1_zs o_side o_length r4.2 p1_count o_text_n o_text p1_letters_n p1_letters p1_digits_n p1_digits p1_xs_n p1_xs p1_ys_n p1_ys p1_zs_n p1_zs)) (kX4_takeNumber l D cA h_o h_o_text o_side o_length r3.2 o_text_n o_text 90 100 N r4 er4) ivX4_62 ⟨rfl, rfl⟩ ⟨by decide, by decide⟩ rfl ⟨Nat.zero_le _, Nat.zero_le _⟩ rfl rfl [0, 2] rfl (by decide) rfl rfl rfl (Nat.le_of_ble_eq_true rfl) dX4_takeMove_73 ?_
        refine z_istore (pc := 76) (lv' := [(5, .int r4.1), (4, .int r3.1), (3, .int r2.1), (2, .int r1.1), (0, .ref h_o), (1, .ref h_p1)]) dX4_takeMove_76 (by decide) rfl ?_
        refine z_iload 0 (pc := 78) dX4_takeMove_78 rfl ?_
        refine z_bipush (pc := 80) (v := (-2)) dX4_takeMove_80 (by decide) ?_
        refine z_icmp_ne (pc := 82) (tgt := 87) dX4_takeMove_82 (by decide) hf0 (fun hf0 => ?_) (fun hf0 => ?_)
        · refine z_iload_n 2 (pc := 87) dX4_takeMove_87 rfl ?_
          refine z_iconst (pc := 88) (v := (-1)) dX4_takeMove_88 (by decide) ?_
          have j109 : ∀ (s_109 : Int32), JX4_takeMove_109 N o_length r4 o_text_n o_text p1_count p1_letters p1_digits p1_xs p1_ys p1_zs r1 r2 r3 p1_letters_n p1_digits_n p1_xs_n p1_ys_n p1_zs_n s_109 = some res → V κ false l D cA rmX4_takeMove cX4_takeMove 7 RX4 (some .boolean) 0 0 109 [(5, .int r4.1), (4, .int r3.1), (3, .int r2.1), (2, .int r1.1), (0, .ref h_o), (1, .ref h_p1)] [.int s_109] (wsX4_takeMove cA h_o h_p1 h_o_text h_p1_letters h_p1_digits h_p1_xs h_p1_ys h_p1_zs o_side o_length r4.2 p1_count o_text_n o_text p1_letters_n p1_letters p1_digits_n p1_digits p1_xs_n p1_xs p1_ys_n p1_ys p1_zs_n p1_zs) := by
            intro s_109 hf0
            rw [JX4_takeMove_109] at hf0
            refine z_istore (pc := 109) (lv' := [(6, .int s_109), (5, .int r4.1), (4, .int r3.1), (3, .int r2.1), (2, .int r1.1), (0, .ref h_o), (1, .ref h_p1)]) dX4_takeMove_109 (by decide) rfl ?_
            refine z_iload 0 (pc := 111) dX4_takeMove_111 rfl ?_
            refine z_if_ne (pc := 113) (tgt := 123) dX4_takeMove_113 (by decide) hf0 (fun hf0 => ?_) (fun hf0 => ?_)
            · refine z_iconst (pc := 123) (v := 0) dX4_takeMove_123 (by decide) ?_
              obtain rfl := Option.some.inj hf0
              exact z_zretL (by decide) hE dX4_takeMove_124
            · refine z_aload_n 5 (pc := 116) dX4_takeMove_116 rfl ?_
              obtain ⟨r5, er5, hf0⟩ := bp hf0
              refine z_calliV (pc := 117) (As := []) (rest := []) (ws' := (wsX4_takeMove cA h_o h_p1 h_o_text h_p1_letters h_p1_digits h_p1_xs h_p1_ys h_p1_zs o_side o_length r5.2 p1_count o_text_n o_text p1_letters_n p1_letters p1_digits_n p1_digits p1_xs_n p1_xs p1_ys_n p1_ys p1_zs_n p1_zs)) (kX4_takeEnd l D cA h_o h_o_text o_side o_length r4.2 o_text_n o_text  N r5 er5) ivX4_54 ⟨rfl, rfl⟩ ⟨by decide, by decide⟩ rfl ⟨Nat.zero_le _, Nat.zero_le _⟩ rfl rfl [0, 2] rfl (by decide) rfl rfl rfl (Nat.le_of_ble_eq_true rfl) dX4_takeMove_117 ?_
              refine z_if_ne (pc := 120) (tgt := 125) dX4_takeMove_120 (by decide) hf0 (fun hf0 => ?_) (fun hf0 => ?_)
              · refine z_aload_n 6 (pc := 125) dX4_takeMove_125 rfl ?_
                refine z_bipush (pc := 126) (v := 71) dX4_takeMove_126 (by decide) ?_
                refine z_iload_n 4 (pc := 128) dX4_takeMove_128 rfl ?_
                refine z_iload_n 3 (pc := 129) dX4_takeMove_129 rfl ?_
                refine z_iload 2 (pc := 130) dX4_takeMove_130 rfl ?_
                refine z_iload 1 (pc := 132) dX4_takeMove_132 rfl ?_
                obtain ⟨r6, er6, hf0⟩ := bp hf0
                refine z_callvV (pc := 134) (As := [.int 71, .int r1.1, .int r2.1, .int r3.1, .int r4.1]) (rest := []) (ws' := (wsX4_takeMove cA h_o h_p1 h_o_text h_p1_letters h_p1_digits h_p1_xs h_p1_ys h_p1_zs o_side o_length r5.2 r6.1 o_text_n o_text p1_letters_n r6.2.1 p1_digits_n r6.2.2.1 p1_xs_n r6.2.2.2.1 p1_ys_n r6.2.2.2.2.1 p1_zs_n r6.2.2.2.2.2)) (kX3_add l D cA h_p1 h_p1_letters h_p1_digits h_p1_xs h_p1_ys h_p1_zs p1_count p1_letters_n p1_letters p1_digits_n p1_digits p1_xs_n p1_xs p1_ys_n p1_ys p1_zs_n p1_zs 71 r1.1 r2.1 r3.1 r4.1 N r6 er6) ivX4_58 ⟨rfl, rfl⟩ ⟨by decide, by decide⟩ rfl ⟨Nat.zero_le _, Nat.zero_le _⟩ rfl rfl [1, 3, 4, 5, 6, 7] rfl (by decide) rfl rfl rfl (Nat.le_of_ble_eq_true rfl) dX4_takeMove_134 ?_
                refine z_iconst (pc := 137) (v := 1) dX4_takeMove_137 (by decide) ?_
                obtain rfl := Option.some.inj hf0
                exact z_zretL (by decide) hE dX4_takeMove_138
              · refine z_iconst (pc := 123) (v := 0) dX4_takeMove_123 (by decide) ?_
                obtain rfl := Option.some.inj hf0
                exact z_zretL (by decide) hE dX4_takeMove_124
          have j108 : JX4_takeMove_108 N o_length r4 o_text_n o_text p1_count p1_letters p1_digits p1_xs p1_ys p1_zs r1 r2 r3 p1_letters_n p1_digits_n p1_xs_n p1_ys_n p1_zs_n  = some res → V κ false l D cA rmX4_takeMove cX4_takeMove 7 RX4 (some .boolean) 0 0 108 [(5, .int r4.1), (4, .int r3.1), (3, .int r2.1), (2, .int r1.1), (0, .ref h_o), (1, .ref h_p1)] [] (wsX4_takeMove cA h_o h_p1 h_o_text h_p1_letters h_p1_digits h_p1_xs h_p1_ys h_p1_zs o_side o_length r4.2 p1_count o_text_n o_text p1_letters_n p1_letters p1_digits_n p1_digits p1_xs_n p1_xs p1_ys_n p1_ys p1_zs_n p1_zs) := by
            intro hf0
            rw [JX4_takeMove_108] at hf0
            refine z_iconst (pc := 108) (v := 0) dX4_takeMove_108 (by decide) ?_
            exact z_lv [0, 1, 2, 3, 4, 5] rfl (j109 0 hf0)
          refine z_icmp_ne (pc := 89) (tgt := 108) dX4_takeMove_89 (by decide) hf0 (fun hf0 => ?_) (fun hf0 => ?_)
          · exact z_lv [0, 1, 2, 3, 4, 5] rfl (j108  hf0)
          · refine z_iload 1 (pc := 92) dX4_takeMove_92 rfl ?_
            refine z_iconst (pc := 94) (v := (-1)) dX4_takeMove_94 (by decide) ?_
            refine z_icmp_ne (pc := 95) (tgt := 108) dX4_takeMove_95 (by decide) hf0 (fun hf0 => ?_) (fun hf0 => ?_)
            · exact z_lv [0, 1, 2, 3, 4, 5] rfl (j108  hf0)
            · refine z_iload 0 (pc := 98) dX4_takeMove_98 rfl ?_
              refine z_iconst (pc := 100) (v := (-1)) dX4_takeMove_100 (by decide) ?_
              refine z_icmp_ne (pc := 101) (tgt := 108) dX4_takeMove_101 (by decide) hf0 (fun hf0 => ?_) (fun hf0 => ?_)
              · exact z_lv [0, 1, 2, 3, 4, 5] rfl (j108  hf0)
              · refine z_iconst (pc := 104) (v := 1) dX4_takeMove_104 (by decide) ?_
                refine z_goto (pc := 105) (tgt := 109) dX4_takeMove_105 (by decide) ?_
                exact z_lv [0, 1, 2, 3, 4, 5] rfl (j109 1 hf0)
        · refine z_iconst (pc := 85) (v := 0) dX4_takeMove_85 (by decide) ?_
          obtain rfl := Option.some.inj hf0
          exact z_zretL (by decide) hE dX4_takeMove_86
      · refine z_iconst (pc := 66) (v := 0) dX4_takeMove_66 (by decide) ?_
        obtain rfl := Option.some.inj hf0
        exact z_zretL (by decide) hE dX4_takeMove_67
    · refine z_iconst (pc := 43) (v := 0) dX4_takeMove_43 (by decide) ?_
      obtain rfl := Option.some.inj hf0
      exact z_zretL (by decide) hE dX4_takeMove_44
  · refine z_iconst (pc := 22) (v := 0) dX4_takeMove_22 (by decide) ?_
    obtain rfl := Option.some.inj hf0
    exact z_zretL (by decide) hE dX4_takeMove_23

abbrev RX4_takeStatement : Type := Int32 × Int32 × Int32 × (Nat → Int32) × (Nat → Int32) × (Nat → Int32) × (Nat → Int32) × (Nat → Int32)
abbrev rmX4_takeStatement : Room := { frames := 4, cells := 0, slots := 0, locals := 91 }
abbrev wsX4_takeStatement (cA : Nat → ClassId) (h_o : Nat) (h_p1 : Nat) (h_o_text : Nat) (h_p1_letters : Nat) (h_p1_digits : Nat) (h_p1_xs : Nat) (h_p1_ys : Nat) (h_p1_zs : Nat) (o_side : Int32) (o_length : Int32) (o_place : Int32) (p1_count : Int32) (o_text_n : Nat) (o_text : Nat → Int32) (p1_letters_n : Nat) (p1_letters : Nat → Int32) (p1_digits_n : Nat) (p1_digits : Nat → Int32) (p1_xs_n : Nat) (p1_xs : Nat → Int32) (p1_ys_n : Nat) (p1_ys : Nat → Int32) (p1_zs_n : Nat) (p1_zs : Nat → Int32) : va_W := [(h_o, .inr (4, [.int o_side, .ref h_o_text, .int o_length, .int o_place])), (h_p1, .inr (3, [.int p1_count, .ref h_p1_letters, .ref h_p1_digits, .ref h_p1_xs, .ref h_p1_ys, .ref h_p1_zs])), (h_o_text, .inl (cA 0, o_text_n, .inl o_text)), (h_p1_letters, .inl (cA 2, p1_letters_n, .inl p1_letters)), (h_p1_digits, .inl (cA 0, p1_digits_n, .inl p1_digits)), (h_p1_xs, .inl (cA 0, p1_xs_n, .inl p1_xs)), (h_p1_ys, .inl (cA 0, p1_ys_n, .inl p1_ys)), (h_p1_zs, .inl (cA 0, p1_zs_n, .inl p1_zs))]
def fX4_takeStatement (N : Nat)  (o_side : Int32) (o_length : Int32) (o_place : Int32) (p1_count : Int32) (o_text_n : Nat) (o_text : Nat → Int32) (p1_letters_n : Nat) (p1_letters : Nat → Int32) (p1_digits_n : Nat) (p1_digits : Nat → Int32) (p1_xs_n : Nat) (p1_xs : Nat → Int32) (p1_ys_n : Nat) (p1_ys : Nat → Int32) (p1_zs_n : Nat) (p1_zs : Nat → Int32) : Option RX4_takeStatement :=
  ((fX4_skipSpaces N o_length o_place o_text_n o_text).bind fun r1 => ((fX4_here N o_length r1 o_text_n o_text).bind fun r2 => (if r2 = 71 then ((fX4_takeMove N o_side o_length r1 p1_count o_text_n o_text p1_letters_n p1_letters p1_digits_n p1_digits p1_xs_n p1_xs p1_ys_n p1_ys p1_zs_n p1_zs).bind fun r3 => (if r3.1 = 0 ∨ r3.1 = 1 then some (r3.1, r3.2.1, r3.2.2.1, r3.2.2.2.1, r3.2.2.2.2.1, r3.2.2.2.2.2.1, r3.2.2.2.2.2.2.1, r3.2.2.2.2.2.2.2) else none)) else (if r2 = 84 then ((fX4_takeChange N o_length r1 p1_count o_text_n o_text p1_letters_n p1_letters p1_digits_n p1_digits p1_xs_n p1_xs p1_ys_n p1_ys p1_zs_n p1_zs).bind fun r4 => (if r4.1 = 0 ∨ r4.1 = 1 then some (r4.1, r4.2.1, r4.2.2.1, r4.2.2.2.1, r4.2.2.2.2.1, r4.2.2.2.2.2.1, r4.2.2.2.2.2.2.1, r4.2.2.2.2.2.2.2) else none)) else some (0, r1, p1_count, p1_letters, p1_digits, p1_xs, p1_ys, p1_zs)))))
set_option maxHeartbeats 4000000 in
set_option maxRecDepth 100000 in
theorem kX4_takeStatement (l : Launch) (D : va_G) (cA : Nat → ClassId) (h_o : Nat) (h_p1 : Nat) (h_o_text : Nat) (h_p1_letters : Nat) (h_p1_digits : Nat) (h_p1_xs : Nat) (h_p1_ys : Nat) (h_p1_zs : Nat) (o_side : Int32) (o_length : Int32) (o_place : Int32) (p1_count : Int32) (o_text_n : Nat) (o_text : Nat → Int32) (p1_letters_n : Nat) (p1_letters : Nat → Int32) (p1_digits_n : Nat) (p1_digits : Nat → Int32) (p1_xs_n : Nat) (p1_xs : Nat → Int32) (p1_ys_n : Nat) (p1_ys : Nat → Int32) (p1_zs_n : Nat) (p1_zs : Nat → Int32)  (N : Nat) (res : RX4_takeStatement) (hf0 : fX4_takeStatement N o_side o_length o_place p1_count o_text_n o_text p1_letters_n p1_letters p1_digits_n p1_digits p1_xs_n p1_xs p1_ys_n p1_ys p1_zs_n p1_zs = some res) : CtI l yX4_takeStatement (Cond.code yX4_takeStatement cX4_takeStatement 2 (some .boolean) :: tblG) rmX4_takeStatement D cA (wsX4_takeStatement cA h_o h_p1 h_o_text h_p1_letters h_p1_digits h_p1_xs h_p1_ys h_p1_zs o_side o_length o_place p1_count o_text_n o_text p1_letters_n p1_letters p1_digits_n p1_digits p1_xs_n p1_xs p1_ys_n p1_ys p1_zs_n p1_zs) [.ref h_o, .ref h_p1] res.1 (wsX4_takeStatement cA h_o h_p1 h_o_text h_p1_letters h_p1_digits h_p1_xs h_p1_ys h_p1_zs o_side o_length res.2.1 res.2.2.1 o_text_n o_text p1_letters_n res.2.2.2.1 p1_digits_n res.2.2.2.2.1 p1_xs_n res.2.2.2.2.2.1 p1_ys_n res.2.2.2.2.2.2.1 p1_zs_n res.2.2.2.2.2.2.2) := by
  refine CtI.start (lv := [(0, .ref h_o), (1, .ref h_p1)]) (by decide) (Nat.le_of_ble_eq_true rfl) rfl (fun κ hE => ?_)
  rw [fX4_takeStatement] at hf0
  refine z_aload_n 0 (pc := 0) dX4_takeStatement_0 rfl ?_
  obtain ⟨r1, er1, hf0⟩ := bp hf0
  refine z_callvV (pc := 1) (As := []) (rest := []) (ws' := (wsX4_takeStatement cA h_o h_p1 h_o_text h_p1_letters h_p1_digits h_p1_xs h_p1_ys h_p1_zs o_side o_length r1 p1_count o_text_n o_text p1_letters_n p1_letters p1_digits_n p1_digits p1_xs_n p1_xs p1_ys_n p1_ys p1_zs_n p1_zs)) (kX4_skipSpaces l D cA h_o h_o_text o_side o_length o_place o_text_n o_text  N r1 er1) ivX4_37 ⟨rfl, rfl⟩ ⟨by decide, by decide⟩ rfl ⟨Nat.zero_le _, Nat.zero_le _⟩ rfl rfl [0, 2] rfl (by decide) rfl rfl rfl (Nat.le_of_ble_eq_true rfl) dX4_takeStatement_1 ?_
  refine z_aload_n 0 (pc := 4) dX4_takeStatement_4 rfl ?_
  obtain ⟨r2, er2, hf0⟩ := bp hf0
  refine z_calliV (pc := 5) (As := []) (rest := []) (ws' := (wsX4_takeStatement cA h_o h_p1 h_o_text h_p1_letters h_p1_digits h_p1_xs h_p1_ys h_p1_zs o_side o_length r1 p1_count o_text_n o_text p1_letters_n p1_letters p1_digits_n p1_digits p1_xs_n p1_xs p1_ys_n p1_ys p1_zs_n p1_zs)) (kX4_here l D cA h_o h_o_text o_side o_length r1 o_text_n o_text  N r2 er2) ivX4_40 ⟨rfl, rfl⟩ ⟨by decide, by decide⟩ rfl ⟨Nat.zero_le _, Nat.zero_le _⟩ rfl rfl [0, 2] rfl (by decide) rfl rfl rfl (Nat.le_of_ble_eq_true rfl) dX4_takeStatement_5 ?_
  by_cases w8_0 : r2 = 71
  · have hf0 := fp w8_0 hf0
    refine y_lookup (pc := 8) (off := 34) (tgt := 42) dX4_takeStatement_8 (by decide) (by rw [w8_0]; first | done | rfl) (by decide) ?_
    refine z_aload_n 0 (pc := 42) dX4_takeStatement_42 rfl ?_
    refine z_aload_n 1 (pc := 43) dX4_takeStatement_43 rfl ?_
    obtain ⟨r3, er3, hf0⟩ := bp hf0
    refine z_calliV (pc := 44) (As := [.ref h_p1]) (rest := []) (ws' := (wsX4_takeStatement cA h_o h_p1 h_o_text h_p1_letters h_p1_digits h_p1_xs h_p1_ys h_p1_zs o_side o_length r3.2.1 r3.2.2.1 o_text_n o_text p1_letters_n r3.2.2.2.1 p1_digits_n r3.2.2.2.2.1 p1_xs_n r3.2.2.2.2.2.1 p1_ys_n r3.2.2.2.2.2.2.1 p1_zs_n r3.2.2.2.2.2.2.2)) (kX4_takeMove l D cA h_o h_p1 h_o_text h_p1_letters h_p1_digits h_p1_xs h_p1_ys h_p1_zs o_side o_length r1 p1_count o_text_n o_text p1_letters_n p1_letters p1_digits_n p1_digits p1_xs_n p1_xs p1_ys_n p1_ys p1_zs_n p1_zs  N r3 er3) ivX4_47 ⟨rfl, rfl⟩ ⟨by decide, by decide⟩ rfl ⟨Nat.zero_le _, Nat.zero_le _⟩ rfl rfl [0, 1, 2, 3, 4, 5, 6, 7] rfl (by decide) rfl rfl rfl (Nat.le_of_ble_eq_true rfl) dX4_takeStatement_44 ?_
    exact z_zret dX4_takeStatement_47 hf0 (fun hf0 => by obtain rfl := Option.some.inj hf0; exact hE)
  have hf0 := fn w8_0 hf0
  by_cases w8_1 : r2 = 84
  · have hf0 := fp w8_1 hf0
    refine y_lookup (pc := 8) (off := 28) (tgt := 36) dX4_takeStatement_8 (by decide) (by rw [w8_1]; first | done | rfl) (by decide) ?_
    refine z_aload_n 0 (pc := 36) dX4_takeStatement_36 rfl ?_
    refine z_aload_n 1 (pc := 37) dX4_takeStatement_37 rfl ?_
    obtain ⟨r4, er4, hf0⟩ := bp hf0
    refine z_calliV (pc := 38) (As := [.ref h_p1]) (rest := []) (ws' := (wsX4_takeStatement cA h_o h_p1 h_o_text h_p1_letters h_p1_digits h_p1_xs h_p1_ys h_p1_zs o_side o_length r4.2.1 r4.2.2.1 o_text_n o_text p1_letters_n r4.2.2.2.1 p1_digits_n r4.2.2.2.2.1 p1_xs_n r4.2.2.2.2.2.1 p1_ys_n r4.2.2.2.2.2.2.1 p1_zs_n r4.2.2.2.2.2.2.2)) (kX4_takeChange l D cA h_o h_p1 h_o_text h_p1_letters h_p1_digits h_p1_xs h_p1_ys h_p1_zs o_side o_length r1 p1_count o_text_n o_text p1_letters_n p1_letters p1_digits_n p1_digits p1_xs_n p1_xs p1_ys_n p1_ys p1_zs_n p1_zs  N r4 er4) ivX4_44 ⟨rfl, rfl⟩ ⟨by decide, by decide⟩ rfl ⟨Nat.zero_le _, Nat.zero_le _⟩ rfl rfl [0, 1, 2, 3, 4, 5, 6, 7] rfl (by decide) rfl rfl rfl (Nat.le_of_ble_eq_true rfl) dX4_takeStatement_38 ?_
    exact z_zret dX4_takeStatement_41 hf0 (fun hf0 => by obtain rfl := Option.some.inj hf0; exact hE)
  have hf0 := fn w8_1 hf0
  refine y_lookup (pc := 8) (off := 40) (tgt := 48) dX4_takeStatement_8 (by decide) ((lv_osw w8_0 (by decide)).trans ((lv_osw w8_1 (by decide)).trans rfl)) (by decide) ?_
  refine z_iconst (pc := 48) (v := 0) dX4_takeStatement_48 (by decide) ?_
  obtain rfl := Option.some.inj hf0
  exact z_zretL (by decide) hE dX4_takeStatement_49

abbrev RX4_parse : Type := Int32 × Int32 × Int32 × Int32 × (Nat → Int32) × (Nat → Int32) × (Nat → Int32) × (Nat → Int32) × (Nat → Int32)
abbrev rmX4_parse : Room := { frames := 5, cells := 0, slots := 0, locals := 112 }
abbrev wsX4_parse (cA : Nat → ClassId) (h_o : Nat) (h_p1 : Nat) (h_o_text : Nat) (h_p1_letters : Nat) (h_p1_digits : Nat) (h_p1_xs : Nat) (h_p1_ys : Nat) (h_p1_zs : Nat) (o_side : Int32) (o_length : Int32) (o_place : Int32) (p1_count : Int32) (o_text_n : Nat) (o_text : Nat → Int32) (p1_letters_n : Nat) (p1_letters : Nat → Int32) (p1_digits_n : Nat) (p1_digits : Nat → Int32) (p1_xs_n : Nat) (p1_xs : Nat → Int32) (p1_ys_n : Nat) (p1_ys : Nat → Int32) (p1_zs_n : Nat) (p1_zs : Nat → Int32) : va_W := [(h_o, .inr (4, [.int o_side, .ref h_o_text, .int o_length, .int o_place])), (h_p1, .inr (3, [.int p1_count, .ref h_p1_letters, .ref h_p1_digits, .ref h_p1_xs, .ref h_p1_ys, .ref h_p1_zs])), (h_o_text, .inl (cA 0, o_text_n, .inl o_text)), (h_p1_letters, .inl (cA 2, p1_letters_n, .inl p1_letters)), (h_p1_digits, .inl (cA 0, p1_digits_n, .inl p1_digits)), (h_p1_xs, .inl (cA 0, p1_xs_n, .inl p1_xs)), (h_p1_ys, .inl (cA 0, p1_ys_n, .inl p1_ys)), (h_p1_zs, .inl (cA 0, p1_zs_n, .inl p1_zs))]
def JX4_parse_69 (o_place_50 : Int32) (p1_count_50 : Int32) (p1_letters_50 : Nat → Int32) (p1_digits_50 : Nat → Int32) (p1_xs_50 : Nat → Int32) (p1_ys_50 : Nat → Int32) (p1_zs_50 : Nat → Int32)  : Option (RX4_parse) :=
  some ((-1) - o_place_50, 0, o_place_50, p1_count_50, p1_letters_50, p1_digits_50, p1_xs_50, p1_ys_50, p1_zs_50)
def JX4_parse_50 (o_length : Int32) (x2_50 : Int32) (o_place_50 : Int32) (p1_count_50 : Int32) (p1_digits_50 : Nat → Int32) (p1_letters_50 : Nat → Int32) (p1_xs_50 : Nat → Int32) (p1_ys_50 : Nat → Int32) (p1_zs_50 : Nat → Int32) : Option (RX4_parse) :=
  (if x2_50 = 0 then JX4_parse_69 o_place_50 p1_count_50 p1_letters_50 p1_digits_50 p1_xs_50 p1_ys_50 p1_zs_50  else (if o_place_50 < o_length then JX4_parse_69 o_place_50 p1_count_50 p1_letters_50 p1_digits_50 p1_xs_50 p1_ys_50 p1_zs_50  else some (p1_count_50, 0, o_place_50, p1_count_50, p1_letters_50, p1_digits_50, p1_xs_50, p1_ys_50, p1_zs_50)))
def LX4_parse_17 (o_length : Int32) (N : Nat) (o_side : Int32) (o_text_n : Nat) (o_text : Nat → Int32) (p1_letters_n : Nat) (p1_digits_n : Nat) (p1_xs_n : Nat) (p1_ys_n : Nat) (p1_zs_n : Nat) : Nat → Int32 → Int32 → Int32 → Int32 → (Nat → Int32) → (Nat → Int32) → (Nat → Int32) → (Nat → Int32) → (Nat → Int32) → Option (Int32 × Int32 × Int32 × Int32 × (Nat → Int32) × (Nat → Int32) × (Nat → Int32) × (Nat → Int32) × (Nat → Int32))
  | 0, _, _, _, _, _, _, _, _, _ => none
  | n + 1, x2_17, x3_17, o_place_17, p1_count_17, p1_digits_17, p1_letters_17, p1_xs_17, p1_ys_17, p1_zs_17 => (if 32 ≤ x3_17 then some (x2_17, x3_17, o_place_17, p1_count_17, p1_digits_17, p1_letters_17, p1_xs_17, p1_ys_17, p1_zs_17) else (if x2_17 = 0 then some (x2_17, x3_17, o_place_17, p1_count_17, p1_digits_17, p1_letters_17, p1_xs_17, p1_ys_17, p1_zs_17) else (if o_length ≤ o_place_17 then some (x2_17, x3_17, o_place_17, p1_count_17, p1_digits_17, p1_letters_17, p1_xs_17, p1_ys_17, p1_zs_17) else ((fX4_takeStatement N o_side o_length o_place_17 p1_count_17 o_text_n o_text p1_letters_n p1_letters_17 p1_digits_n p1_digits_17 p1_xs_n p1_xs_17 p1_ys_n p1_ys_17 p1_zs_n p1_zs_17).bind fun r4 => LX4_parse_17 o_length N o_side o_text_n o_text p1_letters_n p1_digits_n p1_xs_n p1_ys_n p1_zs_n n r4.1 (x3_17 + 1) r4.2.1 r4.2.2.1 r4.2.2.2.2.1 r4.2.2.2.1 r4.2.2.2.2.2.1 r4.2.2.2.2.2.2.1 r4.2.2.2.2.2.2.2))))
def fX4_parse (N : Nat)  (o_side : Int32) (o_length : Int32) (o_place : Int32) (p1_count : Int32) (o_text_n : Nat) (o_text : Nat → Int32) (p1_letters_n : Nat) (p1_letters : Nat → Int32) (p1_digits_n : Nat) (p1_digits : Nat → Int32) (p1_xs_n : Nat) (p1_xs : Nat → Int32) (p1_ys_n : Nat) (p1_ys : Nat → Int32) (p1_zs_n : Nat) (p1_zs : Nat → Int32) : Option RX4_parse :=
  ((fX3_clear N p1_count).bind fun r1 => ((fX4_takeStatement N o_side o_length 0 r1 o_text_n o_text p1_letters_n p1_letters p1_digits_n p1_digits p1_xs_n p1_xs p1_ys_n p1_ys p1_zs_n p1_zs).bind fun r2 => ((LX4_parse_17 o_length N o_side o_text_n o_text p1_letters_n p1_digits_n p1_xs_n p1_ys_n p1_zs_n N r2.1 1 r2.2.1 r2.2.2.1 r2.2.2.2.2.1 r2.2.2.2.1 r2.2.2.2.2.2.1 r2.2.2.2.2.2.2.1 r2.2.2.2.2.2.2.2).bind fun r3 => JX4_parse_50 o_length r3.1 r3.2.2.1 r3.2.2.2.1 r3.2.2.2.2.1 r3.2.2.2.2.2.1 r3.2.2.2.2.2.2.1 r3.2.2.2.2.2.2.2.1 r3.2.2.2.2.2.2.2.2)))
set_option maxHeartbeats 4000000 in
set_option maxRecDepth 100000 in
theorem kX4_parse (l : Launch) (D : va_G) (cA : Nat → ClassId) (h_o : Nat) (h_p1 : Nat) (h_o_text : Nat) (h_p1_letters : Nat) (h_p1_digits : Nat) (h_p1_xs : Nat) (h_p1_ys : Nat) (h_p1_zs : Nat) (o_side : Int32) (o_length : Int32) (o_place : Int32) (p1_count : Int32) (o_text_n : Nat) (o_text : Nat → Int32) (p1_letters_n : Nat) (p1_letters : Nat → Int32) (p1_digits_n : Nat) (p1_digits : Nat → Int32) (p1_xs_n : Nat) (p1_xs : Nat → Int32) (p1_ys_n : Nat) (p1_ys : Nat → Int32) (p1_zs_n : Nat) (p1_zs : Nat → Int32)  (N : Nat) (res : RX4_parse) (hf0 : fX4_parse N o_side o_length o_place p1_count o_text_n o_text p1_letters_n p1_letters p1_digits_n p1_digits p1_xs_n p1_xs p1_ys_n p1_ys p1_zs_n p1_zs = some res) : CtI l yX4_parse (Cond.code yX4_parse cX4_parse 4 (some .int) :: tblG) rmX4_parse D cA (wsX4_parse cA h_o h_p1 h_o_text h_p1_letters h_p1_digits h_p1_xs h_p1_ys h_p1_zs o_side o_length o_place p1_count o_text_n o_text p1_letters_n p1_letters p1_digits_n p1_digits p1_xs_n p1_xs p1_ys_n p1_ys p1_zs_n p1_zs) [.ref h_o, .ref h_p1] res.1 (wsX4_parse cA h_o h_p1 h_o_text h_p1_letters h_p1_digits h_p1_xs h_p1_ys h_p1_zs o_side res.2.1 res.2.2.1 res.2.2.2.1 o_text_n o_text p1_letters_n res.2.2.2.2.1 p1_digits_n res.2.2.2.2.2.1 p1_xs_n res.2.2.2.2.2.2.1 p1_ys_n res.2.2.2.2.2.2.2.1 p1_zs_n res.2.2.2.2.2.2.2.2) := by
  refine CtI.start (lv := [(0, .ref h_o), (1, .ref h_p1)]) (by decide) (Nat.le_of_ble_eq_true rfl) rfl (fun κ hE => ?_)
  rw [fX4_parse] at hf0
  refine z_aload_n 0 (pc := 0) dX4_parse_0 rfl ?_
  refine z_iconst (pc := 1) (v := 0) dX4_parse_1 (by decide) ?_
  refine z_put 0 3 (pc := 2) (ws' := (wsX4_parse cA h_o h_p1 h_o_text h_p1_letters h_p1_digits h_p1_xs h_p1_ys h_p1_zs o_side o_length 0 p1_count o_text_n o_text p1_letters_n p1_letters p1_digits_n p1_digits p1_xs_n p1_xs p1_ys_n p1_ys p1_zs_n p1_zs)) rfl rfl inX4 tyX4 tyX4_ok nmX4 (by decide) flX4_22 rfl rfl rfl rfl (Nat.le_of_ble_eq_true rfl) dX4_parse_2 rfl ?_
  refine z_aload_n 1 (pc := 5) dX4_parse_5 rfl ?_
  obtain ⟨r1, er1, hf0⟩ := bp hf0
  refine z_callvV (pc := 6) (As := []) (rest := []) (ws' := (wsX4_parse cA h_o h_p1 h_o_text h_p1_letters h_p1_digits h_p1_xs h_p1_ys h_p1_zs o_side o_length 0 r1 o_text_n o_text p1_letters_n p1_letters p1_digits_n p1_digits p1_xs_n p1_xs p1_ys_n p1_ys p1_zs_n p1_zs)) (kX3_clear l D cA h_p1 p1_count (.ref h_p1_letters) (.ref h_p1_digits) (.ref h_p1_xs) (.ref h_p1_ys) (.ref h_p1_zs)  N r1 er1) ivX4_25 ⟨rfl, rfl⟩ ⟨by decide, by decide⟩ rfl ⟨Nat.zero_le _, Nat.zero_le _⟩ rfl rfl [1] rfl (by decide) rfl rfl rfl (Nat.le_of_ble_eq_true rfl) dX4_parse_6 ?_
  refine z_aload_n 0 (pc := 9) dX4_parse_9 rfl ?_
  refine z_aload_n 1 (pc := 10) dX4_parse_10 rfl ?_
  obtain ⟨r2, er2, hf0⟩ := bp hf0
  refine z_calliV (pc := 11) (As := [.ref h_p1]) (rest := []) (ws' := (wsX4_parse cA h_o h_p1 h_o_text h_p1_letters h_p1_digits h_p1_xs h_p1_ys h_p1_zs o_side o_length r2.2.1 r2.2.2.1 o_text_n o_text p1_letters_n r2.2.2.2.1 p1_digits_n r2.2.2.2.2.1 p1_xs_n r2.2.2.2.2.2.1 p1_ys_n r2.2.2.2.2.2.2.1 p1_zs_n r2.2.2.2.2.2.2.2)) (kX4_takeStatement l D cA h_o h_p1 h_o_text h_p1_letters h_p1_digits h_p1_xs h_p1_ys h_p1_zs o_side o_length 0 r1 o_text_n o_text p1_letters_n p1_letters p1_digits_n p1_digits p1_xs_n p1_xs p1_ys_n p1_ys p1_zs_n p1_zs  N r2 er2) ivX4_30 ⟨rfl, rfl⟩ ⟨by decide, by decide⟩ rfl ⟨Nat.zero_le _, Nat.zero_le _⟩ rfl rfl [0, 1, 2, 3, 4, 5, 6, 7] rfl (by decide) rfl rfl rfl (Nat.le_of_ble_eq_true rfl) dX4_parse_11 ?_
  refine z_istore_n (pc := 14) (lv' := [(2, .int r2.1), (0, .ref h_o), (1, .ref h_p1)]) dX4_parse_14 (by decide) rfl ?_
  refine z_iconst (pc := 15) (v := 1) dX4_parse_15 (by decide) ?_
  refine z_istore_n (pc := 16) (lv' := [(3, .int 1), (2, .int r2.1), (0, .ref h_o), (1, .ref h_p1)]) dX4_parse_16 (by decide) rfl ?_
  have j50 : ∀ (x2_50 : Int32) (o_place_50 : Int32) (p1_count_50 : Int32) (p1_digits_50 : Nat → Int32) (p1_letters_50 : Nat → Int32) (p1_xs_50 : Nat → Int32) (p1_ys_50 : Nat → Int32) (p1_zs_50 : Nat → Int32), JX4_parse_50 o_length x2_50 o_place_50 p1_count_50 p1_digits_50 p1_letters_50 p1_xs_50 p1_ys_50 p1_zs_50 = some res → V κ false l D cA rmX4_parse cX4_parse 4 RX4 (some .int) 0 0 50 [(0, .ref h_o), (1, .ref h_p1), (2, .int x2_50)] [] (wsX4_parse cA h_o h_p1 h_o_text h_p1_letters h_p1_digits h_p1_xs h_p1_ys h_p1_zs o_side o_length o_place_50 p1_count_50 o_text_n o_text p1_letters_n p1_letters_50 p1_digits_n p1_digits_50 p1_xs_n p1_xs_50 p1_ys_n p1_ys_50 p1_zs_n p1_zs_50) := by
    intro x2_50 o_place_50 p1_count_50 p1_digits_50 p1_letters_50 p1_xs_50 p1_ys_50 p1_zs_50 hf0
    rw [JX4_parse_50] at hf0
    refine z_iload_n 2 (pc := 50) dX4_parse_50 rfl ?_
    have j69 : JX4_parse_69 o_place_50 p1_count_50 p1_letters_50 p1_digits_50 p1_xs_50 p1_ys_50 p1_zs_50  = some res → V κ false l D cA rmX4_parse cX4_parse 4 RX4 (some .int) 0 0 69 [(0, .ref h_o), (1, .ref h_p1), (2, .int x2_50)] [] (wsX4_parse cA h_o h_p1 h_o_text h_p1_letters h_p1_digits h_p1_xs h_p1_ys h_p1_zs o_side o_length o_place_50 p1_count_50 o_text_n o_text p1_letters_n p1_letters_50 p1_digits_n p1_digits_50 p1_xs_n p1_xs_50 p1_ys_n p1_ys_50 p1_zs_n p1_zs_50) := by
      intro hf0
      rw [JX4_parse_69] at hf0
      refine z_iconst (pc := 69) (v := 0) dX4_parse_69 (by decide) ?_
      refine z_istore_n (pc := 70) (lv' := [(3, .int 0), (0, .ref h_o), (1, .ref h_p1), (2, .int x2_50)]) dX4_parse_70 (by decide) rfl ?_
      refine z_aload_n 1 (pc := 71) dX4_parse_71 rfl ?_
      refine z_iconst (pc := 72) (v := 0) dX4_parse_72 (by decide) ?_
      refine z_put 0 2 (pc := 73) (ws' := (wsX4_parse cA h_o h_p1 h_o_text h_p1_letters h_p1_digits h_p1_xs h_p1_ys h_p1_zs o_side 0 o_place_50 p1_count_50 o_text_n o_text p1_letters_n p1_letters_50 p1_digits_n p1_digits_50 p1_xs_n p1_xs_50 p1_ys_n p1_ys_50 p1_zs_n p1_zs_50)) rfl rfl inX4 tyX4 tyX4_ok nmX4 (by decide) flX4_19 rfl rfl rfl rfl (Nat.le_of_ble_eq_true rfl) dX4_parse_73 rfl ?_
      refine z_iload_n 0 (pc := 76) dX4_parse_76 rfl ?_
      refine y_if_eq (pc := 77) (tgt := 87) dX4_parse_77 (by decide) (fun _ => ?_) (fun hc => absurd (by decide) hc)
      refine z_iconst (pc := 87) (v := (-1)) dX4_parse_87 (by decide) ?_
      refine z_aload_n 1 (pc := 88) dX4_parse_88 rfl ?_
      refine z_get 0 3 (pc := 89) (v := .int o_place_50) rfl rfl inX4 (by decide) flX4_22 rfl dX4_parse_89 ?_
      refine z_isub (pc := 92) dX4_parse_92 ?_
      obtain rfl := Option.some.inj hf0
      exact z_iret hE dX4_parse_93
    refine z_if_eq (pc := 51) (tgt := 69) dX4_parse_51 (by decide) hf0 (fun hf0 => ?_) (fun hf0 => ?_)
    · exact z_lv [0, 1, 2] rfl (j69  hf0)
    · refine z_aload_n 0 (pc := 54) dX4_parse_54 rfl ?_
      refine z_get 0 3 (pc := 55) (v := .int o_place_50) rfl rfl inX4 (by decide) flX4_22 rfl dX4_parse_55 ?_
      refine z_aload_n 0 (pc := 58) dX4_parse_58 rfl ?_
      refine z_get 0 2 (pc := 59) (v := .int o_length) rfl rfl inX4 (by decide) flX4_19 rfl dX4_parse_59 ?_
      refine z_icmp_lt (pc := 62) (tgt := 69) dX4_parse_62 (by decide) hf0 (fun hf0 => ?_) (fun hf0 => ?_)
      · exact z_lv [0, 1, 2] rfl (j69  hf0)
      · refine z_iconst (pc := 65) (v := 1) dX4_parse_65 (by decide) ?_
        refine z_goto (pc := 66) (tgt := 70) dX4_parse_66 (by decide) ?_
        refine z_istore_n (pc := 70) (lv' := [(3, .int 1), (0, .ref h_o), (1, .ref h_p1), (2, .int x2_50)]) dX4_parse_70 (by decide) rfl ?_
        refine z_aload_n 1 (pc := 71) dX4_parse_71 rfl ?_
        refine z_iconst (pc := 72) (v := 0) dX4_parse_72 (by decide) ?_
        refine z_put 0 2 (pc := 73) (ws' := (wsX4_parse cA h_o h_p1 h_o_text h_p1_letters h_p1_digits h_p1_xs h_p1_ys h_p1_zs o_side 0 o_place_50 p1_count_50 o_text_n o_text p1_letters_n p1_letters_50 p1_digits_n p1_digits_50 p1_xs_n p1_xs_50 p1_ys_n p1_ys_50 p1_zs_n p1_zs_50)) rfl rfl inX4 tyX4 tyX4_ok nmX4 (by decide) flX4_19 rfl rfl rfl rfl (Nat.le_of_ble_eq_true rfl) dX4_parse_73 rfl ?_
        refine z_iload_n 0 (pc := 76) dX4_parse_76 rfl ?_
        refine y_if_eq (pc := 77) (tgt := 87) dX4_parse_77 (by decide) (fun hc => absurd hc (by decide)) (fun _ => ?_)
        refine z_aload_n 2 (pc := 80) dX4_parse_80 rfl ?_
        refine z_get 1 0 (pc := 81) (v := .int p1_count_50) rfl rfl inX3 (by decide) flX4_34 rfl dX4_parse_81 ?_
        refine z_goto (pc := 84) (tgt := 93) dX4_parse_84 (by decide) ?_
        obtain rfl := Option.some.inj hf0
        exact z_iret hE dX4_parse_93
  obtain ⟨y17, hf0_17, hf0⟩ := bp hf0
  have lp17 : ∀ (n : Nat) (x2_17 : Int32) (x3_17 : Int32) (o_place_17 : Int32) (p1_count_17 : Int32) (p1_digits_17 : Nat → Int32) (p1_letters_17 : Nat → Int32) (p1_xs_17 : Nat → Int32) (p1_ys_17 : Nat → Int32) (p1_zs_17 : Nat → Int32), LX4_parse_17 o_length N o_side o_text_n o_text p1_letters_n p1_digits_n p1_xs_n p1_ys_n p1_zs_n n x2_17 x3_17 o_place_17 p1_count_17 p1_digits_17 p1_letters_17 p1_xs_17 p1_ys_17 p1_zs_17 = some y17 → V κ false l D cA rmX4_parse cX4_parse 4 RX4 (some .int) 0 0 17 [(0, .ref h_o), (1, .ref h_p1), (2, .int x2_17), (3, .int x3_17)] [] (wsX4_parse cA h_o h_p1 h_o_text h_p1_letters h_p1_digits h_p1_xs h_p1_ys h_p1_zs o_side o_length o_place_17 p1_count_17 o_text_n o_text p1_letters_n p1_letters_17 p1_digits_n p1_digits_17 p1_xs_n p1_xs_17 p1_ys_n p1_ys_17 p1_zs_n p1_zs_17) := by
    intro n
    induction n with
    | zero => intro x2_17 x3_17 o_place_17 p1_count_17 p1_digits_17 p1_letters_17 p1_xs_17 p1_ys_17 p1_zs_17 hf0_17; rw [LX4_parse_17] at hf0_17; cases hf0_17
    | succ n17 ih17 =>
      intro x2_17 x3_17 o_place_17 p1_count_17 p1_digits_17 p1_letters_17 p1_xs_17 p1_ys_17 p1_zs_17 hf0_17
      rw [LX4_parse_17] at hf0_17
      refine z_iload_n 3 (pc := 17) dX4_parse_17 rfl ?_
      refine z_bipush (pc := 18) (v := 32) dX4_parse_18 (by decide) ?_
      refine z_icmp_ge (pc := 20) (tgt := 50) dX4_parse_20 (by decide) hf0_17 (fun hf0_17 => ?_) (fun hf0_17 => ?_)
      · obtain rfl := Option.some.inj hf0_17
        exact z_lv [0, 1, 2] rfl (j50 x2_17 o_place_17 p1_count_17 p1_digits_17 p1_letters_17 p1_xs_17 p1_ys_17 p1_zs_17 hf0)
      · refine z_iload_n 2 (pc := 23) dX4_parse_23 rfl ?_
        refine z_if_eq (pc := 24) (tgt := 50) dX4_parse_24 (by decide) hf0_17 (fun hf0_17 => ?_) (fun hf0_17 => ?_)
        · obtain rfl := Option.some.inj hf0_17
          exact z_lv [0, 1, 2] rfl (j50 x2_17 o_place_17 p1_count_17 p1_digits_17 p1_letters_17 p1_xs_17 p1_ys_17 p1_zs_17 hf0)
        · refine z_aload_n 0 (pc := 27) dX4_parse_27 rfl ?_
          refine z_get 0 3 (pc := 28) (v := .int o_place_17) rfl rfl inX4 (by decide) flX4_22 rfl dX4_parse_28 ?_
          refine z_aload_n 0 (pc := 31) dX4_parse_31 rfl ?_
          refine z_get 0 2 (pc := 32) (v := .int o_length) rfl rfl inX4 (by decide) flX4_19 rfl dX4_parse_32 ?_
          refine z_icmp_ge (pc := 35) (tgt := 50) dX4_parse_35 (by decide) hf0_17 (fun hf0_17 => ?_) (fun hf0_17 => ?_)
          · obtain rfl := Option.some.inj hf0_17
            exact z_lv [0, 1, 2] rfl (j50 x2_17 o_place_17 p1_count_17 p1_digits_17 p1_letters_17 p1_xs_17 p1_ys_17 p1_zs_17 hf0)
          · refine z_aload_n 0 (pc := 38) dX4_parse_38 rfl ?_
            refine z_aload_n 1 (pc := 39) dX4_parse_39 rfl ?_
            obtain ⟨r4, er4, hf0_17⟩ := bp hf0_17
            refine z_calliV (pc := 40) (As := [.ref h_p1]) (rest := []) (ws' := (wsX4_parse cA h_o h_p1 h_o_text h_p1_letters h_p1_digits h_p1_xs h_p1_ys h_p1_zs o_side o_length r4.2.1 r4.2.2.1 o_text_n o_text p1_letters_n r4.2.2.2.1 p1_digits_n r4.2.2.2.2.1 p1_xs_n r4.2.2.2.2.2.1 p1_ys_n r4.2.2.2.2.2.2.1 p1_zs_n r4.2.2.2.2.2.2.2)) (kX4_takeStatement l D cA h_o h_p1 h_o_text h_p1_letters h_p1_digits h_p1_xs h_p1_ys h_p1_zs o_side o_length o_place_17 p1_count_17 o_text_n o_text p1_letters_n p1_letters_17 p1_digits_n p1_digits_17 p1_xs_n p1_xs_17 p1_ys_n p1_ys_17 p1_zs_n p1_zs_17  N r4 er4) ivX4_30 ⟨rfl, rfl⟩ ⟨by decide, by decide⟩ rfl ⟨Nat.zero_le _, Nat.zero_le _⟩ rfl rfl [0, 1, 2, 3, 4, 5, 6, 7] rfl (by decide) rfl rfl rfl (Nat.le_of_ble_eq_true rfl) dX4_parse_40 ?_
            refine z_istore_n (pc := 43) (lv' := [(2, .int r4.1), (0, .ref h_o), (1, .ref h_p1), (3, .int x3_17)]) dX4_parse_43 (by decide) rfl ?_
            refine z_iinc 3 (pc := 44) (v := x3_17 + 1) (lv' := [(3, .int (x3_17 + 1)), (2, .int r4.1), (0, .ref h_o), (1, .ref h_p1)]) dX4_parse_44 rfl rfl (by decide) rfl ?_
            refine z_goto (pc := 47) (tgt := 17) dX4_parse_47 (by decide) ?_
            exact z_lv [2, 3, 1, 0] rfl (ih17 r4.1 (x3_17 + 1) r4.2.1 r4.2.2.1 r4.2.2.2.2.1 r4.2.2.2.1 r4.2.2.2.2.2.1 r4.2.2.2.2.2.2.1 r4.2.2.2.2.2.2.2 hf0_17)
  exact z_lv [2, 3, 1, 0] rfl (lp17 N r2.1 1 r2.2.1 r2.2.2.1 r2.2.2.2.2.1 r2.2.2.2.1 r2.2.2.2.2.2.1 r2.2.2.2.2.2.2.1 r2.2.2.2.2.2.2.2 hf0_17)
