abbrev RX3_clear : Type := Int32
abbrev rmX3_clear : Room := { frames := 0, cells := 0, slots := 0, locals := 0 }
abbrev wsX3_clear (cA : Nat → ClassId) (h_o : Nat) (o_count : Int32) (o_letters : Value) (o_digits : Value) (o_xs : Value) (o_ys : Value) (o_zs : Value) : va_W := [(h_o, .inr (3, [.int o_count, o_letters, o_digits, o_xs, o_ys, o_zs]))]
def fX3_clear (N : Nat)  (o_count : Int32) : Option RX3_clear :=
  some 0
set_option maxHeartbeats 4000000 in
set_option maxRecDepth 100000 in
theorem kX3_clear (l : Launch) (D : va_G) (cA : Nat → ClassId) (h_o : Nat) (o_count : Int32) (o_letters : Value) (o_digits : Value) (o_xs : Value) (o_ys : Value) (o_zs : Value)  (N : Nat) (res : RX3_clear) (hf0 : fX3_clear N o_count = some res) : CtV l yX3_clear (Cond.code yX3_clear cX3_clear 1 (none) :: tblG) rmX3_clear D cA (wsX3_clear cA h_o o_count o_letters o_digits o_xs o_ys o_zs) [.ref h_o] (wsX3_clear cA h_o res o_letters o_digits o_xs o_ys o_zs) := by
  refine CtV.start (lv := [(0, .ref h_o)]) (by decide) (Nat.le_of_ble_eq_true rfl) rfl (fun κ hE => ?_)
  rw [fX3_clear] at hf0
  refine z_aload_n 0 (pc := 0) dX3_clear_0 rfl ?_
  refine z_iconst (pc := 1) (v := 0) dX3_clear_1 (by decide) ?_
  refine z_put 0 0 (pc := 2) (ws' := (wsX3_clear cA h_o 0 o_letters o_digits o_xs o_ys o_zs)) rfl rfl inX3 tyX3 tyX3_ok nmX3 (by decide) flX3_9 rfl rfl rfl rfl (Nat.le_of_ble_eq_true rfl) dX3_clear_2 rfl ?_
  obtain rfl := Option.some.inj hf0
  exact z_vret hE dX3_clear_5

abbrev RX3_add : Type := Int32 × (Nat → Int32) × (Nat → Int32) × (Nat → Int32) × (Nat → Int32) × (Nat → Int32)
abbrev rmX3_add : Room := { frames := 0, cells := 0, slots := 0, locals := 0 }
abbrev wsX3_add (cA : Nat → ClassId) (h_o : Nat) (h_o_letters : Nat) (h_o_digits : Nat) (h_o_xs : Nat) (h_o_ys : Nat) (h_o_zs : Nat) (o_count : Int32) (o_letters_n : Nat) (o_letters : Nat → Int32) (o_digits_n : Nat) (o_digits : Nat → Int32) (o_xs_n : Nat) (o_xs : Nat → Int32) (o_ys_n : Nat) (o_ys : Nat → Int32) (o_zs_n : Nat) (o_zs : Nat → Int32) : va_W := [(h_o, .inr (3, [.int o_count, .ref h_o_letters, .ref h_o_digits, .ref h_o_xs, .ref h_o_ys, .ref h_o_zs])), (h_o_letters, .inl (cA 2, o_letters_n, .inl o_letters)), (h_o_digits, .inl (cA 0, o_digits_n, .inl o_digits)), (h_o_xs, .inl (cA 0, o_xs_n, .inl o_xs)), (h_o_ys, .inl (cA 0, o_ys_n, .inl o_ys)), (h_o_zs, .inl (cA 0, o_zs_n, .inl o_zs))]
def fX3_add (N : Nat) (a1 : Int32) (a2 : Int32) (a3 : Int32) (a4 : Int32) (a5 : Int32) (o_count : Int32) (o_letters_n : Nat) (o_letters : Nat → Int32) (o_digits_n : Nat) (o_digits : Nat → Int32) (o_xs_n : Nat) (o_xs : Nat → Int32) (o_ys_n : Nat) (o_ys : Nat → Int32) (o_zs_n : Nat) (o_zs : Nat → Int32) : Option RX3_add :=
  (if 32 ≤ o_count then some (o_count, o_letters, o_digits, o_xs, o_ys, o_zs) else (if o_count < 0 ∨ o_letters_n ≤ o_count.toNatClampNeg then none else (if o_count < 0 ∨ o_digits_n ≤ o_count.toNatClampNeg then none else (if o_count < 0 ∨ o_xs_n ≤ o_count.toNatClampNeg then none else (if o_count < 0 ∨ o_ys_n ≤ o_count.toNatClampNeg then none else (if o_count < 0 ∨ o_zs_n ≤ o_count.toNatClampNeg then none else some (o_count + 1, upd o_letters o_count.toNatClampNeg (vp_nar .char a1), upd o_digits o_count.toNatClampNeg a2, upd o_xs o_count.toNatClampNeg a3, upd o_ys o_count.toNatClampNeg a4, upd o_zs o_count.toNatClampNeg a5)))))))
set_option maxHeartbeats 4000000 in
set_option maxRecDepth 100000 in
theorem kX3_add (l : Launch) (D : va_G) (cA : Nat → ClassId) (h_o : Nat) (h_o_letters : Nat) (h_o_digits : Nat) (h_o_xs : Nat) (h_o_ys : Nat) (h_o_zs : Nat) (o_count : Int32) (o_letters_n : Nat) (o_letters : Nat → Int32) (o_digits_n : Nat) (o_digits : Nat → Int32) (o_xs_n : Nat) (o_xs : Nat → Int32) (o_ys_n : Nat) (o_ys : Nat → Int32) (o_zs_n : Nat) (o_zs : Nat → Int32) (a1 : Int32) (a2 : Int32) (a3 : Int32) (a4 : Int32) (a5 : Int32) (N : Nat) (res : RX3_add) (hf0 : fX3_add N a1 a2 a3 a4 a5 o_count o_letters_n o_letters o_digits_n o_digits o_xs_n o_xs o_ys_n o_ys o_zs_n o_zs = some res) : CtV l yX3_add (Cond.code yX3_add cX3_add 6 (none) :: tblG) rmX3_add D cA (wsX3_add cA h_o h_o_letters h_o_digits h_o_xs h_o_ys h_o_zs o_count o_letters_n o_letters o_digits_n o_digits o_xs_n o_xs o_ys_n o_ys o_zs_n o_zs) [.ref h_o, .int a1, .int a2, .int a3, .int a4, .int a5] (wsX3_add cA h_o h_o_letters h_o_digits h_o_xs h_o_ys h_o_zs res.1 o_letters_n res.2.1 o_digits_n res.2.2.1 o_xs_n res.2.2.2.1 o_ys_n res.2.2.2.2.1 o_zs_n res.2.2.2.2.2) := by
  refine CtV.start (lv := [(0, .ref h_o), (1, .int a1), (2, .int a2), (3, .int a3), (4, .int a4), (5, .int a5)]) (by decide) (Nat.le_of_ble_eq_true rfl) rfl (fun κ hE => ?_)
  rw [fX3_add] at hf0
  refine z_aload_n 0 (pc := 0) dX3_add_0 rfl ?_
  refine z_get 0 0 (pc := 1) (v := .int o_count) rfl rfl inX3 (by decide) flX3_9 rfl dX3_add_1 ?_
  refine z_bipush (pc := 4) (v := 32) dX3_add_4 (by decide) ?_
  refine z_icmp_ge (pc := 6) (tgt := 71) dX3_add_6 (by decide) hf0 (fun hf0 => ?_) (fun hf0 => ?_)
  · obtain rfl := Option.some.inj hf0
    exact z_vret hE dX3_add_71
  · refine z_aload_n 0 (pc := 9) dX3_add_9 rfl ?_
    refine z_get 0 1 (pc := 10) (v := .ref h_o_letters) rfl rfl inX3 (by decide) flX3_15 rfl dX3_add_10 ?_
    refine z_aload_n 0 (pc := 13) dX3_add_13 rfl ?_
    refine z_get 0 0 (pc := 14) (v := .int o_count) rfl rfl inX3 (by decide) flX3_9 rfl dX3_add_14 ?_
    refine z_iload_n 1 (pc := 17) dX3_add_17 rfl ?_
    refine z_castore 1 2 (pc := 18) (ws' := (wsX3_add cA h_o h_o_letters h_o_digits h_o_xs h_o_ys h_o_zs o_count o_letters_n (upd o_letters o_count.toNatClampNeg (vp_nar .char a1)) o_digits_n o_digits o_xs_n o_xs o_ys_n o_ys o_zs_n o_zs)) rfl rfl dX3_add_18 rfl hf0 (fun hf0 => ?_)
    refine z_aload_n 0 (pc := 19) dX3_add_19 rfl ?_
    refine z_get 0 2 (pc := 20) (v := .ref h_o_digits) rfl rfl inX3 (by decide) flX3_19 rfl dX3_add_20 ?_
    refine z_aload_n 0 (pc := 23) dX3_add_23 rfl ?_
    refine z_get 0 0 (pc := 24) (v := .int o_count) rfl rfl inX3 (by decide) flX3_9 rfl dX3_add_24 ?_
    refine z_iload_n 2 (pc := 27) dX3_add_27 rfl ?_
    refine z_iastore 2 0 (pc := 28) (ws' := (wsX3_add cA h_o h_o_letters h_o_digits h_o_xs h_o_ys h_o_zs o_count o_letters_n (upd o_letters o_count.toNatClampNeg (vp_nar .char a1)) o_digits_n (upd o_digits o_count.toNatClampNeg a2) o_xs_n o_xs o_ys_n o_ys o_zs_n o_zs)) rfl rfl dX3_add_28 rfl hf0 (fun hf0 => ?_)
    refine z_aload_n 0 (pc := 29) dX3_add_29 rfl ?_
    refine z_get 0 3 (pc := 30) (v := .ref h_o_xs) rfl rfl inX3 (by decide) flX3_23 rfl dX3_add_30 ?_
    refine z_aload_n 0 (pc := 33) dX3_add_33 rfl ?_
    refine z_get 0 0 (pc := 34) (v := .int o_count) rfl rfl inX3 (by decide) flX3_9 rfl dX3_add_34 ?_
    refine z_iload_n 3 (pc := 37) dX3_add_37 rfl ?_
    refine z_iastore 3 0 (pc := 38) (ws' := (wsX3_add cA h_o h_o_letters h_o_digits h_o_xs h_o_ys h_o_zs o_count o_letters_n (upd o_letters o_count.toNatClampNeg (vp_nar .char a1)) o_digits_n (upd o_digits o_count.toNatClampNeg a2) o_xs_n (upd o_xs o_count.toNatClampNeg a3) o_ys_n o_ys o_zs_n o_zs)) rfl rfl dX3_add_38 rfl hf0 (fun hf0 => ?_)
    refine z_aload_n 0 (pc := 39) dX3_add_39 rfl ?_
    refine z_get 0 4 (pc := 40) (v := .ref h_o_ys) rfl rfl inX3 (by decide) flX3_26 rfl dX3_add_40 ?_
    refine z_aload_n 0 (pc := 43) dX3_add_43 rfl ?_
    refine z_get 0 0 (pc := 44) (v := .int o_count) rfl rfl inX3 (by decide) flX3_9 rfl dX3_add_44 ?_
    refine z_iload 4 (pc := 47) dX3_add_47 rfl ?_
    refine z_iastore 4 0 (pc := 49) (ws' := (wsX3_add cA h_o h_o_letters h_o_digits h_o_xs h_o_ys h_o_zs o_count o_letters_n (upd o_letters o_count.toNatClampNeg (vp_nar .char a1)) o_digits_n (upd o_digits o_count.toNatClampNeg a2) o_xs_n (upd o_xs o_count.toNatClampNeg a3) o_ys_n (upd o_ys o_count.toNatClampNeg a4) o_zs_n o_zs)) rfl rfl dX3_add_49 rfl hf0 (fun hf0 => ?_)
    refine z_aload_n 0 (pc := 50) dX3_add_50 rfl ?_
    refine z_get 0 5 (pc := 51) (v := .ref h_o_zs) rfl rfl inX3 (by decide) flX3_29 rfl dX3_add_51 ?_
    refine z_aload_n 0 (pc := 54) dX3_add_54 rfl ?_
    refine z_get 0 0 (pc := 55) (v := .int o_count) rfl rfl inX3 (by decide) flX3_9 rfl dX3_add_55 ?_
    refine z_iload 5 (pc := 58) dX3_add_58 rfl ?_
    refine z_iastore 5 0 (pc := 60) (ws' := (wsX3_add cA h_o h_o_letters h_o_digits h_o_xs h_o_ys h_o_zs o_count o_letters_n (upd o_letters o_count.toNatClampNeg (vp_nar .char a1)) o_digits_n (upd o_digits o_count.toNatClampNeg a2) o_xs_n (upd o_xs o_count.toNatClampNeg a3) o_ys_n (upd o_ys o_count.toNatClampNeg a4) o_zs_n (upd o_zs o_count.toNatClampNeg a5))) rfl rfl dX3_add_60 rfl hf0 (fun hf0 => ?_)
    refine z_aload_n 0 (pc := 61) dX3_add_61 rfl ?_
    refine z_dup (pc := 62) dX3_add_62 rfl ?_
    refine z_get 0 0 (pc := 63) (v := .int o_count) rfl rfl inX3 (by decide) flX3_9 rfl dX3_add_63 ?_
    refine z_iconst (pc := 66) (v := 1) dX3_add_66 (by decide) ?_
    refine z_iadd (pc := 67) dX3_add_67 ?_
    refine z_put 0 0 (pc := 68) (ws' := (wsX3_add cA h_o h_o_letters h_o_digits h_o_xs h_o_ys h_o_zs (o_count + 1) o_letters_n (upd o_letters o_count.toNatClampNeg (vp_nar .char a1)) o_digits_n (upd o_digits o_count.toNatClampNeg a2) o_xs_n (upd o_xs o_count.toNatClampNeg a3) o_ys_n (upd o_ys o_count.toNatClampNeg a4) o_zs_n (upd o_zs o_count.toNatClampNeg a5))) rfl rfl inX3 tyX3 tyX3_ok nmX3 (by decide) flX3_9 rfl rfl rfl rfl (Nat.le_of_ble_eq_true rfl) dX3_add_68 rfl ?_
    obtain rfl := Option.some.inj hf0
    exact z_vret hE dX3_add_71
