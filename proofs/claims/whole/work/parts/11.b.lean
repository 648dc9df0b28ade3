abbrev RX2_take : Type := Int32 × (Nat → Int32) × (Nat → Int32) × (Nat → Int32)
abbrev rmX2_take : Room := { frames := 1, cells := 0, slots := 0, locals := 22 }
abbrev wsX2_take (cA : Nat → ClassId) (h_o : Nat) (h_p1 : Nat) (h_o_taken : Nat) (h_p1_heights : Nat) (h_o_queueX : Nat) (h_o_queueY : Nat) (o_side : Int32) (o_cells : Int32) (o_queued : Int32) (p1_side : Int32) (p1_cells : Int32) (p1_targets : Value) (p1_kept : Value) (p1_marks : Value) (p1_disc : Value) (p1_discSize : Int32) (o_taken_n : Nat) (o_taken : Nat → Int32) (p1_heights_n : Nat) (p1_heights : Nat → Int32) (o_queueX_n : Nat) (o_queueX : Nat → Int32) (o_queueY_n : Nat) (o_queueY : Nat → Int32) : va_W := [(h_o, .inr (2, [.int o_side, .int o_cells, .ref h_o_taken, .ref h_o_queueX, .ref h_o_queueY, .int o_queued])), (h_p1, .inr (0, [.int p1_side, .int p1_cells, .ref h_p1_heights, p1_targets, p1_kept, p1_marks, p1_disc, .int p1_discSize])), (h_o_taken, .inl (cA 1, o_taken_n, .inl o_taken)), (h_p1_heights, .inl (cA 0, p1_heights_n, .inl p1_heights)), (h_o_queueX, .inl (cA 0, o_queueX_n, .inl o_queueX)), (h_o_queueY, .inl (cA 0, o_queueY_n, .inl o_queueY))]
def fX2_take (N : Nat) (a2 : Int32) (a3 : Int32) (o_cells : Int32) (o_queued : Int32) (p1_side : Int32) (o_taken_n : Nat) (o_taken : Nat → Int32) (p1_heights_n : Nat) (p1_heights : Nat → Int32) (o_queueX_n : Nat) (o_queueX : Nat → Int32) (o_queueY_n : Nat) (o_queueY : Nat → Int32) : Option RX2_take :=
  ((fX0_holds N a2 a3 p1_side).bind fun r1 => (if r1 = 0 then some (o_queued, o_taken, o_queueX, o_queueY) else (if o_queued < o_cells then ((fX0_placeOf N a2 a3 p1_side).bind fun r2 => (if r2 < 0 ∨ o_taken_n ≤ r2.toNatClampNeg then none else (if (o_taken r2.toNatClampNeg) = 0 then (if r2 < 0 ∨ p1_heights_n ≤ r2.toNatClampNeg then none else (if (p1_heights r2.toNatClampNeg) ≤ 0 then some (o_queued, o_taken, o_queueX, o_queueY) else (if r2 < 0 ∨ o_taken_n ≤ r2.toNatClampNeg then none else (if o_queued < 0 ∨ o_queueX_n ≤ o_queued.toNatClampNeg then none else (if o_queued < 0 ∨ o_queueY_n ≤ o_queued.toNatClampNeg then none else some (o_queued + 1, upd o_taken r2.toNatClampNeg (vp_nar .boolean 1), upd o_queueX o_queued.toNatClampNeg a2, upd o_queueY o_queued.toNatClampNeg a3)))))) else some (o_queued, o_taken, o_queueX, o_queueY)))) else some (o_queued, o_taken, o_queueX, o_queueY))))
set_option maxHeartbeats 4000000 in
set_option maxRecDepth 100000 in
theorem kX2_take (l : Launch) (D : va_G) (cA : Nat → ClassId) (h_o : Nat) (h_p1 : Nat) (h_o_taken : Nat) (h_p1_heights : Nat) (h_o_queueX : Nat) (h_o_queueY : Nat) (o_side : Int32) (o_cells : Int32) (o_queued : Int32) (p1_side : Int32) (p1_cells : Int32) (p1_targets : Value) (p1_kept : Value) (p1_marks : Value) (p1_disc : Value) (p1_discSize : Int32) (o_taken_n : Nat) (o_taken : Nat → Int32) (p1_heights_n : Nat) (p1_heights : Nat → Int32) (o_queueX_n : Nat) (o_queueX : Nat → Int32) (o_queueY_n : Nat) (o_queueY : Nat → Int32) (a2 : Int32) (a3 : Int32) (N : Nat) (res : RX2_take) (hf0 : fX2_take N a2 a3 o_cells o_queued p1_side o_taken_n o_taken p1_heights_n p1_heights o_queueX_n o_queueX o_queueY_n o_queueY = some res) : CtV l yX2_take (Cond.code yX2_take cX2_take 5 (none) :: tblG) rmX2_take D cA (wsX2_take cA h_o h_p1 h_o_taken h_p1_heights h_o_queueX h_o_queueY o_side o_cells o_queued p1_side p1_cells p1_targets p1_kept p1_marks p1_disc p1_discSize o_taken_n o_taken p1_heights_n p1_heights o_queueX_n o_queueX o_queueY_n o_queueY) [.ref h_o, .ref h_p1, .int a2, .int a3] (wsX2_take cA h_o h_p1 h_o_taken h_p1_heights h_o_queueX h_o_queueY o_side o_cells res.1 p1_side p1_cells p1_targets p1_kept p1_marks p1_disc p1_discSize o_taken_n res.2.1 p1_heights_n p1_heights o_queueX_n res.2.2.1 o_queueY_n res.2.2.2) := by
  refine CtV.start (lv := [(0, .ref h_o), (1, .ref h_p1), (2, .int a2), (3, .int a3)]) (by decide) (Nat.le_of_ble_eq_true rfl) rfl (fun κ hE => ?_)
  rw [fX2_take] at hf0
  refine z_aload_n 1 (pc := 0) dX2_take_0 rfl ?_
  refine z_iload_n 2 (pc := 1) dX2_take_1 rfl ?_
  refine z_iload_n 3 (pc := 2) dX2_take_2 rfl ?_
  obtain ⟨r1, er1, hf0⟩ := bp hf0
  refine z_calliV (pc := 3) (As := [.int a2, .int a3]) (rest := []) (ws' := (wsX2_take cA h_o h_p1 h_o_taken h_p1_heights h_o_queueX h_o_queueY o_side o_cells o_queued p1_side p1_cells p1_targets p1_kept p1_marks p1_disc p1_discSize o_taken_n o_taken p1_heights_n p1_heights o_queueX_n o_queueX o_queueY_n o_queueY)) (kX0_holds l D cA h_p1 p1_side p1_cells (.ref h_p1_heights) p1_targets p1_kept p1_marks p1_disc p1_discSize a2 a3 N r1 er1) ivX2_38 ⟨rfl, rfl⟩ ⟨by decide, by decide⟩ rfl ⟨Nat.zero_le _, Nat.zero_le _⟩ rfl rfl [1] rfl (by decide) rfl rfl rfl (Nat.le_of_ble_eq_true rfl) dX2_take_3 ?_
  refine z_if_eq (pc := 6) (tgt := 20) dX2_take_6 (by decide) hf0 (fun hf0 => ?_) (fun hf0 => ?_)
  · obtain rfl := Option.some.inj hf0
    exact z_vret hE dX2_take_20
  · refine z_aload_n 0 (pc := 9) dX2_take_9 rfl ?_
    refine z_get 0 5 (pc := 10) (v := .int o_queued) rfl rfl inX2 (by decide) flX2_27 rfl dX2_take_10 ?_
    refine z_aload_n 0 (pc := 13) dX2_take_13 rfl ?_
    refine z_get 0 1 (pc := 14) (v := .int o_cells) rfl rfl inX2 (by decide) flX2_13 rfl dX2_take_14 ?_
    refine z_icmp_lt (pc := 17) (tgt := 21) dX2_take_17 (by decide) hf0 (fun hf0 => ?_) (fun hf0 => ?_)
    · refine z_aload_n 1 (pc := 21) dX2_take_21 rfl ?_
      refine z_iload_n 2 (pc := 22) dX2_take_22 rfl ?_
      refine z_iload_n 3 (pc := 23) dX2_take_23 rfl ?_
      obtain ⟨r2, er2, hf0⟩ := bp hf0
      refine z_calliV (pc := 24) (As := [.int a2, .int a3]) (rest := []) (ws' := (wsX2_take cA h_o h_p1 h_o_taken h_p1_heights h_o_queueX h_o_queueY o_side o_cells o_queued p1_side p1_cells p1_targets p1_kept p1_marks p1_disc p1_discSize o_taken_n o_taken p1_heights_n p1_heights o_queueX_n o_queueX o_queueY_n o_queueY)) (kX0_placeOf l D cA h_p1 p1_side p1_cells (.ref h_p1_heights) p1_targets p1_kept p1_marks p1_disc p1_discSize a2 a3 N r2 er2) ivX2_44 ⟨rfl, rfl⟩ ⟨by decide, by decide⟩ rfl ⟨Nat.zero_le _, Nat.zero_le _⟩ rfl rfl [1] rfl (by decide) rfl rfl rfl (Nat.le_of_ble_eq_true rfl) dX2_take_24 ?_
      refine z_istore (pc := 27) (lv' := [(4, .int r2), (0, .ref h_o), (1, .ref h_p1), (2, .int a2), (3, .int a3)]) dX2_take_27 (by decide) rfl ?_
      refine z_aload_n 1 (pc := 29) dX2_take_29 rfl ?_
      refine z_get 0 2 (pc := 30) (v := .ref h_o_taken) rfl rfl inX2 (by decide) flX2_16 rfl dX2_take_30 ?_
      refine z_iload 0 (pc := 33) dX2_take_33 rfl ?_
      refine z_zaload 2 1 (pc := 35) rfl rfl dX2_take_35 hf0 (fun hf0 => ?_)
      refine z_if_ne (pc := 36) (tgt := 87) dX2_take_36 (by decide) hf0 (fun hf0 => ?_) (fun hf0 => ?_)
      · obtain rfl := Option.some.inj hf0
        exact z_vret hE dX2_take_87
      · refine z_aload_n 2 (pc := 39) dX2_take_39 rfl ?_
        refine z_get 1 2 (pc := 40) (v := .ref h_p1_heights) rfl rfl inX0 (by decide) flX2_48 rfl dX2_take_40 ?_
        refine z_iload 0 (pc := 43) dX2_take_43 rfl ?_
        refine z_iaload 3 0 (pc := 45) rfl rfl dX2_take_45 hf0 (fun hf0 => ?_)
        refine z_if_le (pc := 46) (tgt := 87) dX2_take_46 (by decide) hf0 (fun hf0 => ?_) (fun hf0 => ?_)
        · obtain rfl := Option.some.inj hf0
          exact z_vret hE dX2_take_87
        · refine z_aload_n 1 (pc := 49) dX2_take_49 rfl ?_
          refine z_get 0 2 (pc := 50) (v := .ref h_o_taken) rfl rfl inX2 (by decide) flX2_16 rfl dX2_take_50 ?_
          refine z_iload 0 (pc := 53) dX2_take_53 rfl ?_
          refine z_iconst (pc := 55) (v := 1) dX2_take_55 (by decide) ?_
          refine z_zastore 2 1 (pc := 56) (ws' := (wsX2_take cA h_o h_p1 h_o_taken h_p1_heights h_o_queueX h_o_queueY o_side o_cells o_queued p1_side p1_cells p1_targets p1_kept p1_marks p1_disc p1_discSize o_taken_n (upd o_taken r2.toNatClampNeg (vp_nar .boolean 1)) p1_heights_n p1_heights o_queueX_n o_queueX o_queueY_n o_queueY)) rfl rfl dX2_take_56 rfl hf0 (fun hf0 => ?_)
          refine z_aload_n 1 (pc := 57) dX2_take_57 rfl ?_
          refine z_get 0 3 (pc := 58) (v := .ref h_o_queueX) rfl rfl inX2 (by decide) flX2_20 rfl dX2_take_58 ?_
          refine z_aload_n 1 (pc := 61) dX2_take_61 rfl ?_
          refine z_get 0 5 (pc := 62) (v := .int o_queued) rfl rfl inX2 (by decide) flX2_27 rfl dX2_take_62 ?_
          refine z_iload_n 3 (pc := 65) dX2_take_65 rfl ?_
          refine z_iastore 4 0 (pc := 66) (ws' := (wsX2_take cA h_o h_p1 h_o_taken h_p1_heights h_o_queueX h_o_queueY o_side o_cells o_queued p1_side p1_cells p1_targets p1_kept p1_marks p1_disc p1_discSize o_taken_n (upd o_taken r2.toNatClampNeg (vp_nar .boolean 1)) p1_heights_n p1_heights o_queueX_n (upd o_queueX o_queued.toNatClampNeg a2) o_queueY_n o_queueY)) rfl rfl dX2_take_66 rfl hf0 (fun hf0 => ?_)
          refine z_aload_n 1 (pc := 67) dX2_take_67 rfl ?_
          refine z_get 0 4 (pc := 68) (v := .ref h_o_queueY) rfl rfl inX2 (by decide) flX2_24 rfl dX2_take_68 ?_
          refine z_aload_n 1 (pc := 71) dX2_take_71 rfl ?_
          refine z_get 0 5 (pc := 72) (v := .int o_queued) rfl rfl inX2 (by decide) flX2_27 rfl dX2_take_72 ?_
          refine z_iload_n 4 (pc := 75) dX2_take_75 rfl ?_
          refine z_iastore 5 0 (pc := 76) (ws' := (wsX2_take cA h_o h_p1 h_o_taken h_p1_heights h_o_queueX h_o_queueY o_side o_cells o_queued p1_side p1_cells p1_targets p1_kept p1_marks p1_disc p1_discSize o_taken_n (upd o_taken r2.toNatClampNeg (vp_nar .boolean 1)) p1_heights_n p1_heights o_queueX_n (upd o_queueX o_queued.toNatClampNeg a2) o_queueY_n (upd o_queueY o_queued.toNatClampNeg a3))) rfl rfl dX2_take_76 rfl hf0 (fun hf0 => ?_)
          refine z_aload_n 1 (pc := 77) dX2_take_77 rfl ?_
          refine z_dup (pc := 78) dX2_take_78 rfl ?_
          refine z_get 0 5 (pc := 79) (v := .int o_queued) rfl rfl inX2 (by decide) flX2_27 rfl dX2_take_79 ?_
          refine z_iconst (pc := 82) (v := 1) dX2_take_82 (by decide) ?_
          refine z_iadd (pc := 83) dX2_take_83 ?_
          refine z_put 0 5 (pc := 84) (ws' := (wsX2_take cA h_o h_p1 h_o_taken h_p1_heights h_o_queueX h_o_queueY o_side o_cells (o_queued + 1) p1_side p1_cells p1_targets p1_kept p1_marks p1_disc p1_discSize o_taken_n (upd o_taken r2.toNatClampNeg (vp_nar .boolean 1)) p1_heights_n p1_heights o_queueX_n (upd o_queueX o_queued.toNatClampNeg a2) o_queueY_n (upd o_queueY o_queued.toNatClampNeg a3))) rfl rfl inX2 tyX2 tyX2_ok nmX2 (by decide) flX2_27 rfl rfl rfl rfl (Nat.le_of_ble_eq_true rfl) dX2_take_84 rfl ?_
          obtain rfl := Option.some.inj hf0
          exact z_vret hE dX2_take_87
    · obtain rfl := Option.some.inj hf0
      exact z_vret hE dX2_take_20

abbrev RX2_spread : Type := Int32 × (Nat → Int32) × (Nat → Int32) × (Nat → Int32)
abbrev rmX2_spread : Room := { frames := 2, cells := 0, slots := 0, locals := 46 }
abbrev wsX2_spread (cA : Nat → ClassId) (h_o : Nat) (h_p1 : Nat) (h_o_queueX : Nat) (h_o_queueY : Nat) (h_o_taken : Nat) (h_p1_heights : Nat) (o_side : Int32) (o_cells : Int32) (o_queued : Int32) (p1_side : Int32) (p1_cells : Int32) (p1_targets : Value) (p1_kept : Value) (p1_marks : Value) (p1_disc : Value) (p1_discSize : Int32) (o_queueX_n : Nat) (o_queueX : Nat → Int32) (o_queueY_n : Nat) (o_queueY : Nat → Int32) (o_taken_n : Nat) (o_taken : Nat → Int32) (p1_heights_n : Nat) (p1_heights : Nat → Int32) : va_W := [(h_o, .inr (2, [.int o_side, .int o_cells, .ref h_o_taken, .ref h_o_queueX, .ref h_o_queueY, .int o_queued])), (h_p1, .inr (0, [.int p1_side, .int p1_cells, .ref h_p1_heights, p1_targets, p1_kept, p1_marks, p1_disc, .int p1_discSize])), (h_o_queueX, .inl (cA 0, o_queueX_n, .inl o_queueX)), (h_o_queueY, .inl (cA 0, o_queueY_n, .inl o_queueY)), (h_o_taken, .inl (cA 1, o_taken_n, .inl o_taken)), (h_p1_heights, .inl (cA 0, p1_heights_n, .inl p1_heights))]
def LX2_spread_2 (o_cells : Int32) (o_queueX_n : Nat) (o_queueY_n : Nat) (N : Nat) (p1_side : Int32) (o_taken_n : Nat) (p1_heights_n : Nat) (p1_heights : Nat → Int32) : Nat → Int32 → (Nat → Int32) → (Nat → Int32) → Int32 → (Nat → Int32) → Option (Int32 × (Nat → Int32) × (Nat → Int32) × Int32 × (Nat → Int32))
  | 0, _, _, _, _, _ => none
  | n + 1, x3_2, o_queueX_2, o_queueY_2, o_queued_2, o_taken_2 => (if o_queued_2 ≤ x3_2 then some (x3_2, o_queueX_2, o_queueY_2, o_queued_2, o_taken_2) else (if o_cells ≤ x3_2 then some (x3_2, o_queueX_2, o_queueY_2, o_queued_2, o_taken_2) else (if x3_2 < 0 ∨ o_queueX_n ≤ x3_2.toNatClampNeg then none else (if x3_2 < 0 ∨ o_queueY_n ≤ x3_2.toNatClampNeg then none else ((fX2_take N ((o_queueX_2 x3_2.toNatClampNeg) - 1) (o_queueY_2 x3_2.toNatClampNeg) o_cells o_queued_2 p1_side o_taken_n o_taken_2 p1_heights_n p1_heights o_queueX_n o_queueX_2 o_queueY_n o_queueY_2).bind fun r2 => ((fX2_take N ((o_queueX_2 x3_2.toNatClampNeg) + 1) (o_queueY_2 x3_2.toNatClampNeg) o_cells r2.1 p1_side o_taken_n r2.2.1 p1_heights_n p1_heights o_queueX_n r2.2.2.1 o_queueY_n r2.2.2.2).bind fun r3 => ((fX2_take N (o_queueX_2 x3_2.toNatClampNeg) ((o_queueY_2 x3_2.toNatClampNeg) - 1) o_cells r3.1 p1_side o_taken_n r3.2.1 p1_heights_n p1_heights o_queueX_n r3.2.2.1 o_queueY_n r3.2.2.2).bind fun r4 => ((fX2_take N (o_queueX_2 x3_2.toNatClampNeg) ((o_queueY_2 x3_2.toNatClampNeg) + 1) o_cells r4.1 p1_side o_taken_n r4.2.1 p1_heights_n p1_heights o_queueX_n r4.2.2.1 o_queueY_n r4.2.2.2).bind fun r5 => LX2_spread_2 o_cells o_queueX_n o_queueY_n N p1_side o_taken_n p1_heights_n p1_heights n (x3_2 + 1) r5.2.2.1 r5.2.2.2 r5.1 r5.2.1))))))))
def fX2_spread (N : Nat) (a2 : Int32) (o_cells : Int32) (o_queued : Int32) (p1_side : Int32) (o_queueX_n : Nat) (o_queueX : Nat → Int32) (o_queueY_n : Nat) (o_queueY : Nat → Int32) (o_taken_n : Nat) (o_taken : Nat → Int32) (p1_heights_n : Nat) (p1_heights : Nat → Int32) : Option RX2_spread :=
  ((LX2_spread_2 o_cells o_queueX_n o_queueY_n N p1_side o_taken_n p1_heights_n p1_heights N a2 o_queueX o_queueY o_queued o_taken).bind fun r1 => some (r1.2.2.2.1, r1.2.1, r1.2.2.1, r1.2.2.2.2))
set_option maxHeartbeats 4000000 in
set_option maxRecDepth 100000 in
theorem kX2_spread (l : Launch) (D : va_G) (cA : Nat → ClassId) (h_o : Nat) (h_p1 : Nat) (h_o_queueX : Nat) (h_o_queueY : Nat) (h_o_taken : Nat) (h_p1_heights : Nat) (o_side : Int32) (o_cells : Int32) (o_queued : Int32) (p1_side : Int32) (p1_cells : Int32) (p1_targets : Value) (p1_kept : Value) (p1_marks : Value) (p1_disc : Value) (p1_discSize : Int32) (o_queueX_n : Nat) (o_queueX : Nat → Int32) (o_queueY_n : Nat) (o_queueY : Nat → Int32) (o_taken_n : Nat) (o_taken : Nat → Int32) (p1_heights_n : Nat) (p1_heights : Nat → Int32) (a2 : Int32) (N : Nat) (res : RX2_spread) (hf0 : fX2_spread N a2 o_cells o_queued p1_side o_queueX_n o_queueX o_queueY_n o_queueY o_taken_n o_taken p1_heights_n p1_heights = some res) : CtV l yX2_spread (Cond.code yX2_spread cX2_spread 6 (none) :: tblG) rmX2_spread D cA (wsX2_spread cA h_o h_p1 h_o_queueX h_o_queueY h_o_taken h_p1_heights o_side o_cells o_queued p1_side p1_cells p1_targets p1_kept p1_marks p1_disc p1_discSize o_queueX_n o_queueX o_queueY_n o_queueY o_taken_n o_taken p1_heights_n p1_heights) [.ref h_o, .ref h_p1, .int a2] (wsX2_spread cA h_o h_p1 h_o_queueX h_o_queueY h_o_taken h_p1_heights o_side o_cells res.1 p1_side p1_cells p1_targets p1_kept p1_marks p1_disc p1_discSize o_queueX_n res.2.1 o_queueY_n res.2.2.1 o_taken_n res.2.2.2 p1_heights_n p1_heights) := by
  refine CtV.start (lv := [(0, .ref h_o), (1, .ref h_p1), (2, .int a2)]) (by decide) (Nat.le_of_ble_eq_true rfl) rfl (fun κ hE => ?_)
  rw [fX2_spread] at hf0
  refine z_iload_n 2 (pc := 0) dX2_spread_0 rfl ?_
  refine z_istore_n (pc := 1) (lv' := [(3, .int a2), (0, .ref h_o), (1, .ref h_p1), (2, .int a2)]) dX2_spread_1 (by decide) rfl ?_
  obtain ⟨y2, hf0_2, hf0⟩ := bp hf0
  have lp2 : ∀ (n : Nat) (x3_2 : Int32) (o_queueX_2 : Nat → Int32) (o_queueY_2 : Nat → Int32) (o_queued_2 : Int32) (o_taken_2 : Nat → Int32), LX2_spread_2 o_cells o_queueX_n o_queueY_n N p1_side o_taken_n p1_heights_n p1_heights n x3_2 o_queueX_2 o_queueY_2 o_queued_2 o_taken_2 = some y2 → V κ false l D cA rmX2_spread cX2_spread 6 RX2 (none) 0 0 2 [(0, .ref h_o), (1, .ref h_p1), (2, .int a2), (3, .int x3_2)] [] (wsX2_spread cA h_o h_p1 h_o_queueX h_o_queueY h_o_taken h_p1_heights o_side o_cells o_queued_2 p1_side p1_cells p1_targets p1_kept p1_marks p1_disc p1_discSize o_queueX_n o_queueX_2 o_queueY_n o_queueY_2 o_taken_n o_taken_2 p1_heights_n p1_heights) := by
    intro n
    induction n with
    | zero => intro x3_2 o_queueX_2 o_queueY_2 o_queued_2 o_taken_2 hf0_2; rw [LX2_spread_2] at hf0_2; cases hf0_2
    | succ n2 ih2 =>
      intro x3_2 o_queueX_2 o_queueY_2 o_queued_2 o_taken_2 hf0_2
      rw [LX2_spread_2] at hf0_2
      refine z_iload_n 3 (pc := 2) dX2_spread_2 rfl ?_
      refine z_aload_n 0 (pc := 3) dX2_spread_3 rfl ?_
      refine z_get 0 5 (pc := 4) (v := .int o_queued_2) rfl rfl inX2 (by decide) flX2_27 rfl dX2_spread_4 ?_
      refine z_icmp_ge (pc := 7) (tgt := 84) dX2_spread_7 (by decide) hf0_2 (fun hf0_2 => ?_) (fun hf0_2 => ?_)
      · obtain rfl := Option.some.inj hf0_2
        obtain rfl := Option.some.inj hf0
        exact z_vret hE dX2_spread_84
      · refine z_iload_n 3 (pc := 10) dX2_spread_10 rfl ?_
        refine z_aload_n 0 (pc := 11) dX2_spread_11 rfl ?_
        refine z_get 0 1 (pc := 12) (v := .int o_cells) rfl rfl inX2 (by decide) flX2_13 rfl dX2_spread_12 ?_
        refine z_icmp_ge (pc := 15) (tgt := 84) dX2_spread_15 (by decide) hf0_2 (fun hf0_2 => ?_) (fun hf0_2 => ?_)
        · obtain rfl := Option.some.inj hf0_2
          obtain rfl := Option.some.inj hf0
          exact z_vret hE dX2_spread_84
        · refine z_aload_n 0 (pc := 18) dX2_spread_18 rfl ?_
          refine z_get 0 3 (pc := 19) (v := .ref h_o_queueX) rfl rfl inX2 (by decide) flX2_20 rfl dX2_spread_19 ?_
          refine z_iload_n 3 (pc := 22) dX2_spread_22 rfl ?_
          refine z_iaload 2 0 (pc := 23) rfl rfl dX2_spread_23 hf0_2 (fun hf0_2 => ?_)
          refine z_istore (pc := 24) (lv' := [(4, .int (o_queueX_2 x3_2.toNatClampNeg)), (0, .ref h_o), (1, .ref h_p1), (2, .int a2), (3, .int x3_2)]) dX2_spread_24 (by decide) rfl ?_
          refine z_aload_n 1 (pc := 26) dX2_spread_26 rfl ?_
          refine z_get 0 4 (pc := 27) (v := .ref h_o_queueY) rfl rfl inX2 (by decide) flX2_24 rfl dX2_spread_27 ?_
          refine z_iload_n 4 (pc := 30) dX2_spread_30 rfl ?_
          refine z_iaload 3 0 (pc := 31) rfl rfl dX2_spread_31 hf0_2 (fun hf0_2 => ?_)
          refine z_istore (pc := 32) (lv' := [(5, .int (o_queueY_2 x3_2.toNatClampNeg)), (4, .int (o_queueX_2 x3_2.toNatClampNeg)), (0, .ref h_o), (1, .ref h_p1), (2, .int a2), (3, .int x3_2)]) dX2_spread_32 (by decide) rfl ?_
          refine z_aload_n 2 (pc := 34) dX2_spread_34 rfl ?_
          refine z_aload_n 3 (pc := 35) dX2_spread_35 rfl ?_
          refine z_iload 1 (pc := 36) dX2_spread_36 rfl ?_
          refine z_iconst (pc := 38) (v := 1) dX2_spread_38 (by decide) ?_
          refine z_isub (pc := 39) dX2_spread_39 ?_
          refine z_iload 0 (pc := 40) dX2_spread_40 rfl ?_
          obtain ⟨r2, er2, hf0_2⟩ := bp hf0_2
          refine z_callvV (pc := 42) (As := [.ref h_p1, .int ((o_queueX_2 x3_2.toNatClampNeg) - 1), .int (o_queueY_2 x3_2.toNatClampNeg)]) (rest := []) (ws' := (wsX2_spread cA h_o h_p1 h_o_queueX h_o_queueY h_o_taken h_p1_heights o_side o_cells r2.1 p1_side p1_cells p1_targets p1_kept p1_marks p1_disc p1_discSize o_queueX_n r2.2.2.1 o_queueY_n r2.2.2.2 o_taken_n r2.2.1 p1_heights_n p1_heights)) (kX2_take l D cA h_o h_p1 h_o_taken h_p1_heights h_o_queueX h_o_queueY o_side o_cells o_queued_2 p1_side p1_cells p1_targets p1_kept p1_marks p1_disc p1_discSize o_taken_n o_taken_2 p1_heights_n p1_heights o_queueX_n o_queueX_2 o_queueY_n o_queueY_2 ((o_queueX_2 x3_2.toNatClampNeg) - 1) (o_queueY_2 x3_2.toNatClampNeg) N r2 er2) ivX2_30 ⟨rfl, rfl⟩ ⟨by decide, by decide⟩ rfl ⟨Nat.zero_le _, Nat.zero_le _⟩ rfl rfl [0, 1, 4, 5, 2, 3] rfl (by decide) rfl rfl rfl (Nat.le_of_ble_eq_true rfl) dX2_spread_42 ?_
          refine z_aload_n 2 (pc := 45) dX2_spread_45 rfl ?_
          refine z_aload_n 3 (pc := 46) dX2_spread_46 rfl ?_
          refine z_iload 1 (pc := 47) dX2_spread_47 rfl ?_
          refine z_iconst (pc := 49) (v := 1) dX2_spread_49 (by decide) ?_
          refine z_iadd (pc := 50) dX2_spread_50 ?_
          refine z_iload 0 (pc := 51) dX2_spread_51 rfl ?_
          obtain ⟨r3, er3, hf0_2⟩ := bp hf0_2
          refine z_callvV (pc := 53) (As := [.ref h_p1, .int ((o_queueX_2 x3_2.toNatClampNeg) + 1), .int (o_queueY_2 x3_2.toNatClampNeg)]) (rest := []) (ws' := (wsX2_spread cA h_o h_p1 h_o_queueX h_o_queueY h_o_taken h_p1_heights o_side o_cells r3.1 p1_side p1_cells p1_targets p1_kept p1_marks p1_disc p1_discSize o_queueX_n r3.2.2.1 o_queueY_n r3.2.2.2 o_taken_n r3.2.1 p1_heights_n p1_heights)) (kX2_take l D cA h_o h_p1 h_o_taken h_p1_heights h_o_queueX h_o_queueY o_side o_cells r2.1 p1_side p1_cells p1_targets p1_kept p1_marks p1_disc p1_discSize o_taken_n r2.2.1 p1_heights_n p1_heights o_queueX_n r2.2.2.1 o_queueY_n r2.2.2.2 ((o_queueX_2 x3_2.toNatClampNeg) + 1) (o_queueY_2 x3_2.toNatClampNeg) N r3 er3) ivX2_30 ⟨rfl, rfl⟩ ⟨by decide, by decide⟩ rfl ⟨Nat.zero_le _, Nat.zero_le _⟩ rfl rfl [0, 1, 4, 5, 2, 3] rfl (by decide) rfl rfl rfl (Nat.le_of_ble_eq_true rfl) dX2_spread_53 ?_
          refine z_aload_n 2 (pc := 56) dX2_spread_56 rfl ?_
          refine z_aload_n 3 (pc := 57) dX2_spread_57 rfl ?_
          refine z_iload 1 (pc := 58) dX2_spread_58 rfl ?_
          refine z_iload 0 (pc := 60) dX2_spread_60 rfl ?_
          refine z_iconst (pc := 62) (v := 1) dX2_spread_62 (by decide) ?_
          refine z_isub (pc := 63) dX2_spread_63 ?_
          obtain ⟨r4, er4, hf0_2⟩ := bp hf0_2
          refine z_callvV (pc := 64) (As := [.ref h_p1, .int (o_queueX_2 x3_2.toNatClampNeg), .int ((o_queueY_2 x3_2.toNatClampNeg) - 1)]) (rest := []) (ws' := (wsX2_spread cA h_o h_p1 h_o_queueX h_o_queueY h_o_taken h_p1_heights o_side o_cells r4.1 p1_side p1_cells p1_targets p1_kept p1_marks p1_disc p1_discSize o_queueX_n r4.2.2.1 o_queueY_n r4.2.2.2 o_taken_n r4.2.1 p1_heights_n p1_heights)) (kX2_take l D cA h_o h_p1 h_o_taken h_p1_heights h_o_queueX h_o_queueY o_side o_cells r3.1 p1_side p1_cells p1_targets p1_kept p1_marks p1_disc p1_discSize o_taken_n r3.2.1 p1_heights_n p1_heights o_queueX_n r3.2.2.1 o_queueY_n r3.2.2.2 (o_queueX_2 x3_2.toNatClampNeg) ((o_queueY_2 x3_2.toNatClampNeg) - 1) N r4 er4) ivX2_30 ⟨rfl, rfl⟩ ⟨by decide, by decide⟩ rfl ⟨Nat.zero_le _, Nat.zero_le _⟩ rfl rfl [0, 1, 4, 5, 2, 3] rfl (by decide) rfl rfl rfl (Nat.le_of_ble_eq_true rfl) dX2_spread_64 ?_
          refine z_aload_n 2 (pc := 67) dX2_spread_67 rfl ?_
          refine z_aload_n 3 (pc := 68) dX2_spread_68 rfl ?_
          refine z_iload 1 (pc := 69) dX2_spread_69 rfl ?_
          refine z_iload 0 (pc := 71) dX2_spread_71 rfl ?_
          refine z_iconst (pc := 73) (v := 1) dX2_spread_73 (by decide) ?_
          refine z_iadd (pc := 74) dX2_spread_74 ?_
          obtain ⟨r5, er5, hf0_2⟩ := bp hf0_2
          refine z_callvV (pc := 75) (As := [.ref h_p1, .int (o_queueX_2 x3_2.toNatClampNeg), .int ((o_queueY_2 x3_2.toNatClampNeg) + 1)]) (rest := []) (ws' := (wsX2_spread cA h_o h_p1 h_o_queueX h_o_queueY h_o_taken h_p1_heights o_side o_cells r5.1 p1_side p1_cells p1_targets p1_kept p1_marks p1_disc p1_discSize o_queueX_n r5.2.2.1 o_queueY_n r5.2.2.2 o_taken_n r5.2.1 p1_heights_n p1_heights)) (kX2_take l D cA h_o h_p1 h_o_taken h_p1_heights h_o_queueX h_o_queueY o_side o_cells r4.1 p1_side p1_cells p1_targets p1_kept p1_marks p1_disc p1_discSize o_taken_n r4.2.1 p1_heights_n p1_heights o_queueX_n r4.2.2.1 o_queueY_n r4.2.2.2 (o_queueX_2 x3_2.toNatClampNeg) ((o_queueY_2 x3_2.toNatClampNeg) + 1) N r5 er5) ivX2_30 ⟨rfl, rfl⟩ ⟨by decide, by decide⟩ rfl ⟨Nat.zero_le _, Nat.zero_le _⟩ rfl rfl [0, 1, 4, 5, 2, 3] rfl (by decide) rfl rfl rfl (Nat.le_of_ble_eq_true rfl) dX2_spread_75 ?_
          refine z_iinc 5 (pc := 78) (v := x3_2 + 1) (lv' := [(3, .int (x3_2 + 1)), (5, .int (o_queueY_2 x3_2.toNatClampNeg)), (4, .int (o_queueX_2 x3_2.toNatClampNeg)), (0, .ref h_o), (1, .ref h_p1), (2, .int a2)]) dX2_spread_78 rfl rfl (by decide) rfl ?_
          refine z_goto (pc := 81) (tgt := 2) dX2_spread_81 (by decide) ?_
          exact z_lv [3, 4, 5, 0] rfl (ih2 (x3_2 + 1) r5.2.2.1 r5.2.2.2 r5.1 r5.2.1 hf0_2)
  exact z_lv [1, 2, 3, 0] rfl (lp2 N a2 o_queueX o_queueY o_queued o_taken hf0_2)

abbrev RX2_count : Type := Int32 × Int32 × (Nat → Int32) × (Nat → Int32) × (Nat → Int32)
abbrev rmX2_count : Room := { frames := 3, cells := 0, slots := 0, locals := 71 }
abbrev wsX2_count (cA : Nat → ClassId) (h_o : Nat) (h_p1 : Nat) (h_o_taken : Nat) (h_p1_heights : Nat) (h_o_queueX : Nat) (h_o_queueY : Nat) (o_side : Int32) (o_cells : Int32) (o_queued : Int32) (p1_side : Int32) (p1_cells : Int32) (p1_targets : Value) (p1_kept : Value) (p1_marks : Value) (p1_disc : Value) (p1_discSize : Int32) (o_taken_n : Nat) (o_taken : Nat → Int32) (p1_heights_n : Nat) (p1_heights : Nat → Int32) (o_queueX_n : Nat) (o_queueX : Nat → Int32) (o_queueY_n : Nat) (o_queueY : Nat → Int32) : va_W := [(h_o, .inr (2, [.int o_side, .int o_cells, .ref h_o_taken, .ref h_o_queueX, .ref h_o_queueY, .int o_queued])), (h_p1, .inr (0, [.int p1_side, .int p1_cells, .ref h_p1_heights, p1_targets, p1_kept, p1_marks, p1_disc, .int p1_discSize])), (h_o_taken, .inl (cA 1, o_taken_n, .inl o_taken)), (h_p1_heights, .inl (cA 0, p1_heights_n, .inl p1_heights)), (h_o_queueX, .inl (cA 0, o_queueX_n, .inl o_queueX)), (h_o_queueY, .inl (cA 0, o_queueY_n, .inl o_queueY))]
def LX2_count_43 (o_side : Int32) (N : Nat) (x3_32 : Int32) (o_cells : Int32) (p1_side : Int32) (o_taken_n : Nat) (p1_heights_n : Nat) (p1_heights : Nat → Int32) (o_queueX_n : Nat) (o_queueY_n : Nat) : Nat → Int32 → Int32 → (Nat → Int32) → (Nat → Int32) → Int32 → (Nat → Int32) → Option (Int32 × Int32 × (Nat → Int32) × (Nat → Int32) × Int32 × (Nat → Int32))
  | 0, _, _, _, _, _, _ => none
  | n + 1, x2_43, x4_43, o_queueX_43, o_queueY_43, o_queued_43, o_taken_43 => (if o_side ≤ x4_43 then some (x2_43, x4_43, o_queueX_43, o_queueY_43, o_queued_43, o_taken_43) else ((fX2_take N x4_43 x3_32 o_cells o_queued_43 p1_side o_taken_n o_taken_43 p1_heights_n p1_heights o_queueX_n o_queueX_43 o_queueY_n o_queueY_43).bind fun r4 => (if r4.1 ≤ o_queued_43 then LX2_count_43 o_side N x3_32 o_cells p1_side o_taken_n p1_heights_n p1_heights o_queueX_n o_queueY_n n x2_43 (x4_43 + 1) r4.2.2.1 r4.2.2.2 r4.1 r4.2.1 else ((fX2_spread N o_queued_43 o_cells r4.1 p1_side o_queueX_n r4.2.2.1 o_queueY_n r4.2.2.2 o_taken_n r4.2.1 p1_heights_n p1_heights).bind fun r5 => LX2_count_43 o_side N x3_32 o_cells p1_side o_taken_n p1_heights_n p1_heights o_queueX_n o_queueY_n n (x2_43 + 1) (x4_43 + 1) r5.2.1 r5.2.2.1 r5.1 r5.2.2.2))))
def LX2_count_32 (o_side : Int32) (N : Nat) (o_cells : Int32) (p1_side : Int32) (o_taken_n : Nat) (p1_heights_n : Nat) (p1_heights : Nat → Int32) (o_queueX_n : Nat) (o_queueY_n : Nat) : Nat → Int32 → Int32 → (Nat → Int32) → (Nat → Int32) → Int32 → (Nat → Int32) → Option (Int32 × Int32 × (Nat → Int32) × (Nat → Int32) × Int32 × (Nat → Int32))
  | 0, _, _, _, _, _, _ => none
  | n + 1, x2_32, x3_32, o_queueX_32, o_queueY_32, o_queued_32, o_taken_32 => (if o_side ≤ x3_32 then some (x2_32, x3_32, o_queueX_32, o_queueY_32, o_queued_32, o_taken_32) else ((LX2_count_43 o_side N x3_32 o_cells p1_side o_taken_n p1_heights_n p1_heights o_queueX_n o_queueY_n N x2_32 0 o_queueX_32 o_queueY_32 o_queued_32 o_taken_32).bind fun r3 => LX2_count_32 o_side N o_cells p1_side o_taken_n p1_heights_n p1_heights o_queueX_n o_queueY_n n r3.1 (x3_32 + 1) r3.2.2.1 r3.2.2.2.1 r3.2.2.2.2.1 r3.2.2.2.2.2))
def LX2_count_2 (o_cells : Int32) (o_taken_n : Nat) : Nat → Int32 → (Nat → Int32) → Option (Int32 × (Nat → Int32))
  | 0, _, _ => none
  | n + 1, x2_2, o_taken_2 => (if o_cells ≤ x2_2 then some (x2_2, o_taken_2) else (if x2_2 < 0 ∨ o_taken_n ≤ x2_2.toNatClampNeg then none else LX2_count_2 o_cells o_taken_n n (x2_2 + 1) (upd o_taken_2 x2_2.toNatClampNeg (vp_nar .boolean 0))))
def fX2_count (N : Nat)  (o_side : Int32) (o_cells : Int32) (o_queued : Int32) (p1_side : Int32) (o_taken_n : Nat) (o_taken : Nat → Int32) (p1_heights_n : Nat) (p1_heights : Nat → Int32) (o_queueX_n : Nat) (o_queueX : Nat → Int32) (o_queueY_n : Nat) (o_queueY : Nat → Int32) : Option RX2_count :=
  ((LX2_count_2 o_cells o_taken_n N 0 o_taken).bind fun r1 => ((LX2_count_32 o_side N o_cells p1_side o_taken_n p1_heights_n p1_heights o_queueX_n o_queueY_n N 0 0 o_queueX o_queueY 0 r1.2).bind fun r2 => some (r2.1, r2.2.2.2.2.1, r2.2.2.2.2.2, r2.2.2.1, r2.2.2.2.1)))
set_option maxHeartbeats 4000000 in
set_option maxRecDepth 100000 in
theorem kX2_count (l : Launch) (D : va_G) (cA : Nat → ClassId) (h_o : Nat) (h_p1 : Nat) (h_o_taken : Nat) (h_p1_heights : Nat) (h_o_queueX : Nat) (h_o_queueY : Nat) (o_side : Int32) (o_cells : Int32) (o_queued : Int32) (p1_side : Int32) (p1_cells : Int32) (p1_targets : Value) (p1_kept : Value) (p1_marks : Value) (p1_disc : Value) (p1_discSize : Int32) (o_taken_n : Nat) (o_taken : Nat → Int32) (p1_heights_n : Nat) (p1_heights : Nat → Int32) (o_queueX_n : Nat) (o_queueX : Nat → Int32) (o_queueY_n : Nat) (o_queueY : Nat → Int32)  (N : Nat) (res : RX2_count) (hf0 : fX2_count N o_side o_cells o_queued p1_side o_taken_n o_taken p1_heights_n p1_heights o_queueX_n o_queueX o_queueY_n o_queueY = some res) : CtI l yX2_count (Cond.code yX2_count cX2_count 6 (some .int) :: tblG) rmX2_count D cA (wsX2_count cA h_o h_p1 h_o_taken h_p1_heights h_o_queueX h_o_queueY o_side o_cells o_queued p1_side p1_cells p1_targets p1_kept p1_marks p1_disc p1_discSize o_taken_n o_taken p1_heights_n p1_heights o_queueX_n o_queueX o_queueY_n o_queueY) [.ref h_o, .ref h_p1] res.1 (wsX2_count cA h_o h_p1 h_o_taken h_p1_heights h_o_queueX h_o_queueY o_side o_cells res.2.1 p1_side p1_cells p1_targets p1_kept p1_marks p1_disc p1_discSize o_taken_n res.2.2.1 p1_heights_n p1_heights o_queueX_n res.2.2.2.1 o_queueY_n res.2.2.2.2) := by
  refine CtI.start (lv := [(0, .ref h_o), (1, .ref h_p1)]) (by decide) (Nat.le_of_ble_eq_true rfl) rfl (fun κ hE => ?_)
  rw [fX2_count] at hf0
  refine z_iconst (pc := 0) (v := 0) dX2_count_0 (by decide) ?_
  refine z_istore_n (pc := 1) (lv' := [(2, .int 0), (0, .ref h_o), (1, .ref h_p1)]) dX2_count_1 (by decide) rfl ?_
  obtain ⟨y2, hf0_2, hf0⟩ := bp hf0
  have lp2 : ∀ (n : Nat) (x2_2 : Int32) (o_taken_2 : Nat → Int32), LX2_count_2 o_cells o_taken_n n x2_2 o_taken_2 = some y2 → V κ false l D cA rmX2_count cX2_count 6 RX2 (some .int) 0 0 2 [(0, .ref h_o), (1, .ref h_p1), (2, .int x2_2)] [] (wsX2_count cA h_o h_p1 h_o_taken h_p1_heights h_o_queueX h_o_queueY o_side o_cells o_queued p1_side p1_cells p1_targets p1_kept p1_marks p1_disc p1_discSize o_taken_n o_taken_2 p1_heights_n p1_heights o_queueX_n o_queueX o_queueY_n o_queueY) := by
    intro n
    induction n with
    | zero => intro x2_2 o_taken_2 hf0_2; rw [LX2_count_2] at hf0_2; cases hf0_2
    | succ n2 ih2 =>
      intro x2_2 o_taken_2 hf0_2
      rw [LX2_count_2] at hf0_2
      refine z_iload_n 2 (pc := 2) dX2_count_2 rfl ?_
      refine z_aload_n 0 (pc := 3) dX2_count_3 rfl ?_
      refine z_get 0 1 (pc := 4) (v := .int o_cells) rfl rfl inX2 (by decide) flX2_13 rfl dX2_count_4 ?_
      refine z_icmp_ge (pc := 7) (tgt := 23) dX2_count_7 (by decide) hf0_2 (fun hf0_2 => ?_) (fun hf0_2 => ?_)
      · obtain rfl := Option.some.inj hf0_2
        refine z_aload_n 0 (pc := 23) dX2_count_23 rfl ?_
        refine z_iconst (pc := 24) (v := 0) dX2_count_24 (by decide) ?_
        refine z_put 0 5 (pc := 25) (ws' := (wsX2_count cA h_o h_p1 h_o_taken h_p1_heights h_o_queueX h_o_queueY o_side o_cells 0 p1_side p1_cells p1_targets p1_kept p1_marks p1_disc p1_discSize o_taken_n o_taken_2 p1_heights_n p1_heights o_queueX_n o_queueX o_queueY_n o_queueY)) rfl rfl inX2 tyX2 tyX2_ok nmX2 (by decide) flX2_27 rfl rfl rfl rfl (Nat.le_of_ble_eq_true rfl) dX2_count_25 rfl ?_
        refine z_iconst (pc := 28) (v := 0) dX2_count_28 (by decide) ?_
        refine z_istore_n (pc := 29) (lv' := [(2, .int 0), (0, .ref h_o), (1, .ref h_p1)]) dX2_count_29 (by decide) rfl ?_
        refine z_iconst (pc := 30) (v := 0) dX2_count_30 (by decide) ?_
        refine z_istore_n (pc := 31) (lv' := [(3, .int 0), (2, .int 0), (0, .ref h_o), (1, .ref h_p1)]) dX2_count_31 (by decide) rfl ?_
        obtain ⟨y32, hf0_32, hf0⟩ := bp hf0
        have lp32 : ∀ (n : Nat) (x2_32 : Int32) (x3_32 : Int32) (o_queueX_32 : Nat → Int32) (o_queueY_32 : Nat → Int32) (o_queued_32 : Int32) (o_taken_32 : Nat → Int32), LX2_count_32 o_side N o_cells p1_side o_taken_n p1_heights_n p1_heights o_queueX_n o_queueY_n n x2_32 x3_32 o_queueX_32 o_queueY_32 o_queued_32 o_taken_32 = some y32 → V κ false l D cA rmX2_count cX2_count 6 RX2 (some .int) 0 0 32 [(0, .ref h_o), (1, .ref h_p1), (2, .int x2_32), (3, .int x3_32)] [] (wsX2_count cA h_o h_p1 h_o_taken h_p1_heights h_o_queueX h_o_queueY o_side o_cells o_queued_32 p1_side p1_cells p1_targets p1_kept p1_marks p1_disc p1_discSize o_taken_n o_taken_32 p1_heights_n p1_heights o_queueX_n o_queueX_32 o_queueY_n o_queueY_32) := by
          intro n
          induction n with
          | zero => intro x2_32 x3_32 o_queueX_32 o_queueY_32 o_queued_32 o_taken_32 hf0_32; rw [LX2_count_32] at hf0_32; cases hf0_32
          | succ n32 ih32 =>
            intro x2_32 x3_32 o_queueX_32 o_queueY_32 o_queued_32 o_taken_32 hf0_32
            rw [LX2_count_32] at hf0_32
            refine z_iload_n 3 (pc := 32) dX2_count_32 rfl ?_
            refine z_aload_n 0 (pc := 33) dX2_count_33 rfl ?_
            refine z_get 0 0 (pc := 34) (v := .int o_side) rfl rfl inX2 (by decide) flX2_7 rfl dX2_count_34 ?_
            refine z_icmp_ge (pc := 37) (tgt := 97) dX2_count_37 (by decide) hf0_32 (fun hf0_32 => ?_) (fun hf0_32 => ?_)
            · obtain rfl := Option.some.inj hf0_32
              refine z_iload_n 2 (pc := 97) dX2_count_97 rfl ?_
              obtain rfl := Option.some.inj hf0
              exact z_iret hE dX2_count_98
            · refine z_iconst (pc := 40) (v := 0) dX2_count_40 (by decide) ?_
              refine z_istore (pc := 41) (lv' := [(4, .int 0), (0, .ref h_o), (1, .ref h_p1), (2, .int x2_32), (3, .int x3_32)]) dX2_count_41 (by decide) rfl ?_
              obtain ⟨y43, hf0_32_43, hf0_32⟩ := bp hf0_32
              have lp43 : ∀ (n : Nat) (x2_43 : Int32) (x4_43 : Int32) (o_queueX_43 : Nat → Int32) (o_queueY_43 : Nat → Int32) (o_queued_43 : Int32) (o_taken_43 : Nat → Int32), LX2_count_43 o_side N x3_32 o_cells p1_side o_taken_n p1_heights_n p1_heights o_queueX_n o_queueY_n n x2_43 x4_43 o_queueX_43 o_queueY_43 o_queued_43 o_taken_43 = some y43 → V κ false l D cA rmX2_count cX2_count 6 RX2 (some .int) 0 0 43 [(0, .ref h_o), (1, .ref h_p1), (3, .int x3_32), (2, .int x2_43), (4, .int x4_43)] [] (wsX2_count cA h_o h_p1 h_o_taken h_p1_heights h_o_queueX h_o_queueY o_side o_cells o_queued_43 p1_side p1_cells p1_targets p1_kept p1_marks p1_disc p1_discSize o_taken_n o_taken_43 p1_heights_n p1_heights o_queueX_n o_queueX_43 o_queueY_n o_queueY_43) := by
                intro n
                induction n with
                | zero => intro x2_43 x4_43 o_queueX_43 o_queueY_43 o_queued_43 o_taken_43 hf0_32_43; rw [LX2_count_43] at hf0_32_43; cases hf0_32_43
                | succ n43 ih43 =>
                  intro x2_43 x4_43 o_queueX_43 o_queueY_43 o_queued_43 o_taken_43 hf0_32_43
                  rw [LX2_count_43] at hf0_32_43
                  refine z_iload 4 (pc := 43) dX2_count_43 rfl ?_
                  refine z_aload_n 0 (pc := 45) dX2_count_45 rfl ?_
                  refine z_get 0 0 (pc := 46) (v := .int o_side) rfl rfl inX2 (by decide) flX2_7 rfl dX2_count_46 ?_
                  refine z_icmp_ge (pc := 49) (tgt := 91) dX2_count_49 (by decide) hf0_32_43 (fun hf0_32_43 => ?_) (fun hf0_32_43 => ?_)
                  · obtain rfl := Option.some.inj hf0_32_43
                    refine z_iinc 2 (pc := 91) (v := x3_32 + 1) (lv' := [(3, .int (x3_32 + 1)), (0, .ref h_o), (1, .ref h_p1), (2, .int x2_43), (4, .int x4_43)]) dX2_count_91 rfl rfl (by decide) rfl ?_
                    refine z_goto (pc := 94) (tgt := 32) dX2_count_94 (by decide) ?_
                    exact z_lv [1, 2, 3, 0] rfl (ih32 x2_43 (x3_32 + 1) o_queueX_43 o_queueY_43 o_queued_43 o_taken_43 hf0_32)
                  · refine z_aload_n 0 (pc := 52) dX2_count_52 rfl ?_
                    refine z_get 0 5 (pc := 53) (v := .int o_queued_43) rfl rfl inX2 (by decide) flX2_27 rfl dX2_count_53 ?_
                    refine z_istore (pc := 56) (lv' := [(5, .int o_queued_43), (0, .ref h_o), (1, .ref h_p1), (3, .int x3_32), (2, .int x2_43), (4, .int x4_43)]) dX2_count_56 (by decide) rfl ?_
                    refine z_aload_n 1 (pc := 58) dX2_count_58 rfl ?_
                    refine z_aload_n 2 (pc := 59) dX2_count_59 rfl ?_
                    refine z_iload 5 (pc := 60) dX2_count_60 rfl ?_
                    refine z_iload_n 3 (pc := 62) dX2_count_62 rfl ?_
                    obtain ⟨r4, er4, hf0_32_43⟩ := bp hf0_32_43
                    refine z_callvV (pc := 63) (As := [.ref h_p1, .int x4_43, .int x3_32]) (rest := []) (ws' := (wsX2_count cA h_o h_p1 h_o_taken h_p1_heights h_o_queueX h_o_queueY o_side o_cells r4.1 p1_side p1_cells p1_targets p1_kept p1_marks p1_disc p1_discSize o_taken_n r4.2.1 p1_heights_n p1_heights o_queueX_n r4.2.2.1 o_queueY_n r4.2.2.2)) (kX2_take l D cA h_o h_p1 h_o_taken h_p1_heights h_o_queueX h_o_queueY o_side o_cells o_queued_43 p1_side p1_cells p1_targets p1_kept p1_marks p1_disc p1_discSize o_taken_n o_taken_43 p1_heights_n p1_heights o_queueX_n o_queueX_43 o_queueY_n o_queueY_43 x4_43 x3_32 N r4 er4) ivX2_30 ⟨rfl, rfl⟩ ⟨by decide, by decide⟩ rfl ⟨Nat.zero_le _, Nat.zero_le _⟩ rfl rfl [0, 1, 2, 3, 4, 5] rfl (by decide) rfl rfl rfl (Nat.le_of_ble_eq_true rfl) dX2_count_63 ?_
                    refine z_aload_n 1 (pc := 66) dX2_count_66 rfl ?_
                    refine z_get 0 5 (pc := 67) (v := .int r4.1) rfl rfl inX2 (by decide) flX2_27 rfl dX2_count_67 ?_
                    refine z_iload 0 (pc := 70) dX2_count_70 rfl ?_
                    refine z_icmp_le (pc := 72) (tgt := 85) dX2_count_72 (by decide) hf0_32_43 (fun hf0_32_43 => ?_) (fun hf0_32_43 => ?_)
                    · refine z_iinc 5 (pc := 85) (v := x4_43 + 1) (lv' := [(4, .int (x4_43 + 1)), (5, .int o_queued_43), (0, .ref h_o), (1, .ref h_p1), (3, .int x3_32), (2, .int x2_43)]) dX2_count_85 rfl rfl (by decide) rfl ?_
                      refine z_goto (pc := 88) (tgt := 43) dX2_count_88 (by decide) ?_
                      exact z_lv [2, 3, 4, 5, 0] rfl (ih43 x2_43 (x4_43 + 1) r4.2.2.1 r4.2.2.2 r4.1 r4.2.1 hf0_32_43)
                    · refine z_iinc 4 (pc := 75) (v := x2_43 + 1) (lv' := [(2, .int (x2_43 + 1)), (5, .int o_queued_43), (0, .ref h_o), (1, .ref h_p1), (3, .int x3_32), (4, .int x4_43)]) dX2_count_75 rfl rfl (by decide) rfl ?_
                      refine z_aload_n 2 (pc := 78) dX2_count_78 rfl ?_
                      refine z_aload_n 3 (pc := 79) dX2_count_79 rfl ?_
                      refine z_iload 1 (pc := 80) dX2_count_80 rfl ?_
                      obtain ⟨r5, er5, hf0_32_43⟩ := bp hf0_32_43
                      refine z_callvV (pc := 82) (As := [.ref h_p1, .int o_queued_43]) (rest := []) (ws' := (wsX2_count cA h_o h_p1 h_o_taken h_p1_heights h_o_queueX h_o_queueY o_side o_cells r5.1 p1_side p1_cells p1_targets p1_kept p1_marks p1_disc p1_discSize o_taken_n r5.2.2.2 p1_heights_n p1_heights o_queueX_n r5.2.1 o_queueY_n r5.2.2.1)) (kX2_spread l D cA h_o h_p1 h_o_queueX h_o_queueY h_o_taken h_p1_heights o_side o_cells r4.1 p1_side p1_cells p1_targets p1_kept p1_marks p1_disc p1_discSize o_queueX_n r4.2.2.1 o_queueY_n r4.2.2.2 o_taken_n r4.2.1 p1_heights_n p1_heights o_queued_43 N r5 er5) ivX2_34 ⟨rfl, rfl⟩ ⟨by decide, by decide⟩ rfl ⟨Nat.zero_le _, Nat.zero_le _⟩ rfl rfl [0, 1, 4, 5, 2, 3] rfl (by decide) rfl rfl rfl (Nat.le_of_ble_eq_true rfl) dX2_count_82 ?_
                      refine z_iinc 5 (pc := 85) (v := x4_43 + 1) (lv' := [(4, .int (x4_43 + 1)), (2, .int (x2_43 + 1)), (5, .int o_queued_43), (0, .ref h_o), (1, .ref h_p1), (3, .int x3_32)]) dX2_count_85 rfl rfl (by decide) rfl ?_
                      refine z_goto (pc := 88) (tgt := 43) dX2_count_88 (by decide) ?_
                      exact z_lv [3, 4, 5, 1, 0] rfl (ih43 (x2_43 + 1) (x4_43 + 1) r5.2.1 r5.2.2.1 r5.1 r5.2.2.2 hf0_32_43)
              exact z_lv [1, 2, 4, 3, 0] rfl (lp43 N x2_32 0 o_queueX_32 o_queueY_32 o_queued_32 o_taken_32 hf0_32_43)
        exact z_lv [2, 3, 1, 0] rfl (lp32 N 0 0 o_queueX o_queueY 0 o_taken_2 hf0_32)
      · refine z_aload_n 0 (pc := 10) dX2_count_10 rfl ?_
        refine z_get 0 2 (pc := 11) (v := .ref h_o_taken) rfl rfl inX2 (by decide) flX2_16 rfl dX2_count_11 ?_
        refine z_iload_n 2 (pc := 14) dX2_count_14 rfl ?_
        refine z_iconst (pc := 15) (v := 0) dX2_count_15 (by decide) ?_
        refine z_zastore 2 1 (pc := 16) (ws' := (wsX2_count cA h_o h_p1 h_o_taken h_p1_heights h_o_queueX h_o_queueY o_side o_cells o_queued p1_side p1_cells p1_targets p1_kept p1_marks p1_disc p1_discSize o_taken_n (upd o_taken_2 x2_2.toNatClampNeg (vp_nar .boolean 0)) p1_heights_n p1_heights o_queueX_n o_queueX o_queueY_n o_queueY)) rfl rfl dX2_count_16 rfl hf0_2 (fun hf0_2 => ?_)
        refine z_iinc 2 (pc := 17) (v := x2_2 + 1) (lv' := [(2, .int (x2_2 + 1)), (0, .ref h_o), (1, .ref h_p1)]) dX2_count_17 rfl rfl (by decide) rfl ?_
        refine z_goto (pc := 20) (tgt := 2) dX2_count_20 (by decide) ?_
        exact z_lv [1, 2, 0] rfl (ih2 (x2_2 + 1) (upd o_taken_2 x2_2.toNatClampNeg (vp_nar .boolean 0)) hf0_2)
  exact z_lv [1, 2, 0] rfl (lp2 N 0 o_taken hf0_2)
