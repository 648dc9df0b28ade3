abbrev RJm_floorDiv : Type := Int32
abbrev rmJm_floorDiv : Room := { frames := 0, cells := 0, slots := 0, locals := 0 }
abbrev wsJm_floorDiv (cA : Nat → ClassId)   : va_W := []
def fJm_floorDiv (N : Nat) (a0 : Int32) (a1 : Int32)  : Option RJm_floorDiv :=
  (if a1 = 0 then none else (if 0 ≤ (a0 ^^^ a1) then some (a0 / a1) else (if ((a0 / a1) * a1) = a0 then some (a0 / a1) else some ((a0 / a1) - 1))))
set_option maxHeartbeats 4000000 in
set_option maxRecDepth 100000 in
theorem kJm_floorDiv (l : Launch) (D : va_G) (cA : Nat → ClassId)   (a0 : Int32) (a1 : Int32) (N : Nat) (res : RJm_floorDiv) (hf0 : fJm_floorDiv N a0 a1 = some res) : CtI l yJm_floorDiv (Cond.code yJm_floorDiv cJm_floorDiv 3 (some .int) :: tblG) rmJm_floorDiv D cA (wsJm_floorDiv cA ) [.int a0, .int a1] res (wsJm_floorDiv cA ) := by
  refine CtI.startF (lv := [(0, .int a0), (1, .int a1)]) (by decide +kernel) (Nat.le_of_ble_eq_true rfl) rfl (fun κ hE => ?_)
  rw [fJm_floorDiv] at hf0
  refine z_iload_n 0 (pc := 0) dJm_floorDiv_0 rfl ?_
  refine z_iload_n 1 (pc := 1) dJm_floorDiv_1 rfl ?_
  refine z_idiv (pc := 2) dJm_floorDiv_2 hf0 (fun hf0 => ?_)
  refine z_istore_n (pc := 3) (lv' := [(2, .int (a0 / a1)), (0, .int a0), (1, .int a1)]) dJm_floorDiv_3 (by decide) rfl ?_
  refine z_iload_n 1 (pc := 4) dJm_floorDiv_4 rfl ?_
  refine z_iload_n 2 (pc := 5) dJm_floorDiv_5 rfl ?_
  refine z_ixor (pc := 6) dJm_floorDiv_6 ?_
  refine z_if_ge (pc := 7) (tgt := 21) dJm_floorDiv_7 (by decide) hf0 (fun hf0 => ?_) (fun hf0 => ?_)
  · refine z_iload_n 0 (pc := 21) dJm_floorDiv_21 rfl ?_
    obtain rfl := Option.some.inj hf0
    exact z_iret hE dJm_floorDiv_22
  · refine z_iload_n 0 (pc := 10) dJm_floorDiv_10 rfl ?_
    refine z_iload_n 2 (pc := 11) dJm_floorDiv_11 rfl ?_
    refine z_imul (pc := 12) dJm_floorDiv_12 ?_
    refine z_iload_n 1 (pc := 13) dJm_floorDiv_13 rfl ?_
    refine z_icmp_eq (pc := 14) (tgt := 21) dJm_floorDiv_14 (by decide) hf0 (fun hf0 => ?_) (fun hf0 => ?_)
    · refine z_iload_n 0 (pc := 21) dJm_floorDiv_21 rfl ?_
      obtain rfl := Option.some.inj hf0
      exact z_iret hE dJm_floorDiv_22
    · refine z_iload_n 0 (pc := 17) dJm_floorDiv_17 rfl ?_
      refine z_iconst (pc := 18) (v := 1) dJm_floorDiv_18 (by decide) ?_
      refine z_isub (pc := 19) dJm_floorDiv_19 ?_
      obtain rfl := Option.some.inj hf0
      exact z_iret hE dJm_floorDiv_20
