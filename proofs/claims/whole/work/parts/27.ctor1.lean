abbrev RX5_init : Type := Unit
abbrev rmX5_init : Room := { frames := 1, cells := 1, slots := 7, locals := 20 }
def fX5_init (N : Nat)  : Option RX5_init :=
  (if (7 : Int32) < 0 ∨ 7 < (7 : Int32).toNatClampNeg then none else some ())
abbrev w1X5_init (cA : Nat → ClassId) (h_o : Nat)  (res : RX5_init) (u : Nat → Nat) : va_W := [(h_o, .inr (5, [.int 0, .int 1, .ref (u 0)])), ((u 0), .inl (cA 0, ((7 : Int32).toNatClampNeg), .inl (fun _ => 0)))]
set_option maxHeartbeats 4000000 in
set_option maxRecDepth 100000 in
theorem kX5_init (l : Launch) (D : va_G) (cA : Nat → ClassId) (h_o : Nat)  (N : Nat) (res : RX5_init) (hf0 : fX5_init N  = some res) : CtC l yX5_init (Cond.code yX5_init cX5_init 1 none :: tblG) rmX5_init D cA [(h_o, .inr (5, [.int 0, .int 0, .null]))] [.ref h_o] (w1X5_init cA h_o  res) := by
  refine CtC.start (lv := [(0, .ref h_o)]) (by decide) rfl (Nat.le_of_ble_eq_true rfl) rfl (fun κ hin hAO hE => ?_)
  rw [fX5_init] at hf0
  refine z_aload_n 0 (pc := 0) dX5_init_0 rfl ?_
  refine z_objInit (pc := 1) mlX5_3 im_obj cd_obj (by decide) (Nat.le_of_ble_eq_true rfl) dX5_init_1 ?_
  refine z_aload_n 0 (pc := 4) dX5_init_4 rfl ?_
  refine z_iconst (pc := 5) (v := 0) dX5_init_5 (by decide) ?_
  refine z_put 0 0 (pc := 6) (ws' := [(h_o, .inr (5, [.int 0, .int 0, .null]))]) rfl rfl inX5 tyX5 tyX5_ok nmX5 (by decide) flX5_9 rfl rfl rfl rfl (Nat.le_of_ble_eq_true rfl) dX5_init_6 rfl ?_
  refine z_aload_n 0 (pc := 9) dX5_init_9 rfl ?_
  refine z_iconst (pc := 10) (v := 1) dX5_init_10 (by decide) ?_
  refine z_put 0 1 (pc := 11) (ws' := [(h_o, .inr (5, [.int 0, .int 1, .null]))]) rfl rfl inX5 tyX5 tyX5_ok nmX5 (by decide) flX5_15 rfl rfl rfl rfl (Nat.le_of_ble_eq_true rfl) dX5_init_11 rfl ?_
  refine z_aload_n 0 (pc := 14) dX5_init_14 rfl ?_
  refine z_bipush (pc := 15) (v := 7) dX5_init_15 (by decide) ?_
  refine z_newa 0 7 (pc := 17) wac_int rfl rfl (fun _ _ => rfl) (by decide) (by decide) (by decide) dX5_init_17 hf0 (fun hf0 h_q1 => ?_)
  refine z_wsE (ws' := [(h_o, .inr (5, [.int 0, .int 1, .null])), (h_q1, .inl (cA 0, ((7 : Int32).toNatClampNeg), .inl (fun _ => 0)))]) rfl ?_
  refine z_putF 0 2 (pc := 19) (ws' := [(h_o, .inr (5, [.int 0, .int 1, .ref h_q1])), (h_q1, .inl (cA 0, ((7 : Int32).toNatClampNeg), .inl (fun _ => 0)))]) hin rfl rfl inX5 tyX5 tyX5_ok nmX5 (by decide) flX5_18 rfl rfl rfl rfl rfl (Nat.le_of_ble_eq_true rfl) dX5_init_19 rfl ?_
  obtain rfl := Option.some.inj hf0
  exact z_cret (fun j => ([h_q1] : List Nat).getD j 0) hE rfl ⟨by decide, by decide⟩ dX5_init_22

abbrev RX0_init : Type := (Nat → Int32) × (Nat → Int32)
abbrev rmX0_init : Room := { frames := 1, cells := 5, slots := 2000, locals := 20 }
def LX0_init_38 (k1 : Int32) (k2 : Nat) (k3 : Nat) : Nat → Int32 → (Nat → Int32) → (Nat → Int32) → Option (Int32 × (Nat → Int32) × (Nat → Int32))
  | 0, _, _, _ => none
  | n + 1, x2_38, q1_38, q2_38 => (if k1 ≤ x2_38 then some (x2_38, q1_38, q2_38) else (if x2_38 < 0 ∨ k2 ≤ x2_38.toNatClampNeg then none else (if x2_38 < 0 ∨ k3 ≤ x2_38.toNatClampNeg then none else LX0_init_38 k1 k2 k3 n (x2_38 + 1) (upd q1_38 x2_38.toNatClampNeg 100) (upd q2_38 x2_38.toNatClampNeg 100))))
def fX0_init (N : Nat) (a1 : Int32) : Option RX0_init :=
  (if (a1 * a1) < 0 ∨ 400 < (a1 * a1).toNatClampNeg then none else (if (a1 * a1) < 0 ∨ 400 < (a1 * a1).toNatClampNeg then none else ((LX0_init_38 (a1 * a1) ((a1 * a1).toNatClampNeg) ((a1 * a1).toNatClampNeg) N 0 (fun _ => 0) (fun _ => 0)).bind fun r4 => (if (a1 * a1) < 0 ∨ 400 < (a1 * a1).toNatClampNeg then none else (if (a1 * a1) < 0 ∨ 400 < (a1 * a1).toNatClampNeg then none else (if (a1 * a1) < 0 ∨ 400 < (a1 * a1).toNatClampNeg then none else some (r4.2.1, r4.2.2)))))))
abbrev w1X0_init (cA : Nat → ClassId) (h_o : Nat) (a1 : Int32) (res : RX0_init) (u : Nat → Nat) : va_W := [(h_o, .inr (0, [.int a1, .int (a1 * a1), .ref (u 0), .ref (u 1), .ref (u 2), .ref (u 3), .ref (u 4), .int 0])), ((u 0), .inl (cA 0, ((a1 * a1).toNatClampNeg), .inl res.1)), ((u 1), .inl (cA 0, ((a1 * a1).toNatClampNeg), .inl res.2)), ((u 2), .inl (cA 1, ((a1 * a1).toNatClampNeg), .inl (fun _ => 0))), ((u 3), .inl (cA 1, ((a1 * a1).toNatClampNeg), .inl (fun _ => 0))), ((u 4), .inl (cA 0, ((a1 * a1).toNatClampNeg), .inl (fun _ => 0)))]
set_option maxHeartbeats 4000000 in
set_option maxRecDepth 100000 in
theorem kX0_init (l : Launch) (D : va_G) (cA : Nat → ClassId) (h_o : Nat) (a1 : Int32) (N : Nat) (res : RX0_init) (hf0 : fX0_init N a1 = some res) : CtC l yX0_init (Cond.code yX0_init cX0_init 3 none :: tblG) rmX0_init D cA [(h_o, .inr (0, [.int 0, .int 0, .null, .null, .null, .null, .null, .int 0]))] [.ref h_o, .int a1] (w1X0_init cA h_o a1 res) := by
  refine CtC.start (lv := [(0, .ref h_o), (1, .int a1)]) (by decide) rfl (Nat.le_of_ble_eq_true rfl) rfl (fun κ hin hAO hE => ?_)
  rw [fX0_init] at hf0
  refine z_aload_n 0 (pc := 0) dX0_init_0 rfl ?_
  refine z_objInit (pc := 1) mlX0_3 im_obj cd_obj (by decide) (Nat.le_of_ble_eq_true rfl) dX0_init_1 ?_
  refine z_aload_n 0 (pc := 4) dX0_init_4 rfl ?_
  refine z_iload_n 1 (pc := 5) dX0_init_5 rfl ?_
  refine z_putF 0 0 (pc := 6) (ws' := [(h_o, .inr (0, [.int a1, .int 0, .null, .null, .null, .null, .null, .int 0]))]) hin rfl rfl inX0 tyX0 tyX0_ok nmX0 (by decide) flX0_9 rfl rfl rfl rfl rfl (Nat.le_of_ble_eq_true rfl) dX0_init_6 rfl ?_
  refine z_aload_n 0 (pc := 9) dX0_init_9 rfl ?_
  refine z_iload_n 1 (pc := 10) dX0_init_10 rfl ?_
  refine z_iload_n 1 (pc := 11) dX0_init_11 rfl ?_
  refine z_imul (pc := 12) dX0_init_12 ?_
  refine z_putF 0 1 (pc := 13) (ws' := [(h_o, .inr (0, [.int a1, .int (a1 * a1), .null, .null, .null, .null, .null, .int 0]))]) hin rfl rfl inX0 tyX0 tyX0_ok nmX0 (by decide) flX0_15 rfl rfl rfl rfl rfl (Nat.le_of_ble_eq_true rfl) dX0_init_13 rfl ?_
  refine z_aload_n 0 (pc := 16) dX0_init_16 rfl ?_
  refine z_aload_n 0 (pc := 17) dX0_init_17 rfl ?_
  refine z_get 0 1 (pc := 18) (v := .int (a1 * a1)) rfl rfl inX0 (by decide) flX0_15 rfl dX0_init_18 ?_
  refine z_newa 0 400 (pc := 21) wac_int rfl rfl (fun _ _ => rfl) (by decide) (by decide) (by decide) dX0_init_21 hf0 (fun hf0 h_q1 => ?_)
  refine z_wsE (ws' := [(h_o, .inr (0, [.int a1, .int (a1 * a1), .null, .null, .null, .null, .null, .int 0])), (h_q1, .inl (cA 0, ((a1 * a1).toNatClampNeg), .inl (fun _ => 0)))]) rfl ?_
  refine z_putF 0 2 (pc := 23) (ws' := [(h_o, .inr (0, [.int a1, .int (a1 * a1), .ref h_q1, .null, .null, .null, .null, .int 0])), (h_q1, .inl (cA 0, ((a1 * a1).toNatClampNeg), .inl (fun _ => 0)))]) hin rfl rfl inX0 tyX0 tyX0_ok nmX0 (by decide) flX0_18 rfl rfl rfl rfl rfl (Nat.le_of_ble_eq_true rfl) dX0_init_23 rfl ?_
  refine z_aload_n 0 (pc := 26) dX0_init_26 rfl ?_
  refine z_aload_n 0 (pc := 27) dX0_init_27 rfl ?_
  refine z_get 0 1 (pc := 28) (v := .int (a1 * a1)) rfl rfl inX0 (by decide) flX0_15 rfl dX0_init_28 ?_
  refine z_newa 0 400 (pc := 31) wac_int rfl rfl (fun _ _ => rfl) (by decide) (by decide) (by decide) dX0_init_31 hf0 (fun hf0 h_q2 => ?_)
  refine z_wsE (ws' := [(h_o, .inr (0, [.int a1, .int (a1 * a1), .ref h_q1, .null, .null, .null, .null, .int 0])), (h_q1, .inl (cA 0, ((a1 * a1).toNatClampNeg), .inl (fun _ => 0))), (h_q2, .inl (cA 0, ((a1 * a1).toNatClampNeg), .inl (fun _ => 0)))]) rfl ?_
  refine z_putF 0 3 (pc := 33) (ws' := [(h_o, .inr (0, [.int a1, .int (a1 * a1), .ref h_q1, .ref h_q2, .null, .null, .null, .int 0])), (h_q1, .inl (cA 0, ((a1 * a1).toNatClampNeg), .inl (fun _ => 0))), (h_q2, .inl (cA 0, ((a1 * a1).toNatClampNeg), .inl (fun _ => 0)))]) hin rfl rfl inX0 tyX0 tyX0_ok nmX0 (by decide) flX0_22 rfl rfl rfl rfl rfl (Nat.le_of_ble_eq_true rfl) dX0_init_33 rfl ?_
  refine z_iconst (pc := 36) (v := 0) dX0_init_36 (by decide) ?_
  refine z_istore_n (pc := 37) (lv' := [(2, .int 0), (0, .ref h_o), (1, .int a1)]) dX0_init_37 (by decide) rfl ?_
  obtain ⟨y38, hf0_38, hf0⟩ := bp hf0
  have lp38 : ∀ (n : Nat) (x2_38 : Int32) (q1_38 : Nat → Int32) (q2_38 : Nat → Int32), LX0_init_38 (a1 * a1) ((a1 * a1).toNatClampNeg) ((a1 * a1).toNatClampNeg) n x2_38 q1_38 q2_38 = some y38 → V κ false l D cA rmX0_init cX0_init 3 RX0 (none) 2 800 38 [(0, .ref h_o), (1, .int a1), (2, .int x2_38)] [] [(h_o, .inr (0, [.int a1, .int (a1 * a1), .ref h_q1, .ref h_q2, .null, .null, .null, .int 0])), (h_q1, .inl (cA 0, ((a1 * a1).toNatClampNeg), .inl q1_38)), (h_q2, .inl (cA 0, ((a1 * a1).toNatClampNeg), .inl q2_38))] := by
    intro n
    induction n with
    | zero => intro x2_38 q1_38 q2_38 hf0_38; rw [LX0_init_38] at hf0_38; cases hf0_38
    | succ n38 ih38 =>
      intro x2_38 q1_38 q2_38 hf0_38
      rw [LX0_init_38] at hf0_38
      refine z_iload_n 2 (pc := 38) dX0_init_38 rfl ?_
      refine z_aload_n 0 (pc := 39) dX0_init_39 rfl ?_
      refine z_get 0 1 (pc := 40) (v := .int (a1 * a1)) rfl rfl inX0 (by decide) flX0_15 rfl dX0_init_40 ?_
      refine z_icmp_ge (pc := 43) (tgt := 68) dX0_init_43 (by decide) hf0_38 (fun hf0_38 => ?_) (fun hf0_38 => ?_)
      · obtain rfl := Option.some.inj hf0_38
        refine z_aload_n 0 (pc := 68) dX0_init_68 rfl ?_
        refine z_aload_n 0 (pc := 69) dX0_init_69 rfl ?_
        refine z_get 0 1 (pc := 70) (v := .int (a1 * a1)) rfl rfl inX0 (by decide) flX0_15 rfl dX0_init_70 ?_
        refine z_newa 1 400 (pc := 73) wac_boolean rfl rfl (fun _ _ => rfl) (by decide) (by decide) (by decide) dX0_init_73 hf0 (fun hf0 h_q3 => ?_)
        refine z_wsE (ws' := [(h_o, .inr (0, [.int a1, .int (a1 * a1), .ref h_q1, .ref h_q2, .null, .null, .null, .int 0])), (h_q1, .inl (cA 0, ((a1 * a1).toNatClampNeg), .inl q1_38)), (h_q2, .inl (cA 0, ((a1 * a1).toNatClampNeg), .inl q2_38)), (h_q3, .inl (cA 1, ((a1 * a1).toNatClampNeg), .inl (fun _ => 0)))]) rfl ?_
        refine z_putF 0 4 (pc := 75) (ws' := [(h_o, .inr (0, [.int a1, .int (a1 * a1), .ref h_q1, .ref h_q2, .ref h_q3, .null, .null, .int 0])), (h_q1, .inl (cA 0, ((a1 * a1).toNatClampNeg), .inl q1_38)), (h_q2, .inl (cA 0, ((a1 * a1).toNatClampNeg), .inl q2_38)), (h_q3, .inl (cA 1, ((a1 * a1).toNatClampNeg), .inl (fun _ => 0)))]) hin rfl rfl inX0 tyX0 tyX0_ok nmX0 (by decide) flX0_25 rfl rfl rfl rfl rfl (Nat.le_of_ble_eq_true rfl) dX0_init_75 rfl ?_
        refine z_aload_n 0 (pc := 78) dX0_init_78 rfl ?_
        refine z_aload_n 0 (pc := 79) dX0_init_79 rfl ?_
        refine z_get 0 1 (pc := 80) (v := .int (a1 * a1)) rfl rfl inX0 (by decide) flX0_15 rfl dX0_init_80 ?_
        refine z_newa 1 400 (pc := 83) wac_boolean rfl rfl (fun _ _ => rfl) (by decide) (by decide) (by decide) dX0_init_83 hf0 (fun hf0 h_q4 => ?_)
        refine z_wsE (ws' := [(h_o, .inr (0, [.int a1, .int (a1 * a1), .ref h_q1, .ref h_q2, .ref h_q3, .null, .null, .int 0])), (h_q1, .inl (cA 0, ((a1 * a1).toNatClampNeg), .inl q1_38)), (h_q2, .inl (cA 0, ((a1 * a1).toNatClampNeg), .inl q2_38)), (h_q3, .inl (cA 1, ((a1 * a1).toNatClampNeg), .inl (fun _ => 0))), (h_q4, .inl (cA 1, ((a1 * a1).toNatClampNeg), .inl (fun _ => 0)))]) rfl ?_
        refine z_putF 0 5 (pc := 85) (ws' := [(h_o, .inr (0, [.int a1, .int (a1 * a1), .ref h_q1, .ref h_q2, .ref h_q3, .ref h_q4, .null, .int 0])), (h_q1, .inl (cA 0, ((a1 * a1).toNatClampNeg), .inl q1_38)), (h_q2, .inl (cA 0, ((a1 * a1).toNatClampNeg), .inl q2_38)), (h_q3, .inl (cA 1, ((a1 * a1).toNatClampNeg), .inl (fun _ => 0))), (h_q4, .inl (cA 1, ((a1 * a1).toNatClampNeg), .inl (fun _ => 0)))]) hin rfl rfl inX0 tyX0 tyX0_ok nmX0 (by decide) flX0_29 rfl rfl rfl rfl rfl (Nat.le_of_ble_eq_true rfl) dX0_init_85 rfl ?_
        refine z_aload_n 0 (pc := 88) dX0_init_88 rfl ?_
        refine z_aload_n 0 (pc := 89) dX0_init_89 rfl ?_
        refine z_get 0 1 (pc := 90) (v := .int (a1 * a1)) rfl rfl inX0 (by decide) flX0_15 rfl dX0_init_90 ?_
        refine z_newa 0 400 (pc := 93) wac_int rfl rfl (fun _ _ => rfl) (by decide) (by decide) (by decide) dX0_init_93 hf0 (fun hf0 h_q5 => ?_)
        refine z_wsE (ws' := [(h_o, .inr (0, [.int a1, .int (a1 * a1), .ref h_q1, .ref h_q2, .ref h_q3, .ref h_q4, .null, .int 0])), (h_q1, .inl (cA 0, ((a1 * a1).toNatClampNeg), .inl q1_38)), (h_q2, .inl (cA 0, ((a1 * a1).toNatClampNeg), .inl q2_38)), (h_q3, .inl (cA 1, ((a1 * a1).toNatClampNeg), .inl (fun _ => 0))), (h_q4, .inl (cA 1, ((a1 * a1).toNatClampNeg), .inl (fun _ => 0))), (h_q5, .inl (cA 0, ((a1 * a1).toNatClampNeg), .inl (fun _ => 0)))]) rfl ?_
        refine z_putF 0 6 (pc := 95) (ws' := [(h_o, .inr (0, [.int a1, .int (a1 * a1), .ref h_q1, .ref h_q2, .ref h_q3, .ref h_q4, .ref h_q5, .int 0])), (h_q1, .inl (cA 0, ((a1 * a1).toNatClampNeg), .inl q1_38)), (h_q2, .inl (cA 0, ((a1 * a1).toNatClampNeg), .inl q2_38)), (h_q3, .inl (cA 1, ((a1 * a1).toNatClampNeg), .inl (fun _ => 0))), (h_q4, .inl (cA 1, ((a1 * a1).toNatClampNeg), .inl (fun _ => 0))), (h_q5, .inl (cA 0, ((a1 * a1).toNatClampNeg), .inl (fun _ => 0)))]) hin rfl rfl inX0 tyX0 tyX0_ok nmX0 (by decide) flX0_32 rfl rfl rfl rfl rfl (Nat.le_of_ble_eq_true rfl) dX0_init_95 rfl ?_
        refine z_aload_n 0 (pc := 98) dX0_init_98 rfl ?_
        refine z_iconst (pc := 99) (v := 0) dX0_init_99 (by decide) ?_
        refine z_put 0 7 (pc := 100) (ws' := [(h_o, .inr (0, [.int a1, .int (a1 * a1), .ref h_q1, .ref h_q2, .ref h_q3, .ref h_q4, .ref h_q5, .int 0])), (h_q1, .inl (cA 0, ((a1 * a1).toNatClampNeg), .inl q1_38)), (h_q2, .inl (cA 0, ((a1 * a1).toNatClampNeg), .inl q2_38)), (h_q3, .inl (cA 1, ((a1 * a1).toNatClampNeg), .inl (fun _ => 0))), (h_q4, .inl (cA 1, ((a1 * a1).toNatClampNeg), .inl (fun _ => 0))), (h_q5, .inl (cA 0, ((a1 * a1).toNatClampNeg), .inl (fun _ => 0)))]) rfl rfl inX0 tyX0 tyX0_ok nmX0 (by decide) flX0_35 rfl rfl rfl rfl (Nat.le_of_ble_eq_true rfl) dX0_init_100 rfl ?_
        obtain rfl := Option.some.inj hf0
        exact z_cret (fun j => ([h_q1, h_q2, h_q3, h_q4, h_q5] : List Nat).getD j 0) hE rfl ⟨by decide, by decide⟩ dX0_init_103
      · refine z_aload_n 0 (pc := 46) dX0_init_46 rfl ?_
        refine z_get 0 2 (pc := 47) (v := .ref h_q1) rfl rfl inX0 (by decide) flX0_18 rfl dX0_init_47 ?_
        refine z_iload_n 2 (pc := 50) dX0_init_50 rfl ?_
        refine z_bipush (pc := 51) (v := 100) dX0_init_51 (by decide) ?_
        refine z_iastore 1 0 (pc := 53) (ws' := [(h_o, .inr (0, [.int a1, .int (a1 * a1), .ref h_q1, .ref h_q2, .null, .null, .null, .int 0])), (h_q1, .inl (cA 0, ((a1 * a1).toNatClampNeg), .inl (upd q1_38 x2_38.toNatClampNeg 100))), (h_q2, .inl (cA 0, ((a1 * a1).toNatClampNeg), .inl q2_38))]) rfl rfl dX0_init_53 rfl hf0_38 (fun hf0_38 => ?_)
        refine z_aload_n 0 (pc := 54) dX0_init_54 rfl ?_
        refine z_get 0 3 (pc := 55) (v := .ref h_q2) rfl rfl inX0 (by decide) flX0_22 rfl dX0_init_55 ?_
        refine z_iload_n 2 (pc := 58) dX0_init_58 rfl ?_
        refine z_bipush (pc := 59) (v := 100) dX0_init_59 (by decide) ?_
        refine z_iastore 2 0 (pc := 61) (ws' := [(h_o, .inr (0, [.int a1, .int (a1 * a1), .ref h_q1, .ref h_q2, .null, .null, .null, .int 0])), (h_q1, .inl (cA 0, ((a1 * a1).toNatClampNeg), .inl (upd q1_38 x2_38.toNatClampNeg 100))), (h_q2, .inl (cA 0, ((a1 * a1).toNatClampNeg), .inl (upd q2_38 x2_38.toNatClampNeg 100)))]) rfl rfl dX0_init_61 rfl hf0_38 (fun hf0_38 => ?_)
        refine z_iinc 2 (pc := 62) (v := x2_38 + 1) (lv' := [(2, .int (x2_38 + 1)), (0, .ref h_o), (1, .int a1)]) dX0_init_62 rfl rfl (by decide) rfl ?_
        refine z_goto (pc := 65) (tgt := 38) dX0_init_65 (by decide) ?_
        exact z_lv [1, 2, 0] rfl (ih38 (x2_38 + 1) (upd q1_38 x2_38.toNatClampNeg 100) (upd q2_38 x2_38.toNatClampNeg 100) hf0_38)
  exact z_lv [1, 2, 0] rfl (lp38 N 0 (fun _ => 0) (fun _ => 0) hf0_38)

abbrev RX4_init : Type := Unit
abbrev rmX4_init : Room := { frames := 1, cells := 1, slots := 240, locals := 20 }
def fX4_init (N : Nat) (a1 : Int32) : Option RX4_init :=
  (if (240 : Int32) < 0 ∨ 240 < (240 : Int32).toNatClampNeg then none else some ())
abbrev w1X4_init (cA : Nat → ClassId) (h_o : Nat) (a1 : Int32) (res : RX4_init) (u : Nat → Nat) : va_W := [(h_o, .inr (4, [.int a1, .ref (u 0), .int 0, .int 0])), ((u 0), .inl (cA 0, ((240 : Int32).toNatClampNeg), .inl (fun _ => 0)))]
set_option maxHeartbeats 4000000 in
set_option maxRecDepth 100000 in
theorem kX4_init (l : Launch) (D : va_G) (cA : Nat → ClassId) (h_o : Nat) (a1 : Int32) (N : Nat) (res : RX4_init) (hf0 : fX4_init N a1 = some res) : CtC l yX4_init (Cond.code yX4_init cX4_init 2 none :: tblG) rmX4_init D cA [(h_o, .inr (4, [.int 0, .null, .int 0, .int 0]))] [.ref h_o, .int a1] (w1X4_init cA h_o a1 res) := by
  refine CtC.start (lv := [(0, .ref h_o), (1, .int a1)]) (by decide) rfl (Nat.le_of_ble_eq_true rfl) rfl (fun κ hin hAO hE => ?_)
  rw [fX4_init] at hf0
  refine z_aload_n 0 (pc := 0) dX4_init_0 rfl ?_
  refine z_objInit (pc := 1) mlX4_3 im_obj cd_obj (by decide) (Nat.le_of_ble_eq_true rfl) dX4_init_1 ?_
  refine z_aload_n 0 (pc := 4) dX4_init_4 rfl ?_
  refine z_iload_n 1 (pc := 5) dX4_init_5 rfl ?_
  refine z_putF 0 0 (pc := 6) (ws' := [(h_o, .inr (4, [.int a1, .null, .int 0, .int 0]))]) hin rfl rfl inX4 tyX4 tyX4_ok nmX4 (by decide) flX4_9 rfl rfl rfl rfl rfl (Nat.le_of_ble_eq_true rfl) dX4_init_6 rfl ?_
  refine z_aload_n 0 (pc := 9) dX4_init_9 rfl ?_
  refine z_sipush (pc := 10) (v := 240) dX4_init_10 (by decide) ?_
  refine z_newa 0 240 (pc := 13) wac_int rfl rfl (fun _ _ => rfl) (by decide) (by decide) (by decide) dX4_init_13 hf0 (fun hf0 h_q1 => ?_)
  refine z_wsE (ws' := [(h_o, .inr (4, [.int a1, .null, .int 0, .int 0])), (h_q1, .inl (cA 0, ((240 : Int32).toNatClampNeg), .inl (fun _ => 0)))]) rfl ?_
  refine z_putF 0 1 (pc := 15) (ws' := [(h_o, .inr (4, [.int a1, .ref h_q1, .int 0, .int 0])), (h_q1, .inl (cA 0, ((240 : Int32).toNatClampNeg), .inl (fun _ => 0)))]) hin rfl rfl inX4 tyX4 tyX4_ok nmX4 (by decide) flX4_15 rfl rfl rfl rfl rfl (Nat.le_of_ble_eq_true rfl) dX4_init_15 rfl ?_
  refine z_aload_n 0 (pc := 18) dX4_init_18 rfl ?_
  refine z_iconst (pc := 19) (v := 0) dX4_init_19 (by decide) ?_
  refine z_put 0 2 (pc := 20) (ws' := [(h_o, .inr (4, [.int a1, .ref h_q1, .int 0, .int 0])), (h_q1, .inl (cA 0, ((240 : Int32).toNatClampNeg), .inl (fun _ => 0)))]) rfl rfl inX4 tyX4 tyX4_ok nmX4 (by decide) flX4_19 rfl rfl rfl rfl (Nat.le_of_ble_eq_true rfl) dX4_init_20 rfl ?_
  refine z_aload_n 0 (pc := 23) dX4_init_23 rfl ?_
  refine z_iconst (pc := 24) (v := 0) dX4_init_24 (by decide) ?_
  refine z_put 0 3 (pc := 25) (ws' := [(h_o, .inr (4, [.int a1, .ref h_q1, .int 0, .int 0])), (h_q1, .inl (cA 0, ((240 : Int32).toNatClampNeg), .inl (fun _ => 0)))]) rfl rfl inX4 tyX4 tyX4_ok nmX4 (by decide) flX4_22 rfl rfl rfl rfl (Nat.le_of_ble_eq_true rfl) dX4_init_25 rfl ?_
  obtain rfl := Option.some.inj hf0
  exact z_cret (fun j => ([h_q1] : List Nat).getD j 0) hE rfl ⟨by decide, by decide⟩ dX4_init_28

abbrev RX2_init : Type := Unit
abbrev rmX2_init : Room := { frames := 1, cells := 3, slots := 1200, locals := 20 }
def fX2_init (N : Nat) (a1 : Int32) : Option RX2_init :=
  (if (a1 * a1) < 0 ∨ 400 < (a1 * a1).toNatClampNeg then none else (if (a1 * a1) < 0 ∨ 400 < (a1 * a1).toNatClampNeg then none else (if (a1 * a1) < 0 ∨ 400 < (a1 * a1).toNatClampNeg then none else some ())))
abbrev w1X2_init (cA : Nat → ClassId) (h_o : Nat) (a1 : Int32) (res : RX2_init) (u : Nat → Nat) : va_W := [(h_o, .inr (2, [.int a1, .int (a1 * a1), .ref (u 0), .ref (u 1), .ref (u 2), .int 0])), ((u 0), .inl (cA 1, ((a1 * a1).toNatClampNeg), .inl (fun _ => 0))), ((u 1), .inl (cA 0, ((a1 * a1).toNatClampNeg), .inl (fun _ => 0))), ((u 2), .inl (cA 0, ((a1 * a1).toNatClampNeg), .inl (fun _ => 0)))]
set_option maxHeartbeats 4000000 in
set_option maxRecDepth 100000 in
theorem kX2_init (l : Launch) (D : va_G) (cA : Nat → ClassId) (h_o : Nat) (a1 : Int32) (N : Nat) (res : RX2_init) (hf0 : fX2_init N a1 = some res) : CtC l yX2_init (Cond.code yX2_init cX2_init 2 none :: tblG) rmX2_init D cA [(h_o, .inr (2, [.int 0, .int 0, .null, .null, .null, .int 0]))] [.ref h_o, .int a1] (w1X2_init cA h_o a1 res) := by
  refine CtC.start (lv := [(0, .ref h_o), (1, .int a1)]) (by decide) rfl (Nat.le_of_ble_eq_true rfl) rfl (fun κ hin hAO hE => ?_)
  rw [fX2_init] at hf0
  refine z_aload_n 0 (pc := 0) dX2_init_0 rfl ?_
  refine z_objInit (pc := 1) mlX2_1 im_obj cd_obj (by decide) (Nat.le_of_ble_eq_true rfl) dX2_init_1 ?_
  refine z_aload_n 0 (pc := 4) dX2_init_4 rfl ?_
  refine z_iload_n 1 (pc := 5) dX2_init_5 rfl ?_
  refine z_putF 0 0 (pc := 6) (ws' := [(h_o, .inr (2, [.int a1, .int 0, .null, .null, .null, .int 0]))]) hin rfl rfl inX2 tyX2 tyX2_ok nmX2 (by decide) flX2_7 rfl rfl rfl rfl rfl (Nat.le_of_ble_eq_true rfl) dX2_init_6 rfl ?_
  refine z_aload_n 0 (pc := 9) dX2_init_9 rfl ?_
  refine z_iload_n 1 (pc := 10) dX2_init_10 rfl ?_
  refine z_iload_n 1 (pc := 11) dX2_init_11 rfl ?_
  refine z_imul (pc := 12) dX2_init_12 ?_
  refine z_putF 0 1 (pc := 13) (ws' := [(h_o, .inr (2, [.int a1, .int (a1 * a1), .null, .null, .null, .int 0]))]) hin rfl rfl inX2 tyX2 tyX2_ok nmX2 (by decide) flX2_13 rfl rfl rfl rfl rfl (Nat.le_of_ble_eq_true rfl) dX2_init_13 rfl ?_
  refine z_aload_n 0 (pc := 16) dX2_init_16 rfl ?_
  refine z_aload_n 0 (pc := 17) dX2_init_17 rfl ?_
  refine z_get 0 1 (pc := 18) (v := .int (a1 * a1)) rfl rfl inX2 (by decide) flX2_13 rfl dX2_init_18 ?_
  refine z_newa 1 400 (pc := 21) wac_boolean rfl rfl (fun _ _ => rfl) (by decide) (by decide) (by decide) dX2_init_21 hf0 (fun hf0 h_q1 => ?_)
  refine z_wsE (ws' := [(h_o, .inr (2, [.int a1, .int (a1 * a1), .null, .null, .null, .int 0])), (h_q1, .inl (cA 1, ((a1 * a1).toNatClampNeg), .inl (fun _ => 0)))]) rfl ?_
  refine z_putF 0 2 (pc := 23) (ws' := [(h_o, .inr (2, [.int a1, .int (a1 * a1), .ref h_q1, .null, .null, .int 0])), (h_q1, .inl (cA 1, ((a1 * a1).toNatClampNeg), .inl (fun _ => 0)))]) hin rfl rfl inX2 tyX2 tyX2_ok nmX2 (by decide) flX2_16 rfl rfl rfl rfl rfl (Nat.le_of_ble_eq_true rfl) dX2_init_23 rfl ?_
  refine z_aload_n 0 (pc := 26) dX2_init_26 rfl ?_
  refine z_aload_n 0 (pc := 27) dX2_init_27 rfl ?_
  refine z_get 0 1 (pc := 28) (v := .int (a1 * a1)) rfl rfl inX2 (by decide) flX2_13 rfl dX2_init_28 ?_
  refine z_newa 0 400 (pc := 31) wac_int rfl rfl (fun _ _ => rfl) (by decide) (by decide) (by decide) dX2_init_31 hf0 (fun hf0 h_q2 => ?_)
  refine z_wsE (ws' := [(h_o, .inr (2, [.int a1, .int (a1 * a1), .ref h_q1, .null, .null, .int 0])), (h_q1, .inl (cA 1, ((a1 * a1).toNatClampNeg), .inl (fun _ => 0))), (h_q2, .inl (cA 0, ((a1 * a1).toNatClampNeg), .inl (fun _ => 0)))]) rfl ?_
  refine z_putF 0 3 (pc := 33) (ws' := [(h_o, .inr (2, [.int a1, .int (a1 * a1), .ref h_q1, .ref h_q2, .null, .int 0])), (h_q1, .inl (cA 1, ((a1 * a1).toNatClampNeg), .inl (fun _ => 0))), (h_q2, .inl (cA 0, ((a1 * a1).toNatClampNeg), .inl (fun _ => 0)))]) hin rfl rfl inX2 tyX2 tyX2_ok nmX2 (by decide) flX2_20 rfl rfl rfl rfl rfl (Nat.le_of_ble_eq_true rfl) dX2_init_33 rfl ?_
  refine z_aload_n 0 (pc := 36) dX2_init_36 rfl ?_
  refine z_aload_n 0 (pc := 37) dX2_init_37 rfl ?_
  refine z_get 0 1 (pc := 38) (v := .int (a1 * a1)) rfl rfl inX2 (by decide) flX2_13 rfl dX2_init_38 ?_
  refine z_newa 0 400 (pc := 41) wac_int rfl rfl (fun _ _ => rfl) (by decide) (by decide) (by decide) dX2_init_41 hf0 (fun hf0 h_q3 => ?_)
  refine z_wsE (ws' := [(h_o, .inr (2, [.int a1, .int (a1 * a1), .ref h_q1, .ref h_q2, .null, .int 0])), (h_q1, .inl (cA 1, ((a1 * a1).toNatClampNeg), .inl (fun _ => 0))), (h_q2, .inl (cA 0, ((a1 * a1).toNatClampNeg), .inl (fun _ => 0))), (h_q3, .inl (cA 0, ((a1 * a1).toNatClampNeg), .inl (fun _ => 0)))]) rfl ?_
  refine z_putF 0 4 (pc := 43) (ws' := [(h_o, .inr (2, [.int a1, .int (a1 * a1), .ref h_q1, .ref h_q2, .ref h_q3, .int 0])), (h_q1, .inl (cA 1, ((a1 * a1).toNatClampNeg), .inl (fun _ => 0))), (h_q2, .inl (cA 0, ((a1 * a1).toNatClampNeg), .inl (fun _ => 0))), (h_q3, .inl (cA 0, ((a1 * a1).toNatClampNeg), .inl (fun _ => 0)))]) hin rfl rfl inX2 tyX2 tyX2_ok nmX2 (by decide) flX2_24 rfl rfl rfl rfl rfl (Nat.le_of_ble_eq_true rfl) dX2_init_43 rfl ?_
  refine z_aload_n 0 (pc := 46) dX2_init_46 rfl ?_
  refine z_iconst (pc := 47) (v := 0) dX2_init_47 (by decide) ?_
  refine z_put 0 5 (pc := 48) (ws' := [(h_o, .inr (2, [.int a1, .int (a1 * a1), .ref h_q1, .ref h_q2, .ref h_q3, .int 0])), (h_q1, .inl (cA 1, ((a1 * a1).toNatClampNeg), .inl (fun _ => 0))), (h_q2, .inl (cA 0, ((a1 * a1).toNatClampNeg), .inl (fun _ => 0))), (h_q3, .inl (cA 0, ((a1 * a1).toNatClampNeg), .inl (fun _ => 0)))]) rfl rfl inX2 tyX2 tyX2_ok nmX2 (by decide) flX2_27 rfl rfl rfl rfl (Nat.le_of_ble_eq_true rfl) dX2_init_48 rfl ?_
  obtain rfl := Option.some.inj hf0
  exact z_cret (fun j => ([h_q1, h_q2, h_q3] : List Nat).getD j 0) hE rfl ⟨by decide, by decide⟩ dX2_init_51

abbrev RX3_init : Type := Unit
abbrev rmX3_init : Room := { frames := 1, cells := 5, slots := 160, locals := 20 }
def fX3_init (N : Nat)  : Option RX3_init :=
  (if (32 : Int32) < 0 ∨ 32 < (32 : Int32).toNatClampNeg then none else (if (32 : Int32) < 0 ∨ 32 < (32 : Int32).toNatClampNeg then none else (if (32 : Int32) < 0 ∨ 32 < (32 : Int32).toNatClampNeg then none else (if (32 : Int32) < 0 ∨ 32 < (32 : Int32).toNatClampNeg then none else (if (32 : Int32) < 0 ∨ 32 < (32 : Int32).toNatClampNeg then none else some ())))))
abbrev w1X3_init (cA : Nat → ClassId) (h_o : Nat)  (res : RX3_init) (u : Nat → Nat) : va_W := [(h_o, .inr (3, [.int 0, .ref (u 0), .ref (u 1), .ref (u 2), .ref (u 3), .ref (u 4)])), ((u 0), .inl (cA 2, ((32 : Int32).toNatClampNeg), .inl (fun _ => 0))), ((u 1), .inl (cA 0, ((32 : Int32).toNatClampNeg), .inl (fun _ => 0))), ((u 2), .inl (cA 0, ((32 : Int32).toNatClampNeg), .inl (fun _ => 0))), ((u 3), .inl (cA 0, ((32 : Int32).toNatClampNeg), .inl (fun _ => 0))), ((u 4), .inl (cA 0, ((32 : Int32).toNatClampNeg), .inl (fun _ => 0)))]
set_option maxHeartbeats 4000000 in
set_option maxRecDepth 100000 in
theorem kX3_init (l : Launch) (D : va_G) (cA : Nat → ClassId) (h_o : Nat)  (N : Nat) (res : RX3_init) (hf0 : fX3_init N  = some res) : CtC l yX3_init (Cond.code yX3_init cX3_init 1 none :: tblG) rmX3_init D cA [(h_o, .inr (3, [.int 0, .null, .null, .null, .null, .null]))] [.ref h_o] (w1X3_init cA h_o  res) := by
  refine CtC.start (lv := [(0, .ref h_o)]) (by decide) rfl (Nat.le_of_ble_eq_true rfl) rfl (fun κ hin hAO hE => ?_)
  rw [fX3_init] at hf0
  refine z_aload_n 0 (pc := 0) dX3_init_0 rfl ?_
  refine z_objInit (pc := 1) mlX3_3 im_obj cd_obj (by decide) (Nat.le_of_ble_eq_true rfl) dX3_init_1 ?_
  refine z_aload_n 0 (pc := 4) dX3_init_4 rfl ?_
  refine z_iconst (pc := 5) (v := 0) dX3_init_5 (by decide) ?_
  refine z_put 0 0 (pc := 6) (ws' := [(h_o, .inr (3, [.int 0, .null, .null, .null, .null, .null]))]) rfl rfl inX3 tyX3 tyX3_ok nmX3 (by decide) flX3_9 rfl rfl rfl rfl (Nat.le_of_ble_eq_true rfl) dX3_init_6 rfl ?_
  refine z_aload_n 0 (pc := 9) dX3_init_9 rfl ?_
  refine z_bipush (pc := 10) (v := 32) dX3_init_10 (by decide) ?_
  refine z_newa 2 32 (pc := 12) wac_char rfl rfl (fun _ _ => rfl) (by decide) (by decide) (by decide) dX3_init_12 hf0 (fun hf0 h_q1 => ?_)
  refine z_wsE (ws' := [(h_o, .inr (3, [.int 0, .null, .null, .null, .null, .null])), (h_q1, .inl (cA 2, ((32 : Int32).toNatClampNeg), .inl (fun _ => 0)))]) rfl ?_
  refine z_putF 0 1 (pc := 14) (ws' := [(h_o, .inr (3, [.int 0, .ref h_q1, .null, .null, .null, .null])), (h_q1, .inl (cA 2, ((32 : Int32).toNatClampNeg), .inl (fun _ => 0)))]) hin rfl rfl inX3 tyX3 tyX3_ok nmX3 (by decide) flX3_15 rfl rfl rfl rfl rfl (Nat.le_of_ble_eq_true rfl) dX3_init_14 rfl ?_
  refine z_aload_n 0 (pc := 17) dX3_init_17 rfl ?_
  refine z_bipush (pc := 18) (v := 32) dX3_init_18 (by decide) ?_
  refine z_newa 0 32 (pc := 20) wac_int rfl rfl (fun _ _ => rfl) (by decide) (by decide) (by decide) dX3_init_20 hf0 (fun hf0 h_q2 => ?_)
  refine z_wsE (ws' := [(h_o, .inr (3, [.int 0, .ref h_q1, .null, .null, .null, .null])), (h_q1, .inl (cA 2, ((32 : Int32).toNatClampNeg), .inl (fun _ => 0))), (h_q2, .inl (cA 0, ((32 : Int32).toNatClampNeg), .inl (fun _ => 0)))]) rfl ?_
  refine z_putF 0 2 (pc := 22) (ws' := [(h_o, .inr (3, [.int 0, .ref h_q1, .ref h_q2, .null, .null, .null])), (h_q1, .inl (cA 2, ((32 : Int32).toNatClampNeg), .inl (fun _ => 0))), (h_q2, .inl (cA 0, ((32 : Int32).toNatClampNeg), .inl (fun _ => 0)))]) hin rfl rfl inX3 tyX3 tyX3_ok nmX3 (by decide) flX3_19 rfl rfl rfl rfl rfl (Nat.le_of_ble_eq_true rfl) dX3_init_22 rfl ?_
  refine z_aload_n 0 (pc := 25) dX3_init_25 rfl ?_
  refine z_bipush (pc := 26) (v := 32) dX3_init_26 (by decide) ?_
  refine z_newa 0 32 (pc := 28) wac_int rfl rfl (fun _ _ => rfl) (by decide) (by decide) (by decide) dX3_init_28 hf0 (fun hf0 h_q3 => ?_)
  refine z_wsE (ws' := [(h_o, .inr (3, [.int 0, .ref h_q1, .ref h_q2, .null, .null, .null])), (h_q1, .inl (cA 2, ((32 : Int32).toNatClampNeg), .inl (fun _ => 0))), (h_q2, .inl (cA 0, ((32 : Int32).toNatClampNeg), .inl (fun _ => 0))), (h_q3, .inl (cA 0, ((32 : Int32).toNatClampNeg), .inl (fun _ => 0)))]) rfl ?_
  refine z_putF 0 3 (pc := 30) (ws' := [(h_o, .inr (3, [.int 0, .ref h_q1, .ref h_q2, .ref h_q3, .null, .null])), (h_q1, .inl (cA 2, ((32 : Int32).toNatClampNeg), .inl (fun _ => 0))), (h_q2, .inl (cA 0, ((32 : Int32).toNatClampNeg), .inl (fun _ => 0))), (h_q3, .inl (cA 0, ((32 : Int32).toNatClampNeg), .inl (fun _ => 0)))]) hin rfl rfl inX3 tyX3 tyX3_ok nmX3 (by decide) flX3_23 rfl rfl rfl rfl rfl (Nat.le_of_ble_eq_true rfl) dX3_init_30 rfl ?_
  refine z_aload_n 0 (pc := 33) dX3_init_33 rfl ?_
  refine z_bipush (pc := 34) (v := 32) dX3_init_34 (by decide) ?_
  refine z_newa 0 32 (pc := 36) wac_int rfl rfl (fun _ _ => rfl) (by decide) (by decide) (by decide) dX3_init_36 hf0 (fun hf0 h_q4 => ?_)
  refine z_wsE (ws' := [(h_o, .inr (3, [.int 0, .ref h_q1, .ref h_q2, .ref h_q3, .null, .null])), (h_q1, .inl (cA 2, ((32 : Int32).toNatClampNeg), .inl (fun _ => 0))), (h_q2, .inl (cA 0, ((32 : Int32).toNatClampNeg), .inl (fun _ => 0))), (h_q3, .inl (cA 0, ((32 : Int32).toNatClampNeg), .inl (fun _ => 0))), (h_q4, .inl (cA 0, ((32 : Int32).toNatClampNeg), .inl (fun _ => 0)))]) rfl ?_
  refine z_putF 0 4 (pc := 38) (ws' := [(h_o, .inr (3, [.int 0, .ref h_q1, .ref h_q2, .ref h_q3, .ref h_q4, .null])), (h_q1, .inl (cA 2, ((32 : Int32).toNatClampNeg), .inl (fun _ => 0))), (h_q2, .inl (cA 0, ((32 : Int32).toNatClampNeg), .inl (fun _ => 0))), (h_q3, .inl (cA 0, ((32 : Int32).toNatClampNeg), .inl (fun _ => 0))), (h_q4, .inl (cA 0, ((32 : Int32).toNatClampNeg), .inl (fun _ => 0)))]) hin rfl rfl inX3 tyX3 tyX3_ok nmX3 (by decide) flX3_26 rfl rfl rfl rfl rfl (Nat.le_of_ble_eq_true rfl) dX3_init_38 rfl ?_
  refine z_aload_n 0 (pc := 41) dX3_init_41 rfl ?_
  refine z_bipush (pc := 42) (v := 32) dX3_init_42 (by decide) ?_
  refine z_newa 0 32 (pc := 44) wac_int rfl rfl (fun _ _ => rfl) (by decide) (by decide) (by decide) dX3_init_44 hf0 (fun hf0 h_q5 => ?_)
  refine z_wsE (ws' := [(h_o, .inr (3, [.int 0, .ref h_q1, .ref h_q2, .ref h_q3, .ref h_q4, .null])), (h_q1, .inl (cA 2, ((32 : Int32).toNatClampNeg), .inl (fun _ => 0))), (h_q2, .inl (cA 0, ((32 : Int32).toNatClampNeg), .inl (fun _ => 0))), (h_q3, .inl (cA 0, ((32 : Int32).toNatClampNeg), .inl (fun _ => 0))), (h_q4, .inl (cA 0, ((32 : Int32).toNatClampNeg), .inl (fun _ => 0))), (h_q5, .inl (cA 0, ((32 : Int32).toNatClampNeg), .inl (fun _ => 0)))]) rfl ?_
  refine z_putF 0 5 (pc := 46) (ws' := [(h_o, .inr (3, [.int 0, .ref h_q1, .ref h_q2, .ref h_q3, .ref h_q4, .ref h_q5])), (h_q1, .inl (cA 2, ((32 : Int32).toNatClampNeg), .inl (fun _ => 0))), (h_q2, .inl (cA 0, ((32 : Int32).toNatClampNeg), .inl (fun _ => 0))), (h_q3, .inl (cA 0, ((32 : Int32).toNatClampNeg), .inl (fun _ => 0))), (h_q4, .inl (cA 0, ((32 : Int32).toNatClampNeg), .inl (fun _ => 0))), (h_q5, .inl (cA 0, ((32 : Int32).toNatClampNeg), .inl (fun _ => 0)))]) hin rfl rfl inX3 tyX3 tyX3_ok nmX3 (by decide) flX3_29 rfl rfl rfl rfl rfl (Nat.le_of_ble_eq_true rfl) dX3_init_46 rfl ?_
  obtain rfl := Option.some.inj hf0
  exact z_cret (fun j => ([h_q1, h_q2, h_q3, h_q4, h_q5] : List Nat).getD j 0) hE rfl ⟨by decide, by decide⟩ dX3_init_49
