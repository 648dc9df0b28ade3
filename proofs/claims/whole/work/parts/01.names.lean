-- ===== PART A: goes FIRST, ahead of the names: the tables' words, and 'selects' of the private methods out of them =====
/-- a private method of a class that the tables say can be made, by its rows of tables_1 -/
def lw_okq (q : MethodName × Nat) : Prop := (q.1.cls ≠ "java/lang/invoke/MethodHandle" ∧ q.1.cls ≠ "java/lang/invoke/VarHandle") ∧ Cond.instantiable q.1.cls q.2 ∈ tables_1 ∧ Cond.privateMethod q.1 ∈ tables_1 ∧ Cond.instanceMethod q.1 ∈ tables_1
theorem lw_p0 : lw_okq (⟨"RouterPaths$Machine", "startAnew", "()V"⟩, 8) := ⟨⟨by decide +kernel, by decide +kernel⟩, List.mem_of_getElem? (i := 107) (by decide +kernel), List.mem_of_getElem? (i := 113) (by decide +kernel), List.mem_of_getElem? (i := 114) (by decide +kernel)⟩
theorem lw_p1 : lw_okq (⟨"RouterPaths$Reader", "takeStatement", "(LRouterPaths$Program;)Z"⟩, 4) := ⟨⟨by decide +kernel, by decide +kernel⟩, List.mem_of_getElem? (i := 88) (by decide +kernel), List.mem_of_getElem? (i := 250) (by decide +kernel), List.mem_of_getElem? (i := 251) (by decide +kernel)⟩
theorem lw_p2 : lw_okq (⟨"RouterPaths$Reader", "skipSpaces", "()V"⟩, 4) := ⟨⟨by decide +kernel, by decide +kernel⟩, List.mem_of_getElem? (i := 88) (by decide +kernel), List.mem_of_getElem? (i := 254) (by decide +kernel), List.mem_of_getElem? (i := 255) (by decide +kernel)⟩
theorem lw_p3 : lw_okq (⟨"RouterPaths$Reader", "here", "()I"⟩, 4) := ⟨⟨by decide +kernel, by decide +kernel⟩, List.mem_of_getElem? (i := 88) (by decide +kernel), List.mem_of_getElem? (i := 258) (by decide +kernel), List.mem_of_getElem? (i := 259) (by decide +kernel)⟩
theorem lw_p4 : lw_okq (⟨"RouterPaths$Reader", "takeChange", "(LRouterPaths$Program;)Z"⟩, 4) := ⟨⟨by decide +kernel, by decide +kernel⟩, List.mem_of_getElem? (i := 88) (by decide +kernel), List.mem_of_getElem? (i := 262) (by decide +kernel), List.mem_of_getElem? (i := 263) (by decide +kernel)⟩
theorem lw_p5 : lw_okq (⟨"RouterPaths$Reader", "takeDigit", "(I)I"⟩, 4) := ⟨⟨by decide +kernel, by decide +kernel⟩, List.mem_of_getElem? (i := 88) (by decide +kernel), List.mem_of_getElem? (i := 266) (by decide +kernel), List.mem_of_getElem? (i := 267) (by decide +kernel)⟩
theorem lw_p6 : lw_okq (⟨"RouterPaths$Reader", "takeEnd", "()Z"⟩, 4) := ⟨⟨by decide +kernel, by decide +kernel⟩, List.mem_of_getElem? (i := 88) (by decide +kernel), List.mem_of_getElem? (i := 270) (by decide +kernel), List.mem_of_getElem? (i := 271) (by decide +kernel)⟩
theorem lw_p7 : lw_okq (⟨"RouterPaths$Reader", "takeMove", "(LRouterPaths$Program;)Z"⟩, 4) := ⟨⟨by decide +kernel, by decide +kernel⟩, List.mem_of_getElem? (i := 88) (by decide +kernel), List.mem_of_getElem? (i := 278) (by decide +kernel), List.mem_of_getElem? (i := 279) (by decide +kernel)⟩
theorem lw_p8 : lw_okq (⟨"RouterPaths$Reader", "takeNumber", "(CI)I"⟩, 4) := ⟨⟨by decide +kernel, by decide +kernel⟩, List.mem_of_getElem? (i := 88) (by decide +kernel), List.mem_of_getElem? (i := 282) (by decide +kernel), List.mem_of_getElem? (i := 283) (by decide +kernel)⟩
theorem lw_p9 : lw_okq (⟨"RouterPaths$PieceCounter", "take", "(LRouterPaths$Grid;II)V"⟩, 6) := ⟨⟨by decide +kernel, by decide +kernel⟩, List.mem_of_getElem? (i := 149) (by decide +kernel), List.mem_of_getElem? (i := 294) (by decide +kernel), List.mem_of_getElem? (i := 295) (by decide +kernel)⟩
theorem lw_p10 : lw_okq (⟨"RouterPaths$PieceCounter", "spread", "(LRouterPaths$Grid;I)V"⟩, 6) := ⟨⟨by decide +kernel, by decide +kernel⟩, List.mem_of_getElem? (i := 149) (by decide +kernel), List.mem_of_getElem? (i := 306) (by decide +kernel), List.mem_of_getElem? (i := 307) (by decide +kernel)⟩
theorem lw_p11 : lw_okq (⟨"RouterPaths", "demandBlock", "(IIII)V"⟩, 7) := ⟨⟨by decide +kernel, by decide +kernel⟩, List.mem_of_getElem? (i := 17) (by decide +kernel), List.mem_of_getElem? (i := 330) (by decide +kernel), List.mem_of_getElem? (i := 331) (by decide +kernel)⟩
theorem lw_p12 : lw_okq (⟨"RouterPaths", "demandCell", "(II)V"⟩, 7) := ⟨⟨by decide +kernel, by decide +kernel⟩, List.mem_of_getElem? (i := 17) (by decide +kernel), List.mem_of_getElem? (i := 334) (by decide +kernel), List.mem_of_getElem? (i := 335) (by decide +kernel)⟩
theorem lw_p13 : lw_okq (⟨"java/lang/Throwable", "fillInStackTrace", "(I)Ljava/lang/Throwable;"⟩, 6) := ⟨⟨by decide +kernel, by decide +kernel⟩, List.mem_of_getElem? (i := 377) (by decide +kernel), List.mem_of_getElem? (i := 375) (by decide +kernel), List.mem_of_getElem? (i := 376) (by decide +kernel)⟩
theorem lw_p14 : lw_okq (⟨"RouterPaths$Machine", "obey", "(LRouterPaths$Program;ILRouterPaths$Grid;[LRouterPaths$Tool;)I"⟩, 8) := ⟨⟨by decide +kernel, by decide +kernel⟩, List.mem_of_getElem? (i := 107) (by decide +kernel), List.mem_of_getElem? (i := 488) (by decide +kernel), List.mem_of_getElem? (i := 489) (by decide +kernel)⟩
theorem lw_p15 : lw_okq (⟨"RouterPaths$Machine", "travel", "(IIIZLRouterPaths$Grid;LRouterPaths$Tool;)I"⟩, 8) := ⟨⟨by decide +kernel, by decide +kernel⟩, List.mem_of_getElem? (i := 107) (by decide +kernel), List.mem_of_getElem? (i := 495) (by decide +kernel), List.mem_of_getElem? (i := 496) (by decide +kernel)⟩
def lw_privs_1 : List (MethodName × Nat) := [(⟨"RouterPaths$Machine", "startAnew", "()V"⟩, 8), (⟨"RouterPaths$Reader", "takeStatement", "(LRouterPaths$Program;)Z"⟩, 4), (⟨"RouterPaths$Reader", "skipSpaces", "()V"⟩, 4), (⟨"RouterPaths$Reader", "here", "()I"⟩, 4), (⟨"RouterPaths$Reader", "takeChange", "(LRouterPaths$Program;)Z"⟩, 4), (⟨"RouterPaths$Reader", "takeDigit", "(I)I"⟩, 4), (⟨"RouterPaths$Reader", "takeEnd", "()Z"⟩, 4), (⟨"RouterPaths$Reader", "takeMove", "(LRouterPaths$Program;)Z"⟩, 4), (⟨"RouterPaths$Reader", "takeNumber", "(CI)I"⟩, 4), (⟨"RouterPaths$PieceCounter", "take", "(LRouterPaths$Grid;II)V"⟩, 6), (⟨"RouterPaths$PieceCounter", "spread", "(LRouterPaths$Grid;I)V"⟩, 6), (⟨"RouterPaths", "demandBlock", "(IIII)V"⟩, 7), (⟨"RouterPaths", "demandCell", "(II)V"⟩, 7), (⟨"java/lang/Throwable", "fillInStackTrace", "(I)Ljava/lang/Throwable;"⟩, 6), (⟨"RouterPaths$Machine", "obey", "(LRouterPaths$Program;ILRouterPaths$Grid;[LRouterPaths$Tool;)I"⟩, 8), (⟨"RouterPaths$Machine", "travel", "(IIIZLRouterPaths$Grid;LRouterPaths$Tool;)I"⟩, 8)]
theorem lw_r1 : ∀ q ∈ lw_privs_1, lw_okq q := List.forall_mem_cons.mpr ⟨lw_p0, List.forall_mem_cons.mpr ⟨lw_p1, List.forall_mem_cons.mpr ⟨lw_p2, List.forall_mem_cons.mpr ⟨lw_p3, List.forall_mem_cons.mpr ⟨lw_p4, List.forall_mem_cons.mpr ⟨lw_p5, List.forall_mem_cons.mpr ⟨lw_p6, List.forall_mem_cons.mpr ⟨lw_p7, List.forall_mem_cons.mpr ⟨lw_p8, List.forall_mem_cons.mpr ⟨lw_p9, List.forall_mem_cons.mpr ⟨lw_p10, List.forall_mem_cons.mpr ⟨lw_p11, List.forall_mem_cons.mpr ⟨lw_p12, List.forall_mem_cons.mpr ⟨lw_p13, List.forall_mem_cons.mpr ⟨lw_p14, List.forall_mem_cons.mpr ⟨lw_p15, fun _ h => absurd h List.not_mem_nil⟩⟩⟩⟩⟩⟩⟩⟩⟩⟩⟩⟩⟩⟩⟩⟩
theorem lw_p16 : lw_okq (⟨"RouterPaths$Machine", "cutHere", "(LRouterPaths$Grid;LRouterPaths$Tool;)I"⟩, 8) := ⟨⟨by decide +kernel, by decide +kernel⟩, List.mem_of_getElem? (i := 107) (by decide +kernel), List.mem_of_getElem? (i := 516) (by decide +kernel), List.mem_of_getElem? (i := 517) (by decide +kernel)⟩
theorem lw_p17 : lw_okq (⟨"RouterPaths$Machine", "passHere", "(LRouterPaths$Grid;)I"⟩, 8) := ⟨⟨by decide +kernel, by decide +kernel⟩, List.mem_of_getElem? (i := 107) (by decide +kernel), List.mem_of_getElem? (i := 528) (by decide +kernel), List.mem_of_getElem? (i := 529) (by decide +kernel)⟩
theorem lw_p18 : lw_okq (⟨"RouterPaths$Grid", "isOff", "(IZ)Z"⟩, 8) := ⟨⟨by decide +kernel, by decide +kernel⟩, List.mem_of_getElem? (i := 31) (by decide +kernel), List.mem_of_getElem? (i := 567) (by decide +kernel), List.mem_of_getElem? (i := 568) (by decide +kernel)⟩
theorem lw_p19 : lw_okq (⟨"RouterPaths$Grid", "discHasKept", "()Z"⟩, 8) := ⟨⟨by decide +kernel, by decide +kernel⟩, List.mem_of_getElem? (i := 31) (by decide +kernel), List.mem_of_getElem? (i := 587) (by decide +kernel), List.mem_of_getElem? (i := 588) (by decide +kernel)⟩
theorem lw_p20 : lw_okq (⟨"RouterPaths$Grid", "highestTargetInDisc", "()I"⟩, 8) := ⟨⟨by decide +kernel, by decide +kernel⟩, List.mem_of_getElem? (i := 31) (by decide +kernel), List.mem_of_getElem? (i := 591) (by decide +kernel), List.mem_of_getElem? (i := 592) (by decide +kernel)⟩
theorem lw_p21 : lw_okq (⟨"RouterPaths$Grid", "markReached", "(I)I"⟩, 8) := ⟨⟨by decide +kernel, by decide +kernel⟩, List.mem_of_getElem? (i := 31) (by decide +kernel), List.mem_of_getElem? (i := 595) (by decide +kernel), List.mem_of_getElem? (i := 596) (by decide +kernel)⟩
theorem lw_p22 : lw_okq (⟨"RouterPathsModel", "spanFault", "(IIIIZ)I"⟩, 23) := ⟨⟨by decide +kernel, by decide +kernel⟩, List.mem_of_getElem? (i := 599) (by decide +kernel), List.mem_of_getElem? (i := 686) (by decide +kernel), List.mem_of_getElem? (i := 687) (by decide +kernel)⟩
theorem lw_p23 : lw_okq (⟨"RouterPathsModel", "isCell", "(II)Z"⟩, 23) := ⟨⟨by decide +kernel, by decide +kernel⟩, List.mem_of_getElem? (i := 599) (by decide +kernel), List.mem_of_getElem? (i := 690) (by decide +kernel), List.mem_of_getElem? (i := 691) (by decide +kernel)⟩
theorem lw_p24 : lw_okq (⟨"RouterPathsModel", "spaces", "()V"⟩, 23) := ⟨⟨by decide +kernel, by decide +kernel⟩, List.mem_of_getElem? (i := 599) (by decide +kernel), List.mem_of_getElem? (i := 710) (by decide +kernel), List.mem_of_getElem? (i := 711) (by decide +kernel)⟩
theorem lw_p25 : lw_okq (⟨"RouterPathsModel", "now", "()I"⟩, 23) := ⟨⟨by decide +kernel, by decide +kernel⟩, List.mem_of_getElem? (i := 599) (by decide +kernel), List.mem_of_getElem? (i := 714) (by decide +kernel), List.mem_of_getElem? (i := 715) (by decide +kernel)⟩
theorem lw_p26 : lw_okq (⟨"RouterPathsModel", "statement", "(I)V"⟩, 23) := ⟨⟨by decide +kernel, by decide +kernel⟩, List.mem_of_getElem? (i := 599) (by decide +kernel), List.mem_of_getElem? (i := 718) (by decide +kernel), List.mem_of_getElem? (i := 719) (by decide +kernel)⟩
theorem lw_p27 : lw_okq (⟨"RouterPathsModel", "must", "(Z)V"⟩, 23) := ⟨⟨by decide +kernel, by decide +kernel⟩, List.mem_of_getElem? (i := 599) (by decide +kernel), List.mem_of_getElem? (i := 722) (by decide +kernel), List.mem_of_getElem? (i := 723) (by decide +kernel)⟩
theorem lw_p28 : lw_okq (⟨"RouterPathsModel", "digit", "(I)I"⟩, 23) := ⟨⟨by decide +kernel, by decide +kernel⟩, List.mem_of_getElem? (i := 599) (by decide +kernel), List.mem_of_getElem? (i := 726) (by decide +kernel), List.mem_of_getElem? (i := 727) (by decide +kernel)⟩
theorem lw_p29 : lw_okq (⟨"RouterPathsModel", "number", "(I)I"⟩, 23) := ⟨⟨by decide +kernel, by decide +kernel⟩, List.mem_of_getElem? (i := 599) (by decide +kernel), List.mem_of_getElem? (i := 730) (by decide +kernel), List.mem_of_getElem? (i := 731) (by decide +kernel)⟩
theorem lw_p30 : lw_okq (⟨"RouterPathsModel", "go", "(I)I"⟩, 23) := ⟨⟨by decide +kernel, by decide +kernel⟩, List.mem_of_getElem? (i := 599) (by decide +kernel), List.mem_of_getElem? (i := 738) (by decide +kernel), List.mem_of_getElem? (i := 739) (by decide +kernel)⟩
theorem lw_p31 : lw_okq (⟨"RouterPathsModel", "step", "(IIII)I"⟩, 23) := ⟨⟨by decide +kernel, by decide +kernel⟩, List.mem_of_getElem? (i := 599) (by decide +kernel), List.mem_of_getElem? (i := 745) (by decide +kernel), List.mem_of_getElem? (i := 746) (by decide +kernel)⟩
def lw_privs_2 : List (MethodName × Nat) := [(⟨"RouterPaths$Machine", "cutHere", "(LRouterPaths$Grid;LRouterPaths$Tool;)I"⟩, 8), (⟨"RouterPaths$Machine", "passHere", "(LRouterPaths$Grid;)I"⟩, 8), (⟨"RouterPaths$Grid", "isOff", "(IZ)Z"⟩, 8), (⟨"RouterPaths$Grid", "discHasKept", "()Z"⟩, 8), (⟨"RouterPaths$Grid", "highestTargetInDisc", "()I"⟩, 8), (⟨"RouterPaths$Grid", "markReached", "(I)I"⟩, 8), (⟨"RouterPathsModel", "spanFault", "(IIIIZ)I"⟩, 23), (⟨"RouterPathsModel", "isCell", "(II)Z"⟩, 23), (⟨"RouterPathsModel", "spaces", "()V"⟩, 23), (⟨"RouterPathsModel", "now", "()I"⟩, 23), (⟨"RouterPathsModel", "statement", "(I)V"⟩, 23), (⟨"RouterPathsModel", "must", "(Z)V"⟩, 23), (⟨"RouterPathsModel", "digit", "(I)I"⟩, 23), (⟨"RouterPathsModel", "number", "(I)I"⟩, 23), (⟨"RouterPathsModel", "go", "(I)I"⟩, 23), (⟨"RouterPathsModel", "step", "(IIII)I"⟩, 23)]
theorem lw_r2 : ∀ q ∈ lw_privs_2, lw_okq q := List.forall_mem_cons.mpr ⟨lw_p16, List.forall_mem_cons.mpr ⟨lw_p17, List.forall_mem_cons.mpr ⟨lw_p18, List.forall_mem_cons.mpr ⟨lw_p19, List.forall_mem_cons.mpr ⟨lw_p20, List.forall_mem_cons.mpr ⟨lw_p21, List.forall_mem_cons.mpr ⟨lw_p22, List.forall_mem_cons.mpr ⟨lw_p23, List.forall_mem_cons.mpr ⟨lw_p24, List.forall_mem_cons.mpr ⟨lw_p25, List.forall_mem_cons.mpr ⟨lw_p26, List.forall_mem_cons.mpr ⟨lw_p27, List.forall_mem_cons.mpr ⟨lw_p28, List.forall_mem_cons.mpr ⟨lw_p29, List.forall_mem_cons.mpr ⟨lw_p30, List.forall_mem_cons.mpr ⟨lw_p31, fun _ h => absurd h List.not_mem_nil⟩⟩⟩⟩⟩⟩⟩⟩⟩⟩⟩⟩⟩⟩⟩⟩
theorem lw_p32 : lw_okq (⟨"RouterPathsModel", "isInDisc", "(IIII)Z"⟩, 23) := ⟨⟨by decide +kernel, by decide +kernel⟩, List.mem_of_getElem? (i := 599) (by decide +kernel), List.mem_of_getElem? (i := 749) (by decide +kernel), List.mem_of_getElem? (i := 750) (by decide +kernel)⟩
theorem lw_p33 : lw_okq (⟨"RouterPathsModel", "spares", "(IIII)Z"⟩, 23) := ⟨⟨by decide +kernel, by decide +kernel⟩, List.mem_of_getElem? (i := 599) (by decide +kernel), List.mem_of_getElem? (i := 772) (by decide +kernel), List.mem_of_getElem? (i := 773) (by decide +kernel)⟩
theorem lw_p34 : lw_okq (⟨"RouterPathsModel", "flood", "(I)V"⟩, 23) := ⟨⟨by decide +kernel, by decide +kernel⟩, List.mem_of_getElem? (i := 599) (by decide +kernel), List.mem_of_getElem? (i := 780) (by decide +kernel), List.mem_of_getElem? (i := 781) (by decide +kernel)⟩
def lw_privs_3 : List (MethodName × Nat) := [(⟨"RouterPathsModel", "isInDisc", "(IIII)Z"⟩, 23), (⟨"RouterPathsModel", "spares", "(IIII)Z"⟩, 23), (⟨"RouterPathsModel", "flood", "(I)V"⟩, 23)]
theorem lw_r3 : ∀ q ∈ lw_privs_3, lw_okq q := List.forall_mem_cons.mpr ⟨lw_p32, List.forall_mem_cons.mpr ⟨lw_p33, List.forall_mem_cons.mpr ⟨lw_p34, fun _ h => absurd h List.not_mem_nil⟩⟩⟩
def lw_privs : List (MethodName × Nat) := lw_privs_1 ++ (lw_privs_2 ++ (lw_privs_3))
def lw_tbl : List Cond := k2_sels lw_privs ++ tables_1
theorem lw_privs_ok : ∀ q ∈ lw_privs, lw_okq q := by
  show ∀ q ∈ lw_privs_1 ++ (lw_privs_2 ++ (lw_privs_3)), lw_okq q
  exact List.forall_mem_append.mpr ⟨lw_r1, List.forall_mem_append.mpr ⟨lw_r2, lw_r3⟩⟩

def RX0 : String := "RouterPaths$Grid"
def TX0 : u_T := fun k => match k with
  | 0 => ("RouterPaths$Grid", "side", "I", true)
  | 1 => ("RouterPaths$Grid", "cells", "I", true)
  | 2 => ("RouterPaths$Grid", "heights", "[I", true)
  | 3 => ("RouterPaths$Grid", "targets", "[I", true)
  | 4 => ("RouterPaths$Grid", "kept", "[Z", true)
  | 5 => ("RouterPaths$Grid", "marks", "[Z", true)
  | 6 => ("RouterPaths$Grid", "disc", "[I", true)
  | _ => ("RouterPaths$Grid", "discSize", "I", false)
def tyX0 : Nat → FieldType := fun k => match k with
  | 0 => .int
  | 1 => .int
  | 2 => .array .int
  | 3 => .array .int
  | 4 => .array .boolean
  | 5 => .array .boolean
  | 6 => .array .int
  | _ => .int
theorem nmX0 : ∀ a, a < 8 → ∀ b, b < 8 → a ≠ b → (TX0 a).2.1 ≠ (TX0 b).2.1 := by decide +kernel
theorem tyX0_ok : ∀ k, k < 8 → parseFieldDescriptor (TX0 k).2.2.1 = some (tyX0 k) := by decide +kernel
def RX1 : String := "RouterPaths$Machine"
def TX1 : u_T := fun k => match k with
  | 0 => ("RouterPaths$Machine", "hasRun", "Z", false)
  | 1 => ("RouterPaths$Machine", "time", "I", false)
  | 2 => ("RouterPaths$Machine", "ended", "I", false)
  | 3 => ("RouterPaths$Machine", "x", "I", false)
  | 4 => ("RouterPaths$Machine", "y", "I", false)
  | 5 => ("RouterPaths$Machine", "z", "I", false)
  | 6 => ("RouterPaths$Machine", "cut", "I", false)
  | _ => ("RouterPaths$Machine", "held", "I", false)
def tyX1 : Nat → FieldType := fun k => match k with
  | 0 => .boolean
  | 1 => .int
  | 2 => .int
  | 3 => .int
  | 4 => .int
  | 5 => .int
  | 6 => .int
  | _ => .int
theorem nmX1 : ∀ a, a < 8 → ∀ b, b < 8 → a ≠ b → (TX1 a).2.1 ≠ (TX1 b).2.1 := by decide +kernel
theorem tyX1_ok : ∀ k, k < 8 → parseFieldDescriptor (TX1 k).2.2.1 = some (tyX1 k) := by decide +kernel
def RX2 : String := "RouterPaths$PieceCounter"
def TX2 : u_T := fun k => match k with
  | 0 => ("RouterPaths$PieceCounter", "side", "I", true)
  | 1 => ("RouterPaths$PieceCounter", "cells", "I", true)
  | 2 => ("RouterPaths$PieceCounter", "taken", "[Z", true)
  | 3 => ("RouterPaths$PieceCounter", "queueX", "[I", true)
  | 4 => ("RouterPaths$PieceCounter", "queueY", "[I", true)
  | _ => ("RouterPaths$PieceCounter", "queued", "I", false)
def tyX2 : Nat → FieldType := fun k => match k with
  | 0 => .int
  | 1 => .int
  | 2 => .array .boolean
  | 3 => .array .int
  | 4 => .array .int
  | _ => .int
theorem nmX2 : ∀ a, a < 6 → ∀ b, b < 6 → a ≠ b → (TX2 a).2.1 ≠ (TX2 b).2.1 := by decide +kernel
theorem tyX2_ok : ∀ k, k < 6 → parseFieldDescriptor (TX2 k).2.2.1 = some (tyX2 k) := by decide +kernel
def RX3 : String := "RouterPaths$Program"
def TX3 : u_T := fun k => match k with
  | 0 => ("RouterPaths$Program", "count", "I", false)
  | 1 => ("RouterPaths$Program", "letters", "[C", true)
  | 2 => ("RouterPaths$Program", "digits", "[I", true)
  | 3 => ("RouterPaths$Program", "xs", "[I", true)
  | 4 => ("RouterPaths$Program", "ys", "[I", true)
  | _ => ("RouterPaths$Program", "zs", "[I", true)
def tyX3 : Nat → FieldType := fun k => match k with
  | 0 => .int
  | 1 => .array .char
  | 2 => .array .int
  | 3 => .array .int
  | 4 => .array .int
  | _ => .array .int
theorem nmX3 : ∀ a, a < 6 → ∀ b, b < 6 → a ≠ b → (TX3 a).2.1 ≠ (TX3 b).2.1 := by decide +kernel
theorem tyX3_ok : ∀ k, k < 6 → parseFieldDescriptor (TX3 k).2.2.1 = some (tyX3 k) := by decide +kernel
def RX4 : String := "RouterPaths$Reader"
def TX4 : u_T := fun k => match k with
  | 0 => ("RouterPaths$Reader", "side", "I", true)
  | 1 => ("RouterPaths$Reader", "text", "[I", true)
  | 2 => ("RouterPaths$Reader", "length", "I", false)
  | _ => ("RouterPaths$Reader", "place", "I", false)
def tyX4 : Nat → FieldType := fun k => match k with
  | 0 => .int
  | 1 => .array .int
  | 2 => .int
  | _ => .int
theorem nmX4 : ∀ a, a < 4 → ∀ b, b < 4 → a ≠ b → (TX4 a).2.1 ≠ (TX4 b).2.1 := by decide +kernel
theorem tyX4_ok : ∀ k, k < 4 → parseFieldDescriptor (TX4 k).2.2.1 = some (tyX4 k) := by decide +kernel
def RX5 : String := "RouterPaths$Tool"
def TX5 : u_T := fun k => match k with
  | 0 => ("RouterPaths$Tool", "radius", "I", false)
  | 1 => ("RouterPaths$Tool", "feed", "I", false)
  | _ => ("RouterPaths$Tool", "halfWidths", "[I", true)
def tyX5 : Nat → FieldType := fun k => match k with
  | 0 => .int
  | 1 => .int
  | _ => .array .int
theorem nmX5 : ∀ a, a < 3 → ∀ b, b < 3 → a ≠ b → (TX5 a).2.1 ≠ (TX5 b).2.1 := by decide +kernel
theorem tyX5_ok : ∀ k, k < 3 → parseFieldDescriptor (TX5 k).2.2.1 = some (tyX5 k) := by decide +kernel
def RX6 : String := "RouterPaths"
def TX6 : u_T := fun k => match k with
  | 0 => ("RouterPaths", "grid", "LRouterPaths$Grid;", true)
  | 1 => ("RouterPaths", "tools", "[LRouterPaths$Tool;", true)
  | 2 => ("RouterPaths", "reader", "LRouterPaths$Reader;", true)
  | 3 => ("RouterPaths", "machine", "LRouterPaths$Machine;", true)
  | 4 => ("RouterPaths", "pieceCounter", "LRouterPaths$PieceCounter;", true)
  | 5 => ("RouterPaths", "program", "LRouterPaths$Program;", false)
  | _ => ("RouterPaths", "draft", "LRouterPaths$Program;", false)
def tyX6 : Nat → FieldType := fun k => match k with
  | 0 => .object "RouterPaths$Grid"
  | 1 => .array (.object "RouterPaths$Tool")
  | 2 => .object "RouterPaths$Reader"
  | 3 => .object "RouterPaths$Machine"
  | 4 => .object "RouterPaths$PieceCounter"
  | 5 => .object "RouterPaths$Program"
  | _ => .object "RouterPaths$Program"
theorem nmX6 : ∀ a, a < 7 → ∀ b, b < 7 → a ≠ b → (TX6 a).2.1 ≠ (TX6 b).2.1 := by decide +kernel
theorem tyX6_ok : ∀ k, k < 7 → parseFieldDescriptor (TX6 k).2.2.1 = some (tyX6 k) := by decide +kernel
def RX7 : String := "RouterPathsModel"
def TX7 : u_T := fun k => match k with
  | 0 => ("RouterPathsModel", "thrown", "I", false)
  | 1 => ("RouterPathsModel", "side", "I", false)
  | 2 => ("RouterPathsModel", "heights", "[I", true)
  | 3 => ("RouterPathsModel", "targets", "[I", true)
  | 4 => ("RouterPathsModel", "kept", "[Z", true)
  | 5 => ("RouterPathsModel", "radius", "[I", true)
  | 6 => ("RouterPathsModel", "feeds", "[I", true)
  | 7 => ("RouterPathsModel", "text", "[I", true)
  | 8 => ("RouterPathsModel", "size", "I", false)
  | 9 => ("RouterPathsModel", "at", "I", false)
  | 10 => ("RouterPathsModel", "fault", "I", false)
  | 11 => ("RouterPathsModel", "program", "[I", true)
  | 12 => ("RouterPathsModel", "draft", "[I", true)
  | 13 => ("RouterPathsModel", "statements", "I", false)
  | 14 => ("RouterPathsModel", "hasProgram", "Z", false)
  | 15 => ("RouterPathsModel", "hasRun", "Z", false)
  | 16 => ("RouterPathsModel", "where", "[I", true)
  | 17 => ("RouterPathsModel", "tool", "I", false)
  | 18 => ("RouterPathsModel", "about", "[I", true)
  | 19 => ("RouterPathsModel", "stack", "[I", true)
  | 20 => ("RouterPathsModel", "seen", "[Z", true)
  | 21 => ("RouterPathsModel", "begin", "[I", true)
  | _ => ("RouterPathsModel", "gap", "[I", true)
def tyX7 : Nat → FieldType := fun k => match k with
  | 0 => .int
  | 1 => .int
  | 2 => .array .int
  | 3 => .array .int
  | 4 => .array .boolean
  | 5 => .array .int
  | 6 => .array .int
  | 7 => .array .int
  | 8 => .int
  | 9 => .int
  | 10 => .int
  | 11 => .array .int
  | 12 => .array .int
  | 13 => .int
  | 14 => .boolean
  | 15 => .boolean
  | 16 => .array .int
  | 17 => .int
  | 18 => .array .int
  | 19 => .array .int
  | 20 => .array .boolean
  | 21 => .array .int
  | _ => .array .int
theorem nmX7 : ∀ a, a < 23 → ∀ b, b < 23 → a ≠ b → (TX7 a).2.1 ≠ (TX7 b).2.1 := by decide +kernel
theorem tyX7_ok : ∀ k, k < 23 → parseFieldDescriptor (TX7 k).2.2.1 = some (tyX7 k) := by decide +kernel
def RL : String := "RouterPathsLaw"
def RJm : String := "java/lang/Math"
abbrev cX6_init : ByteArray := prog_1_method_1_code
def yX6_init : MethodName := ⟨RX6, "<init>", "(I)V"⟩
abbrev cX6_target : ByteArray := prog_1_method_2_code
def yX6_target : MethodName := ⟨RX6, "target", "(IIIII)V"⟩
abbrev cX6_keep : ByteArray := prog_1_method_3_code
def yX6_keep : MethodName := ⟨RX6, "keep", "(IIIIZ)V"⟩
abbrev cX6_tool : ByteArray := prog_1_method_4_code
def yX6_tool : MethodName := ⟨RX6, "tool", "(III)V"⟩
abbrev cX6_unit : ByteArray := prog_1_method_5_code
def yX6_unit : MethodName := ⟨RX6, "unit", "(I)Z"⟩
abbrev cX6_read : ByteArray := prog_1_method_6_code
def yX6_read : MethodName := ⟨RX6, "read", "()I"⟩
abbrev cX6_run : ByteArray := prog_1_method_7_code
def yX6_run : MethodName := ⟨RX6, "run", "()I"⟩
abbrev cX6_about : ByteArray := prog_1_method_8_code
def yX6_about : MethodName := ⟨RX6, "about", "(I)I"⟩
abbrev cX6_cell : ByteArray := prog_1_method_9_code
def yX6_cell : MethodName := ⟨RX6, "cell", "(III)I"⟩
abbrev cX6_check : ByteArray := prog_1_method_10_code
def yX6_check : MethodName := ⟨RX6, "check", "(I)I"⟩
abbrev cX6_reached : ByteArray := prog_1_method_11_code
def yX6_reached : MethodName := ⟨RX6, "reached", "(I)I"⟩
abbrev cX6_pieces : ByteArray := prog_1_method_12_code
def yX6_pieces : MethodName := ⟨RX6, "pieces", "()I"⟩
abbrev cX6_blank : ByteArray := prog_1_method_13_code
def yX6_blank : MethodName := ⟨RX6, "blank", "()V"⟩
abbrev cX6_demandBlock : ByteArray := prog_1_method_14_code
def yX6_demandBlock : MethodName := ⟨RX6, "demandBlock", "(IIII)V"⟩
abbrev cX6_demandCell : ByteArray := prog_1_method_15_code
def yX6_demandCell : MethodName := ⟨RX6, "demandCell", "(II)V"⟩
abbrev cX6_demandTool : ByteArray := prog_1_method_16_code
def yX6_demandTool : MethodName := ⟨RX6, "demandTool", "(I)V"⟩
abbrev cX6_demandWhat : ByteArray := prog_1_method_17_code
def yX6_demandWhat : MethodName := ⟨RX6, "demandWhat", "(II)V"⟩
abbrev cX7_init : ByteArray := prog_9_method_1_code
def yX7_init : MethodName := ⟨RX7, "<init>", "(I)V"⟩
abbrev cX7_thrown : ByteArray := prog_9_method_2_code
def yX7_thrown : MethodName := ⟨RX7, "thrown", "()I"⟩
abbrev cX7_isIn : ByteArray := prog_9_method_3_code
def yX7_isIn : MethodName := ⟨RX7, "isIn", "(III)Z"⟩
abbrev cX7_isCell : ByteArray := prog_9_method_4_code
def yX7_isCell : MethodName := ⟨RX7, "isCell", "(II)Z"⟩
abbrev cX7_spanFault : ByteArray := prog_9_method_5_code
def yX7_spanFault : MethodName := ⟨RX7, "spanFault", "(IIIIZ)I"⟩
abbrev cX7_target : ByteArray := prog_9_method_6_code
def yX7_target : MethodName := ⟨RX7, "target", "(IIIII)V"⟩
abbrev cX7_keep : ByteArray := prog_9_method_7_code
def yX7_keep : MethodName := ⟨RX7, "keep", "(IIIIZ)V"⟩
abbrev cX7_tool : ByteArray := prog_9_method_8_code
def yX7_tool : MethodName := ⟨RX7, "tool", "(III)V"⟩
abbrev cX7_unit : ByteArray := prog_9_method_9_code
def yX7_unit : MethodName := ⟨RX7, "unit", "(I)Z"⟩
abbrev cX7_now : ByteArray := prog_9_method_10_code
def yX7_now : MethodName := ⟨RX7, "now", "()I"⟩
abbrev cX7_must : ByteArray := prog_9_method_11_code
def yX7_must : MethodName := ⟨RX7, "must", "(Z)V"⟩
abbrev cX7_spaces : ByteArray := prog_9_method_12_code
def yX7_spaces : MethodName := ⟨RX7, "spaces", "()V"⟩
abbrev cX7_digit : ByteArray := prog_9_method_13_code
def yX7_digit : MethodName := ⟨RX7, "digit", "(I)I"⟩
abbrev cX7_number : ByteArray := prog_9_method_14_code
def yX7_number : MethodName := ⟨RX7, "number", "(I)I"⟩
abbrev cX7_statement : ByteArray := prog_9_method_15_code
def yX7_statement : MethodName := ⟨RX7, "statement", "(I)V"⟩
abbrev cX7_read : ByteArray := prog_9_method_16_code
def yX7_read : MethodName := ⟨RX7, "read", "()I"⟩
abbrev cX7_isNear : ByteArray := prog_9_method_17_code
def yX7_isNear : MethodName := ⟨RX7, "isNear", "(III)Z"⟩
abbrev cX7_isInDisc : ByteArray := prog_9_method_18_code
def yX7_isInDisc : MethodName := ⟨RX7, "isInDisc", "(IIII)Z"⟩
abbrev cX7_floor : ByteArray := prog_9_method_19_code
def yX7_floor : MethodName := ⟨RX7, "floor", "(II)I"⟩
abbrev cX7_step : ByteArray := prog_9_method_20_code
def yX7_step : MethodName := ⟨RX7, "step", "(IIII)I"⟩
abbrev cX7_go : ByteArray := prog_9_method_21_code
def yX7_go : MethodName := ⟨RX7, "go", "(I)I"⟩
abbrev cX7_run : ByteArray := prog_9_method_22_code
def yX7_run : MethodName := ⟨RX7, "run", "()I"⟩
abbrev cX7_about : ByteArray := prog_9_method_23_code
def yX7_about : MethodName := ⟨RX7, "about", "(I)I"⟩
abbrev cX7_cell : ByteArray := prog_9_method_24_code
def yX7_cell : MethodName := ⟨RX7, "cell", "(III)I"⟩
abbrev cX7_check : ByteArray := prog_9_method_25_code
def yX7_check : MethodName := ⟨RX7, "check", "(I)I"⟩
abbrev cX7_spares : ByteArray := prog_9_method_26_code
def yX7_spares : MethodName := ⟨RX7, "spares", "(IIII)Z"⟩
abbrev cX7_reached : ByteArray := prog_9_method_27_code
def yX7_reached : MethodName := ⟨RX7, "reached", "(I)I"⟩
abbrev cX7_pieces : ByteArray := prog_9_method_28_code
def yX7_pieces : MethodName := ⟨RX7, "pieces", "()I"⟩
abbrev cX7_flood : ByteArray := prog_9_method_29_code
def yX7_flood : MethodName := ⟨RX7, "flood", "(I)V"⟩
abbrev cX7_blank : ByteArray := prog_9_method_30_code
def yX7_blank : MethodName := ⟨RX7, "blank", "()V"⟩
abbrev cX0_init : ByteArray := prog_2_method_1_code
def yX0_init : MethodName := ⟨RX0, "<init>", "(I)V"⟩
abbrev cX0_holds : ByteArray := prog_2_method_2_code
def yX0_holds : MethodName := ⟨RX0, "holds", "(II)Z"⟩
abbrev cX0_placeOf : ByteArray := prog_2_method_3_code
def yX0_placeOf : MethodName := ⟨RX0, "placeOf", "(II)I"⟩
abbrev cX0_aimBlock : ByteArray := prog_2_method_4_code
def yX0_aimBlock : MethodName := ⟨RX0, "aimBlock", "(IIIII)V"⟩
abbrev cX0_guardBlock : ByteArray := prog_2_method_5_code
def yX0_guardBlock : MethodName := ⟨RX0, "guardBlock", "(IIIIZ)V"⟩
abbrev cX0_fillUp : ByteArray := prog_2_method_6_code
def yX0_fillUp : MethodName := ⟨RX0, "fillUp", "()V"⟩
abbrev cX0_isOff : ByteArray := prog_2_method_7_code
def yX0_isOff : MethodName := ⟨RX0, "isOff", "(IZ)Z"⟩
abbrev cX0_countOff : ByteArray := prog_2_method_8_code
def yX0_countOff : MethodName := ⟨RX0, "countOff", "(Z)I"⟩
abbrev cX0_firstOff : ByteArray := prog_2_method_9_code
def yX0_firstOff : MethodName := ⟨RX0, "firstOff", "(Z)I"⟩
abbrev cX0_layDisc : ByteArray := prog_2_method_10_code
def yX0_layDisc : MethodName := ⟨RX0, "layDisc", "(LRouterPaths$Tool;II)V"⟩
abbrev cX0_discRisesAbove : ByteArray := prog_2_method_11_code
def yX0_discRisesAbove : MethodName := ⟨RX0, "discRisesAbove", "(I)Z"⟩
abbrev cX0_discHasKeptAbove : ByteArray := prog_2_method_12_code
def yX0_discHasKeptAbove : MethodName := ⟨RX0, "discHasKeptAbove", "(I)Z"⟩
abbrev cX0_lowerDisc : ByteArray := prog_2_method_13_code
def yX0_lowerDisc : MethodName := ⟨RX0, "lowerDisc", "(I)I"⟩
abbrev cX0_countReached : ByteArray := prog_2_method_14_code
def yX0_countReached : MethodName := ⟨RX0, "countReached", "(LRouterPaths$Tool;)I"⟩
abbrev cX0_discHasKept : ByteArray := prog_2_method_15_code
def yX0_discHasKept : MethodName := ⟨RX0, "discHasKept", "()Z"⟩
abbrev cX0_highestTargetInDisc : ByteArray := prog_2_method_16_code
def yX0_highestTargetInDisc : MethodName := ⟨RX0, "highestTargetInDisc", "()I"⟩
abbrev cX0_markReached : ByteArray := prog_2_method_17_code
def yX0_markReached : MethodName := ⟨RX0, "markReached", "(I)I"⟩
abbrev cX1_init : ByteArray := prog_3_method_1_code
def yX1_init : MethodName := ⟨RX1, "<init>", "()V"⟩
abbrev cX1_startAnew : ByteArray := prog_3_method_2_code
def yX1_startAnew : MethodName := ⟨RX1, "startAnew", "()V"⟩
abbrev cX1_follow : ByteArray := prog_3_method_3_code
def yX1_follow : MethodName := ⟨RX1, "follow", "(LRouterPaths$Program;LRouterPaths$Grid;[LRouterPaths$Tool;)I"⟩
abbrev cX1_obey : ByteArray := prog_3_method_4_code
def yX1_obey : MethodName := ⟨RX1, "obey", "(LRouterPaths$Program;ILRouterPaths$Grid;[LRouterPaths$Tool;)I"⟩
abbrev cX1_difference : ByteArray := prog_3_method_5_code
def yX1_difference : MethodName := ⟨RX1, "difference", "(II)I"⟩
abbrev cX1_travel : ByteArray := prog_3_method_6_code
def yX1_travel : MethodName := ⟨RX1, "travel", "(IIIZLRouterPaths$Grid;LRouterPaths$Tool;)I"⟩
abbrev cX1_along : ByteArray := prog_3_method_7_code
def yX1_along : MethodName := ⟨RX1, "along", "(IIII)I"⟩
abbrev cX1_cutHere : ByteArray := prog_3_method_8_code
def yX1_cutHere : MethodName := ⟨RX1, "cutHere", "(LRouterPaths$Grid;LRouterPaths$Tool;)I"⟩
abbrev cX1_passHere : ByteArray := prog_3_method_9_code
def yX1_passHere : MethodName := ⟨RX1, "passHere", "(LRouterPaths$Grid;)I"⟩
abbrev cX2_init : ByteArray := prog_4_method_1_code
def yX2_init : MethodName := ⟨RX2, "<init>", "(I)V"⟩
abbrev cX2_count : ByteArray := prog_4_method_2_code
def yX2_count : MethodName := ⟨RX2, "count", "(LRouterPaths$Grid;)I"⟩
abbrev cX2_spread : ByteArray := prog_4_method_3_code
def yX2_spread : MethodName := ⟨RX2, "spread", "(LRouterPaths$Grid;I)V"⟩
abbrev cX2_take : ByteArray := prog_4_method_4_code
def yX2_take : MethodName := ⟨RX2, "take", "(LRouterPaths$Grid;II)V"⟩
abbrev cX3_init : ByteArray := prog_5_method_1_code
def yX3_init : MethodName := ⟨RX3, "<init>", "()V"⟩
abbrev cX3_clear : ByteArray := prog_5_method_2_code
def yX3_clear : MethodName := ⟨RX3, "clear", "()V"⟩
abbrev cX3_add : ByteArray := prog_5_method_3_code
def yX3_add : MethodName := ⟨RX3, "add", "(CIIII)V"⟩
abbrev cX4_init : ByteArray := prog_6_method_1_code
def yX4_init : MethodName := ⟨RX4, "<init>", "(I)V"⟩
abbrev cX4_append : ByteArray := prog_6_method_2_code
def yX4_append : MethodName := ⟨RX4, "append", "(I)Z"⟩
abbrev cX4_parse : ByteArray := prog_6_method_3_code
def yX4_parse : MethodName := ⟨RX4, "parse", "(LRouterPaths$Program;)I"⟩
abbrev cX4_takeStatement : ByteArray := prog_6_method_4_code
def yX4_takeStatement : MethodName := ⟨RX4, "takeStatement", "(LRouterPaths$Program;)Z"⟩
abbrev cX4_takeChange : ByteArray := prog_6_method_5_code
def yX4_takeChange : MethodName := ⟨RX4, "takeChange", "(LRouterPaths$Program;)Z"⟩
abbrev cX4_takeMove : ByteArray := prog_6_method_6_code
def yX4_takeMove : MethodName := ⟨RX4, "takeMove", "(LRouterPaths$Program;)Z"⟩
abbrev cX4_takeDigit : ByteArray := prog_6_method_7_code
def yX4_takeDigit : MethodName := ⟨RX4, "takeDigit", "(I)I"⟩
abbrev cX4_takeNumber : ByteArray := prog_6_method_8_code
def yX4_takeNumber : MethodName := ⟨RX4, "takeNumber", "(CI)I"⟩
abbrev cX4_takeEnd : ByteArray := prog_6_method_9_code
def yX4_takeEnd : MethodName := ⟨RX4, "takeEnd", "()Z"⟩
abbrev cX4_skipSpaces : ByteArray := prog_6_method_10_code
def yX4_skipSpaces : MethodName := ⟨RX4, "skipSpaces", "()V"⟩
abbrev cX4_here : ByteArray := prog_6_method_11_code
def yX4_here : MethodName := ⟨RX4, "here", "()I"⟩
abbrev cX5_init : ByteArray := prog_7_method_1_code
def yX5_init : MethodName := ⟨RX5, "<init>", "()V"⟩
abbrev cX5_become : ByteArray := prog_7_method_2_code
def yX5_become : MethodName := ⟨RX5, "become", "(II)V"⟩
abbrev cX5_halfWidthAt : ByteArray := prog_7_method_3_code
def yX5_halfWidthAt : MethodName := ⟨RX5, "halfWidthAt", "(II)I"⟩
abbrev cL_cell1 : ByteArray := method_2_code
def yL_cell1 : MethodName := ⟨RL, "cell", "([II)I"⟩
abbrev cL_target : ByteArray := method_3_code
def yL_target : MethodName := ⟨RL, "target", "(LRouterPaths;IIIII)I"⟩
abbrev cL_keep : ByteArray := method_4_code
def yL_keep : MethodName := ⟨RL, "keep", "(LRouterPaths;IIIIZ)I"⟩
abbrev cL_tool : ByteArray := method_5_code
def yL_tool : MethodName := ⟨RL, "tool", "(LRouterPaths;III)I"⟩
abbrev cL_run : ByteArray := method_6_code
def yL_run : MethodName := ⟨RL, "run", "(LRouterPaths;[J)I"⟩
abbrev cL_about : ByteArray := method_7_code
def yL_about : MethodName := ⟨RL, "about", "(LRouterPaths;I[J)I"⟩
abbrev cL_cell2 : ByteArray := method_8_code
def yL_cell2 : MethodName := ⟨RL, "cell", "(LRouterPaths;III[J)I"⟩
abbrev cL_check : ByteArray := method_9_code
def yL_check : MethodName := ⟨RL, "check", "(LRouterPaths;I[J)I"⟩
abbrev cL_reached : ByteArray := method_10_code
def yL_reached : MethodName := ⟨RL, "reached", "(LRouterPaths;I[J)I"⟩
abbrev cJm_abs : ByteArray := prog_14_method_59_code
def yJm_abs : MethodName := ⟨RJm, "abs", "(I)I"⟩
abbrev cJm_floorDiv : ByteArray := prog_14_method_47_code
def yJm_floorDiv : MethodName := ⟨RJm, "floorDiv", "(II)I"⟩
abbrev cJm_max : ByteArray := prog_14_method_65_code
def yJm_max : MethodName := ⟨RJm, "max", "(II)I"⟩
abbrev cJm_min : ByteArray := prog_14_method_69_code
def yJm_min : MethodName := ⟨RJm, "min", "(II)I"⟩
abbrev vwCl : List vw_C := [(RX0, TX0, 8), (RX1, TX1, 8), (RX2, TX2, 6), (RX3, TX3, 6), (RX4, TX4, 4), (RX5, TX5, 3), (RX6, TX6, 7), (RX7, TX7, 23)]
def tblG : List Cond := lw_tbl.filter goodWord
abbrev tys (cA : Nat → ClassId) : List (ClassId × FieldType) := [(cA 0, .int), (cA 1, .boolean), (cA 2, .char), (cA 3, .long), (cA 4, .object "RouterPaths$Tool")]
theorem tblG_good : ∀ w ∈ tblG, (w.onTables && w.keeps) = true ∨ ∃ ty, w = .arrayClass ty := fun w h => good_of_word (List.mem_filter.mp h).2
theorem inX0 : ∀ w ∈ u_ws RX0 TX0 8, w ∈ tblG := fun w h => List.mem_filter.mpr ⟨(by decide +kernel : ∀ w ∈ u_ws RX0 TX0 8, w ∈ lw_tbl) w h, (by decide +kernel : ∀ w ∈ u_ws RX0 TX0 8, goodWord w = true) w h⟩
theorem inX1 : ∀ w ∈ u_ws RX1 TX1 8, w ∈ tblG := fun w h => List.mem_filter.mpr ⟨(by decide +kernel : ∀ w ∈ u_ws RX1 TX1 8, w ∈ lw_tbl) w h, (by decide +kernel : ∀ w ∈ u_ws RX1 TX1 8, goodWord w = true) w h⟩
theorem inX2 : ∀ w ∈ u_ws RX2 TX2 6, w ∈ tblG := fun w h => List.mem_filter.mpr ⟨(by decide +kernel : ∀ w ∈ u_ws RX2 TX2 6, w ∈ lw_tbl) w h, (by decide +kernel : ∀ w ∈ u_ws RX2 TX2 6, goodWord w = true) w h⟩
theorem inX3 : ∀ w ∈ u_ws RX3 TX3 6, w ∈ tblG := fun w h => List.mem_filter.mpr ⟨(by decide +kernel : ∀ w ∈ u_ws RX3 TX3 6, w ∈ lw_tbl) w h, (by decide +kernel : ∀ w ∈ u_ws RX3 TX3 6, goodWord w = true) w h⟩
theorem inX4 : ∀ w ∈ u_ws RX4 TX4 4, w ∈ tblG := fun w h => List.mem_filter.mpr ⟨(by decide +kernel : ∀ w ∈ u_ws RX4 TX4 4, w ∈ lw_tbl) w h, (by decide +kernel : ∀ w ∈ u_ws RX4 TX4 4, goodWord w = true) w h⟩
theorem inX5 : ∀ w ∈ u_ws RX5 TX5 3, w ∈ tblG := fun w h => List.mem_filter.mpr ⟨(by decide +kernel : ∀ w ∈ u_ws RX5 TX5 3, w ∈ lw_tbl) w h, (by decide +kernel : ∀ w ∈ u_ws RX5 TX5 3, goodWord w = true) w h⟩
theorem inX6 : ∀ w ∈ u_ws RX6 TX6 7, w ∈ tblG := fun w h => List.mem_filter.mpr ⟨(by decide +kernel : ∀ w ∈ u_ws RX6 TX6 7, w ∈ lw_tbl) w h, (by decide +kernel : ∀ w ∈ u_ws RX6 TX6 7, goodWord w = true) w h⟩
theorem inX7 : ∀ w ∈ u_ws RX7 TX7 23, w ∈ tblG := fun w h => List.mem_filter.mpr ⟨(by decide +kernel : ∀ w ∈ u_ws RX7 TX7 23, w ∈ lw_tbl) w h, (by decide +kernel : ∀ w ∈ u_ws RX7 TX7 23, goodWord w = true) w h⟩
