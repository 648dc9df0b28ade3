section
-- ===== PART A: goes FIRST, ahead of the names: the tables' words, and 'selects' of the private methods out of them =====
/-- a private method of a class that the tables say can be made, by its rows of tables_1 -/
def lw_okq (q : MethodName × Nat) : Prop := (q.1.cls ≠ "java/lang/invoke/MethodHandle" ∧ q.1.cls ≠ "java/lang/invoke/VarHandle") ∧ Cond.instantiable q.1.cls q.2 ∈ tables_1 ∧ Cond.privateMethod q.1 ∈ tables_1 ∧ Cond.instanceMethod q.1 ∈ tables_1
theorem lw_p0 : lw_okq (⟨"RouterPaths$Machine", "startAnew", "()V"⟩, 8) := ⟨⟨by decide +kernel, by decide +kernel⟩, List.mem_of_getElem? (i := 107) (by decide +kernel), List.mem_of_getElem? (i := 113) (by decide +kernel), List.mem_of_getElem? (i := 114) (by decide +kernel)⟩
theorem lw_p1 : lw_okq (⟨"RouterPaths$Reader", "takeStatement", "(LRouterPaths$Program;)Z"⟩, 4) := ⟨⟨by decide +kernel, by decide +kernel⟩, List.mem_of_getElem? (i := 88) (by decide +kernel), List.mem_of_getElem? (i := 250) (by decide +kernel), List.mem_of_getElem? (i := 251) (by decide +kernel)⟩
theorem lw_p2 : lw_okq (⟨"RouterPaths$Reader", "skipSpaces", "()V"⟩, 4) := ⟨⟨by decide +kernel, by decide +kernel⟩, List.mem_of_getElem? (i := 88) (by decide +kernel), List.mem_of_getElem? (i := 254) (by decide +kernel), List.mem_of_getElem? (i := 255) (by decide +kernel)⟩
theorem lw_p3 : lw_okq (⟨"RouterPaths$Reader", "here", "()I"⟩, 4) := ⟨⟨by decide +kernel, by decide +kernel⟩, List.mem_of_getElem? (i := 88) (by decide +kernel), List.mem_of_getElem? (i := 258) (by decide +kernel), List.mem_of_getElem? (i := 259) (by decide +kernel)⟩
theorem lw_p4 : lw_okq (⟨"RouterPaths$Reader", "takeChange", "(LRouterPaths$Program;)Z"⟩, 4) := ⟨⟨by decide +kernel, by decide +kernel⟩, List.mem_of_getElem? (i := 88) (by decide +kernel), List.mem_of_getElem? (i := 262) (by decide +kernel), List.mem_of_getElem? (i := 263) (by decide +kernel)⟩
theorem lw_p5 : lw_okq (⟨"RouterPaths$Reader", "takeDigit", "(I)I"⟩, 4) := ⟨⟨by decide +kernel, by decide +kernel⟩, List.mem_of_getElem? (i := 88) (by decide +kernel), List.mem_of_getElem? (i := 266) (by decide +kernel), List.mem_of_getElem? (i := 267) (by decide +kernel)⟩
theorem lw_p6 : lw_okq (⟨"RouterPaths$Reader", "takeEnd", "()Z"⟩, 4) := ⟨⟨by decide +kernel, by decide +kernel⟩, List.mem_of_getElem? (i := 88) (by decide +kernel), List.mem_of_getElem? (i := 270) (by decide +kernel), List.mem_of_getElem? (i := 271) (by decide +kernel)⟩
theorem lw_p7 : lw_okq (⟨"RouterPaths$Reader", "takeMove", "(LRouterPaths$Program;)Z"⟩, 4) := ⟨⟨by decide +kernel, by decide +kernel⟩, List.mem_of_getElem? (i := 88) (by decide +kernel), List.mem_of_getElem? (i := 278) (by decide +kernel), List.mem_of_getElem? (i := 279) (by decide +kernel)⟩
theorem lw_p8 : lw_okq (⟨"RouterPaths$Reader", "takeNumber", "(CI)I"⟩, 4) := ⟨⟨by decide +kernel, by decide +kernel⟩, List.mem_of_getElem? (i := 88) (by decide +kernel), List.mem_of_getElem? (i := 282) (by decide +kernel), List.mem_of_getElem? (i := 283) (by decide +kernel)⟩
theorem lw_p9 : lw_okq (⟨"RouterPaths$PieceCounter", "take", "(LRouterPaths$Grid;II)V"⟩, 6) := ⟨⟨by decide +kernel, by decide +kernel⟩, List.mem_of_getElem? (i := 149) (by decide +kernel), List.mem_of_getElem? (i := 294) (by decide +kernel), List.mem_of_getElem? (i := 295) (by decide +kernel)⟩
theorem lw_p10 : lw_okq (⟨"RouterPaths$PieceCounter", "spread", "(LRouterPaths$Grid;I)V"⟩, 6) := ⟨⟨by decide +kernel, by decide +kernel⟩, List.mem_of_getElem? (i := 149) (by decide +kernel), List.mem_of_getElem? (i := 306) (by decide +kernel), List.mem_of_getElem? (i := 307) (by decide +kernel)⟩
theorem lw_p11 : lw_okq (⟨"RouterPaths", "demandBlock", "(IIII)V"⟩, 7) := ⟨⟨by decide +kernel, by decide +kernel⟩, List.mem_of_getElem? (i := 17) (by decide +kernel), List.mem_of_getElem? (i := 330) (by decide +kernel), List.mem_of_getElem? (i := 331) (by decide +kernel)⟩
theorem lw_p12 : lw_okq (⟨"RouterPaths", "demandCell", "(II)V"⟩, 7) := ⟨⟨by decide +kernel, by decide +kernel⟩, List.mem_of_getElem? (i := 17) (by decide +kernel), List.mem_of_getElem? (i := 334) (by decide +kernel), List.mem_of_getElem? (i := 335) (by decide +kernel)⟩
theorem lw_p13 : lw_okq (⟨"java/lang/Throwable", "fillInStackTrace", "(I)Ljava/lang/Throwable;"⟩, 6) := ⟨⟨by decide +kernel, by decide +kernel⟩, List.mem_of_getElem? (i := 377) (by decide +kernel), List.mem_of_getElem? (i := 375) (by decide +kernel), List.mem_of_getElem? (i := 376) (by decide +kernel)⟩
theorem lw_p14 : lw_okq (⟨"RouterPaths$Machine", "obey", "(LRouterPaths$Program;ILRouterPaths$Grid;[LRouterPaths$Tool;)I"⟩, 8) := ⟨⟨by decide +kernel, by decide +kernel⟩, List.mem_of_getElem? (i := 107) (by decide +kernel), List.mem_of_getElem? (i := 488) (by decide +kernel), List.mem_of_getElem? (i := 489) (by decide +kernel)⟩
theorem lw_p15 : lw_okq (⟨"RouterPaths$Machine", "travel", "(IIIZLRouterPaths$Grid;LRouterPaths$Tool;)I"⟩, 8) := ⟨⟨by decide +kernel, by decide +kernel⟩, List.mem_of_getElem? (i := 107) (by decide +kernel), List.mem_of_getElem? (i := 495) (by decide +kernel), List.mem_of_getElem? (i := 496) (by decide +kernel)⟩
def lw_privs_1 : List (MethodName × Nat) := [(⟨"RouterPaths$Machine", "startAnew", "()V"⟩, 8), (⟨"RouterPaths$Reader", "takeStatement", "(LRouterPaths$Program;)Z"⟩, 4), (⟨"RouterPaths$Reader", "skipSpaces", "()V"⟩, 4), (⟨"RouterPaths$Reader", "here", "()I"⟩, 4), (⟨"RouterPaths$Reader", "takeChange", "(LRouterPaths$Program;)Z"⟩, 4), (⟨"RouterPaths$Reader", "takeDigit", "(I)I"⟩, 4), (⟨"RouterPaths$Reader", "takeEnd", "()Z"⟩, 4), (⟨"RouterPaths$Reader", "takeMove", "(LRouterPaths$Program;)Z"⟩, 4), (⟨"RouterPaths$Reader", "takeNumber", "(CI)I"⟩, 4), (⟨"RouterPaths$PieceCounter", "take", "(LRouterPaths$Grid;II)V"⟩, 6), (⟨"RouterPaths$PieceCounter", "spread", "(LRouterPaths$Grid;I)V"⟩, 6), (⟨"RouterPaths", "demandBlock", "(IIII)V"⟩, 7), (⟨"RouterPaths", "demandCell", "(II)V"⟩, 7), (⟨"java/lang/Throwable", "fillInStackTrace", "(I)Ljava/lang/Throwable;"⟩, 6), (⟨"RouterPaths$Machine", "obey", "(LRouterPaths$Program;ILRouterPaths$Grid;[LRouterPaths$Tool;)I"⟩, 8), (⟨"RouterPaths$Machine", "travel", "(IIIZLRouterPaths$Grid;LRouterPaths$Tool;)I"⟩, 8)]
theorem lw_r1 : ∀ q ∈ lw_privs_1, lw_okq q := List.forall_mem_cons.mpr ⟨lw_p0, List.forall_mem_cons.mpr ⟨lw_p1, List.forall_mem_cons.mpr ⟨lw_p2, List.forall_mem_cons.mpr ⟨lw_p3, List.forall_mem_cons.mpr ⟨lw_p4, List.forall_mem_cons.mpr ⟨lw_p5, List.forall_mem_cons.mpr ⟨lw_p6, List.forall_mem_cons.mpr ⟨lw_p7, List.forall_mem_cons.mpr ⟨lw_p8, List.forall_mem_cons.mpr ⟨lw_p9, List.forall_mem_cons.mpr ⟨lw_p10, List.forall_mem_cons.mpr ⟨lw_p11, List.forall_mem_cons.mpr ⟨lw_p12, List.forall_mem_cons.mpr ⟨lw_p13, List.forall_mem_cons.mpr ⟨lw_p14, List.forall_mem_cons.mpr ⟨lw_p15, fun _ h => absurd h List.not_mem_nil⟩⟩⟩⟩⟩⟩⟩⟩⟩⟩⟩⟩⟩⟩⟩⟩
theorem lw_p16 : lw_okq (⟨"RouterPaths$Machine", "cutHere", "(LRouterPaths$Grid;LRouterPaths$Tool;)I"⟩, 8) := ⟨⟨by decide +kernel, by decide +kernel⟩, List.mem_of_getElem? (i := 107) (by decide +kernel), List.mem_of_getElem? (i := 516) (by decide +kernel), List.mem_of_getElem? (i := 517) (by decide +kernel)⟩
theorem lw_p17 : lw_okq (⟨"RouterPaths$Machine", "passHere", "(LRouterPaths$Grid;)I"⟩, 8) := ⟨⟨by decide +kernel, by decide +kernel⟩, List.mem_of_getElem? (i := 107) (by decide +kernel), List.mem_of_getElem? (i := 528) (by decide +kernel), List.mem_of_getElem? (i := 529) (by decide +kernel)⟩
theorem lw_p18 : lw_okq (⟨"RouterPaths$Grid", "isOff", "(IZ)Z"⟩, 8) := ⟨⟨by decide +kernel, by decide +kernel⟩, List.mem_of_getElem? (i := 31) (by decide +kernel), List.mem_of_getElem? (i := 567) (by decide +kernel), List.mem_of_getElem? (i := 568) (by decide +kernel)⟩
theorem lw_p19 : lw_okq (⟨"RouterPaths$Grid", "discHasKept", "()Z"⟩, 8) := ⟨⟨by decide +kernel, by decide +kernel⟩, List.mem_of_getElem? (i := 31) (by decide +kernel), List.mem_of_getElem? (i := 587) (by decide +kernel), List.mem_of_getElem? (i := 588) (by decide +kernel)⟩
theorem lw_p20 : lw_okq (⟨"RouterPaths$Grid", "highestTargetInDisc", "()I"⟩, 8) := ⟨⟨by decide +kernel, by decide +kernel⟩, List.mem_of_getElem? (i := 31) (by decide +kernel), List.mem_of_getElem? (i := 591) (by decide +kernel), List.mem_of_getElem? (i := 592) (by decide +kernel)⟩
theorem lw_p21 : lw_okq (⟨"RouterPaths$Grid", "markReached", "(I)I"⟩, 8) := ⟨⟨by decide +kernel, by decide +kernel⟩, List.mem_of_getElem? (i := 31) (by decide +kernel), List.mem_of_getElem? (i := 595) (by decide +kernel), List.mem_of_getElem? (i := 596) (by decide +kernel)⟩
theorem lw_p22 : lw_okq (⟨"RouterPathsModel", "spanFault", "(IIIIZ)I"⟩, 23) := ⟨⟨by decide +kernel, by decide +kernel⟩, List.mem_of_getElem? (i := 599) (by decide +kernel), List.mem_of_getElem? (i := 686) (by decide +kernel), List.mem_of_getElem? (i := 687) (by decide +kernel)⟩
theorem lw_p23 : lw_okq (⟨"RouterPathsModel", "isCell", "(II)Z"⟩, 23) := ⟨⟨by decide +kernel, by decide +kernel⟩, List.mem_of_getElem? (i := 599) (by decide +kernel), List.mem_of_getElem? (i := 690) (by decide +kernel), List.mem_of_getElem? (i := 691) (by decide +kernel)⟩
theorem lw_p24 : lw_okq (⟨"RouterPathsModel", "spaces", "()V"⟩, 23) := ⟨⟨by decide +kernel, by decide +kernel⟩, List.mem_of_getElem? (i := 599) (by decide +kernel), List.mem_of_getElem? (i := 710) (by decide +kernel), List.mem_of_getElem? (i := 711) (by decide +kernel)⟩
theorem lw_p25 : lw_okq (⟨"RouterPathsModel", "now", "()I"⟩, 23) := ⟨⟨by decide +kernel, by decide +kernel⟩, List.mem_of_getElem? (i := 599) (by decide +kernel), List.mem_of_getElem? (i := 714) (by decide +kernel), List.mem_of_getElem? (i := 715) (by decide +kernel)⟩
theorem lw_p26 : lw_okq (⟨"RouterPathsModel", "statement", "(I)V"⟩, 23) := ⟨⟨by decide +kernel, by decide +kernel⟩, List.mem_of_getElem? (i := 599) (by decide +kernel), List.mem_of_getElem? (i := 718) (by decide +kernel), List.mem_of_getElem? (i := 719) (by decide +kernel)⟩
theorem lw_p27 : lw_okq (⟨"RouterPathsModel", "must", "(Z)V"⟩, 23) := ⟨⟨by decide +kernel, by decide +kernel⟩, List.mem_of_getElem? (i := 599) (by decide +kernel), List.mem_of_getElem? (i := 722) (by decide +kernel), List.mem_of_getElem? (i := 723) (by decide +kernel)⟩
theorem lw_p28 : lw_okq (⟨"RouterPathsModel", "digit", "(I)I"⟩, 23) := ⟨⟨by decide +kernel, by decide +kernel⟩, List.mem_of_getElem? (i := 599) (by decide +kernel), List.mem_of_getElem? (i := 726) (by decide +kernel), List.mem_of_getElem? (i := 727) (by decide +kernel)⟩
theorem lw_p29 : lw_okq (⟨"RouterPathsModel", "number", "(I)I"⟩, 23) := ⟨⟨by decide +kernel, by decide +kernel⟩, List.mem_of_getElem? (i := 599) (by decide +kernel), List.mem_of_getElem? (i := 730) (by decide +kernel), List.mem_of_getElem? (i := 731) (by decide +kernel)⟩
theorem lw_p30 : lw_okq (⟨"RouterPathsModel", "go", "(I)I"⟩, 23) := ⟨⟨by decide +kernel, by decide +kernel⟩, List.mem_of_getElem? (i := 599) (by decide +kernel), List.mem_of_getElem? (i := 738) (by decide +kernel), List.mem_of_getElem? (i := 739) (by decide +kernel)⟩
theorem lw_p31 : lw_okq (⟨"RouterPathsModel", "step", "(IIII)I"⟩, 23) := ⟨⟨by decide +kernel, by decide +kernel⟩, List.mem_of_getElem? (i := 599) (by decide +kernel), List.mem_of_getElem? (i := 745) (by decide +kernel), List.mem_of_getElem? (i := 746) (by decide +kernel)⟩
def lw_privs_2 : List (MethodName × Nat) := [(⟨"RouterPaths$Machine", "cutHere", "(LRouterPaths$Grid;LRouterPaths$Tool;)I"⟩, 8), (⟨"RouterPaths$Machine", "passHere", "(LRouterPaths$Grid;)I"⟩, 8), (⟨"RouterPaths$Grid", "isOff", "(IZ)Z"⟩, 8), (⟨"RouterPaths$Grid", "discHasKept", "()Z"⟩, 8), (⟨"RouterPaths$Grid", "highestTargetInDisc", "()I"⟩, 8), (⟨"RouterPaths$Grid", "markReached", "(I)I"⟩, 8), (⟨"RouterPathsModel", "spanFault", "(IIIIZ)I"⟩, 23), (⟨"RouterPathsModel", "isCell", "(II)Z"⟩, 23), (⟨"RouterPathsModel", "spaces", "()V"⟩, 23), (⟨"RouterPathsModel", "now", "()I"⟩, 23), (⟨"RouterPathsModel", "statement", "(I)V"⟩, 23), (⟨"RouterPathsModel", "must", "(Z)V"⟩, 23), (⟨"RouterPathsModel", "digit", "(I)I"⟩, 23), (⟨"RouterPathsModel", "number", "(I)I"⟩, 23), (⟨"RouterPathsModel", "go", "(I)I"⟩, 23), (⟨"RouterPathsModel", "step", "(IIII)I"⟩, 23)]
theorem lw_r2 : ∀ q ∈ lw_privs_2, lw_okq q := List.forall_mem_cons.mpr ⟨lw_p16, List.forall_mem_cons.mpr ⟨lw_p17, List.forall_mem_cons.mpr ⟨lw_p18, List.forall_mem_cons.mpr ⟨lw_p19, List.forall_mem_cons.mpr ⟨lw_p20, List.forall_mem_cons.mpr ⟨lw_p21, List.forall_mem_cons.mpr ⟨lw_p22, List.forall_mem_cons.mpr ⟨lw_p23, List.forall_mem_cons.mpr ⟨lw_p24, List.forall_mem_cons.mpr ⟨lw_p25, List.forall_mem_cons.mpr ⟨lw_p26, List.forall_mem_cons.mpr ⟨lw_p27, List.forall_mem_cons.mpr ⟨lw_p28, List.forall_mem_cons.mpr ⟨lw_p29, List.forall_mem_cons.mpr ⟨lw_p30, List.forall_mem_cons.mpr ⟨lw_p31, fun _ h => absurd h List.not_mem_nil⟩⟩⟩⟩⟩⟩⟩⟩⟩⟩⟩⟩⟩⟩⟩⟩
theorem lw_p32 : lw_okq (⟨"RouterPathsModel", "isInDisc", "(IIII)Z"⟩, 23) := ⟨⟨by decide +kernel, by decide +kernel⟩, List.mem_of_getElem? (i := 599) (by decide +kernel), List.mem_of_getElem? (i := 749) (by decide +kernel), List.mem_of_getElem? (i := 750) (by decide +kernel)⟩
theorem lw_p33 : lw_okq (⟨"RouterPathsModel", "spares", "(IIII)Z"⟩, 23) := ⟨⟨by decide +kernel, by decide +kernel⟩, List.mem_of_getElem? (i := 599) (by decide +kernel), List.mem_of_getElem? (i := 772) (by decide +kernel), List.mem_of_getElem? (i := 773) (by decide +kernel)⟩
theorem lw_p34 : lw_okq (⟨"RouterPathsModel", "flood", "(I)V"⟩, 23) := ⟨⟨by decide +kernel, by decide +kernel⟩, List.mem_of_getElem? (i := 599) (by decide +kernel), List.mem_of_getElem? (i := 780) (by decide +kernel), List.mem_of_getElem? (i := 781) (by decide +kernel)⟩
def lw_privs_3 : List (MethodName × Nat) := [(⟨"RouterPathsModel", "isInDisc", "(IIII)Z"⟩, 23), (⟨"RouterPathsModel", "spares", "(IIII)Z"⟩, 23), (⟨"RouterPathsModel", "flood", "(I)V"⟩, 23)]
theorem lw_r3 : ∀ q ∈ lw_privs_3, lw_okq q := List.forall_mem_cons.mpr ⟨lw_p32, List.forall_mem_cons.mpr ⟨lw_p33, List.forall_mem_cons.mpr ⟨lw_p34, fun _ h => absurd h List.not_mem_nil⟩⟩⟩
def lw_privs : List (MethodName × Nat) := lw_privs_1 ++ (lw_privs_2 ++ (lw_privs_3))
def lw_tbl : List Cond := k2_sels lw_privs ++ tables_1
theorem lw_privs_ok : ∀ q ∈ lw_privs, lw_okq q := by
  show ∀ q ∈ lw_privs_1 ++ (lw_privs_2 ++ (lw_privs_3)), lw_okq q
  exact List.forall_mem_append.mpr ⟨lw_r1, List.forall_mem_append.mpr ⟨lw_r2, lw_r3⟩⟩

def RX0 : String := "RouterPaths$Grid"
def TX0 : u_T := fun k => match k with
  | 0 => ("RouterPaths$Grid", "side", "I", true)
  | 1 => ("RouterPaths$Grid", "cells", "I", true)
  | 2 => ("RouterPaths$Grid", "heights", "[I", true)
  | 3 => ("RouterPaths$Grid", "targets", "[I", true)
  | 4 => ("RouterPaths$Grid", "kept", "[Z", true)
  | 5 => ("RouterPaths$Grid", "marks", "[Z", true)
  | 6 => ("RouterPaths$Grid", "disc", "[I", true)
  | _ => ("RouterPaths$Grid", "discSize", "I", false)
def tyX0 : Nat → FieldType := fun k => match k with
  | 0 => .int
  | 1 => .int
  | 2 => .array .int
  | 3 => .array .int
  | 4 => .array .boolean
  | 5 => .array .boolean
  | 6 => .array .int
  | _ => .int
theorem nmX0 : ∀ a, a < 8 → ∀ b, b < 8 → a ≠ b → (TX0 a).2.1 ≠ (TX0 b).2.1 := by decide +kernel
theorem tyX0_ok : ∀ k, k < 8 → parseFieldDescriptor (TX0 k).2.2.1 = some (tyX0 k) := by decide +kernel
def RX1 : String := "RouterPaths$Machine"
def TX1 : u_T := fun k => match k with
  | 0 => ("RouterPaths$Machine", "hasRun", "Z", false)
  | 1 => ("RouterPaths$Machine", "time", "I", false)
  | 2 => ("RouterPaths$Machine", "ended", "I", false)
  | 3 => ("RouterPaths$Machine", "x", "I", false)
  | 4 => ("RouterPaths$Machine", "y", "I", false)
  | 5 => ("RouterPaths$Machine", "z", "I", false)
  | 6 => ("RouterPaths$Machine", "cut", "I", false)
  | _ => ("RouterPaths$Machine", "held", "I", false)
def tyX1 : Nat → FieldType := fun k => match k with
  | 0 => .boolean
  | 1 => .int
  | 2 => .int
  | 3 => .int
  | 4 => .int
  | 5 => .int
  | 6 => .int
  | _ => .int
theorem nmX1 : ∀ a, a < 8 → ∀ b, b < 8 → a ≠ b → (TX1 a).2.1 ≠ (TX1 b).2.1 := by decide +kernel
theorem tyX1_ok : ∀ k, k < 8 → parseFieldDescriptor (TX1 k).2.2.1 = some (tyX1 k) := by decide +kernel
def RX2 : String := "RouterPaths$PieceCounter"
def TX2 : u_T := fun k => match k with
  | 0 => ("RouterPaths$PieceCounter", "side", "I", true)
  | 1 => ("RouterPaths$PieceCounter", "cells", "I", true)
  | 2 => ("RouterPaths$PieceCounter", "taken", "[Z", true)
  | 3 => ("RouterPaths$PieceCounter", "queueX", "[I", true)
  | 4 => ("RouterPaths$PieceCounter", "queueY", "[I", true)
  | _ => ("RouterPaths$PieceCounter", "queued", "I", false)
def tyX2 : Nat → FieldType := fun k => match k with
  | 0 => .int
  | 1 => .int
  | 2 => .array .boolean
  | 3 => .array .int
  | 4 => .array .int
  | _ => .int
theorem nmX2 : ∀ a, a < 6 → ∀ b, b < 6 → a ≠ b → (TX2 a).2.1 ≠ (TX2 b).2.1 := by decide +kernel
theorem tyX2_ok : ∀ k, k < 6 → parseFieldDescriptor (TX2 k).2.2.1 = some (tyX2 k) := by decide +kernel
def RX3 : String := "RouterPaths$Program"
def TX3 : u_T := fun k => match k with
  | 0 => ("RouterPaths$Program", "count", "I", false)
  | 1 => ("RouterPaths$Program", "letters", "[C", true)
  | 2 => ("RouterPaths$Program", "digits", "[I", true)
  | 3 => ("RouterPaths$Program", "xs", "[I", true)
  | 4 => ("RouterPaths$Program", "ys", "[I", true)
  | _ => ("RouterPaths$Program", "zs", "[I", true)
def tyX3 : Nat → FieldType := fun k => match k with
  | 0 => .int
  | 1 => .array .char
  | 2 => .array .int
  | 3 => .array .int
  | 4 => .array .int
  | _ => .array .int
theorem nmX3 : ∀ a, a < 6 → ∀ b, b < 6 → a ≠ b → (TX3 a).2.1 ≠ (TX3 b).2.1 := by decide +kernel
theorem tyX3_ok : ∀ k, k < 6 → parseFieldDescriptor (TX3 k).2.2.1 = some (tyX3 k) := by decide +kernel
def RX4 : String := "RouterPaths$Reader"
def TX4 : u_T := fun k => match k with
  | 0 => ("RouterPaths$Reader", "side", "I", true)
  | 1 => ("RouterPaths$Reader", "text", "[I", true)
  | 2 => ("RouterPaths$Reader", "length", "I", false)
  | _ => ("RouterPaths$Reader", "place", "I", false)
def tyX4 : Nat → FieldType := fun k => match k with
  | 0 => .int
  | 1 => .array .int
  | 2 => .int
  | _ => .int
theorem nmX4 : ∀ a, a < 4 → ∀ b, b < 4 → a ≠ b → (TX4 a).2.1 ≠ (TX4 b).2.1 := by decide +kernel
theorem tyX4_ok : ∀ k, k < 4 → parseFieldDescriptor (TX4 k).2.2.1 = some (tyX4 k) := by decide +kernel
def RX5 : String := "RouterPaths$Tool"
def TX5 : u_T := fun k => match k with
  | 0 => ("RouterPaths$Tool", "radius", "I", false)
  | 1 => ("RouterPaths$Tool", "feed", "I", false)
  | _ => ("RouterPaths$Tool", "halfWidths", "[I", true)
def tyX5 : Nat → FieldType := fun k => match k with
  | 0 => .int
  | 1 => .int
  | _ => .array .int
theorem nmX5 : ∀ a, a < 3 → ∀ b, b < 3 → a ≠ b → (TX5 a).2.1 ≠ (TX5 b).2.1 := by decide +kernel
theorem tyX5_ok : ∀ k, k < 3 → parseFieldDescriptor (TX5 k).2.2.1 = some (tyX5 k) := by decide +kernel
def RX6 : String := "RouterPaths"
def TX6 : u_T := fun k => match k with
  | 0 => ("RouterPaths", "grid", "LRouterPaths$Grid;", true)
  | 1 => ("RouterPaths", "tools", "[LRouterPaths$Tool;", true)
  | 2 => ("RouterPaths", "reader", "LRouterPaths$Reader;", true)
  | 3 => ("RouterPaths", "machine", "LRouterPaths$Machine;", true)
  | 4 => ("RouterPaths", "pieceCounter", "LRouterPaths$PieceCounter;", true)
  | 5 => ("RouterPaths", "program", "LRouterPaths$Program;", false)
  | _ => ("RouterPaths", "draft", "LRouterPaths$Program;", false)
def tyX6 : Nat → FieldType := fun k => match k with
  | 0 => .object "RouterPaths$Grid"
  | 1 => .array (.object "RouterPaths$Tool")
  | 2 => .object "RouterPaths$Reader"
  | 3 => .object "RouterPaths$Machine"
  | 4 => .object "RouterPaths$PieceCounter"
  | 5 => .object "RouterPaths$Program"
  | _ => .object "RouterPaths$Program"
theorem nmX6 : ∀ a, a < 7 → ∀ b, b < 7 → a ≠ b → (TX6 a).2.1 ≠ (TX6 b).2.1 := by decide +kernel
theorem tyX6_ok : ∀ k, k < 7 → parseFieldDescriptor (TX6 k).2.2.1 = some (tyX6 k) := by decide +kernel
def RX7 : String := "RouterPathsModel"
def TX7 : u_T := fun k => match k with
  | 0 => ("RouterPathsModel", "thrown", "I", false)
  | 1 => ("RouterPathsModel", "side", "I", false)
  | 2 => ("RouterPathsModel", "heights", "[I", true)
  | 3 => ("RouterPathsModel", "targets", "[I", true)
  | 4 => ("RouterPathsModel", "kept", "[Z", true)
  | 5 => ("RouterPathsModel", "radius", "[I", true)
  | 6 => ("RouterPathsModel", "feeds", "[I", true)
  | 7 => ("RouterPathsModel", "text", "[I", true)
  | 8 => ("RouterPathsModel", "size", "I", false)
  | 9 => ("RouterPathsModel", "at", "I", false)
  | 10 => ("RouterPathsModel", "fault", "I", false)
  | 11 => ("RouterPathsModel", "program", "[I", true)
  | 12 => ("RouterPathsModel", "draft", "[I", true)
  | 13 => ("RouterPathsModel", "statements", "I", false)
  | 14 => ("RouterPathsModel", "hasProgram", "Z", false)
  | 15 => ("RouterPathsModel", "hasRun", "Z", false)
  | 16 => ("RouterPathsModel", "where", "[I", true)
  | 17 => ("RouterPathsModel", "tool", "I", false)
  | 18 => ("RouterPathsModel", "about", "[I", true)
  | 19 => ("RouterPathsModel", "stack", "[I", true)
  | 20 => ("RouterPathsModel", "seen", "[Z", true)
  | 21 => ("RouterPathsModel", "begin", "[I", true)
  | _ => ("RouterPathsModel", "gap", "[I", true)
def tyX7 : Nat → FieldType := fun k => match k with
  | 0 => .int
  | 1 => .int
  | 2 => .array .int
  | 3 => .array .int
  | 4 => .array .boolean
  | 5 => .array .int
  | 6 => .array .int
  | 7 => .array .int
  | 8 => .int
  | 9 => .int
  | 10 => .int
  | 11 => .array .int
  | 12 => .array .int
  | 13 => .int
  | 14 => .boolean
  | 15 => .boolean
  | 16 => .array .int
  | 17 => .int
  | 18 => .array .int
  | 19 => .array .int
  | 20 => .array .boolean
  | 21 => .array .int
  | _ => .array .int
theorem nmX7 : ∀ a, a < 23 → ∀ b, b < 23 → a ≠ b → (TX7 a).2.1 ≠ (TX7 b).2.1 := by decide +kernel
theorem tyX7_ok : ∀ k, k < 23 → parseFieldDescriptor (TX7 k).2.2.1 = some (tyX7 k) := by decide +kernel
def RL : String := "RouterPathsLaw"
def RJm : String := "java/lang/Math"
abbrev cX6_init : ByteArray := prog_1_method_1_code
def yX6_init : MethodName := ⟨RX6, "<init>", "(I)V"⟩
abbrev cX6_target : ByteArray := prog_1_method_2_code
def yX6_target : MethodName := ⟨RX6, "target", "(IIIII)V"⟩
abbrev cX6_keep : ByteArray := prog_1_method_3_code
def yX6_keep : MethodName := ⟨RX6, "keep", "(IIIIZ)V"⟩
abbrev cX6_tool : ByteArray := prog_1_method_4_code
def yX6_tool : MethodName := ⟨RX6, "tool", "(III)V"⟩
abbrev cX6_unit : ByteArray := prog_1_method_5_code
def yX6_unit : MethodName := ⟨RX6, "unit", "(I)Z"⟩
abbrev cX6_read : ByteArray := prog_1_method_6_code
def yX6_read : MethodName := ⟨RX6, "read", "()I"⟩
abbrev cX6_run : ByteArray := prog_1_method_7_code
def yX6_run : MethodName := ⟨RX6, "run", "()I"⟩
abbrev cX6_about : ByteArray := prog_1_method_8_code
def yX6_about : MethodName := ⟨RX6, "about", "(I)I"⟩
abbrev cX6_cell : ByteArray := prog_1_method_9_code
def yX6_cell : MethodName := ⟨RX6, "cell", "(III)I"⟩
abbrev cX6_check : ByteArray := prog_1_method_10_code
def yX6_check : MethodName := ⟨RX6, "check", "(I)I"⟩
abbrev cX6_reached : ByteArray := prog_1_method_11_code
def yX6_reached : MethodName := ⟨RX6, "reached", "(I)I"⟩
abbrev cX6_pieces : ByteArray := prog_1_method_12_code
def yX6_pieces : MethodName := ⟨RX6, "pieces", "()I"⟩
abbrev cX6_blank : ByteArray := prog_1_method_13_code
def yX6_blank : MethodName := ⟨RX6, "blank", "()V"⟩
abbrev cX6_demandBlock : ByteArray := prog_1_method_14_code
def yX6_demandBlock : MethodName := ⟨RX6, "demandBlock", "(IIII)V"⟩
abbrev cX6_demandCell : ByteArray := prog_1_method_15_code
def yX6_demandCell : MethodName := ⟨RX6, "demandCell", "(II)V"⟩
abbrev cX6_demandTool : ByteArray := prog_1_method_16_code
def yX6_demandTool : MethodName := ⟨RX6, "demandTool", "(I)V"⟩
abbrev cX6_demandWhat : ByteArray := prog_1_method_17_code
def yX6_demandWhat : MethodName := ⟨RX6, "demandWhat", "(II)V"⟩
abbrev cX7_init : ByteArray := prog_9_method_1_code
def yX7_init : MethodName := ⟨RX7, "<init>", "(I)V"⟩
abbrev cX7_thrown : ByteArray := prog_9_method_2_code
def yX7_thrown : MethodName := ⟨RX7, "thrown", "()I"⟩
abbrev cX7_isIn : ByteArray := prog_9_method_3_code
def yX7_isIn : MethodName := ⟨RX7, "isIn", "(III)Z"⟩
abbrev cX7_isCell : ByteArray := prog_9_method_4_code
def yX7_isCell : MethodName := ⟨RX7, "isCell", "(II)Z"⟩
abbrev cX7_spanFault : ByteArray := prog_9_method_5_code
def yX7_spanFault : MethodName := ⟨RX7, "spanFault", "(IIIIZ)I"⟩
abbrev cX7_target : ByteArray := prog_9_method_6_code
def yX7_target : MethodName := ⟨RX7, "target", "(IIIII)V"⟩
abbrev cX7_keep : ByteArray := prog_9_method_7_code
def yX7_keep : MethodName := ⟨RX7, "keep", "(IIIIZ)V"⟩
abbrev cX7_tool : ByteArray := prog_9_method_8_code
def yX7_tool : MethodName := ⟨RX7, "tool", "(III)V"⟩
abbrev cX7_unit : ByteArray := prog_9_method_9_code
def yX7_unit : MethodName := ⟨RX7, "unit", "(I)Z"⟩
abbrev cX7_now : ByteArray := prog_9_method_10_code
def yX7_now : MethodName := ⟨RX7, "now", "()I"⟩
abbrev cX7_must : ByteArray := prog_9_method_11_code
def yX7_must : MethodName := ⟨RX7, "must", "(Z)V"⟩
abbrev cX7_spaces : ByteArray := prog_9_method_12_code
def yX7_spaces : MethodName := ⟨RX7, "spaces", "()V"⟩
abbrev cX7_digit : ByteArray := prog_9_method_13_code
def yX7_digit : MethodName := ⟨RX7, "digit", "(I)I"⟩
abbrev cX7_number : ByteArray := prog_9_method_14_code
def yX7_number : MethodName := ⟨RX7, "number", "(I)I"⟩
abbrev cX7_statement : ByteArray := prog_9_method_15_code
def yX7_statement : MethodName := ⟨RX7, "statement", "(I)V"⟩
abbrev cX7_read : ByteArray := prog_9_method_16_code
def yX7_read : MethodName := ⟨RX7, "read", "()I"⟩
abbrev cX7_isNear : ByteArray := prog_9_method_17_code
def yX7_isNear : MethodName := ⟨RX7, "isNear", "(III)Z"⟩
abbrev cX7_isInDisc : ByteArray := prog_9_method_18_code
def yX7_isInDisc : MethodName := ⟨RX7, "isInDisc", "(IIII)Z"⟩
abbrev cX7_floor : ByteArray := prog_9_method_19_code
def yX7_floor : MethodName := ⟨RX7, "floor", "(II)I"⟩
abbrev cX7_step : ByteArray := prog_9_method_20_code
def yX7_step : MethodName := ⟨RX7, "step", "(IIII)I"⟩
abbrev cX7_go : ByteArray := prog_9_method_21_code
def yX7_go : MethodName := ⟨RX7, "go", "(I)I"⟩
abbrev cX7_run : ByteArray := prog_9_method_22_code
def yX7_run : MethodName := ⟨RX7, "run", "()I"⟩
abbrev cX7_about : ByteArray := prog_9_method_23_code
def yX7_about : MethodName := ⟨RX7, "about", "(I)I"⟩
abbrev cX7_cell : ByteArray := prog_9_method_24_code
def yX7_cell : MethodName := ⟨RX7, "cell", "(III)I"⟩
abbrev cX7_check : ByteArray := prog_9_method_25_code
def yX7_check : MethodName := ⟨RX7, "check", "(I)I"⟩
abbrev cX7_spares : ByteArray := prog_9_method_26_code
def yX7_spares : MethodName := ⟨RX7, "spares", "(IIII)Z"⟩
abbrev cX7_reached : ByteArray := prog_9_method_27_code
def yX7_reached : MethodName := ⟨RX7, "reached", "(I)I"⟩
abbrev cX7_pieces : ByteArray := prog_9_method_28_code
def yX7_pieces : MethodName := ⟨RX7, "pieces", "()I"⟩
abbrev cX7_flood : ByteArray := prog_9_method_29_code
def yX7_flood : MethodName := ⟨RX7, "flood", "(I)V"⟩
abbrev cX7_blank : ByteArray := prog_9_method_30_code
def yX7_blank : MethodName := ⟨RX7, "blank", "()V"⟩
abbrev cX0_init : ByteArray := prog_2_method_1_code
def yX0_init : MethodName := ⟨RX0, "<init>", "(I)V"⟩
abbrev cX0_holds : ByteArray := prog_2_method_2_code
def yX0_holds : MethodName := ⟨RX0, "holds", "(II)Z"⟩
abbrev cX0_placeOf : ByteArray := prog_2_method_3_code
def yX0_placeOf : MethodName := ⟨RX0, "placeOf", "(II)I"⟩
abbrev cX0_aimBlock : ByteArray := prog_2_method_4_code
def yX0_aimBlock : MethodName := ⟨RX0, "aimBlock", "(IIIII)V"⟩
abbrev cX0_guardBlock : ByteArray := prog_2_method_5_code
def yX0_guardBlock : MethodName := ⟨RX0, "guardBlock", "(IIIIZ)V"⟩
abbrev cX0_fillUp : ByteArray := prog_2_method_6_code
def yX0_fillUp : MethodName := ⟨RX0, "fillUp", "()V"⟩
abbrev cX0_isOff : ByteArray := prog_2_method_7_code
def yX0_isOff : MethodName := ⟨RX0, "isOff", "(IZ)Z"⟩
abbrev cX0_countOff : ByteArray := prog_2_method_8_code
def yX0_countOff : MethodName := ⟨RX0, "countOff", "(Z)I"⟩
abbrev cX0_firstOff : ByteArray := prog_2_method_9_code
def yX0_firstOff : MethodName := ⟨RX0, "firstOff", "(Z)I"⟩
abbrev cX0_layDisc : ByteArray := prog_2_method_10_code
def yX0_layDisc : MethodName := ⟨RX0, "layDisc", "(LRouterPaths$Tool;II)V"⟩
abbrev cX0_discRisesAbove : ByteArray := prog_2_method_11_code
def yX0_discRisesAbove : MethodName := ⟨RX0, "discRisesAbove", "(I)Z"⟩
abbrev cX0_discHasKeptAbove : ByteArray := prog_2_method_12_code
def yX0_discHasKeptAbove : MethodName := ⟨RX0, "discHasKeptAbove", "(I)Z"⟩
abbrev cX0_lowerDisc : ByteArray := prog_2_method_13_code
def yX0_lowerDisc : MethodName := ⟨RX0, "lowerDisc", "(I)I"⟩
abbrev cX0_countReached : ByteArray := prog_2_method_14_code
def yX0_countReached : MethodName := ⟨RX0, "countReached", "(LRouterPaths$Tool;)I"⟩
abbrev cX0_discHasKept : ByteArray := prog_2_method_15_code
def yX0_discHasKept : MethodName := ⟨RX0, "discHasKept", "()Z"⟩
abbrev cX0_highestTargetInDisc : ByteArray := prog_2_method_16_code
def yX0_highestTargetInDisc : MethodName := ⟨RX0, "highestTargetInDisc", "()I"⟩
abbrev cX0_markReached : ByteArray := prog_2_method_17_code
def yX0_markReached : MethodName := ⟨RX0, "markReached", "(I)I"⟩
abbrev cX1_init : ByteArray := prog_3_method_1_code
def yX1_init : MethodName := ⟨RX1, "<init>", "()V"⟩
abbrev cX1_startAnew : ByteArray := prog_3_method_2_code
def yX1_startAnew : MethodName := ⟨RX1, "startAnew", "()V"⟩
abbrev cX1_follow : ByteArray := prog_3_method_3_code
def yX1_follow : MethodName := ⟨RX1, "follow", "(LRouterPaths$Program;LRouterPaths$Grid;[LRouterPaths$Tool;)I"⟩
abbrev cX1_obey : ByteArray := prog_3_method_4_code
def yX1_obey : MethodName := ⟨RX1, "obey", "(LRouterPaths$Program;ILRouterPaths$Grid;[LRouterPaths$Tool;)I"⟩
abbrev cX1_difference : ByteArray := prog_3_method_5_code
def yX1_difference : MethodName := ⟨RX1, "difference", "(II)I"⟩
abbrev cX1_travel : ByteArray := prog_3_method_6_code
def yX1_travel : MethodName := ⟨RX1, "travel", "(IIIZLRouterPaths$Grid;LRouterPaths$Tool;)I"⟩
abbrev cX1_along : ByteArray := prog_3_method_7_code
def yX1_along : MethodName := ⟨RX1, "along", "(IIII)I"⟩
abbrev cX1_cutHere : ByteArray := prog_3_method_8_code
def yX1_cutHere : MethodName := ⟨RX1, "cutHere", "(LRouterPaths$Grid;LRouterPaths$Tool;)I"⟩
abbrev cX1_passHere : ByteArray := prog_3_method_9_code
def yX1_passHere : MethodName := ⟨RX1, "passHere", "(LRouterPaths$Grid;)I"⟩
abbrev cX2_init : ByteArray := prog_4_method_1_code
def yX2_init : MethodName := ⟨RX2, "<init>", "(I)V"⟩
abbrev cX2_count : ByteArray := prog_4_method_2_code
def yX2_count : MethodName := ⟨RX2, "count", "(LRouterPaths$Grid;)I"⟩
abbrev cX2_spread : ByteArray := prog_4_method_3_code
def yX2_spread : MethodName := ⟨RX2, "spread", "(LRouterPaths$Grid;I)V"⟩
abbrev cX2_take : ByteArray := prog_4_method_4_code
def yX2_take : MethodName := ⟨RX2, "take", "(LRouterPaths$Grid;II)V"⟩
abbrev cX3_init : ByteArray := prog_5_method_1_code
def yX3_init : MethodName := ⟨RX3, "<init>", "()V"⟩
abbrev cX3_clear : ByteArray := prog_5_method_2_code
def yX3_clear : MethodName := ⟨RX3, "clear", "()V"⟩
abbrev cX3_add : ByteArray := prog_5_method_3_code
def yX3_add : MethodName := ⟨RX3, "add", "(CIIII)V"⟩
abbrev cX4_init : ByteArray := prog_6_method_1_code
def yX4_init : MethodName := ⟨RX4, "<init>", "(I)V"⟩
abbrev cX4_append : ByteArray := prog_6_method_2_code
def yX4_append : MethodName := ⟨RX4, "append", "(I)Z"⟩
abbrev cX4_parse : ByteArray := prog_6_method_3_code
def yX4_parse : MethodName := ⟨RX4, "parse", "(LRouterPaths$Program;)I"⟩
abbrev cX4_takeStatement : ByteArray := prog_6_method_4_code
def yX4_takeStatement : MethodName := ⟨RX4, "takeStatement", "(LRouterPaths$Program;)Z"⟩
abbrev cX4_takeChange : ByteArray := prog_6_method_5_code
def yX4_takeChange : MethodName := ⟨RX4, "takeChange", "(LRouterPaths$Program;)Z"⟩
abbrev cX4_takeMove : ByteArray := prog_6_method_6_code
def yX4_takeMove : MethodName := ⟨RX4, "takeMove", "(LRouterPaths$Program;)Z"⟩
abbrev cX4_takeDigit : ByteArray := prog_6_method_7_code
def yX4_takeDigit : MethodName := ⟨RX4, "takeDigit", "(I)I"⟩
abbrev cX4_takeNumber : ByteArray := prog_6_method_8_code
def yX4_takeNumber : MethodName := ⟨RX4, "takeNumber", "(CI)I"⟩
abbrev cX4_takeEnd : ByteArray := prog_6_method_9_code
def yX4_takeEnd : MethodName := ⟨RX4, "takeEnd", "()Z"⟩
abbrev cX4_skipSpaces : ByteArray := prog_6_method_10_code
def yX4_skipSpaces : MethodName := ⟨RX4, "skipSpaces", "()V"⟩
abbrev cX4_here : ByteArray := prog_6_method_11_code
def yX4_here : MethodName := ⟨RX4, "here", "()I"⟩
abbrev cX5_init : ByteArray := prog_7_method_1_code
def yX5_init : MethodName := ⟨RX5, "<init>", "()V"⟩
abbrev cX5_become : ByteArray := prog_7_method_2_code
def yX5_become : MethodName := ⟨RX5, "become", "(II)V"⟩
abbrev cX5_halfWidthAt : ByteArray := prog_7_method_3_code
def yX5_halfWidthAt : MethodName := ⟨RX5, "halfWidthAt", "(II)I"⟩
abbrev cL_cell1 : ByteArray := method_2_code
def yL_cell1 : MethodName := ⟨RL, "cell", "([II)I"⟩
abbrev cL_target : ByteArray := method_3_code
def yL_target : MethodName := ⟨RL, "target", "(LRouterPaths;IIIII)I"⟩
abbrev cL_keep : ByteArray := method_4_code
def yL_keep : MethodName := ⟨RL, "keep", "(LRouterPaths;IIIIZ)I"⟩
abbrev cL_tool : ByteArray := method_5_code
def yL_tool : MethodName := ⟨RL, "tool", "(LRouterPaths;III)I"⟩
abbrev cL_run : ByteArray := method_6_code
def yL_run : MethodName := ⟨RL, "run", "(LRouterPaths;[J)I"⟩
abbrev cL_about : ByteArray := method_7_code
def yL_about : MethodName := ⟨RL, "about", "(LRouterPaths;I[J)I"⟩
abbrev cL_cell2 : ByteArray := method_8_code
def yL_cell2 : MethodName := ⟨RL, "cell", "(LRouterPaths;III[J)I"⟩
abbrev cL_check : ByteArray := method_9_code
def yL_check : MethodName := ⟨RL, "check", "(LRouterPaths;I[J)I"⟩
abbrev cL_reached : ByteArray := method_10_code
def yL_reached : MethodName := ⟨RL, "reached", "(LRouterPaths;I[J)I"⟩
abbrev cJm_abs : ByteArray := prog_14_method_59_code
def yJm_abs : MethodName := ⟨RJm, "abs", "(I)I"⟩
abbrev cJm_floorDiv : ByteArray := prog_14_method_47_code
def yJm_floorDiv : MethodName := ⟨RJm, "floorDiv", "(II)I"⟩
abbrev cJm_max : ByteArray := prog_14_method_65_code
def yJm_max : MethodName := ⟨RJm, "max", "(II)I"⟩
abbrev cJm_min : ByteArray := prog_14_method_69_code
def yJm_min : MethodName := ⟨RJm, "min", "(II)I"⟩
abbrev vwCl : List vw_C := [(RX0, TX0, 8), (RX1, TX1, 8), (RX2, TX2, 6), (RX3, TX3, 6), (RX4, TX4, 4), (RX5, TX5, 3), (RX6, TX6, 7), (RX7, TX7, 23)]
def tblG : List Cond := lw_tbl.filter goodWord
abbrev tys (cA : Nat → ClassId) : List (ClassId × FieldType) := [(cA 0, .int), (cA 1, .boolean), (cA 2, .char), (cA 3, .long), (cA 4, .object "RouterPaths$Tool")]
theorem tblG_good : ∀ w ∈ tblG, (w.onTables && w.keeps) = true ∨ ∃ ty, w = .arrayClass ty := fun w h => good_of_word (List.mem_filter.mp h).2
theorem inX0 : ∀ w ∈ u_ws RX0 TX0 8, w ∈ tblG := fun w h => List.mem_filter.mpr ⟨(by decide +kernel : ∀ w ∈ u_ws RX0 TX0 8, w ∈ lw_tbl) w h, (by decide +kernel : ∀ w ∈ u_ws RX0 TX0 8, goodWord w = true) w h⟩
theorem inX1 : ∀ w ∈ u_ws RX1 TX1 8, w ∈ tblG := fun w h => List.mem_filter.mpr ⟨(by decide +kernel : ∀ w ∈ u_ws RX1 TX1 8, w ∈ lw_tbl) w h, (by decide +kernel : ∀ w ∈ u_ws RX1 TX1 8, goodWord w = true) w h⟩
theorem inX2 : ∀ w ∈ u_ws RX2 TX2 6, w ∈ tblG := fun w h => List.mem_filter.mpr ⟨(by decide +kernel : ∀ w ∈ u_ws RX2 TX2 6, w ∈ lw_tbl) w h, (by decide +kernel : ∀ w ∈ u_ws RX2 TX2 6, goodWord w = true) w h⟩
theorem inX3 : ∀ w ∈ u_ws RX3 TX3 6, w ∈ tblG := fun w h => List.mem_filter.mpr ⟨(by decide +kernel : ∀ w ∈ u_ws RX3 TX3 6, w ∈ lw_tbl) w h, (by decide +kernel : ∀ w ∈ u_ws RX3 TX3 6, goodWord w = true) w h⟩
theorem inX4 : ∀ w ∈ u_ws RX4 TX4 4, w ∈ tblG := fun w h => List.mem_filter.mpr ⟨(by decide +kernel : ∀ w ∈ u_ws RX4 TX4 4, w ∈ lw_tbl) w h, (by decide +kernel : ∀ w ∈ u_ws RX4 TX4 4, goodWord w = true) w h⟩
theorem inX5 : ∀ w ∈ u_ws RX5 TX5 3, w ∈ tblG := fun w h => List.mem_filter.mpr ⟨(by decide +kernel : ∀ w ∈ u_ws RX5 TX5 3, w ∈ lw_tbl) w h, (by decide +kernel : ∀ w ∈ u_ws RX5 TX5 3, goodWord w = true) w h⟩
theorem inX6 : ∀ w ∈ u_ws RX6 TX6 7, w ∈ tblG := fun w h => List.mem_filter.mpr ⟨(by decide +kernel : ∀ w ∈ u_ws RX6 TX6 7, w ∈ lw_tbl) w h, (by decide +kernel : ∀ w ∈ u_ws RX6 TX6 7, goodWord w = true) w h⟩
theorem inX7 : ∀ w ∈ u_ws RX7 TX7 23, w ∈ tblG := fun w h => List.mem_filter.mpr ⟨(by decide +kernel : ∀ w ∈ u_ws RX7 TX7 23, w ∈ lw_tbl) w h, (by decide +kernel : ∀ w ∈ u_ws RX7 TX7 23, goodWord w = true) w h⟩
end
section
theorem dX0_init_0 : decode cX0_init 0 = .ok (.aload_n 0, 1) := by decide +kernel
theorem dX0_init_1 : decode cX0_init 1 = .ok (.invokespecial 3, 3) := by decide +kernel
theorem dX0_init_4 : decode cX0_init 4 = .ok (.aload_n 0, 1) := by decide +kernel
theorem dX0_init_5 : decode cX0_init 5 = .ok (.iload_n 1, 1) := by decide +kernel
theorem dX0_init_6 : decode cX0_init 6 = .ok (.putfield 9, 3) := by decide +kernel
theorem dX0_init_9 : decode cX0_init 9 = .ok (.aload_n 0, 1) := by decide +kernel
theorem dX0_init_10 : decode cX0_init 10 = .ok (.iload_n 1, 1) := by decide +kernel
theorem dX0_init_11 : decode cX0_init 11 = .ok (.iload_n 1, 1) := by decide +kernel
theorem dX0_init_12 : decode cX0_init 12 = .ok (.imul, 1) := by decide +kernel
theorem dX0_init_13 : decode cX0_init 13 = .ok (.putfield 15, 3) := by decide +kernel
theorem dX0_init_16 : decode cX0_init 16 = .ok (.aload_n 0, 1) := by decide +kernel
theorem dX0_init_17 : decode cX0_init 17 = .ok (.aload_n 0, 1) := by decide +kernel
theorem dX0_init_18 : decode cX0_init 18 = .ok (.getfield 15, 3) := by decide +kernel
theorem dX0_init_21 : decode cX0_init 21 = .ok (.newarray .int, 2) := by decide +kernel
theorem dX0_init_23 : decode cX0_init 23 = .ok (.putfield 18, 3) := by decide +kernel
theorem dX0_init_26 : decode cX0_init 26 = .ok (.aload_n 0, 1) := by decide +kernel
theorem dX0_init_27 : decode cX0_init 27 = .ok (.aload_n 0, 1) := by decide +kernel
theorem dX0_init_28 : decode cX0_init 28 = .ok (.getfield 15, 3) := by decide +kernel
theorem dX0_init_31 : decode cX0_init 31 = .ok (.newarray .int, 2) := by decide +kernel
theorem dX0_init_33 : decode cX0_init 33 = .ok (.putfield 22, 3) := by decide +kernel
theorem dX0_init_36 : decode cX0_init 36 = .ok (.iconst 0, 1) := by decide +kernel
theorem dX0_init_37 : decode cX0_init 37 = .ok (.istore_n 2, 1) := by decide +kernel
theorem dX0_init_38 : decode cX0_init 38 = .ok (.iload_n 2, 1) := by decide +kernel
theorem dX0_init_39 : decode cX0_init 39 = .ok (.aload_n 0, 1) := by decide +kernel
theorem dX0_init_40 : decode cX0_init 40 = .ok (.getfield 15, 3) := by decide +kernel
theorem dX0_init_43 : decode cX0_init 43 = .ok (.if_icmp .ge 25, 3) := by decide +kernel
theorem dX0_init_46 : decode cX0_init 46 = .ok (.aload_n 0, 1) := by decide +kernel
theorem dX0_init_47 : decode cX0_init 47 = .ok (.getfield 18, 3) := by decide +kernel
theorem dX0_init_50 : decode cX0_init 50 = .ok (.iload_n 2, 1) := by decide +kernel
theorem dX0_init_51 : decode cX0_init 51 = .ok (.bipush 100, 2) := by decide +kernel
theorem dX0_init_53 : decode cX0_init 53 = .ok (.iastore, 1) := by decide +kernel
theorem dX0_init_54 : decode cX0_init 54 = .ok (.aload_n 0, 1) := by decide +kernel
theorem dX0_init_55 : decode cX0_init 55 = .ok (.getfield 22, 3) := by decide +kernel
theorem dX0_init_58 : decode cX0_init 58 = .ok (.iload_n 2, 1) := by decide +kernel
theorem dX0_init_59 : decode cX0_init 59 = .ok (.bipush 100, 2) := by decide +kernel
theorem dX0_init_61 : decode cX0_init 61 = .ok (.iastore, 1) := by decide +kernel
theorem dX0_init_62 : decode cX0_init 62 = .ok (.iinc 2 1, 3) := by decide +kernel
theorem dX0_init_65 : decode cX0_init 65 = .ok (.goto (-27), 3) := by decide +kernel
theorem dX0_init_68 : decode cX0_init 68 = .ok (.aload_n 0, 1) := by decide +kernel
theorem dX0_init_69 : decode cX0_init 69 = .ok (.aload_n 0, 1) := by decide +kernel
theorem dX0_init_70 : decode cX0_init 70 = .ok (.getfield 15, 3) := by decide +kernel
theorem dX0_init_73 : decode cX0_init 73 = .ok (.newarray .boolean, 2) := by decide +kernel
theorem dX0_init_75 : decode cX0_init 75 = .ok (.putfield 25, 3) := by decide +kernel
theorem dX0_init_78 : decode cX0_init 78 = .ok (.aload_n 0, 1) := by decide +kernel
theorem dX0_init_79 : decode cX0_init 79 = .ok (.aload_n 0, 1) := by decide +kernel
theorem dX0_init_80 : decode cX0_init 80 = .ok (.getfield 15, 3) := by decide +kernel
theorem dX0_init_83 : decode cX0_init 83 = .ok (.newarray .boolean, 2) := by decide +kernel
theorem dX0_init_85 : decode cX0_init 85 = .ok (.putfield 29, 3) := by decide +kernel
theorem dX0_init_88 : decode cX0_init 88 = .ok (.aload_n 0, 1) := by decide +kernel
theorem dX0_init_89 : decode cX0_init 89 = .ok (.aload_n 0, 1) := by decide +kernel
theorem dX0_init_90 : decode cX0_init 90 = .ok (.getfield 15, 3) := by decide +kernel
theorem dX0_init_93 : decode cX0_init 93 = .ok (.newarray .int, 2) := by decide +kernel
theorem dX0_init_95 : decode cX0_init 95 = .ok (.putfield 32, 3) := by decide +kernel
theorem dX0_init_98 : decode cX0_init 98 = .ok (.aload_n 0, 1) := by decide +kernel
theorem dX0_init_99 : decode cX0_init 99 = .ok (.iconst 0, 1) := by decide +kernel
theorem dX0_init_100 : decode cX0_init 100 = .ok (.putfield 35, 3) := by decide +kernel
theorem dX0_init_103 : decode cX0_init 103 = .ok (.return_, 1) := by decide +kernel
theorem dX0_holds_0 : decode cX0_holds 0 = .ok (.iload_n 1, 1) := by decide +kernel
theorem dX0_holds_1 : decode cX0_holds 1 = .ok (.ifCond .lt 27, 3) := by decide +kernel
theorem dX0_holds_4 : decode cX0_holds 4 = .ok (.iload_n 1, 1) := by decide +kernel
theorem dX0_holds_5 : decode cX0_holds 5 = .ok (.aload_n 0, 1) := by decide +kernel
theorem dX0_holds_6 : decode cX0_holds 6 = .ok (.getfield 9, 3) := by decide +kernel
theorem dX0_holds_9 : decode cX0_holds 9 = .ok (.if_icmp .ge 19, 3) := by decide +kernel
theorem dX0_holds_12 : decode cX0_holds 12 = .ok (.iload_n 2, 1) := by decide +kernel
theorem dX0_holds_13 : decode cX0_holds 13 = .ok (.ifCond .lt 15, 3) := by decide +kernel
theorem dX0_holds_16 : decode cX0_holds 16 = .ok (.iload_n 2, 1) := by decide +kernel
theorem dX0_holds_17 : decode cX0_holds 17 = .ok (.aload_n 0, 1) := by decide +kernel
theorem dX0_holds_18 : decode cX0_holds 18 = .ok (.getfield 9, 3) := by decide +kernel
theorem dX0_holds_21 : decode cX0_holds 21 = .ok (.if_icmp .ge 7, 3) := by decide +kernel
theorem dX0_holds_24 : decode cX0_holds 24 = .ok (.iconst 1, 1) := by decide +kernel
theorem dX0_holds_25 : decode cX0_holds 25 = .ok (.goto 4, 3) := by decide +kernel
theorem dX0_holds_28 : decode cX0_holds 28 = .ok (.iconst 0, 1) := by decide +kernel
theorem dX0_holds_29 : decode cX0_holds 29 = .ok (.ireturn, 1) := by decide +kernel
theorem dX0_placeOf_0 : decode cX0_placeOf 0 = .ok (.aload_n 0, 1) := by decide +kernel
theorem dX0_placeOf_1 : decode cX0_placeOf 1 = .ok (.getfield 9, 3) := by decide +kernel
theorem dX0_placeOf_4 : decode cX0_placeOf 4 = .ok (.iload_n 2, 1) := by decide +kernel
theorem dX0_placeOf_5 : decode cX0_placeOf 5 = .ok (.imul, 1) := by decide +kernel
theorem dX0_placeOf_6 : decode cX0_placeOf 6 = .ok (.iload_n 1, 1) := by decide +kernel
theorem dX0_placeOf_7 : decode cX0_placeOf 7 = .ok (.iadd, 1) := by decide +kernel
theorem dX0_placeOf_8 : decode cX0_placeOf 8 = .ok (.ireturn, 1) := by decide +kernel
theorem dX0_aimBlock_0 : decode cX0_aimBlock 0 = .ok (.iload_n 2, 1) := by decide +kernel
theorem dX0_aimBlock_1 : decode cX0_aimBlock 1 = .ok (.istore 6, 2) := by decide +kernel
theorem dX0_aimBlock_3 : decode cX0_aimBlock 3 = .ok (.iload 6, 2) := by decide +kernel
theorem dX0_aimBlock_5 : decode cX0_aimBlock 5 = .ok (.iload 4, 2) := by decide +kernel
theorem dX0_aimBlock_7 : decode cX0_aimBlock 7 = .ok (.if_icmp .gt 39, 3) := by decide +kernel
theorem dX0_aimBlock_10 : decode cX0_aimBlock 10 = .ok (.iload_n 1, 1) := by decide +kernel
theorem dX0_aimBlock_11 : decode cX0_aimBlock 11 = .ok (.istore 7, 2) := by decide +kernel
theorem dX0_aimBlock_13 : decode cX0_aimBlock 13 = .ok (.iload 7, 2) := by decide +kernel
theorem dX0_aimBlock_15 : decode cX0_aimBlock 15 = .ok (.iload_n 3, 1) := by decide +kernel
theorem dX0_aimBlock_16 : decode cX0_aimBlock 16 = .ok (.if_icmp .gt 24, 3) := by decide +kernel
theorem dX0_aimBlock_19 : decode cX0_aimBlock 19 = .ok (.aload_n 0, 1) := by decide +kernel
theorem dX0_aimBlock_20 : decode cX0_aimBlock 20 = .ok (.getfield 22, 3) := by decide +kernel
theorem dX0_aimBlock_23 : decode cX0_aimBlock 23 = .ok (.aload_n 0, 1) := by decide +kernel
theorem dX0_aimBlock_24 : decode cX0_aimBlock 24 = .ok (.iload 7, 2) := by decide +kernel
theorem dX0_aimBlock_26 : decode cX0_aimBlock 26 = .ok (.iload 6, 2) := by decide +kernel
theorem dX0_aimBlock_28 : decode cX0_aimBlock 28 = .ok (.invokevirtual 38, 3) := by decide +kernel
theorem dX0_aimBlock_31 : decode cX0_aimBlock 31 = .ok (.iload 5, 2) := by decide +kernel
theorem dX0_aimBlock_33 : decode cX0_aimBlock 33 = .ok (.iastore, 1) := by decide +kernel
theorem dX0_aimBlock_34 : decode cX0_aimBlock 34 = .ok (.iinc 7 1, 3) := by decide +kernel
theorem dX0_aimBlock_37 : decode cX0_aimBlock 37 = .ok (.goto (-24), 3) := by decide +kernel
theorem dX0_aimBlock_40 : decode cX0_aimBlock 40 = .ok (.iinc 6 1, 3) := by decide +kernel
theorem dX0_aimBlock_43 : decode cX0_aimBlock 43 = .ok (.goto (-40), 3) := by decide +kernel
theorem dX0_aimBlock_46 : decode cX0_aimBlock 46 = .ok (.return_, 1) := by decide +kernel
theorem dX0_guardBlock_0 : decode cX0_guardBlock 0 = .ok (.iload_n 2, 1) := by decide +kernel
theorem dX0_guardBlock_1 : decode cX0_guardBlock 1 = .ok (.istore 6, 2) := by decide +kernel
theorem dX0_guardBlock_3 : decode cX0_guardBlock 3 = .ok (.iload 6, 2) := by decide +kernel
theorem dX0_guardBlock_5 : decode cX0_guardBlock 5 = .ok (.iload 4, 2) := by decide +kernel
theorem dX0_guardBlock_7 : decode cX0_guardBlock 7 = .ok (.if_icmp .gt 39, 3) := by decide +kernel
theorem dX0_guardBlock_10 : decode cX0_guardBlock 10 = .ok (.iload_n 1, 1) := by decide +kernel
theorem dX0_guardBlock_11 : decode cX0_guardBlock 11 = .ok (.istore 7, 2) := by decide +kernel
theorem dX0_guardBlock_13 : decode cX0_guardBlock 13 = .ok (.iload 7, 2) := by decide +kernel
theorem dX0_guardBlock_15 : decode cX0_guardBlock 15 = .ok (.iload_n 3, 1) := by decide +kernel
theorem dX0_guardBlock_16 : decode cX0_guardBlock 16 = .ok (.if_icmp .gt 24, 3) := by decide +kernel
theorem dX0_guardBlock_19 : decode cX0_guardBlock 19 = .ok (.aload_n 0, 1) := by decide +kernel
theorem dX0_guardBlock_20 : decode cX0_guardBlock 20 = .ok (.getfield 25, 3) := by decide +kernel
theorem dX0_guardBlock_23 : decode cX0_guardBlock 23 = .ok (.aload_n 0, 1) := by decide +kernel
theorem dX0_guardBlock_24 : decode cX0_guardBlock 24 = .ok (.iload 7, 2) := by decide +kernel
theorem dX0_guardBlock_26 : decode cX0_guardBlock 26 = .ok (.iload 6, 2) := by decide +kernel
theorem dX0_guardBlock_28 : decode cX0_guardBlock 28 = .ok (.invokevirtual 38, 3) := by decide +kernel
theorem dX0_guardBlock_31 : decode cX0_guardBlock 31 = .ok (.iload 5, 2) := by decide +kernel
theorem dX0_guardBlock_33 : decode cX0_guardBlock 33 = .ok (.bastore, 1) := by decide +kernel
theorem dX0_guardBlock_34 : decode cX0_guardBlock 34 = .ok (.iinc 7 1, 3) := by decide +kernel
theorem dX0_guardBlock_37 : decode cX0_guardBlock 37 = .ok (.goto (-24), 3) := by decide +kernel
theorem dX0_guardBlock_40 : decode cX0_guardBlock 40 = .ok (.iinc 6 1, 3) := by decide +kernel
theorem dX0_guardBlock_43 : decode cX0_guardBlock 43 = .ok (.goto (-40), 3) := by decide +kernel
theorem dX0_guardBlock_46 : decode cX0_guardBlock 46 = .ok (.return_, 1) := by decide +kernel
theorem dX0_fillUp_0 : decode cX0_fillUp 0 = .ok (.iconst 0, 1) := by decide +kernel
theorem dX0_fillUp_1 : decode cX0_fillUp 1 = .ok (.istore_n 1, 1) := by decide +kernel
theorem dX0_fillUp_2 : decode cX0_fillUp 2 = .ok (.iload_n 1, 1) := by decide +kernel
theorem dX0_fillUp_3 : decode cX0_fillUp 3 = .ok (.aload_n 0, 1) := by decide +kernel
theorem dX0_fillUp_4 : decode cX0_fillUp 4 = .ok (.getfield 15, 3) := by decide +kernel
theorem dX0_fillUp_7 : decode cX0_fillUp 7 = .ok (.if_icmp .ge 17, 3) := by decide +kernel
theorem dX0_fillUp_10 : decode cX0_fillUp 10 = .ok (.aload_n 0, 1) := by decide +kernel
theorem dX0_fillUp_11 : decode cX0_fillUp 11 = .ok (.getfield 18, 3) := by decide +kernel
theorem dX0_fillUp_14 : decode cX0_fillUp 14 = .ok (.iload_n 1, 1) := by decide +kernel
theorem dX0_fillUp_15 : decode cX0_fillUp 15 = .ok (.bipush 100, 2) := by decide +kernel
theorem dX0_fillUp_17 : decode cX0_fillUp 17 = .ok (.iastore, 1) := by decide +kernel
theorem dX0_fillUp_18 : decode cX0_fillUp 18 = .ok (.iinc 1 1, 3) := by decide +kernel
theorem dX0_fillUp_21 : decode cX0_fillUp 21 = .ok (.goto (-19), 3) := by decide +kernel
theorem dX0_fillUp_24 : decode cX0_fillUp 24 = .ok (.return_, 1) := by decide +kernel
theorem dX0_isOff_0 : decode cX0_isOff 0 = .ok (.iload_n 2, 1) := by decide +kernel
theorem dX0_isOff_1 : decode cX0_isOff 1 = .ok (.ifCond .eq 26, 3) := by decide +kernel
theorem dX0_isOff_4 : decode cX0_isOff 4 = .ok (.aload_n 0, 1) := by decide +kernel
theorem dX0_isOff_5 : decode cX0_isOff 5 = .ok (.getfield 18, 3) := by decide +kernel
theorem dX0_isOff_8 : decode cX0_isOff 8 = .ok (.iload_n 1, 1) := by decide +kernel
theorem dX0_isOff_9 : decode cX0_isOff 9 = .ok (.iaload, 1) := by decide +kernel
theorem dX0_isOff_10 : decode cX0_isOff 10 = .ok (.aload_n 0, 1) := by decide +kernel
theorem dX0_isOff_11 : decode cX0_isOff 11 = .ok (.getfield 22, 3) := by decide +kernel
theorem dX0_isOff_14 : decode cX0_isOff 14 = .ok (.iload_n 1, 1) := by decide +kernel
theorem dX0_isOff_15 : decode cX0_isOff 15 = .ok (.iaload, 1) := by decide +kernel
theorem dX0_isOff_16 : decode cX0_isOff 16 = .ok (.if_icmp .le 7, 3) := by decide +kernel
theorem dX0_isOff_19 : decode cX0_isOff 19 = .ok (.iconst 1, 1) := by decide +kernel
theorem dX0_isOff_20 : decode cX0_isOff 20 = .ok (.goto 27, 3) := by decide +kernel
theorem dX0_isOff_23 : decode cX0_isOff 23 = .ok (.iconst 0, 1) := by decide +kernel
theorem dX0_isOff_24 : decode cX0_isOff 24 = .ok (.goto 23, 3) := by decide +kernel
theorem dX0_isOff_27 : decode cX0_isOff 27 = .ok (.aload_n 0, 1) := by decide +kernel
theorem dX0_isOff_28 : decode cX0_isOff 28 = .ok (.getfield 18, 3) := by decide +kernel
theorem dX0_isOff_31 : decode cX0_isOff 31 = .ok (.iload_n 1, 1) := by decide +kernel
theorem dX0_isOff_32 : decode cX0_isOff 32 = .ok (.iaload, 1) := by decide +kernel
theorem dX0_isOff_33 : decode cX0_isOff 33 = .ok (.aload_n 0, 1) := by decide +kernel
theorem dX0_isOff_34 : decode cX0_isOff 34 = .ok (.getfield 22, 3) := by decide +kernel
theorem dX0_isOff_37 : decode cX0_isOff 37 = .ok (.iload_n 1, 1) := by decide +kernel
theorem dX0_isOff_38 : decode cX0_isOff 38 = .ok (.iaload, 1) := by decide +kernel
theorem dX0_isOff_39 : decode cX0_isOff 39 = .ok (.if_icmp .ge 7, 3) := by decide +kernel
theorem dX0_isOff_42 : decode cX0_isOff 42 = .ok (.iconst 1, 1) := by decide +kernel
theorem dX0_isOff_43 : decode cX0_isOff 43 = .ok (.goto 4, 3) := by decide +kernel
theorem dX0_isOff_46 : decode cX0_isOff 46 = .ok (.iconst 0, 1) := by decide +kernel
theorem dX0_isOff_47 : decode cX0_isOff 47 = .ok (.ireturn, 1) := by decide +kernel
theorem dX0_countOff_0 : decode cX0_countOff 0 = .ok (.iconst 0, 1) := by decide +kernel
theorem dX0_countOff_1 : decode cX0_countOff 1 = .ok (.istore_n 2, 1) := by decide +kernel
theorem dX0_countOff_2 : decode cX0_countOff 2 = .ok (.iconst 0, 1) := by decide +kernel
theorem dX0_countOff_3 : decode cX0_countOff 3 = .ok (.istore_n 3, 1) := by decide +kernel
theorem dX0_countOff_4 : decode cX0_countOff 4 = .ok (.iload_n 3, 1) := by decide +kernel
theorem dX0_countOff_5 : decode cX0_countOff 5 = .ok (.aload_n 0, 1) := by decide +kernel
theorem dX0_countOff_6 : decode cX0_countOff 6 = .ok (.getfield 15, 3) := by decide +kernel
theorem dX0_countOff_9 : decode cX0_countOff 9 = .ok (.if_icmp .ge 21, 3) := by decide +kernel
theorem dX0_countOff_12 : decode cX0_countOff 12 = .ok (.aload_n 0, 1) := by decide +kernel
theorem dX0_countOff_13 : decode cX0_countOff 13 = .ok (.iload_n 3, 1) := by decide +kernel
theorem dX0_countOff_14 : decode cX0_countOff 14 = .ok (.iload_n 1, 1) := by decide +kernel
theorem dX0_countOff_15 : decode cX0_countOff 15 = .ok (.invokevirtual 42, 3) := by decide +kernel
theorem dX0_countOff_18 : decode cX0_countOff 18 = .ok (.ifCond .eq 6, 3) := by decide +kernel
theorem dX0_countOff_21 : decode cX0_countOff 21 = .ok (.iinc 2 1, 3) := by decide +kernel
theorem dX0_countOff_24 : decode cX0_countOff 24 = .ok (.iinc 3 1, 3) := by decide +kernel
theorem dX0_countOff_27 : decode cX0_countOff 27 = .ok (.goto (-23), 3) := by decide +kernel
theorem dX0_countOff_30 : decode cX0_countOff 30 = .ok (.iload_n 2, 1) := by decide +kernel
theorem dX0_countOff_31 : decode cX0_countOff 31 = .ok (.ireturn, 1) := by decide +kernel
theorem dX0_firstOff_0 : decode cX0_firstOff 0 = .ok (.iconst 0, 1) := by decide +kernel
theorem dX0_firstOff_1 : decode cX0_firstOff 1 = .ok (.istore_n 2, 1) := by decide +kernel
theorem dX0_firstOff_2 : decode cX0_firstOff 2 = .ok (.iload_n 2, 1) := by decide +kernel
theorem dX0_firstOff_3 : decode cX0_firstOff 3 = .ok (.aload_n 0, 1) := by decide +kernel
theorem dX0_firstOff_4 : decode cX0_firstOff 4 = .ok (.getfield 15, 3) := by decide +kernel
theorem dX0_firstOff_7 : decode cX0_firstOff 7 = .ok (.if_icmp .ge 20, 3) := by decide +kernel
theorem dX0_firstOff_10 : decode cX0_firstOff 10 = .ok (.aload_n 0, 1) := by decide +kernel
theorem dX0_firstOff_11 : decode cX0_firstOff 11 = .ok (.iload_n 2, 1) := by decide +kernel
theorem dX0_firstOff_12 : decode cX0_firstOff 12 = .ok (.iload_n 1, 1) := by decide +kernel
theorem dX0_firstOff_13 : decode cX0_firstOff 13 = .ok (.invokevirtual 42, 3) := by decide +kernel
theorem dX0_firstOff_16 : decode cX0_firstOff 16 = .ok (.ifCond .eq 5, 3) := by decide +kernel
theorem dX0_firstOff_19 : decode cX0_firstOff 19 = .ok (.iload_n 2, 1) := by decide +kernel
theorem dX0_firstOff_20 : decode cX0_firstOff 20 = .ok (.ireturn, 1) := by decide +kernel
theorem dX0_firstOff_21 : decode cX0_firstOff 21 = .ok (.iinc 2 1, 3) := by decide +kernel
theorem dX0_firstOff_24 : decode cX0_firstOff 24 = .ok (.goto (-22), 3) := by decide +kernel
theorem dX0_firstOff_27 : decode cX0_firstOff 27 = .ok (.iconst (-1), 1) := by decide +kernel
theorem dX0_firstOff_28 : decode cX0_firstOff 28 = .ok (.ireturn, 1) := by decide +kernel
theorem dX0_layDisc_0 : decode cX0_layDisc 0 = .ok (.aload_n 0, 1) := by decide +kernel
theorem dX0_layDisc_1 : decode cX0_layDisc 1 = .ok (.iconst 0, 1) := by decide +kernel
theorem dX0_layDisc_2 : decode cX0_layDisc 2 = .ok (.putfield 35, 3) := by decide +kernel
theorem dX0_layDisc_5 : decode cX0_layDisc 5 = .ok (.aload_n 0, 1) := by decide +kernel
theorem dX0_layDisc_6 : decode cX0_layDisc 6 = .ok (.getfield 9, 3) := by decide +kernel
theorem dX0_layDisc_9 : decode cX0_layDisc 9 = .ok (.iconst 1, 1) := by decide +kernel
theorem dX0_layDisc_10 : decode cX0_layDisc 10 = .ok (.isub, 1) := by decide +kernel
theorem dX0_layDisc_11 : decode cX0_layDisc 11 = .ok (.iload_n 3, 1) := by decide +kernel
theorem dX0_layDisc_12 : decode cX0_layDisc 12 = .ok (.aload_n 1, 1) := by decide +kernel
theorem dX0_layDisc_13 : decode cX0_layDisc 13 = .ok (.getfield 46, 3) := by decide +kernel
theorem dX0_layDisc_16 : decode cX0_layDisc 16 = .ok (.iadd, 1) := by decide +kernel
theorem dX0_layDisc_17 : decode cX0_layDisc 17 = .ok (.invokestatic 51, 3) := by decide +kernel
theorem dX0_layDisc_20 : decode cX0_layDisc 20 = .ok (.istore 4, 2) := by decide +kernel
theorem dX0_layDisc_22 : decode cX0_layDisc 22 = .ok (.iconst 0, 1) := by decide +kernel
theorem dX0_layDisc_23 : decode cX0_layDisc 23 = .ok (.iload_n 3, 1) := by decide +kernel
theorem dX0_layDisc_24 : decode cX0_layDisc 24 = .ok (.aload_n 1, 1) := by decide +kernel
theorem dX0_layDisc_25 : decode cX0_layDisc 25 = .ok (.getfield 46, 3) := by decide +kernel
theorem dX0_layDisc_28 : decode cX0_layDisc 28 = .ok (.isub, 1) := by decide +kernel
theorem dX0_layDisc_29 : decode cX0_layDisc 29 = .ok (.invokestatic 56, 3) := by decide +kernel
theorem dX0_layDisc_32 : decode cX0_layDisc 32 = .ok (.istore 5, 2) := by decide +kernel
theorem dX0_layDisc_34 : decode cX0_layDisc 34 = .ok (.iload 5, 2) := by decide +kernel
theorem dX0_layDisc_36 : decode cX0_layDisc 36 = .ok (.iload 4, 2) := by decide +kernel
theorem dX0_layDisc_38 : decode cX0_layDisc 38 = .ok (.if_icmp .gt 88, 3) := by decide +kernel
theorem dX0_layDisc_41 : decode cX0_layDisc 41 = .ok (.aload_n 1, 1) := by decide +kernel
theorem dX0_layDisc_42 : decode cX0_layDisc 42 = .ok (.getfield 59, 3) := by decide +kernel
theorem dX0_layDisc_45 : decode cX0_layDisc 45 = .ok (.iload 5, 2) := by decide +kernel
theorem dX0_layDisc_47 : decode cX0_layDisc 47 = .ok (.iload_n 3, 1) := by decide +kernel
theorem dX0_layDisc_48 : decode cX0_layDisc 48 = .ok (.isub, 1) := by decide +kernel
theorem dX0_layDisc_49 : decode cX0_layDisc 49 = .ok (.invokestatic 62, 3) := by decide +kernel
theorem dX0_layDisc_52 : decode cX0_layDisc 52 = .ok (.iaload, 1) := by decide +kernel
theorem dX0_layDisc_53 : decode cX0_layDisc 53 = .ok (.istore 6, 2) := by decide +kernel
theorem dX0_layDisc_55 : decode cX0_layDisc 55 = .ok (.aload_n 0, 1) := by decide +kernel
theorem dX0_layDisc_56 : decode cX0_layDisc 56 = .ok (.getfield 9, 3) := by decide +kernel
theorem dX0_layDisc_59 : decode cX0_layDisc 59 = .ok (.iconst 1, 1) := by decide +kernel
theorem dX0_layDisc_60 : decode cX0_layDisc 60 = .ok (.isub, 1) := by decide +kernel
theorem dX0_layDisc_61 : decode cX0_layDisc 61 = .ok (.iload_n 2, 1) := by decide +kernel
theorem dX0_layDisc_62 : decode cX0_layDisc 62 = .ok (.iload 6, 2) := by decide +kernel
theorem dX0_layDisc_64 : decode cX0_layDisc 64 = .ok (.iadd, 1) := by decide +kernel
theorem dX0_layDisc_65 : decode cX0_layDisc 65 = .ok (.invokestatic 51, 3) := by decide +kernel
theorem dX0_layDisc_68 : decode cX0_layDisc 68 = .ok (.istore 7, 2) := by decide +kernel
theorem dX0_layDisc_70 : decode cX0_layDisc 70 = .ok (.iconst 0, 1) := by decide +kernel
theorem dX0_layDisc_71 : decode cX0_layDisc 71 = .ok (.iload_n 2, 1) := by decide +kernel
theorem dX0_layDisc_72 : decode cX0_layDisc 72 = .ok (.iload 6, 2) := by decide +kernel
theorem dX0_layDisc_74 : decode cX0_layDisc 74 = .ok (.isub, 1) := by decide +kernel
theorem dX0_layDisc_75 : decode cX0_layDisc 75 = .ok (.invokestatic 56, 3) := by decide +kernel
theorem dX0_layDisc_78 : decode cX0_layDisc 78 = .ok (.istore 8, 2) := by decide +kernel
theorem dX0_layDisc_80 : decode cX0_layDisc 80 = .ok (.iload 8, 2) := by decide +kernel
theorem dX0_layDisc_82 : decode cX0_layDisc 82 = .ok (.iload 7, 2) := by decide +kernel
theorem dX0_layDisc_84 : decode cX0_layDisc 84 = .ok (.if_icmp .gt 36, 3) := by decide +kernel
theorem dX0_layDisc_87 : decode cX0_layDisc 87 = .ok (.aload_n 0, 1) := by decide +kernel
theorem dX0_layDisc_88 : decode cX0_layDisc 88 = .ok (.getfield 32, 3) := by decide +kernel
theorem dX0_layDisc_91 : decode cX0_layDisc 91 = .ok (.aload_n 0, 1) := by decide +kernel
theorem dX0_layDisc_92 : decode cX0_layDisc 92 = .ok (.getfield 35, 3) := by decide +kernel
theorem dX0_layDisc_95 : decode cX0_layDisc 95 = .ok (.aload_n 0, 1) := by decide +kernel
theorem dX0_layDisc_96 : decode cX0_layDisc 96 = .ok (.iload 8, 2) := by decide +kernel
theorem dX0_layDisc_98 : decode cX0_layDisc 98 = .ok (.iload 5, 2) := by decide +kernel
theorem dX0_layDisc_100 : decode cX0_layDisc 100 = .ok (.invokevirtual 38, 3) := by decide +kernel
theorem dX0_layDisc_103 : decode cX0_layDisc 103 = .ok (.iastore, 1) := by decide +kernel
theorem dX0_layDisc_104 : decode cX0_layDisc 104 = .ok (.aload_n 0, 1) := by decide +kernel
theorem dX0_layDisc_105 : decode cX0_layDisc 105 = .ok (.dup, 1) := by decide +kernel
theorem dX0_layDisc_106 : decode cX0_layDisc 106 = .ok (.getfield 35, 3) := by decide +kernel
theorem dX0_layDisc_109 : decode cX0_layDisc 109 = .ok (.iconst 1, 1) := by decide +kernel
theorem dX0_layDisc_110 : decode cX0_layDisc 110 = .ok (.iadd, 1) := by decide +kernel
theorem dX0_layDisc_111 : decode cX0_layDisc 111 = .ok (.putfield 35, 3) := by decide +kernel
theorem dX0_layDisc_114 : decode cX0_layDisc 114 = .ok (.iinc 8 1, 3) := by decide +kernel
theorem dX0_layDisc_117 : decode cX0_layDisc 117 = .ok (.goto (-37), 3) := by decide +kernel
theorem dX0_layDisc_120 : decode cX0_layDisc 120 = .ok (.iinc 5 1, 3) := by decide +kernel
theorem dX0_layDisc_123 : decode cX0_layDisc 123 = .ok (.goto (-89), 3) := by decide +kernel
theorem dX0_layDisc_126 : decode cX0_layDisc 126 = .ok (.return_, 1) := by decide +kernel
theorem dX0_discRisesAbove_0 : decode cX0_discRisesAbove 0 = .ok (.iconst 0, 1) := by decide +kernel
theorem dX0_discRisesAbove_1 : decode cX0_discRisesAbove 1 = .ok (.istore_n 2, 1) := by decide +kernel
theorem dX0_discRisesAbove_2 : decode cX0_discRisesAbove 2 = .ok (.iload_n 2, 1) := by decide +kernel
theorem dX0_discRisesAbove_3 : decode cX0_discRisesAbove 3 = .ok (.aload_n 0, 1) := by decide +kernel
theorem dX0_discRisesAbove_4 : decode cX0_discRisesAbove 4 = .ok (.getfield 35, 3) := by decide +kernel
theorem dX0_discRisesAbove_7 : decode cX0_discRisesAbove 7 = .ok (.if_icmp .ge 26, 3) := by decide +kernel
theorem dX0_discRisesAbove_10 : decode cX0_discRisesAbove 10 = .ok (.aload_n 0, 1) := by decide +kernel
theorem dX0_discRisesAbove_11 : decode cX0_discRisesAbove 11 = .ok (.getfield 18, 3) := by decide +kernel
theorem dX0_discRisesAbove_14 : decode cX0_discRisesAbove 14 = .ok (.aload_n 0, 1) := by decide +kernel
theorem dX0_discRisesAbove_15 : decode cX0_discRisesAbove 15 = .ok (.getfield 32, 3) := by decide +kernel
theorem dX0_discRisesAbove_18 : decode cX0_discRisesAbove 18 = .ok (.iload_n 2, 1) := by decide +kernel
theorem dX0_discRisesAbove_19 : decode cX0_discRisesAbove 19 = .ok (.iaload, 1) := by decide +kernel
theorem dX0_discRisesAbove_20 : decode cX0_discRisesAbove 20 = .ok (.iaload, 1) := by decide +kernel
theorem dX0_discRisesAbove_21 : decode cX0_discRisesAbove 21 = .ok (.iload_n 1, 1) := by decide +kernel
theorem dX0_discRisesAbove_22 : decode cX0_discRisesAbove 22 = .ok (.if_icmp .le 5, 3) := by decide +kernel
theorem dX0_discRisesAbove_25 : decode cX0_discRisesAbove 25 = .ok (.iconst 1, 1) := by decide +kernel
theorem dX0_discRisesAbove_26 : decode cX0_discRisesAbove 26 = .ok (.ireturn, 1) := by decide +kernel
theorem dX0_discRisesAbove_27 : decode cX0_discRisesAbove 27 = .ok (.iinc 2 1, 3) := by decide +kernel
theorem dX0_discRisesAbove_30 : decode cX0_discRisesAbove 30 = .ok (.goto (-28), 3) := by decide +kernel
theorem dX0_discRisesAbove_33 : decode cX0_discRisesAbove 33 = .ok (.iconst 0, 1) := by decide +kernel
theorem dX0_discRisesAbove_34 : decode cX0_discRisesAbove 34 = .ok (.ireturn, 1) := by decide +kernel
theorem dX0_discHasKeptAbove_0 : decode cX0_discHasKeptAbove 0 = .ok (.iconst 0, 1) := by decide +kernel
theorem dX0_discHasKeptAbove_1 : decode cX0_discHasKeptAbove 1 = .ok (.istore_n 2, 1) := by decide +kernel
theorem dX0_discHasKeptAbove_2 : decode cX0_discHasKeptAbove 2 = .ok (.iload_n 2, 1) := by decide +kernel
theorem dX0_discHasKeptAbove_3 : decode cX0_discHasKeptAbove 3 = .ok (.aload_n 0, 1) := by decide +kernel
theorem dX0_discHasKeptAbove_4 : decode cX0_discHasKeptAbove 4 = .ok (.getfield 35, 3) := by decide +kernel
theorem dX0_discHasKeptAbove_7 : decode cX0_discHasKeptAbove 7 = .ok (.if_icmp .ge 40, 3) := by decide +kernel
theorem dX0_discHasKeptAbove_10 : decode cX0_discHasKeptAbove 10 = .ok (.aload_n 0, 1) := by decide +kernel
theorem dX0_discHasKeptAbove_11 : decode cX0_discHasKeptAbove 11 = .ok (.getfield 25, 3) := by decide +kernel
theorem dX0_discHasKeptAbove_14 : decode cX0_discHasKeptAbove 14 = .ok (.aload_n 0, 1) := by decide +kernel
theorem dX0_discHasKeptAbove_15 : decode cX0_discHasKeptAbove 15 = .ok (.getfield 32, 3) := by decide +kernel
theorem dX0_discHasKeptAbove_18 : decode cX0_discHasKeptAbove 18 = .ok (.iload_n 2, 1) := by decide +kernel
theorem dX0_discHasKeptAbove_19 : decode cX0_discHasKeptAbove 19 = .ok (.iaload, 1) := by decide +kernel
theorem dX0_discHasKeptAbove_20 : decode cX0_discHasKeptAbove 20 = .ok (.baload, 1) := by decide +kernel
theorem dX0_discHasKeptAbove_21 : decode cX0_discHasKeptAbove 21 = .ok (.ifCond .eq 20, 3) := by decide +kernel
theorem dX0_discHasKeptAbove_24 : decode cX0_discHasKeptAbove 24 = .ok (.aload_n 0, 1) := by decide +kernel
theorem dX0_discHasKeptAbove_25 : decode cX0_discHasKeptAbove 25 = .ok (.getfield 18, 3) := by decide +kernel
theorem dX0_discHasKeptAbove_28 : decode cX0_discHasKeptAbove 28 = .ok (.aload_n 0, 1) := by decide +kernel
theorem dX0_discHasKeptAbove_29 : decode cX0_discHasKeptAbove 29 = .ok (.getfield 32, 3) := by decide +kernel
theorem dX0_discHasKeptAbove_32 : decode cX0_discHasKeptAbove 32 = .ok (.iload_n 2, 1) := by decide +kernel
theorem dX0_discHasKeptAbove_33 : decode cX0_discHasKeptAbove 33 = .ok (.iaload, 1) := by decide +kernel
theorem dX0_discHasKeptAbove_34 : decode cX0_discHasKeptAbove 34 = .ok (.iaload, 1) := by decide +kernel
theorem dX0_discHasKeptAbove_35 : decode cX0_discHasKeptAbove 35 = .ok (.iload_n 1, 1) := by decide +kernel
theorem dX0_discHasKeptAbove_36 : decode cX0_discHasKeptAbove 36 = .ok (.if_icmp .le 5, 3) := by decide +kernel
theorem dX0_discHasKeptAbove_39 : decode cX0_discHasKeptAbove 39 = .ok (.iconst 1, 1) := by decide +kernel
theorem dX0_discHasKeptAbove_40 : decode cX0_discHasKeptAbove 40 = .ok (.ireturn, 1) := by decide +kernel
theorem dX0_discHasKeptAbove_41 : decode cX0_discHasKeptAbove 41 = .ok (.iinc 2 1, 3) := by decide +kernel
theorem dX0_discHasKeptAbove_44 : decode cX0_discHasKeptAbove 44 = .ok (.goto (-42), 3) := by decide +kernel
theorem dX0_discHasKeptAbove_47 : decode cX0_discHasKeptAbove 47 = .ok (.iconst 0, 1) := by decide +kernel
theorem dX0_discHasKeptAbove_48 : decode cX0_discHasKeptAbove 48 = .ok (.ireturn, 1) := by decide +kernel
theorem dX0_lowerDisc_0 : decode cX0_lowerDisc 0 = .ok (.iconst 0, 1) := by decide +kernel
theorem dX0_lowerDisc_1 : decode cX0_lowerDisc 1 = .ok (.istore_n 2, 1) := by decide +kernel
theorem dX0_lowerDisc_2 : decode cX0_lowerDisc 2 = .ok (.iconst 0, 1) := by decide +kernel
theorem dX0_lowerDisc_3 : decode cX0_lowerDisc 3 = .ok (.istore_n 3, 1) := by decide +kernel
theorem dX0_lowerDisc_4 : decode cX0_lowerDisc 4 = .ok (.iload_n 3, 1) := by decide +kernel
theorem dX0_lowerDisc_5 : decode cX0_lowerDisc 5 = .ok (.aload_n 0, 1) := by decide +kernel
theorem dX0_lowerDisc_6 : decode cX0_lowerDisc 6 = .ok (.getfield 35, 3) := by decide +kernel
theorem dX0_lowerDisc_9 : decode cX0_lowerDisc 9 = .ok (.if_icmp .ge 39, 3) := by decide +kernel
theorem dX0_lowerDisc_12 : decode cX0_lowerDisc 12 = .ok (.aload_n 0, 1) := by decide +kernel
theorem dX0_lowerDisc_13 : decode cX0_lowerDisc 13 = .ok (.getfield 18, 3) := by decide +kernel
theorem dX0_lowerDisc_16 : decode cX0_lowerDisc 16 = .ok (.aload_n 0, 1) := by decide +kernel
theorem dX0_lowerDisc_17 : decode cX0_lowerDisc 17 = .ok (.getfield 32, 3) := by decide +kernel
theorem dX0_lowerDisc_20 : decode cX0_lowerDisc 20 = .ok (.iload_n 3, 1) := by decide +kernel
theorem dX0_lowerDisc_21 : decode cX0_lowerDisc 21 = .ok (.iaload, 1) := by decide +kernel
theorem dX0_lowerDisc_22 : decode cX0_lowerDisc 22 = .ok (.iaload, 1) := by decide +kernel
theorem dX0_lowerDisc_23 : decode cX0_lowerDisc 23 = .ok (.iload_n 1, 1) := by decide +kernel
theorem dX0_lowerDisc_24 : decode cX0_lowerDisc 24 = .ok (.if_icmp .le 18, 3) := by decide +kernel
theorem dX0_lowerDisc_27 : decode cX0_lowerDisc 27 = .ok (.aload_n 0, 1) := by decide +kernel
theorem dX0_lowerDisc_28 : decode cX0_lowerDisc 28 = .ok (.getfield 18, 3) := by decide +kernel
theorem dX0_lowerDisc_31 : decode cX0_lowerDisc 31 = .ok (.aload_n 0, 1) := by decide +kernel
theorem dX0_lowerDisc_32 : decode cX0_lowerDisc 32 = .ok (.getfield 32, 3) := by decide +kernel
theorem dX0_lowerDisc_35 : decode cX0_lowerDisc 35 = .ok (.iload_n 3, 1) := by decide +kernel
theorem dX0_lowerDisc_36 : decode cX0_lowerDisc 36 = .ok (.iaload, 1) := by decide +kernel
theorem dX0_lowerDisc_37 : decode cX0_lowerDisc 37 = .ok (.iload_n 1, 1) := by decide +kernel
theorem dX0_lowerDisc_38 : decode cX0_lowerDisc 38 = .ok (.iastore, 1) := by decide +kernel
theorem dX0_lowerDisc_39 : decode cX0_lowerDisc 39 = .ok (.iinc 2 1, 3) := by decide +kernel
theorem dX0_lowerDisc_42 : decode cX0_lowerDisc 42 = .ok (.iinc 3 1, 3) := by decide +kernel
theorem dX0_lowerDisc_45 : decode cX0_lowerDisc 45 = .ok (.goto (-41), 3) := by decide +kernel
theorem dX0_lowerDisc_48 : decode cX0_lowerDisc 48 = .ok (.iload_n 2, 1) := by decide +kernel
theorem dX0_lowerDisc_49 : decode cX0_lowerDisc 49 = .ok (.ireturn, 1) := by decide +kernel
theorem dX0_countReached_0 : decode cX0_countReached 0 = .ok (.iconst 0, 1) := by decide +kernel
theorem dX0_countReached_1 : decode cX0_countReached 1 = .ok (.istore_n 2, 1) := by decide +kernel
theorem dX0_countReached_2 : decode cX0_countReached 2 = .ok (.iload_n 2, 1) := by decide +kernel
theorem dX0_countReached_3 : decode cX0_countReached 3 = .ok (.aload_n 0, 1) := by decide +kernel
theorem dX0_countReached_4 : decode cX0_countReached 4 = .ok (.getfield 15, 3) := by decide +kernel
theorem dX0_countReached_7 : decode cX0_countReached 7 = .ok (.if_icmp .ge 16, 3) := by decide +kernel
theorem dX0_countReached_10 : decode cX0_countReached 10 = .ok (.aload_n 0, 1) := by decide +kernel
theorem dX0_countReached_11 : decode cX0_countReached 11 = .ok (.getfield 29, 3) := by decide +kernel
theorem dX0_countReached_14 : decode cX0_countReached 14 = .ok (.iload_n 2, 1) := by decide +kernel
theorem dX0_countReached_15 : decode cX0_countReached 15 = .ok (.iconst 0, 1) := by decide +kernel
theorem dX0_countReached_16 : decode cX0_countReached 16 = .ok (.bastore, 1) := by decide +kernel
theorem dX0_countReached_17 : decode cX0_countReached 17 = .ok (.iinc 2 1, 3) := by decide +kernel
theorem dX0_countReached_20 : decode cX0_countReached 20 = .ok (.goto (-18), 3) := by decide +kernel
theorem dX0_countReached_23 : decode cX0_countReached 23 = .ok (.iconst 0, 1) := by decide +kernel
theorem dX0_countReached_24 : decode cX0_countReached 24 = .ok (.istore_n 2, 1) := by decide +kernel
theorem dX0_countReached_25 : decode cX0_countReached 25 = .ok (.iconst 0, 1) := by decide +kernel
theorem dX0_countReached_26 : decode cX0_countReached 26 = .ok (.istore_n 3, 1) := by decide +kernel
theorem dX0_countReached_27 : decode cX0_countReached 27 = .ok (.iload_n 3, 1) := by decide +kernel
theorem dX0_countReached_28 : decode cX0_countReached 28 = .ok (.aload_n 0, 1) := by decide +kernel
theorem dX0_countReached_29 : decode cX0_countReached 29 = .ok (.getfield 9, 3) := by decide +kernel
theorem dX0_countReached_32 : decode cX0_countReached 32 = .ok (.if_icmp .ge 53, 3) := by decide +kernel
theorem dX0_countReached_35 : decode cX0_countReached 35 = .ok (.iconst 0, 1) := by decide +kernel
theorem dX0_countReached_36 : decode cX0_countReached 36 = .ok (.istore 4, 2) := by decide +kernel
theorem dX0_countReached_38 : decode cX0_countReached 38 = .ok (.iload 4, 2) := by decide +kernel
theorem dX0_countReached_40 : decode cX0_countReached 40 = .ok (.aload_n 0, 1) := by decide +kernel
theorem dX0_countReached_41 : decode cX0_countReached 41 = .ok (.getfield 9, 3) := by decide +kernel
theorem dX0_countReached_44 : decode cX0_countReached 44 = .ok (.if_icmp .ge 35, 3) := by decide +kernel
theorem dX0_countReached_47 : decode cX0_countReached 47 = .ok (.aload_n 0, 1) := by decide +kernel
theorem dX0_countReached_48 : decode cX0_countReached 48 = .ok (.aload_n 1, 1) := by decide +kernel
theorem dX0_countReached_49 : decode cX0_countReached 49 = .ok (.iload 4, 2) := by decide +kernel
theorem dX0_countReached_51 : decode cX0_countReached 51 = .ok (.iload_n 3, 1) := by decide +kernel
theorem dX0_countReached_52 : decode cX0_countReached 52 = .ok (.invokevirtual 66, 3) := by decide +kernel
theorem dX0_countReached_55 : decode cX0_countReached 55 = .ok (.aload_n 0, 1) := by decide +kernel
theorem dX0_countReached_56 : decode cX0_countReached 56 = .ok (.invokevirtual 70, 3) := by decide +kernel
theorem dX0_countReached_59 : decode cX0_countReached 59 = .ok (.ifCond .ne 14, 3) := by decide +kernel
theorem dX0_countReached_62 : decode cX0_countReached 62 = .ok (.iload_n 2, 1) := by decide +kernel
theorem dX0_countReached_63 : decode cX0_countReached 63 = .ok (.aload_n 0, 1) := by decide +kernel
theorem dX0_countReached_64 : decode cX0_countReached 64 = .ok (.aload_n 0, 1) := by decide +kernel
theorem dX0_countReached_65 : decode cX0_countReached 65 = .ok (.invokevirtual 74, 3) := by decide +kernel
theorem dX0_countReached_68 : decode cX0_countReached 68 = .ok (.invokevirtual 78, 3) := by decide +kernel
theorem dX0_countReached_71 : decode cX0_countReached 71 = .ok (.iadd, 1) := by decide +kernel
theorem dX0_countReached_72 : decode cX0_countReached 72 = .ok (.istore_n 2, 1) := by decide +kernel
theorem dX0_countReached_73 : decode cX0_countReached 73 = .ok (.iinc 4 1, 3) := by decide +kernel
theorem dX0_countReached_76 : decode cX0_countReached 76 = .ok (.goto (-38), 3) := by decide +kernel
theorem dX0_countReached_79 : decode cX0_countReached 79 = .ok (.iinc 3 1, 3) := by decide +kernel
theorem dX0_countReached_82 : decode cX0_countReached 82 = .ok (.goto (-55), 3) := by decide +kernel
theorem dX0_countReached_85 : decode cX0_countReached 85 = .ok (.iload_n 2, 1) := by decide +kernel
theorem dX0_countReached_86 : decode cX0_countReached 86 = .ok (.ireturn, 1) := by decide +kernel
theorem dX0_discHasKept_0 : decode cX0_discHasKept 0 = .ok (.iconst 0, 1) := by decide +kernel
theorem dX0_discHasKept_1 : decode cX0_discHasKept 1 = .ok (.istore_n 1, 1) := by decide +kernel
theorem dX0_discHasKept_2 : decode cX0_discHasKept 2 = .ok (.iload_n 1, 1) := by decide +kernel
theorem dX0_discHasKept_3 : decode cX0_discHasKept 3 = .ok (.aload_n 0, 1) := by decide +kernel
theorem dX0_discHasKept_4 : decode cX0_discHasKept 4 = .ok (.getfield 35, 3) := by decide +kernel
theorem dX0_discHasKept_7 : decode cX0_discHasKept 7 = .ok (.if_icmp .ge 25, 3) := by decide +kernel
theorem dX0_discHasKept_10 : decode cX0_discHasKept 10 = .ok (.aload_n 0, 1) := by decide +kernel
theorem dX0_discHasKept_11 : decode cX0_discHasKept 11 = .ok (.getfield 25, 3) := by decide +kernel
theorem dX0_discHasKept_14 : decode cX0_discHasKept 14 = .ok (.aload_n 0, 1) := by decide +kernel
theorem dX0_discHasKept_15 : decode cX0_discHasKept 15 = .ok (.getfield 32, 3) := by decide +kernel
theorem dX0_discHasKept_18 : decode cX0_discHasKept 18 = .ok (.iload_n 1, 1) := by decide +kernel
theorem dX0_discHasKept_19 : decode cX0_discHasKept 19 = .ok (.iaload, 1) := by decide +kernel
theorem dX0_discHasKept_20 : decode cX0_discHasKept 20 = .ok (.baload, 1) := by decide +kernel
theorem dX0_discHasKept_21 : decode cX0_discHasKept 21 = .ok (.ifCond .eq 5, 3) := by decide +kernel
theorem dX0_discHasKept_24 : decode cX0_discHasKept 24 = .ok (.iconst 1, 1) := by decide +kernel
theorem dX0_discHasKept_25 : decode cX0_discHasKept 25 = .ok (.ireturn, 1) := by decide +kernel
theorem dX0_discHasKept_26 : decode cX0_discHasKept 26 = .ok (.iinc 1 1, 3) := by decide +kernel
theorem dX0_discHasKept_29 : decode cX0_discHasKept 29 = .ok (.goto (-27), 3) := by decide +kernel
theorem dX0_discHasKept_32 : decode cX0_discHasKept 32 = .ok (.iconst 0, 1) := by decide +kernel
theorem dX0_discHasKept_33 : decode cX0_discHasKept 33 = .ok (.ireturn, 1) := by decide +kernel
theorem dX0_highestTargetInDisc_0 : decode cX0_highestTargetInDisc 0 = .ok (.iconst 0, 1) := by decide +kernel
theorem dX0_highestTargetInDisc_1 : decode cX0_highestTargetInDisc 1 = .ok (.istore_n 1, 1) := by decide +kernel
theorem dX0_highestTargetInDisc_2 : decode cX0_highestTargetInDisc 2 = .ok (.iconst 0, 1) := by decide +kernel
theorem dX0_highestTargetInDisc_3 : decode cX0_highestTargetInDisc 3 = .ok (.istore_n 2, 1) := by decide +kernel
theorem dX0_highestTargetInDisc_4 : decode cX0_highestTargetInDisc 4 = .ok (.iload_n 2, 1) := by decide +kernel
theorem dX0_highestTargetInDisc_5 : decode cX0_highestTargetInDisc 5 = .ok (.aload_n 0, 1) := by decide +kernel
theorem dX0_highestTargetInDisc_6 : decode cX0_highestTargetInDisc 6 = .ok (.getfield 35, 3) := by decide +kernel
theorem dX0_highestTargetInDisc_9 : decode cX0_highestTargetInDisc 9 = .ok (.if_icmp .ge 25, 3) := by decide +kernel
theorem dX0_highestTargetInDisc_12 : decode cX0_highestTargetInDisc 12 = .ok (.iload_n 1, 1) := by decide +kernel
theorem dX0_highestTargetInDisc_13 : decode cX0_highestTargetInDisc 13 = .ok (.aload_n 0, 1) := by decide +kernel
theorem dX0_highestTargetInDisc_14 : decode cX0_highestTargetInDisc 14 = .ok (.getfield 22, 3) := by decide +kernel
theorem dX0_highestTargetInDisc_17 : decode cX0_highestTargetInDisc 17 = .ok (.aload_n 0, 1) := by decide +kernel
theorem dX0_highestTargetInDisc_18 : decode cX0_highestTargetInDisc 18 = .ok (.getfield 32, 3) := by decide +kernel
theorem dX0_highestTargetInDisc_21 : decode cX0_highestTargetInDisc 21 = .ok (.iload_n 2, 1) := by decide +kernel
theorem dX0_highestTargetInDisc_22 : decode cX0_highestTargetInDisc 22 = .ok (.iaload, 1) := by decide +kernel
theorem dX0_highestTargetInDisc_23 : decode cX0_highestTargetInDisc 23 = .ok (.iaload, 1) := by decide +kernel
theorem dX0_highestTargetInDisc_24 : decode cX0_highestTargetInDisc 24 = .ok (.invokestatic 56, 3) := by decide +kernel
theorem dX0_highestTargetInDisc_27 : decode cX0_highestTargetInDisc 27 = .ok (.istore_n 1, 1) := by decide +kernel
theorem dX0_highestTargetInDisc_28 : decode cX0_highestTargetInDisc 28 = .ok (.iinc 2 1, 3) := by decide +kernel
theorem dX0_highestTargetInDisc_31 : decode cX0_highestTargetInDisc 31 = .ok (.goto (-27), 3) := by decide +kernel
theorem dX0_highestTargetInDisc_34 : decode cX0_highestTargetInDisc 34 = .ok (.iload_n 1, 1) := by decide +kernel
theorem dX0_highestTargetInDisc_35 : decode cX0_highestTargetInDisc 35 = .ok (.ireturn, 1) := by decide +kernel
theorem dX0_markReached_0 : decode cX0_markReached 0 = .ok (.iconst 0, 1) := by decide +kernel
theorem dX0_markReached_1 : decode cX0_markReached 1 = .ok (.istore_n 2, 1) := by decide +kernel
theorem dX0_markReached_2 : decode cX0_markReached 2 = .ok (.iconst 0, 1) := by decide +kernel
theorem dX0_markReached_3 : decode cX0_markReached 3 = .ok (.istore_n 3, 1) := by decide +kernel
theorem dX0_markReached_4 : decode cX0_markReached 4 = .ok (.iload_n 3, 1) := by decide +kernel
theorem dX0_markReached_5 : decode cX0_markReached 5 = .ok (.aload_n 0, 1) := by decide +kernel
theorem dX0_markReached_6 : decode cX0_markReached 6 = .ok (.getfield 35, 3) := by decide +kernel
theorem dX0_markReached_9 : decode cX0_markReached 9 = .ok (.if_icmp .ge 59, 3) := by decide +kernel
theorem dX0_markReached_12 : decode cX0_markReached 12 = .ok (.aload_n 0, 1) := by decide +kernel
theorem dX0_markReached_13 : decode cX0_markReached 13 = .ok (.getfield 32, 3) := by decide +kernel
theorem dX0_markReached_16 : decode cX0_markReached 16 = .ok (.iload_n 3, 1) := by decide +kernel
theorem dX0_markReached_17 : decode cX0_markReached 17 = .ok (.iaload, 1) := by decide +kernel
theorem dX0_markReached_18 : decode cX0_markReached 18 = .ok (.istore 4, 2) := by decide +kernel
theorem dX0_markReached_20 : decode cX0_markReached 20 = .ok (.aload_n 0, 1) := by decide +kernel
theorem dX0_markReached_21 : decode cX0_markReached 21 = .ok (.getfield 29, 3) := by decide +kernel
theorem dX0_markReached_24 : decode cX0_markReached 24 = .ok (.iload 4, 2) := by decide +kernel
theorem dX0_markReached_26 : decode cX0_markReached 26 = .ok (.baload, 1) := by decide +kernel
theorem dX0_markReached_27 : decode cX0_markReached 27 = .ok (.ifCond .ne 35, 3) := by decide +kernel
theorem dX0_markReached_30 : decode cX0_markReached 30 = .ok (.aload_n 0, 1) := by decide +kernel
theorem dX0_markReached_31 : decode cX0_markReached 31 = .ok (.getfield 22, 3) := by decide +kernel
theorem dX0_markReached_34 : decode cX0_markReached 34 = .ok (.iload 4, 2) := by decide +kernel
theorem dX0_markReached_36 : decode cX0_markReached 36 = .ok (.iaload, 1) := by decide +kernel
theorem dX0_markReached_37 : decode cX0_markReached 37 = .ok (.iload_n 1, 1) := by decide +kernel
theorem dX0_markReached_38 : decode cX0_markReached 38 = .ok (.if_icmp .ne 24, 3) := by decide +kernel
theorem dX0_markReached_41 : decode cX0_markReached 41 = .ok (.aload_n 0, 1) := by decide +kernel
theorem dX0_markReached_42 : decode cX0_markReached 42 = .ok (.iload 4, 2) := by decide +kernel
theorem dX0_markReached_44 : decode cX0_markReached 44 = .ok (.iconst 1, 1) := by decide +kernel
theorem dX0_markReached_45 : decode cX0_markReached 45 = .ok (.invokevirtual 42, 3) := by decide +kernel
theorem dX0_markReached_48 : decode cX0_markReached 48 = .ok (.ifCond .eq 14, 3) := by decide +kernel
theorem dX0_markReached_51 : decode cX0_markReached 51 = .ok (.aload_n 0, 1) := by decide +kernel
theorem dX0_markReached_52 : decode cX0_markReached 52 = .ok (.getfield 29, 3) := by decide +kernel
theorem dX0_markReached_55 : decode cX0_markReached 55 = .ok (.iload 4, 2) := by decide +kernel
theorem dX0_markReached_57 : decode cX0_markReached 57 = .ok (.iconst 1, 1) := by decide +kernel
theorem dX0_markReached_58 : decode cX0_markReached 58 = .ok (.bastore, 1) := by decide +kernel
theorem dX0_markReached_59 : decode cX0_markReached 59 = .ok (.iinc 2 1, 3) := by decide +kernel
theorem dX0_markReached_62 : decode cX0_markReached 62 = .ok (.iinc 3 1, 3) := by decide +kernel
theorem dX0_markReached_65 : decode cX0_markReached 65 = .ok (.goto (-61), 3) := by decide +kernel
theorem dX0_markReached_68 : decode cX0_markReached 68 = .ok (.iload_n 2, 1) := by decide +kernel
theorem dX0_markReached_69 : decode cX0_markReached 69 = .ok (.ireturn, 1) := by decide +kernel
theorem dX5_init_0 : decode cX5_init 0 = .ok (.aload_n 0, 1) := by decide +kernel
theorem dX5_init_1 : decode cX5_init 1 = .ok (.invokespecial 3, 3) := by decide +kernel
theorem dX5_init_4 : decode cX5_init 4 = .ok (.aload_n 0, 1) := by decide +kernel
theorem dX5_init_5 : decode cX5_init 5 = .ok (.iconst 0, 1) := by decide +kernel
theorem dX5_init_6 : decode cX5_init 6 = .ok (.putfield 9, 3) := by decide +kernel
theorem dX5_init_9 : decode cX5_init 9 = .ok (.aload_n 0, 1) := by decide +kernel
theorem dX5_init_10 : decode cX5_init 10 = .ok (.iconst 1, 1) := by decide +kernel
theorem dX5_init_11 : decode cX5_init 11 = .ok (.putfield 15, 3) := by decide +kernel
theorem dX5_init_14 : decode cX5_init 14 = .ok (.aload_n 0, 1) := by decide +kernel
theorem dX5_init_15 : decode cX5_init 15 = .ok (.bipush 7, 2) := by decide +kernel
theorem dX5_init_17 : decode cX5_init 17 = .ok (.newarray .int, 2) := by decide +kernel
theorem dX5_init_19 : decode cX5_init 19 = .ok (.putfield 18, 3) := by decide +kernel
theorem dX5_init_22 : decode cX5_init 22 = .ok (.return_, 1) := by decide +kernel
theorem dX5_become_0 : decode cX5_become 0 = .ok (.aload_n 0, 1) := by decide +kernel
theorem dX5_become_1 : decode cX5_become 1 = .ok (.iload_n 1, 1) := by decide +kernel
theorem dX5_become_2 : decode cX5_become 2 = .ok (.putfield 9, 3) := by decide +kernel
theorem dX5_become_5 : decode cX5_become 5 = .ok (.aload_n 0, 1) := by decide +kernel
theorem dX5_become_6 : decode cX5_become 6 = .ok (.iload_n 2, 1) := by decide +kernel
theorem dX5_become_7 : decode cX5_become 7 = .ok (.putfield 15, 3) := by decide +kernel
theorem dX5_become_10 : decode cX5_become 10 = .ok (.iconst 0, 1) := by decide +kernel
theorem dX5_become_11 : decode cX5_become 11 = .ok (.istore_n 3, 1) := by decide +kernel
theorem dX5_become_12 : decode cX5_become 12 = .ok (.iload_n 3, 1) := by decide +kernel
theorem dX5_become_13 : decode cX5_become 13 = .ok (.bipush 6, 2) := by decide +kernel
theorem dX5_become_15 : decode cX5_become 15 = .ok (.if_icmp .gt 20, 3) := by decide +kernel
theorem dX5_become_18 : decode cX5_become 18 = .ok (.aload_n 0, 1) := by decide +kernel
theorem dX5_become_19 : decode cX5_become 19 = .ok (.getfield 18, 3) := by decide +kernel
theorem dX5_become_22 : decode cX5_become 22 = .ok (.iload_n 3, 1) := by decide +kernel
theorem dX5_become_23 : decode cX5_become 23 = .ok (.iload_n 3, 1) := by decide +kernel
theorem dX5_become_24 : decode cX5_become 24 = .ok (.iload_n 1, 1) := by decide +kernel
theorem dX5_become_25 : decode cX5_become 25 = .ok (.invokestatic 22, 3) := by decide +kernel
theorem dX5_become_28 : decode cX5_become 28 = .ok (.iastore, 1) := by decide +kernel
theorem dX5_become_29 : decode cX5_become 29 = .ok (.iinc 3 1, 3) := by decide +kernel
theorem dX5_become_32 : decode cX5_become 32 = .ok (.goto (-20), 3) := by decide +kernel
theorem dX5_become_35 : decode cX5_become 35 = .ok (.return_, 1) := by decide +kernel
theorem dX5_halfWidthAt_0 : decode cX5_halfWidthAt 0 = .ok (.iconst 0, 1) := by decide +kernel
theorem dX5_halfWidthAt_1 : decode cX5_halfWidthAt 1 = .ok (.istore_n 2, 1) := by decide +kernel
theorem dX5_halfWidthAt_2 : decode cX5_halfWidthAt 2 = .ok (.iconst 1, 1) := by decide +kernel
theorem dX5_halfWidthAt_3 : decode cX5_halfWidthAt 3 = .ok (.istore_n 3, 1) := by decide +kernel
theorem dX5_halfWidthAt_4 : decode cX5_halfWidthAt 4 = .ok (.iload_n 3, 1) := by decide +kernel
theorem dX5_halfWidthAt_5 : decode cX5_halfWidthAt 5 = .ok (.iload_n 1, 1) := by decide +kernel
theorem dX5_halfWidthAt_6 : decode cX5_halfWidthAt 6 = .ok (.if_icmp .gt 24, 3) := by decide +kernel
theorem dX5_halfWidthAt_9 : decode cX5_halfWidthAt 9 = .ok (.iload_n 3, 1) := by decide +kernel
theorem dX5_halfWidthAt_10 : decode cX5_halfWidthAt 10 = .ok (.iload_n 3, 1) := by decide +kernel
theorem dX5_halfWidthAt_11 : decode cX5_halfWidthAt 11 = .ok (.imul, 1) := by decide +kernel
theorem dX5_halfWidthAt_12 : decode cX5_halfWidthAt 12 = .ok (.iload_n 0, 1) := by decide +kernel
theorem dX5_halfWidthAt_13 : decode cX5_halfWidthAt 13 = .ok (.iload_n 0, 1) := by decide +kernel
theorem dX5_halfWidthAt_14 : decode cX5_halfWidthAt 14 = .ok (.imul, 1) := by decide +kernel
theorem dX5_halfWidthAt_15 : decode cX5_halfWidthAt 15 = .ok (.iadd, 1) := by decide +kernel
theorem dX5_halfWidthAt_16 : decode cX5_halfWidthAt 16 = .ok (.iload_n 1, 1) := by decide +kernel
theorem dX5_halfWidthAt_17 : decode cX5_halfWidthAt 17 = .ok (.iload_n 1, 1) := by decide +kernel
theorem dX5_halfWidthAt_18 : decode cX5_halfWidthAt 18 = .ok (.imul, 1) := by decide +kernel
theorem dX5_halfWidthAt_19 : decode cX5_halfWidthAt 19 = .ok (.if_icmp .gt 5, 3) := by decide +kernel
theorem dX5_halfWidthAt_22 : decode cX5_halfWidthAt 22 = .ok (.iload_n 3, 1) := by decide +kernel
theorem dX5_halfWidthAt_23 : decode cX5_halfWidthAt 23 = .ok (.istore_n 2, 1) := by decide +kernel
theorem dX5_halfWidthAt_24 : decode cX5_halfWidthAt 24 = .ok (.iinc 3 1, 3) := by decide +kernel
theorem dX5_halfWidthAt_27 : decode cX5_halfWidthAt 27 = .ok (.goto (-23), 3) := by decide +kernel
theorem dX5_halfWidthAt_30 : decode cX5_halfWidthAt 30 = .ok (.iload_n 2, 1) := by decide +kernel
theorem dX5_halfWidthAt_31 : decode cX5_halfWidthAt 31 = .ok (.ireturn, 1) := by decide +kernel
theorem dJm_abs_0 : decode cJm_abs 0 = .ok (.iload_n 0, 1) := by decide +kernel
theorem dJm_abs_1 : decode cJm_abs 1 = .ok (.ifCond .ge 8, 3) := by decide +kernel
theorem dJm_abs_4 : decode cJm_abs 4 = .ok (.iload_n 0, 1) := by decide +kernel
theorem dJm_abs_5 : decode cJm_abs 5 = .ok (.ineg, 1) := by decide +kernel
theorem dJm_abs_6 : decode cJm_abs 6 = .ok (.goto 4, 3) := by decide +kernel
theorem dJm_abs_9 : decode cJm_abs 9 = .ok (.iload_n 0, 1) := by decide +kernel
theorem dJm_abs_10 : decode cJm_abs 10 = .ok (.ireturn, 1) := by decide +kernel
theorem dJm_floorDiv_0 : decode cJm_floorDiv 0 = .ok (.iload_n 0, 1) := by decide +kernel
theorem dJm_floorDiv_1 : decode cJm_floorDiv 1 = .ok (.iload_n 1, 1) := by decide +kernel
theorem dJm_floorDiv_2 : decode cJm_floorDiv 2 = .ok (.idiv, 1) := by decide +kernel
theorem dJm_floorDiv_3 : decode cJm_floorDiv 3 = .ok (.istore_n 2, 1) := by decide +kernel
theorem dJm_floorDiv_4 : decode cJm_floorDiv 4 = .ok (.iload_n 0, 1) := by decide +kernel
theorem dJm_floorDiv_5 : decode cJm_floorDiv 5 = .ok (.iload_n 1, 1) := by decide +kernel
theorem dJm_floorDiv_6 : decode cJm_floorDiv 6 = .ok (.ixor, 1) := by decide +kernel
theorem dJm_floorDiv_7 : decode cJm_floorDiv 7 = .ok (.ifCond .ge 14, 3) := by decide +kernel
theorem dJm_floorDiv_10 : decode cJm_floorDiv 10 = .ok (.iload_n 2, 1) := by decide +kernel
theorem dJm_floorDiv_11 : decode cJm_floorDiv 11 = .ok (.iload_n 1, 1) := by decide +kernel
theorem dJm_floorDiv_12 : decode cJm_floorDiv 12 = .ok (.imul, 1) := by decide +kernel
theorem dJm_floorDiv_13 : decode cJm_floorDiv 13 = .ok (.iload_n 0, 1) := by decide +kernel
theorem dJm_floorDiv_14 : decode cJm_floorDiv 14 = .ok (.if_icmp .eq 7, 3) := by decide +kernel
theorem dJm_floorDiv_17 : decode cJm_floorDiv 17 = .ok (.iload_n 2, 1) := by decide +kernel
theorem dJm_floorDiv_18 : decode cJm_floorDiv 18 = .ok (.iconst 1, 1) := by decide +kernel
theorem dJm_floorDiv_19 : decode cJm_floorDiv 19 = .ok (.isub, 1) := by decide +kernel
theorem dJm_floorDiv_20 : decode cJm_floorDiv 20 = .ok (.ireturn, 1) := by decide +kernel
theorem dJm_floorDiv_21 : decode cJm_floorDiv 21 = .ok (.iload_n 2, 1) := by decide +kernel
theorem dJm_floorDiv_22 : decode cJm_floorDiv 22 = .ok (.ireturn, 1) := by decide +kernel
theorem dJm_max_0 : decode cJm_max 0 = .ok (.iload_n 0, 1) := by decide +kernel
theorem dJm_max_1 : decode cJm_max 1 = .ok (.iload_n 1, 1) := by decide +kernel
theorem dJm_max_2 : decode cJm_max 2 = .ok (.if_icmp .lt 7, 3) := by decide +kernel
theorem dJm_max_5 : decode cJm_max 5 = .ok (.iload_n 0, 1) := by decide +kernel
theorem dJm_max_6 : decode cJm_max 6 = .ok (.goto 4, 3) := by decide +kernel
theorem dJm_max_9 : decode cJm_max 9 = .ok (.iload_n 1, 1) := by decide +kernel
theorem dJm_max_10 : decode cJm_max 10 = .ok (.ireturn, 1) := by decide +kernel
theorem dJm_min_0 : decode cJm_min 0 = .ok (.iload_n 0, 1) := by decide +kernel
theorem dJm_min_1 : decode cJm_min 1 = .ok (.iload_n 1, 1) := by decide +kernel
theorem dJm_min_2 : decode cJm_min 2 = .ok (.if_icmp .gt 7, 3) := by decide +kernel
theorem dJm_min_5 : decode cJm_min 5 = .ok (.iload_n 0, 1) := by decide +kernel
theorem dJm_min_6 : decode cJm_min 6 = .ok (.goto 4, 3) := by decide +kernel
theorem dJm_min_9 : decode cJm_min 9 = .ok (.iload_n 1, 1) := by decide +kernel
theorem dJm_min_10 : decode cJm_min 10 = .ok (.ireturn, 1) := by decide +kernel
end
section
theorem dX1_init_0 : decode cX1_init 0 = .ok (.aload_n 0, 1) := by decide +kernel
theorem dX1_init_1 : decode cX1_init 1 = .ok (.invokespecial 3, 3) := by decide +kernel
theorem dX1_init_4 : decode cX1_init 4 = .ok (.aload_n 0, 1) := by decide +kernel
theorem dX1_init_5 : decode cX1_init 5 = .ok (.iconst 0, 1) := by decide +kernel
theorem dX1_init_6 : decode cX1_init 6 = .ok (.putfield 9, 3) := by decide +kernel
theorem dX1_init_9 : decode cX1_init 9 = .ok (.aload_n 0, 1) := by decide +kernel
theorem dX1_init_10 : decode cX1_init 10 = .ok (.invokevirtual 15, 3) := by decide +kernel
theorem dX1_init_13 : decode cX1_init 13 = .ok (.return_, 1) := by decide +kernel
theorem dX1_startAnew_0 : decode cX1_startAnew 0 = .ok (.aload_n 0, 1) := by decide +kernel
theorem dX1_startAnew_1 : decode cX1_startAnew 1 = .ok (.iconst 0, 1) := by decide +kernel
theorem dX1_startAnew_2 : decode cX1_startAnew 2 = .ok (.putfield 18, 3) := by decide +kernel
theorem dX1_startAnew_5 : decode cX1_startAnew 5 = .ok (.aload_n 0, 1) := by decide +kernel
theorem dX1_startAnew_6 : decode cX1_startAnew 6 = .ok (.iconst 0, 1) := by decide +kernel
theorem dX1_startAnew_7 : decode cX1_startAnew 7 = .ok (.putfield 22, 3) := by decide +kernel
theorem dX1_startAnew_10 : decode cX1_startAnew 10 = .ok (.aload_n 0, 1) := by decide +kernel
theorem dX1_startAnew_11 : decode cX1_startAnew 11 = .ok (.iconst 0, 1) := by decide +kernel
theorem dX1_startAnew_12 : decode cX1_startAnew 12 = .ok (.putfield 25, 3) := by decide +kernel
theorem dX1_startAnew_15 : decode cX1_startAnew 15 = .ok (.aload_n 0, 1) := by decide +kernel
theorem dX1_startAnew_16 : decode cX1_startAnew 16 = .ok (.iconst 0, 1) := by decide +kernel
theorem dX1_startAnew_17 : decode cX1_startAnew 17 = .ok (.putfield 28, 3) := by decide +kernel
theorem dX1_startAnew_20 : decode cX1_startAnew 20 = .ok (.aload_n 0, 1) := by decide +kernel
theorem dX1_startAnew_21 : decode cX1_startAnew 21 = .ok (.bipush 100, 2) := by decide +kernel
theorem dX1_startAnew_23 : decode cX1_startAnew 23 = .ok (.putfield 31, 3) := by decide +kernel
theorem dX1_startAnew_26 : decode cX1_startAnew 26 = .ok (.aload_n 0, 1) := by decide +kernel
theorem dX1_startAnew_27 : decode cX1_startAnew 27 = .ok (.iconst 0, 1) := by decide +kernel
theorem dX1_startAnew_28 : decode cX1_startAnew 28 = .ok (.putfield 34, 3) := by decide +kernel
theorem dX1_startAnew_31 : decode cX1_startAnew 31 = .ok (.aload_n 0, 1) := by decide +kernel
theorem dX1_startAnew_32 : decode cX1_startAnew 32 = .ok (.iconst 0, 1) := by decide +kernel
theorem dX1_startAnew_33 : decode cX1_startAnew 33 = .ok (.putfield 37, 3) := by decide +kernel
theorem dX1_startAnew_36 : decode cX1_startAnew 36 = .ok (.return_, 1) := by decide +kernel
theorem dX1_follow_0 : decode cX1_follow 0 = .ok (.aload_n 0, 1) := by decide +kernel
theorem dX1_follow_1 : decode cX1_follow 1 = .ok (.invokevirtual 15, 3) := by decide +kernel
theorem dX1_follow_4 : decode cX1_follow 4 = .ok (.aload_n 0, 1) := by decide +kernel
theorem dX1_follow_5 : decode cX1_follow 5 = .ok (.iconst 1, 1) := by decide +kernel
theorem dX1_follow_6 : decode cX1_follow 6 = .ok (.putfield 9, 3) := by decide +kernel
theorem dX1_follow_9 : decode cX1_follow 9 = .ok (.iconst 0, 1) := by decide +kernel
theorem dX1_follow_10 : decode cX1_follow 10 = .ok (.istore 4, 2) := by decide +kernel
theorem dX1_follow_12 : decode cX1_follow 12 = .ok (.iload 4, 2) := by decide +kernel
theorem dX1_follow_14 : decode cX1_follow 14 = .ok (.aload_n 1, 1) := by decide +kernel
theorem dX1_follow_15 : decode cX1_follow 15 = .ok (.getfield 40, 3) := by decide +kernel
theorem dX1_follow_18 : decode cX1_follow 18 = .ok (.if_icmp .ge 34, 3) := by decide +kernel
theorem dX1_follow_21 : decode cX1_follow 21 = .ok (.aload_n 0, 1) := by decide +kernel
theorem dX1_follow_22 : decode cX1_follow 22 = .ok (.iload 4, 2) := by decide +kernel
theorem dX1_follow_24 : decode cX1_follow 24 = .ok (.putfield 22, 3) := by decide +kernel
theorem dX1_follow_27 : decode cX1_follow 27 = .ok (.aload_n 0, 1) := by decide +kernel
theorem dX1_follow_28 : decode cX1_follow 28 = .ok (.aload_n 1, 1) := by decide +kernel
theorem dX1_follow_29 : decode cX1_follow 29 = .ok (.iload 4, 2) := by decide +kernel
theorem dX1_follow_31 : decode cX1_follow 31 = .ok (.aload_n 2, 1) := by decide +kernel
theorem dX1_follow_32 : decode cX1_follow 32 = .ok (.aload_n 3, 1) := by decide +kernel
theorem dX1_follow_33 : decode cX1_follow 33 = .ok (.invokevirtual 45, 3) := by decide +kernel
theorem dX1_follow_36 : decode cX1_follow 36 = .ok (.istore 5, 2) := by decide +kernel
theorem dX1_follow_38 : decode cX1_follow 38 = .ok (.iload 5, 2) := by decide +kernel
theorem dX1_follow_40 : decode cX1_follow 40 = .ok (.ifCond .eq 6, 3) := by decide +kernel
theorem dX1_follow_43 : decode cX1_follow 43 = .ok (.iload 5, 2) := by decide +kernel
theorem dX1_follow_45 : decode cX1_follow 45 = .ok (.ireturn, 1) := by decide +kernel
theorem dX1_follow_46 : decode cX1_follow 46 = .ok (.iinc 4 1, 3) := by decide +kernel
theorem dX1_follow_49 : decode cX1_follow 49 = .ok (.goto (-37), 3) := by decide +kernel
theorem dX1_follow_52 : decode cX1_follow 52 = .ok (.aload_n 0, 1) := by decide +kernel
theorem dX1_follow_53 : decode cX1_follow 53 = .ok (.aload_n 1, 1) := by decide +kernel
theorem dX1_follow_54 : decode cX1_follow 54 = .ok (.getfield 40, 3) := by decide +kernel
theorem dX1_follow_57 : decode cX1_follow 57 = .ok (.putfield 22, 3) := by decide +kernel
theorem dX1_follow_60 : decode cX1_follow 60 = .ok (.iconst 0, 1) := by decide +kernel
theorem dX1_follow_61 : decode cX1_follow 61 = .ok (.ireturn, 1) := by decide +kernel
theorem dX1_obey_0 : decode cX1_obey 0 = .ok (.aload_n 1, 1) := by decide +kernel
theorem dX1_obey_1 : decode cX1_obey 1 = .ok (.getfield 49, 3) := by decide +kernel
theorem dX1_obey_4 : decode cX1_obey 4 = .ok (.iload_n 2, 1) := by decide +kernel
theorem dX1_obey_5 : decode cX1_obey 5 = .ok (.caload, 1) := by decide +kernel
theorem dX1_obey_6 : decode cX1_obey 6 = .ok (.bipush 84, 2) := by decide +kernel
theorem dX1_obey_8 : decode cX1_obey 8 = .ok (.if_icmp .ne 26, 3) := by decide +kernel
theorem dX1_obey_11 : decode cX1_obey 11 = .ok (.aload_n 0, 1) := by decide +kernel
theorem dX1_obey_12 : decode cX1_obey 12 = .ok (.aload_n 1, 1) := by decide +kernel
theorem dX1_obey_13 : decode cX1_obey 13 = .ok (.getfield 53, 3) := by decide +kernel
theorem dX1_obey_16 : decode cX1_obey 16 = .ok (.iload_n 2, 1) := by decide +kernel
theorem dX1_obey_17 : decode cX1_obey 17 = .ok (.iaload, 1) := by decide +kernel
theorem dX1_obey_18 : decode cX1_obey 18 = .ok (.putfield 37, 3) := by decide +kernel
theorem dX1_obey_21 : decode cX1_obey 21 = .ok (.aload_n 0, 1) := by decide +kernel
theorem dX1_obey_22 : decode cX1_obey 22 = .ok (.dup, 1) := by decide +kernel
theorem dX1_obey_23 : decode cX1_obey 23 = .ok (.getfield 18, 3) := by decide +kernel
theorem dX1_obey_26 : decode cX1_obey 26 = .ok (.bipush 10, 2) := by decide +kernel
theorem dX1_obey_28 : decode cX1_obey 28 = .ok (.iadd, 1) := by decide +kernel
theorem dX1_obey_29 : decode cX1_obey 29 = .ok (.putfield 18, 3) := by decide +kernel
theorem dX1_obey_32 : decode cX1_obey 32 = .ok (.iconst 0, 1) := by decide +kernel
theorem dX1_obey_33 : decode cX1_obey 33 = .ok (.ireturn, 1) := by decide +kernel
theorem dX1_obey_34 : decode cX1_obey 34 = .ok (.aload_n 0, 1) := by decide +kernel
theorem dX1_obey_35 : decode cX1_obey 35 = .ok (.getfield 25, 3) := by decide +kernel
theorem dX1_obey_38 : decode cX1_obey 38 = .ok (.aload_n 1, 1) := by decide +kernel
theorem dX1_obey_39 : decode cX1_obey 39 = .ok (.getfield 57, 3) := by decide +kernel
theorem dX1_obey_42 : decode cX1_obey 42 = .ok (.iload_n 2, 1) := by decide +kernel
theorem dX1_obey_43 : decode cX1_obey 43 = .ok (.iaload, 1) := by decide +kernel
theorem dX1_obey_44 : decode cX1_obey 44 = .ok (.invokestatic 60, 3) := by decide +kernel
theorem dX1_obey_47 : decode cX1_obey 47 = .ok (.istore 5, 2) := by decide +kernel
theorem dX1_obey_49 : decode cX1_obey 49 = .ok (.aload_n 0, 1) := by decide +kernel
theorem dX1_obey_50 : decode cX1_obey 50 = .ok (.getfield 28, 3) := by decide +kernel
theorem dX1_obey_53 : decode cX1_obey 53 = .ok (.aload_n 1, 1) := by decide +kernel
theorem dX1_obey_54 : decode cX1_obey 54 = .ok (.getfield 64, 3) := by decide +kernel
theorem dX1_obey_57 : decode cX1_obey 57 = .ok (.iload_n 2, 1) := by decide +kernel
theorem dX1_obey_58 : decode cX1_obey 58 = .ok (.iaload, 1) := by decide +kernel
theorem dX1_obey_59 : decode cX1_obey 59 = .ok (.invokestatic 60, 3) := by decide +kernel
theorem dX1_obey_62 : decode cX1_obey 62 = .ok (.istore 6, 2) := by decide +kernel
theorem dX1_obey_64 : decode cX1_obey 64 = .ok (.aload_n 0, 1) := by decide +kernel
theorem dX1_obey_65 : decode cX1_obey 65 = .ok (.getfield 31, 3) := by decide +kernel
theorem dX1_obey_68 : decode cX1_obey 68 = .ok (.aload_n 1, 1) := by decide +kernel
theorem dX1_obey_69 : decode cX1_obey 69 = .ok (.getfield 67, 3) := by decide +kernel
theorem dX1_obey_72 : decode cX1_obey 72 = .ok (.iload_n 2, 1) := by decide +kernel
theorem dX1_obey_73 : decode cX1_obey 73 = .ok (.iaload, 1) := by decide +kernel
theorem dX1_obey_74 : decode cX1_obey 74 = .ok (.invokestatic 60, 3) := by decide +kernel
theorem dX1_obey_77 : decode cX1_obey 77 = .ok (.istore 7, 2) := by decide +kernel
theorem dX1_obey_79 : decode cX1_obey 79 = .ok (.aload_n 0, 1) := by decide +kernel
theorem dX1_obey_80 : decode cX1_obey 80 = .ok (.iload 5, 2) := by decide +kernel
theorem dX1_obey_82 : decode cX1_obey 82 = .ok (.iload 6, 2) := by decide +kernel
theorem dX1_obey_84 : decode cX1_obey 84 = .ok (.iload 7, 2) := by decide +kernel
theorem dX1_obey_86 : decode cX1_obey 86 = .ok (.aload_n 1, 1) := by decide +kernel
theorem dX1_obey_87 : decode cX1_obey 87 = .ok (.getfield 53, 3) := by decide +kernel
theorem dX1_obey_90 : decode cX1_obey 90 = .ok (.iload_n 2, 1) := by decide +kernel
theorem dX1_obey_91 : decode cX1_obey 91 = .ok (.iaload, 1) := by decide +kernel
theorem dX1_obey_92 : decode cX1_obey 92 = .ok (.iconst 1, 1) := by decide +kernel
theorem dX1_obey_93 : decode cX1_obey 93 = .ok (.if_icmp .ne 7, 3) := by decide +kernel
theorem dX1_obey_96 : decode cX1_obey 96 = .ok (.iconst 1, 1) := by decide +kernel
theorem dX1_obey_97 : decode cX1_obey 97 = .ok (.goto 4, 3) := by decide +kernel
theorem dX1_obey_100 : decode cX1_obey 100 = .ok (.iconst 0, 1) := by decide +kernel
theorem dX1_obey_101 : decode cX1_obey 101 = .ok (.aload_n 3, 1) := by decide +kernel
theorem dX1_obey_102 : decode cX1_obey 102 = .ok (.aload 4, 2) := by decide +kernel
theorem dX1_obey_104 : decode cX1_obey 104 = .ok (.aload_n 0, 1) := by decide +kernel
theorem dX1_obey_105 : decode cX1_obey 105 = .ok (.getfield 37, 3) := by decide +kernel
theorem dX1_obey_108 : decode cX1_obey 108 = .ok (.aaload, 1) := by decide +kernel
theorem dX1_obey_109 : decode cX1_obey 109 = .ok (.invokevirtual 70, 3) := by decide +kernel
theorem dX1_obey_112 : decode cX1_obey 112 = .ok (.ireturn, 1) := by decide +kernel
theorem dX1_difference_0 : decode cX1_difference 0 = .ok (.iload_n 1, 1) := by decide +kernel
theorem dX1_difference_1 : decode cX1_difference 1 = .ok (.iconst (-1), 1) := by decide +kernel
theorem dX1_difference_2 : decode cX1_difference 2 = .ok (.if_icmp .ne 7, 3) := by decide +kernel
theorem dX1_difference_5 : decode cX1_difference 5 = .ok (.iconst 0, 1) := by decide +kernel
theorem dX1_difference_6 : decode cX1_difference 6 = .ok (.goto 6, 3) := by decide +kernel
theorem dX1_difference_9 : decode cX1_difference 9 = .ok (.iload_n 1, 1) := by decide +kernel
theorem dX1_difference_10 : decode cX1_difference 10 = .ok (.iload_n 0, 1) := by decide +kernel
theorem dX1_difference_11 : decode cX1_difference 11 = .ok (.isub, 1) := by decide +kernel
theorem dX1_difference_12 : decode cX1_difference 12 = .ok (.ireturn, 1) := by decide +kernel
theorem dX1_travel_0 : decode cX1_travel 0 = .ok (.aload_n 0, 1) := by decide +kernel
theorem dX1_travel_1 : decode cX1_travel 1 = .ok (.getfield 25, 3) := by decide +kernel
theorem dX1_travel_4 : decode cX1_travel 4 = .ok (.istore 7, 2) := by decide +kernel
theorem dX1_travel_6 : decode cX1_travel 6 = .ok (.aload_n 0, 1) := by decide +kernel
theorem dX1_travel_7 : decode cX1_travel 7 = .ok (.getfield 28, 3) := by decide +kernel
theorem dX1_travel_10 : decode cX1_travel 10 = .ok (.istore 8, 2) := by decide +kernel
theorem dX1_travel_12 : decode cX1_travel 12 = .ok (.aload_n 0, 1) := by decide +kernel
theorem dX1_travel_13 : decode cX1_travel 13 = .ok (.getfield 31, 3) := by decide +kernel
theorem dX1_travel_16 : decode cX1_travel 16 = .ok (.istore 9, 2) := by decide +kernel
theorem dX1_travel_18 : decode cX1_travel 18 = .ok (.iload_n 1, 1) := by decide +kernel
theorem dX1_travel_19 : decode cX1_travel 19 = .ok (.invokestatic 74, 3) := by decide +kernel
theorem dX1_travel_22 : decode cX1_travel 22 = .ok (.iload_n 2, 1) := by decide +kernel
theorem dX1_travel_23 : decode cX1_travel 23 = .ok (.invokestatic 74, 3) := by decide +kernel
theorem dX1_travel_26 : decode cX1_travel 26 = .ok (.iload_n 3, 1) := by decide +kernel
theorem dX1_travel_27 : decode cX1_travel 27 = .ok (.invokestatic 74, 3) := by decide +kernel
theorem dX1_travel_30 : decode cX1_travel 30 = .ok (.invokestatic 80, 3) := by decide +kernel
theorem dX1_travel_33 : decode cX1_travel 33 = .ok (.invokestatic 80, 3) := by decide +kernel
theorem dX1_travel_36 : decode cX1_travel 36 = .ok (.istore 10, 2) := by decide +kernel
theorem dX1_travel_38 : decode cX1_travel 38 = .ok (.iconst 1, 1) := by decide +kernel
theorem dX1_travel_39 : decode cX1_travel 39 = .ok (.istore 11, 2) := by decide +kernel
theorem dX1_travel_41 : decode cX1_travel 41 = .ok (.iload 11, 2) := by decide +kernel
theorem dX1_travel_43 : decode cX1_travel 43 = .ok (.iload 10, 2) := by decide +kernel
theorem dX1_travel_45 : decode cX1_travel 45 = .ok (.if_icmp .gt 98, 3) := by decide +kernel
theorem dX1_travel_48 : decode cX1_travel 48 = .ok (.aload_n 0, 1) := by decide +kernel
theorem dX1_travel_49 : decode cX1_travel 49 = .ok (.iload 7, 2) := by decide +kernel
theorem dX1_travel_51 : decode cX1_travel 51 = .ok (.iload_n 1, 1) := by decide +kernel
theorem dX1_travel_52 : decode cX1_travel 52 = .ok (.iload 11, 2) := by decide +kernel
theorem dX1_travel_54 : decode cX1_travel 54 = .ok (.iload 10, 2) := by decide +kernel
theorem dX1_travel_56 : decode cX1_travel 56 = .ok (.invokestatic 83, 3) := by decide +kernel
theorem dX1_travel_59 : decode cX1_travel 59 = .ok (.putfield 25, 3) := by decide +kernel
theorem dX1_travel_62 : decode cX1_travel 62 = .ok (.aload_n 0, 1) := by decide +kernel
theorem dX1_travel_63 : decode cX1_travel 63 = .ok (.iload 8, 2) := by decide +kernel
theorem dX1_travel_65 : decode cX1_travel 65 = .ok (.iload_n 2, 1) := by decide +kernel
theorem dX1_travel_66 : decode cX1_travel 66 = .ok (.iload 11, 2) := by decide +kernel
theorem dX1_travel_68 : decode cX1_travel 68 = .ok (.iload 10, 2) := by decide +kernel
theorem dX1_travel_70 : decode cX1_travel 70 = .ok (.invokestatic 83, 3) := by decide +kernel
theorem dX1_travel_73 : decode cX1_travel 73 = .ok (.putfield 28, 3) := by decide +kernel
theorem dX1_travel_76 : decode cX1_travel 76 = .ok (.aload_n 0, 1) := by decide +kernel
theorem dX1_travel_77 : decode cX1_travel 77 = .ok (.iload 9, 2) := by decide +kernel
theorem dX1_travel_79 : decode cX1_travel 79 = .ok (.iload_n 3, 1) := by decide +kernel
theorem dX1_travel_80 : decode cX1_travel 80 = .ok (.iload 11, 2) := by decide +kernel
theorem dX1_travel_82 : decode cX1_travel 82 = .ok (.iload 10, 2) := by decide +kernel
theorem dX1_travel_84 : decode cX1_travel 84 = .ok (.invokestatic 83, 3) := by decide +kernel
theorem dX1_travel_87 : decode cX1_travel 87 = .ok (.putfield 31, 3) := by decide +kernel
theorem dX1_travel_90 : decode cX1_travel 90 = .ok (.aload 5, 2) := by decide +kernel
theorem dX1_travel_92 : decode cX1_travel 92 = .ok (.aload 6, 2) := by decide +kernel
theorem dX1_travel_94 : decode cX1_travel 94 = .ok (.aload_n 0, 1) := by decide +kernel
theorem dX1_travel_95 : decode cX1_travel 95 = .ok (.getfield 25, 3) := by decide +kernel
theorem dX1_travel_98 : decode cX1_travel 98 = .ok (.aload_n 0, 1) := by decide +kernel
theorem dX1_travel_99 : decode cX1_travel 99 = .ok (.getfield 28, 3) := by decide +kernel
theorem dX1_travel_102 : decode cX1_travel 102 = .ok (.invokevirtual 87, 3) := by decide +kernel
theorem dX1_travel_105 : decode cX1_travel 105 = .ok (.iload 4, 2) := by decide +kernel
theorem dX1_travel_107 : decode cX1_travel 107 = .ok (.ifCond .eq 14, 3) := by decide +kernel
theorem dX1_travel_110 : decode cX1_travel 110 = .ok (.aload_n 0, 1) := by decide +kernel
theorem dX1_travel_111 : decode cX1_travel 111 = .ok (.aload 5, 2) := by decide +kernel
theorem dX1_travel_113 : decode cX1_travel 113 = .ok (.aload 6, 2) := by decide +kernel
theorem dX1_travel_115 : decode cX1_travel 115 = .ok (.invokevirtual 93, 3) := by decide +kernel
theorem dX1_travel_118 : decode cX1_travel 118 = .ok (.goto 9, 3) := by decide +kernel
theorem dX1_travel_121 : decode cX1_travel 121 = .ok (.aload_n 0, 1) := by decide +kernel
theorem dX1_travel_122 : decode cX1_travel 122 = .ok (.aload 5, 2) := by decide +kernel
theorem dX1_travel_124 : decode cX1_travel 124 = .ok (.invokevirtual 97, 3) := by decide +kernel
theorem dX1_travel_127 : decode cX1_travel 127 = .ok (.istore 12, 2) := by decide +kernel
theorem dX1_travel_129 : decode cX1_travel 129 = .ok (.iload 12, 2) := by decide +kernel
theorem dX1_travel_131 : decode cX1_travel 131 = .ok (.ifCond .eq 6, 3) := by decide +kernel
theorem dX1_travel_134 : decode cX1_travel 134 = .ok (.iload 12, 2) := by decide +kernel
theorem dX1_travel_136 : decode cX1_travel 136 = .ok (.ireturn, 1) := by decide +kernel
theorem dX1_travel_137 : decode cX1_travel 137 = .ok (.iinc 11 1, 3) := by decide +kernel
theorem dX1_travel_140 : decode cX1_travel 140 = .ok (.goto (-99), 3) := by decide +kernel
theorem dX1_travel_143 : decode cX1_travel 143 = .ok (.iconst 0, 1) := by decide +kernel
theorem dX1_travel_144 : decode cX1_travel 144 = .ok (.ireturn, 1) := by decide +kernel
theorem dX1_along_0 : decode cX1_along 0 = .ok (.iload_n 3, 1) := by decide +kernel
theorem dX1_along_1 : decode cX1_along 1 = .ok (.ifCond .le 21, 3) := by decide +kernel
theorem dX1_along_4 : decode cX1_along 4 = .ok (.iload_n 0, 1) := by decide +kernel
theorem dX1_along_5 : decode cX1_along 5 = .ok (.iconst 2, 1) := by decide +kernel
theorem dX1_along_6 : decode cX1_along 6 = .ok (.iload_n 1, 1) := by decide +kernel
theorem dX1_along_7 : decode cX1_along 7 = .ok (.imul, 1) := by decide +kernel
theorem dX1_along_8 : decode cX1_along 8 = .ok (.iload_n 2, 1) := by decide +kernel
theorem dX1_along_9 : decode cX1_along 9 = .ok (.imul, 1) := by decide +kernel
theorem dX1_along_10 : decode cX1_along 10 = .ok (.iload_n 3, 1) := by decide +kernel
theorem dX1_along_11 : decode cX1_along 11 = .ok (.iadd, 1) := by decide +kernel
theorem dX1_along_12 : decode cX1_along 12 = .ok (.iconst 2, 1) := by decide +kernel
theorem dX1_along_13 : decode cX1_along 13 = .ok (.iload_n 3, 1) := by decide +kernel
theorem dX1_along_14 : decode cX1_along 14 = .ok (.imul, 1) := by decide +kernel
theorem dX1_along_15 : decode cX1_along 15 = .ok (.invokestatic 101, 3) := by decide +kernel
theorem dX1_along_18 : decode cX1_along 18 = .ok (.iadd, 1) := by decide +kernel
theorem dX1_along_19 : decode cX1_along 19 = .ok (.goto 4, 3) := by decide +kernel
theorem dX1_along_22 : decode cX1_along 22 = .ok (.iload_n 0, 1) := by decide +kernel
theorem dX1_along_23 : decode cX1_along 23 = .ok (.ireturn, 1) := by decide +kernel
theorem dX1_cutHere_0 : decode cX1_cutHere 0 = .ok (.aload_n 1, 1) := by decide +kernel
theorem dX1_cutHere_1 : decode cX1_cutHere 1 = .ok (.aload_n 0, 1) := by decide +kernel
theorem dX1_cutHere_2 : decode cX1_cutHere 2 = .ok (.getfield 31, 3) := by decide +kernel
theorem dX1_cutHere_5 : decode cX1_cutHere 5 = .ok (.invokevirtual 104, 3) := by decide +kernel
theorem dX1_cutHere_8 : decode cX1_cutHere 8 = .ok (.ifCond .eq 5, 3) := by decide +kernel
theorem dX1_cutHere_11 : decode cX1_cutHere 11 = .ok (.iconst 2, 1) := by decide +kernel
theorem dX1_cutHere_12 : decode cX1_cutHere 12 = .ok (.ireturn, 1) := by decide +kernel
theorem dX1_cutHere_13 : decode cX1_cutHere 13 = .ok (.aload_n 0, 1) := by decide +kernel
theorem dX1_cutHere_14 : decode cX1_cutHere 14 = .ok (.dup, 1) := by decide +kernel
theorem dX1_cutHere_15 : decode cX1_cutHere 15 = .ok (.getfield 34, 3) := by decide +kernel
theorem dX1_cutHere_18 : decode cX1_cutHere 18 = .ok (.aload_n 1, 1) := by decide +kernel
theorem dX1_cutHere_19 : decode cX1_cutHere 19 = .ok (.aload_n 0, 1) := by decide +kernel
theorem dX1_cutHere_20 : decode cX1_cutHere 20 = .ok (.getfield 31, 3) := by decide +kernel
theorem dX1_cutHere_23 : decode cX1_cutHere 23 = .ok (.invokevirtual 108, 3) := by decide +kernel
theorem dX1_cutHere_26 : decode cX1_cutHere 26 = .ok (.iadd, 1) := by decide +kernel
theorem dX1_cutHere_27 : decode cX1_cutHere 27 = .ok (.putfield 34, 3) := by decide +kernel
theorem dX1_cutHere_30 : decode cX1_cutHere 30 = .ok (.aload_n 0, 1) := by decide +kernel
theorem dX1_cutHere_31 : decode cX1_cutHere 31 = .ok (.dup, 1) := by decide +kernel
theorem dX1_cutHere_32 : decode cX1_cutHere 32 = .ok (.getfield 18, 3) := by decide +kernel
theorem dX1_cutHere_35 : decode cX1_cutHere 35 = .ok (.aload_n 2, 1) := by decide +kernel
theorem dX1_cutHere_36 : decode cX1_cutHere 36 = .ok (.getfield 111, 3) := by decide +kernel
theorem dX1_cutHere_39 : decode cX1_cutHere 39 = .ok (.iadd, 1) := by decide +kernel
theorem dX1_cutHere_40 : decode cX1_cutHere 40 = .ok (.putfield 18, 3) := by decide +kernel
theorem dX1_cutHere_43 : decode cX1_cutHere 43 = .ok (.iconst 0, 1) := by decide +kernel
theorem dX1_cutHere_44 : decode cX1_cutHere 44 = .ok (.ireturn, 1) := by decide +kernel
theorem dX1_passHere_0 : decode cX1_passHere 0 = .ok (.aload_n 1, 1) := by decide +kernel
theorem dX1_passHere_1 : decode cX1_passHere 1 = .ok (.aload_n 0, 1) := by decide +kernel
theorem dX1_passHere_2 : decode cX1_passHere 2 = .ok (.getfield 31, 3) := by decide +kernel
theorem dX1_passHere_5 : decode cX1_passHere 5 = .ok (.invokevirtual 116, 3) := by decide +kernel
theorem dX1_passHere_8 : decode cX1_passHere 8 = .ok (.ifCond .eq 5, 3) := by decide +kernel
theorem dX1_passHere_11 : decode cX1_passHere 11 = .ok (.iconst 1, 1) := by decide +kernel
theorem dX1_passHere_12 : decode cX1_passHere 12 = .ok (.ireturn, 1) := by decide +kernel
theorem dX1_passHere_13 : decode cX1_passHere 13 = .ok (.aload_n 0, 1) := by decide +kernel
theorem dX1_passHere_14 : decode cX1_passHere 14 = .ok (.dup, 1) := by decide +kernel
theorem dX1_passHere_15 : decode cX1_passHere 15 = .ok (.getfield 18, 3) := by decide +kernel
theorem dX1_passHere_18 : decode cX1_passHere 18 = .ok (.iconst 1, 1) := by decide +kernel
theorem dX1_passHere_19 : decode cX1_passHere 19 = .ok (.iadd, 1) := by decide +kernel
theorem dX1_passHere_20 : decode cX1_passHere 20 = .ok (.putfield 18, 3) := by decide +kernel
theorem dX1_passHere_23 : decode cX1_passHere 23 = .ok (.iconst 0, 1) := by decide +kernel
theorem dX1_passHere_24 : decode cX1_passHere 24 = .ok (.ireturn, 1) := by decide +kernel
theorem dX2_init_0 : decode cX2_init 0 = .ok (.aload_n 0, 1) := by decide +kernel
theorem dX2_init_1 : decode cX2_init 1 = .ok (.invokespecial 1, 3) := by decide +kernel
theorem dX2_init_4 : decode cX2_init 4 = .ok (.aload_n 0, 1) := by decide +kernel
theorem dX2_init_5 : decode cX2_init 5 = .ok (.iload_n 1, 1) := by decide +kernel
theorem dX2_init_6 : decode cX2_init 6 = .ok (.putfield 7, 3) := by decide +kernel
theorem dX2_init_9 : decode cX2_init 9 = .ok (.aload_n 0, 1) := by decide +kernel
theorem dX2_init_10 : decode cX2_init 10 = .ok (.iload_n 1, 1) := by decide +kernel
theorem dX2_init_11 : decode cX2_init 11 = .ok (.iload_n 1, 1) := by decide +kernel
theorem dX2_init_12 : decode cX2_init 12 = .ok (.imul, 1) := by decide +kernel
theorem dX2_init_13 : decode cX2_init 13 = .ok (.putfield 13, 3) := by decide +kernel
theorem dX2_init_16 : decode cX2_init 16 = .ok (.aload_n 0, 1) := by decide +kernel
theorem dX2_init_17 : decode cX2_init 17 = .ok (.aload_n 0, 1) := by decide +kernel
theorem dX2_init_18 : decode cX2_init 18 = .ok (.getfield 13, 3) := by decide +kernel
theorem dX2_init_21 : decode cX2_init 21 = .ok (.newarray .boolean, 2) := by decide +kernel
theorem dX2_init_23 : decode cX2_init 23 = .ok (.putfield 16, 3) := by decide +kernel
theorem dX2_init_26 : decode cX2_init 26 = .ok (.aload_n 0, 1) := by decide +kernel
theorem dX2_init_27 : decode cX2_init 27 = .ok (.aload_n 0, 1) := by decide +kernel
theorem dX2_init_28 : decode cX2_init 28 = .ok (.getfield 13, 3) := by decide +kernel
theorem dX2_init_31 : decode cX2_init 31 = .ok (.newarray .int, 2) := by decide +kernel
theorem dX2_init_33 : decode cX2_init 33 = .ok (.putfield 20, 3) := by decide +kernel
theorem dX2_init_36 : decode cX2_init 36 = .ok (.aload_n 0, 1) := by decide +kernel
theorem dX2_init_37 : decode cX2_init 37 = .ok (.aload_n 0, 1) := by decide +kernel
theorem dX2_init_38 : decode cX2_init 38 = .ok (.getfield 13, 3) := by decide +kernel
theorem dX2_init_41 : decode cX2_init 41 = .ok (.newarray .int, 2) := by decide +kernel
theorem dX2_init_43 : decode cX2_init 43 = .ok (.putfield 24, 3) := by decide +kernel
theorem dX2_init_46 : decode cX2_init 46 = .ok (.aload_n 0, 1) := by decide +kernel
theorem dX2_init_47 : decode cX2_init 47 = .ok (.iconst 0, 1) := by decide +kernel
theorem dX2_init_48 : decode cX2_init 48 = .ok (.putfield 27, 3) := by decide +kernel
theorem dX2_init_51 : decode cX2_init 51 = .ok (.return_, 1) := by decide +kernel
theorem dX2_count_0 : decode cX2_count 0 = .ok (.iconst 0, 1) := by decide +kernel
theorem dX2_count_1 : decode cX2_count 1 = .ok (.istore_n 2, 1) := by decide +kernel
theorem dX2_count_2 : decode cX2_count 2 = .ok (.iload_n 2, 1) := by decide +kernel
theorem dX2_count_3 : decode cX2_count 3 = .ok (.aload_n 0, 1) := by decide +kernel
theorem dX2_count_4 : decode cX2_count 4 = .ok (.getfield 13, 3) := by decide +kernel
theorem dX2_count_7 : decode cX2_count 7 = .ok (.if_icmp .ge 16, 3) := by decide +kernel
theorem dX2_count_10 : decode cX2_count 10 = .ok (.aload_n 0, 1) := by decide +kernel
theorem dX2_count_11 : decode cX2_count 11 = .ok (.getfield 16, 3) := by decide +kernel
theorem dX2_count_14 : decode cX2_count 14 = .ok (.iload_n 2, 1) := by decide +kernel
theorem dX2_count_15 : decode cX2_count 15 = .ok (.iconst 0, 1) := by decide +kernel
theorem dX2_count_16 : decode cX2_count 16 = .ok (.bastore, 1) := by decide +kernel
theorem dX2_count_17 : decode cX2_count 17 = .ok (.iinc 2 1, 3) := by decide +kernel
theorem dX2_count_20 : decode cX2_count 20 = .ok (.goto (-18), 3) := by decide +kernel
theorem dX2_count_23 : decode cX2_count 23 = .ok (.aload_n 0, 1) := by decide +kernel
theorem dX2_count_24 : decode cX2_count 24 = .ok (.iconst 0, 1) := by decide +kernel
theorem dX2_count_25 : decode cX2_count 25 = .ok (.putfield 27, 3) := by decide +kernel
theorem dX2_count_28 : decode cX2_count 28 = .ok (.iconst 0, 1) := by decide +kernel
theorem dX2_count_29 : decode cX2_count 29 = .ok (.istore_n 2, 1) := by decide +kernel
theorem dX2_count_30 : decode cX2_count 30 = .ok (.iconst 0, 1) := by decide +kernel
theorem dX2_count_31 : decode cX2_count 31 = .ok (.istore_n 3, 1) := by decide +kernel
theorem dX2_count_32 : decode cX2_count 32 = .ok (.iload_n 3, 1) := by decide +kernel
theorem dX2_count_33 : decode cX2_count 33 = .ok (.aload_n 0, 1) := by decide +kernel
theorem dX2_count_34 : decode cX2_count 34 = .ok (.getfield 7, 3) := by decide +kernel
theorem dX2_count_37 : decode cX2_count 37 = .ok (.if_icmp .ge 60, 3) := by decide +kernel
theorem dX2_count_40 : decode cX2_count 40 = .ok (.iconst 0, 1) := by decide +kernel
theorem dX2_count_41 : decode cX2_count 41 = .ok (.istore 4, 2) := by decide +kernel
theorem dX2_count_43 : decode cX2_count 43 = .ok (.iload 4, 2) := by decide +kernel
theorem dX2_count_45 : decode cX2_count 45 = .ok (.aload_n 0, 1) := by decide +kernel
theorem dX2_count_46 : decode cX2_count 46 = .ok (.getfield 7, 3) := by decide +kernel
theorem dX2_count_49 : decode cX2_count 49 = .ok (.if_icmp .ge 42, 3) := by decide +kernel
theorem dX2_count_52 : decode cX2_count 52 = .ok (.aload_n 0, 1) := by decide +kernel
theorem dX2_count_53 : decode cX2_count 53 = .ok (.getfield 27, 3) := by decide +kernel
theorem dX2_count_56 : decode cX2_count 56 = .ok (.istore 5, 2) := by decide +kernel
theorem dX2_count_58 : decode cX2_count 58 = .ok (.aload_n 0, 1) := by decide +kernel
theorem dX2_count_59 : decode cX2_count 59 = .ok (.aload_n 1, 1) := by decide +kernel
theorem dX2_count_60 : decode cX2_count 60 = .ok (.iload 4, 2) := by decide +kernel
theorem dX2_count_62 : decode cX2_count 62 = .ok (.iload_n 3, 1) := by decide +kernel
theorem dX2_count_63 : decode cX2_count 63 = .ok (.invokevirtual 30, 3) := by decide +kernel
theorem dX2_count_66 : decode cX2_count 66 = .ok (.aload_n 0, 1) := by decide +kernel
theorem dX2_count_67 : decode cX2_count 67 = .ok (.getfield 27, 3) := by decide +kernel
theorem dX2_count_70 : decode cX2_count 70 = .ok (.iload 5, 2) := by decide +kernel
theorem dX2_count_72 : decode cX2_count 72 = .ok (.if_icmp .le 13, 3) := by decide +kernel
theorem dX2_count_75 : decode cX2_count 75 = .ok (.iinc 2 1, 3) := by decide +kernel
theorem dX2_count_78 : decode cX2_count 78 = .ok (.aload_n 0, 1) := by decide +kernel
theorem dX2_count_79 : decode cX2_count 79 = .ok (.aload_n 1, 1) := by decide +kernel
theorem dX2_count_80 : decode cX2_count 80 = .ok (.iload 5, 2) := by decide +kernel
theorem dX2_count_82 : decode cX2_count 82 = .ok (.invokevirtual 34, 3) := by decide +kernel
theorem dX2_count_85 : decode cX2_count 85 = .ok (.iinc 4 1, 3) := by decide +kernel
theorem dX2_count_88 : decode cX2_count 88 = .ok (.goto (-45), 3) := by decide +kernel
theorem dX2_count_91 : decode cX2_count 91 = .ok (.iinc 3 1, 3) := by decide +kernel
theorem dX2_count_94 : decode cX2_count 94 = .ok (.goto (-62), 3) := by decide +kernel
theorem dX2_count_97 : decode cX2_count 97 = .ok (.iload_n 2, 1) := by decide +kernel
theorem dX2_count_98 : decode cX2_count 98 = .ok (.ireturn, 1) := by decide +kernel
theorem dX2_spread_0 : decode cX2_spread 0 = .ok (.iload_n 2, 1) := by decide +kernel
theorem dX2_spread_1 : decode cX2_spread 1 = .ok (.istore_n 3, 1) := by decide +kernel
theorem dX2_spread_2 : decode cX2_spread 2 = .ok (.iload_n 3, 1) := by decide +kernel
theorem dX2_spread_3 : decode cX2_spread 3 = .ok (.aload_n 0, 1) := by decide +kernel
theorem dX2_spread_4 : decode cX2_spread 4 = .ok (.getfield 27, 3) := by decide +kernel
theorem dX2_spread_7 : decode cX2_spread 7 = .ok (.if_icmp .ge 77, 3) := by decide +kernel
theorem dX2_spread_10 : decode cX2_spread 10 = .ok (.iload_n 3, 1) := by decide +kernel
theorem dX2_spread_11 : decode cX2_spread 11 = .ok (.aload_n 0, 1) := by decide +kernel
theorem dX2_spread_12 : decode cX2_spread 12 = .ok (.getfield 13, 3) := by decide +kernel
theorem dX2_spread_15 : decode cX2_spread 15 = .ok (.if_icmp .ge 69, 3) := by decide +kernel
theorem dX2_spread_18 : decode cX2_spread 18 = .ok (.aload_n 0, 1) := by decide +kernel
theorem dX2_spread_19 : decode cX2_spread 19 = .ok (.getfield 20, 3) := by decide +kernel
theorem dX2_spread_22 : decode cX2_spread 22 = .ok (.iload_n 3, 1) := by decide +kernel
theorem dX2_spread_23 : decode cX2_spread 23 = .ok (.iaload, 1) := by decide +kernel
theorem dX2_spread_24 : decode cX2_spread 24 = .ok (.istore 4, 2) := by decide +kernel
theorem dX2_spread_26 : decode cX2_spread 26 = .ok (.aload_n 0, 1) := by decide +kernel
theorem dX2_spread_27 : decode cX2_spread 27 = .ok (.getfield 24, 3) := by decide +kernel
theorem dX2_spread_30 : decode cX2_spread 30 = .ok (.iload_n 3, 1) := by decide +kernel
theorem dX2_spread_31 : decode cX2_spread 31 = .ok (.iaload, 1) := by decide +kernel
theorem dX2_spread_32 : decode cX2_spread 32 = .ok (.istore 5, 2) := by decide +kernel
theorem dX2_spread_34 : decode cX2_spread 34 = .ok (.aload_n 0, 1) := by decide +kernel
theorem dX2_spread_35 : decode cX2_spread 35 = .ok (.aload_n 1, 1) := by decide +kernel
theorem dX2_spread_36 : decode cX2_spread 36 = .ok (.iload 4, 2) := by decide +kernel
theorem dX2_spread_38 : decode cX2_spread 38 = .ok (.iconst 1, 1) := by decide +kernel
theorem dX2_spread_39 : decode cX2_spread 39 = .ok (.isub, 1) := by decide +kernel
theorem dX2_spread_40 : decode cX2_spread 40 = .ok (.iload 5, 2) := by decide +kernel
theorem dX2_spread_42 : decode cX2_spread 42 = .ok (.invokevirtual 30, 3) := by decide +kernel
theorem dX2_spread_45 : decode cX2_spread 45 = .ok (.aload_n 0, 1) := by decide +kernel
theorem dX2_spread_46 : decode cX2_spread 46 = .ok (.aload_n 1, 1) := by decide +kernel
theorem dX2_spread_47 : decode cX2_spread 47 = .ok (.iload 4, 2) := by decide +kernel
theorem dX2_spread_49 : decode cX2_spread 49 = .ok (.iconst 1, 1) := by decide +kernel
theorem dX2_spread_50 : decode cX2_spread 50 = .ok (.iadd, 1) := by decide +kernel
theorem dX2_spread_51 : decode cX2_spread 51 = .ok (.iload 5, 2) := by decide +kernel
theorem dX2_spread_53 : decode cX2_spread 53 = .ok (.invokevirtual 30, 3) := by decide +kernel
theorem dX2_spread_56 : decode cX2_spread 56 = .ok (.aload_n 0, 1) := by decide +kernel
theorem dX2_spread_57 : decode cX2_spread 57 = .ok (.aload_n 1, 1) := by decide +kernel
theorem dX2_spread_58 : decode cX2_spread 58 = .ok (.iload 4, 2) := by decide +kernel
theorem dX2_spread_60 : decode cX2_spread 60 = .ok (.iload 5, 2) := by decide +kernel
theorem dX2_spread_62 : decode cX2_spread 62 = .ok (.iconst 1, 1) := by decide +kernel
theorem dX2_spread_63 : decode cX2_spread 63 = .ok (.isub, 1) := by decide +kernel
theorem dX2_spread_64 : decode cX2_spread 64 = .ok (.invokevirtual 30, 3) := by decide +kernel
theorem dX2_spread_67 : decode cX2_spread 67 = .ok (.aload_n 0, 1) := by decide +kernel
theorem dX2_spread_68 : decode cX2_spread 68 = .ok (.aload_n 1, 1) := by decide +kernel
theorem dX2_spread_69 : decode cX2_spread 69 = .ok (.iload 4, 2) := by decide +kernel
theorem dX2_spread_71 : decode cX2_spread 71 = .ok (.iload 5, 2) := by decide +kernel
theorem dX2_spread_73 : decode cX2_spread 73 = .ok (.iconst 1, 1) := by decide +kernel
theorem dX2_spread_74 : decode cX2_spread 74 = .ok (.iadd, 1) := by decide +kernel
theorem dX2_spread_75 : decode cX2_spread 75 = .ok (.invokevirtual 30, 3) := by decide +kernel
theorem dX2_spread_78 : decode cX2_spread 78 = .ok (.iinc 3 1, 3) := by decide +kernel
theorem dX2_spread_81 : decode cX2_spread 81 = .ok (.goto (-79), 3) := by decide +kernel
theorem dX2_spread_84 : decode cX2_spread 84 = .ok (.return_, 1) := by decide +kernel
theorem dX2_take_0 : decode cX2_take 0 = .ok (.aload_n 1, 1) := by decide +kernel
theorem dX2_take_1 : decode cX2_take 1 = .ok (.iload_n 2, 1) := by decide +kernel
theorem dX2_take_2 : decode cX2_take 2 = .ok (.iload_n 3, 1) := by decide +kernel
theorem dX2_take_3 : decode cX2_take 3 = .ok (.invokevirtual 38, 3) := by decide +kernel
theorem dX2_take_6 : decode cX2_take 6 = .ok (.ifCond .eq 14, 3) := by decide +kernel
theorem dX2_take_9 : decode cX2_take 9 = .ok (.aload_n 0, 1) := by decide +kernel
theorem dX2_take_10 : decode cX2_take 10 = .ok (.getfield 27, 3) := by decide +kernel
theorem dX2_take_13 : decode cX2_take 13 = .ok (.aload_n 0, 1) := by decide +kernel
theorem dX2_take_14 : decode cX2_take 14 = .ok (.getfield 13, 3) := by decide +kernel
theorem dX2_take_17 : decode cX2_take 17 = .ok (.if_icmp .lt 4, 3) := by decide +kernel
theorem dX2_take_20 : decode cX2_take 20 = .ok (.return_, 1) := by decide +kernel
theorem dX2_take_21 : decode cX2_take 21 = .ok (.aload_n 1, 1) := by decide +kernel
theorem dX2_take_22 : decode cX2_take 22 = .ok (.iload_n 2, 1) := by decide +kernel
theorem dX2_take_23 : decode cX2_take 23 = .ok (.iload_n 3, 1) := by decide +kernel
theorem dX2_take_24 : decode cX2_take 24 = .ok (.invokevirtual 44, 3) := by decide +kernel
theorem dX2_take_27 : decode cX2_take 27 = .ok (.istore 4, 2) := by decide +kernel
theorem dX2_take_29 : decode cX2_take 29 = .ok (.aload_n 0, 1) := by decide +kernel
theorem dX2_take_30 : decode cX2_take 30 = .ok (.getfield 16, 3) := by decide +kernel
theorem dX2_take_33 : decode cX2_take 33 = .ok (.iload 4, 2) := by decide +kernel
theorem dX2_take_35 : decode cX2_take 35 = .ok (.baload, 1) := by decide +kernel
theorem dX2_take_36 : decode cX2_take 36 = .ok (.ifCond .ne 51, 3) := by decide +kernel
theorem dX2_take_39 : decode cX2_take 39 = .ok (.aload_n 1, 1) := by decide +kernel
theorem dX2_take_40 : decode cX2_take 40 = .ok (.getfield 48, 3) := by decide +kernel
theorem dX2_take_43 : decode cX2_take 43 = .ok (.iload 4, 2) := by decide +kernel
theorem dX2_take_45 : decode cX2_take 45 = .ok (.iaload, 1) := by decide +kernel
theorem dX2_take_46 : decode cX2_take 46 = .ok (.ifCond .le 41, 3) := by decide +kernel
theorem dX2_take_49 : decode cX2_take 49 = .ok (.aload_n 0, 1) := by decide +kernel
theorem dX2_take_50 : decode cX2_take 50 = .ok (.getfield 16, 3) := by decide +kernel
theorem dX2_take_53 : decode cX2_take 53 = .ok (.iload 4, 2) := by decide +kernel
theorem dX2_take_55 : decode cX2_take 55 = .ok (.iconst 1, 1) := by decide +kernel
theorem dX2_take_56 : decode cX2_take 56 = .ok (.bastore, 1) := by decide +kernel
theorem dX2_take_57 : decode cX2_take 57 = .ok (.aload_n 0, 1) := by decide +kernel
theorem dX2_take_58 : decode cX2_take 58 = .ok (.getfield 20, 3) := by decide +kernel
theorem dX2_take_61 : decode cX2_take 61 = .ok (.aload_n 0, 1) := by decide +kernel
theorem dX2_take_62 : decode cX2_take 62 = .ok (.getfield 27, 3) := by decide +kernel
theorem dX2_take_65 : decode cX2_take 65 = .ok (.iload_n 2, 1) := by decide +kernel
theorem dX2_take_66 : decode cX2_take 66 = .ok (.iastore, 1) := by decide +kernel
theorem dX2_take_67 : decode cX2_take 67 = .ok (.aload_n 0, 1) := by decide +kernel
theorem dX2_take_68 : decode cX2_take 68 = .ok (.getfield 24, 3) := by decide +kernel
theorem dX2_take_71 : decode cX2_take 71 = .ok (.aload_n 0, 1) := by decide +kernel
theorem dX2_take_72 : decode cX2_take 72 = .ok (.getfield 27, 3) := by decide +kernel
theorem dX2_take_75 : decode cX2_take 75 = .ok (.iload_n 3, 1) := by decide +kernel
theorem dX2_take_76 : decode cX2_take 76 = .ok (.iastore, 1) := by decide +kernel
theorem dX2_take_77 : decode cX2_take 77 = .ok (.aload_n 0, 1) := by decide +kernel
theorem dX2_take_78 : decode cX2_take 78 = .ok (.dup, 1) := by decide +kernel
theorem dX2_take_79 : decode cX2_take 79 = .ok (.getfield 27, 3) := by decide +kernel
theorem dX2_take_82 : decode cX2_take 82 = .ok (.iconst 1, 1) := by decide +kernel
theorem dX2_take_83 : decode cX2_take 83 = .ok (.iadd, 1) := by decide +kernel
theorem dX2_take_84 : decode cX2_take 84 = .ok (.putfield 27, 3) := by decide +kernel
theorem dX2_take_87 : decode cX2_take 87 = .ok (.return_, 1) := by decide +kernel
theorem dX3_init_0 : decode cX3_init 0 = .ok (.aload_n 0, 1) := by decide +kernel
theorem dX3_init_1 : decode cX3_init 1 = .ok (.invokespecial 3, 3) := by decide +kernel
theorem dX3_init_4 : decode cX3_init 4 = .ok (.aload_n 0, 1) := by decide +kernel
theorem dX3_init_5 : decode cX3_init 5 = .ok (.iconst 0, 1) := by decide +kernel
theorem dX3_init_6 : decode cX3_init 6 = .ok (.putfield 9, 3) := by decide +kernel
theorem dX3_init_9 : decode cX3_init 9 = .ok (.aload_n 0, 1) := by decide +kernel
theorem dX3_init_10 : decode cX3_init 10 = .ok (.bipush 32, 2) := by decide +kernel
theorem dX3_init_12 : decode cX3_init 12 = .ok (.newarray .char, 2) := by decide +kernel
theorem dX3_init_14 : decode cX3_init 14 = .ok (.putfield 15, 3) := by decide +kernel
theorem dX3_init_17 : decode cX3_init 17 = .ok (.aload_n 0, 1) := by decide +kernel
theorem dX3_init_18 : decode cX3_init 18 = .ok (.bipush 32, 2) := by decide +kernel
theorem dX3_init_20 : decode cX3_init 20 = .ok (.newarray .int, 2) := by decide +kernel
theorem dX3_init_22 : decode cX3_init 22 = .ok (.putfield 19, 3) := by decide +kernel
theorem dX3_init_25 : decode cX3_init 25 = .ok (.aload_n 0, 1) := by decide +kernel
theorem dX3_init_26 : decode cX3_init 26 = .ok (.bipush 32, 2) := by decide +kernel
theorem dX3_init_28 : decode cX3_init 28 = .ok (.newarray .int, 2) := by decide +kernel
theorem dX3_init_30 : decode cX3_init 30 = .ok (.putfield 23, 3) := by decide +kernel
theorem dX3_init_33 : decode cX3_init 33 = .ok (.aload_n 0, 1) := by decide +kernel
theorem dX3_init_34 : decode cX3_init 34 = .ok (.bipush 32, 2) := by decide +kernel
theorem dX3_init_36 : decode cX3_init 36 = .ok (.newarray .int, 2) := by decide +kernel
theorem dX3_init_38 : decode cX3_init 38 = .ok (.putfield 26, 3) := by decide +kernel
theorem dX3_init_41 : decode cX3_init 41 = .ok (.aload_n 0, 1) := by decide +kernel
theorem dX3_init_42 : decode cX3_init 42 = .ok (.bipush 32, 2) := by decide +kernel
theorem dX3_init_44 : decode cX3_init 44 = .ok (.newarray .int, 2) := by decide +kernel
theorem dX3_init_46 : decode cX3_init 46 = .ok (.putfield 29, 3) := by decide +kernel
theorem dX3_init_49 : decode cX3_init 49 = .ok (.return_, 1) := by decide +kernel
theorem dX3_clear_0 : decode cX3_clear 0 = .ok (.aload_n 0, 1) := by decide +kernel
theorem dX3_clear_1 : decode cX3_clear 1 = .ok (.iconst 0, 1) := by decide +kernel
theorem dX3_clear_2 : decode cX3_clear 2 = .ok (.putfield 9, 3) := by decide +kernel
theorem dX3_clear_5 : decode cX3_clear 5 = .ok (.return_, 1) := by decide +kernel
theorem dX3_add_0 : decode cX3_add 0 = .ok (.aload_n 0, 1) := by decide +kernel
theorem dX3_add_1 : decode cX3_add 1 = .ok (.getfield 9, 3) := by decide +kernel
theorem dX3_add_4 : decode cX3_add 4 = .ok (.bipush 32, 2) := by decide +kernel
theorem dX3_add_6 : decode cX3_add 6 = .ok (.if_icmp .ge 65, 3) := by decide +kernel
theorem dX3_add_9 : decode cX3_add 9 = .ok (.aload_n 0, 1) := by decide +kernel
theorem dX3_add_10 : decode cX3_add 10 = .ok (.getfield 15, 3) := by decide +kernel
theorem dX3_add_13 : decode cX3_add 13 = .ok (.aload_n 0, 1) := by decide +kernel
theorem dX3_add_14 : decode cX3_add 14 = .ok (.getfield 9, 3) := by decide +kernel
theorem dX3_add_17 : decode cX3_add 17 = .ok (.iload_n 1, 1) := by decide +kernel
theorem dX3_add_18 : decode cX3_add 18 = .ok (.castore, 1) := by decide +kernel
theorem dX3_add_19 : decode cX3_add 19 = .ok (.aload_n 0, 1) := by decide +kernel
theorem dX3_add_20 : decode cX3_add 20 = .ok (.getfield 19, 3) := by decide +kernel
theorem dX3_add_23 : decode cX3_add 23 = .ok (.aload_n 0, 1) := by decide +kernel
theorem dX3_add_24 : decode cX3_add 24 = .ok (.getfield 9, 3) := by decide +kernel
theorem dX3_add_27 : decode cX3_add 27 = .ok (.iload_n 2, 1) := by decide +kernel
theorem dX3_add_28 : decode cX3_add 28 = .ok (.iastore, 1) := by decide +kernel
theorem dX3_add_29 : decode cX3_add 29 = .ok (.aload_n 0, 1) := by decide +kernel
theorem dX3_add_30 : decode cX3_add 30 = .ok (.getfield 23, 3) := by decide +kernel
theorem dX3_add_33 : decode cX3_add 33 = .ok (.aload_n 0, 1) := by decide +kernel
theorem dX3_add_34 : decode cX3_add 34 = .ok (.getfield 9, 3) := by decide +kernel
theorem dX3_add_37 : decode cX3_add 37 = .ok (.iload_n 3, 1) := by decide +kernel
theorem dX3_add_38 : decode cX3_add 38 = .ok (.iastore, 1) := by decide +kernel
theorem dX3_add_39 : decode cX3_add 39 = .ok (.aload_n 0, 1) := by decide +kernel
theorem dX3_add_40 : decode cX3_add 40 = .ok (.getfield 26, 3) := by decide +kernel
theorem dX3_add_43 : decode cX3_add 43 = .ok (.aload_n 0, 1) := by decide +kernel
theorem dX3_add_44 : decode cX3_add 44 = .ok (.getfield 9, 3) := by decide +kernel
theorem dX3_add_47 : decode cX3_add 47 = .ok (.iload 4, 2) := by decide +kernel
theorem dX3_add_49 : decode cX3_add 49 = .ok (.iastore, 1) := by decide +kernel
theorem dX3_add_50 : decode cX3_add 50 = .ok (.aload_n 0, 1) := by decide +kernel
theorem dX3_add_51 : decode cX3_add 51 = .ok (.getfield 29, 3) := by decide +kernel
theorem dX3_add_54 : decode cX3_add 54 = .ok (.aload_n 0, 1) := by decide +kernel
theorem dX3_add_55 : decode cX3_add 55 = .ok (.getfield 9, 3) := by decide +kernel
theorem dX3_add_58 : decode cX3_add 58 = .ok (.iload 5, 2) := by decide +kernel
theorem dX3_add_60 : decode cX3_add 60 = .ok (.iastore, 1) := by decide +kernel
theorem dX3_add_61 : decode cX3_add 61 = .ok (.aload_n 0, 1) := by decide +kernel
theorem dX3_add_62 : decode cX3_add 62 = .ok (.dup, 1) := by decide +kernel
theorem dX3_add_63 : decode cX3_add 63 = .ok (.getfield 9, 3) := by decide +kernel
theorem dX3_add_66 : decode cX3_add 66 = .ok (.iconst 1, 1) := by decide +kernel
theorem dX3_add_67 : decode cX3_add 67 = .ok (.iadd, 1) := by decide +kernel
theorem dX3_add_68 : decode cX3_add 68 = .ok (.putfield 9, 3) := by decide +kernel
theorem dX3_add_71 : decode cX3_add 71 = .ok (.return_, 1) := by decide +kernel
theorem dX4_init_0 : decode cX4_init 0 = .ok (.aload_n 0, 1) := by decide +kernel
theorem dX4_init_1 : decode cX4_init 1 = .ok (.invokespecial 3, 3) := by decide +kernel
theorem dX4_init_4 : decode cX4_init 4 = .ok (.aload_n 0, 1) := by decide +kernel
theorem dX4_init_5 : decode cX4_init 5 = .ok (.iload_n 1, 1) := by decide +kernel
theorem dX4_init_6 : decode cX4_init 6 = .ok (.putfield 9, 3) := by decide +kernel
theorem dX4_init_9 : decode cX4_init 9 = .ok (.aload_n 0, 1) := by decide +kernel
theorem dX4_init_10 : decode cX4_init 10 = .ok (.sipush 240, 3) := by decide +kernel
theorem dX4_init_13 : decode cX4_init 13 = .ok (.newarray .int, 2) := by decide +kernel
theorem dX4_init_15 : decode cX4_init 15 = .ok (.putfield 15, 3) := by decide +kernel
theorem dX4_init_18 : decode cX4_init 18 = .ok (.aload_n 0, 1) := by decide +kernel
theorem dX4_init_19 : decode cX4_init 19 = .ok (.iconst 0, 1) := by decide +kernel
theorem dX4_init_20 : decode cX4_init 20 = .ok (.putfield 19, 3) := by decide +kernel
theorem dX4_init_23 : decode cX4_init 23 = .ok (.aload_n 0, 1) := by decide +kernel
theorem dX4_init_24 : decode cX4_init 24 = .ok (.iconst 0, 1) := by decide +kernel
theorem dX4_init_25 : decode cX4_init 25 = .ok (.putfield 22, 3) := by decide +kernel
theorem dX4_init_28 : decode cX4_init 28 = .ok (.return_, 1) := by decide +kernel
theorem dX4_append_0 : decode cX4_append 0 = .ok (.aload_n 0, 1) := by decide +kernel
theorem dX4_append_1 : decode cX4_append 1 = .ok (.getfield 19, 3) := by decide +kernel
theorem dX4_append_4 : decode cX4_append 4 = .ok (.sipush 240, 3) := by decide +kernel
theorem dX4_append_7 : decode cX4_append 7 = .ok (.if_icmp .ge 15, 3) := by decide +kernel
theorem dX4_append_10 : decode cX4_append 10 = .ok (.iload_n 1, 1) := by decide +kernel
theorem dX4_append_11 : decode cX4_append 11 = .ok (.bipush 32, 2) := by decide +kernel
theorem dX4_append_13 : decode cX4_append 13 = .ok (.if_icmp .lt 9, 3) := by decide +kernel
theorem dX4_append_16 : decode cX4_append 16 = .ok (.iload_n 1, 1) := by decide +kernel
theorem dX4_append_17 : decode cX4_append 17 = .ok (.bipush 126, 2) := by decide +kernel
theorem dX4_append_19 : decode cX4_append 19 = .ok (.if_icmp .le 5, 3) := by decide +kernel
theorem dX4_append_22 : decode cX4_append 22 = .ok (.iconst 0, 1) := by decide +kernel
theorem dX4_append_23 : decode cX4_append 23 = .ok (.ireturn, 1) := by decide +kernel
theorem dX4_append_24 : decode cX4_append 24 = .ok (.aload_n 0, 1) := by decide +kernel
theorem dX4_append_25 : decode cX4_append 25 = .ok (.getfield 15, 3) := by decide +kernel
theorem dX4_append_28 : decode cX4_append 28 = .ok (.aload_n 0, 1) := by decide +kernel
theorem dX4_append_29 : decode cX4_append 29 = .ok (.getfield 19, 3) := by decide +kernel
theorem dX4_append_32 : decode cX4_append 32 = .ok (.iload_n 1, 1) := by decide +kernel
theorem dX4_append_33 : decode cX4_append 33 = .ok (.iastore, 1) := by decide +kernel
theorem dX4_append_34 : decode cX4_append 34 = .ok (.aload_n 0, 1) := by decide +kernel
theorem dX4_append_35 : decode cX4_append 35 = .ok (.dup, 1) := by decide +kernel
theorem dX4_append_36 : decode cX4_append 36 = .ok (.getfield 19, 3) := by decide +kernel
theorem dX4_append_39 : decode cX4_append 39 = .ok (.iconst 1, 1) := by decide +kernel
theorem dX4_append_40 : decode cX4_append 40 = .ok (.iadd, 1) := by decide +kernel
theorem dX4_append_41 : decode cX4_append 41 = .ok (.putfield 19, 3) := by decide +kernel
theorem dX4_append_44 : decode cX4_append 44 = .ok (.iconst 1, 1) := by decide +kernel
theorem dX4_append_45 : decode cX4_append 45 = .ok (.ireturn, 1) := by decide +kernel
theorem dX4_parse_0 : decode cX4_parse 0 = .ok (.aload_n 0, 1) := by decide +kernel
theorem dX4_parse_1 : decode cX4_parse 1 = .ok (.iconst 0, 1) := by decide +kernel
theorem dX4_parse_2 : decode cX4_parse 2 = .ok (.putfield 22, 3) := by decide +kernel
theorem dX4_parse_5 : decode cX4_parse 5 = .ok (.aload_n 1, 1) := by decide +kernel
theorem dX4_parse_6 : decode cX4_parse 6 = .ok (.invokevirtual 25, 3) := by decide +kernel
theorem dX4_parse_9 : decode cX4_parse 9 = .ok (.aload_n 0, 1) := by decide +kernel
theorem dX4_parse_10 : decode cX4_parse 10 = .ok (.aload_n 1, 1) := by decide +kernel
theorem dX4_parse_11 : decode cX4_parse 11 = .ok (.invokevirtual 30, 3) := by decide +kernel
theorem dX4_parse_14 : decode cX4_parse 14 = .ok (.istore_n 2, 1) := by decide +kernel
theorem dX4_parse_15 : decode cX4_parse 15 = .ok (.iconst 1, 1) := by decide +kernel
theorem dX4_parse_16 : decode cX4_parse 16 = .ok (.istore_n 3, 1) := by decide +kernel
theorem dX4_parse_17 : decode cX4_parse 17 = .ok (.iload_n 3, 1) := by decide +kernel
theorem dX4_parse_18 : decode cX4_parse 18 = .ok (.bipush 32, 2) := by decide +kernel
theorem dX4_parse_20 : decode cX4_parse 20 = .ok (.if_icmp .ge 30, 3) := by decide +kernel
theorem dX4_parse_23 : decode cX4_parse 23 = .ok (.iload_n 2, 1) := by decide +kernel
theorem dX4_parse_24 : decode cX4_parse 24 = .ok (.ifCond .eq 26, 3) := by decide +kernel
theorem dX4_parse_27 : decode cX4_parse 27 = .ok (.aload_n 0, 1) := by decide +kernel
theorem dX4_parse_28 : decode cX4_parse 28 = .ok (.getfield 22, 3) := by decide +kernel
theorem dX4_parse_31 : decode cX4_parse 31 = .ok (.aload_n 0, 1) := by decide +kernel
theorem dX4_parse_32 : decode cX4_parse 32 = .ok (.getfield 19, 3) := by decide +kernel
theorem dX4_parse_35 : decode cX4_parse 35 = .ok (.if_icmp .ge 15, 3) := by decide +kernel
theorem dX4_parse_38 : decode cX4_parse 38 = .ok (.aload_n 0, 1) := by decide +kernel
theorem dX4_parse_39 : decode cX4_parse 39 = .ok (.aload_n 1, 1) := by decide +kernel
theorem dX4_parse_40 : decode cX4_parse 40 = .ok (.invokevirtual 30, 3) := by decide +kernel
theorem dX4_parse_43 : decode cX4_parse 43 = .ok (.istore_n 2, 1) := by decide +kernel
theorem dX4_parse_44 : decode cX4_parse 44 = .ok (.iinc 3 1, 3) := by decide +kernel
theorem dX4_parse_47 : decode cX4_parse 47 = .ok (.goto (-30), 3) := by decide +kernel
theorem dX4_parse_50 : decode cX4_parse 50 = .ok (.iload_n 2, 1) := by decide +kernel
theorem dX4_parse_51 : decode cX4_parse 51 = .ok (.ifCond .eq 18, 3) := by decide +kernel
theorem dX4_parse_54 : decode cX4_parse 54 = .ok (.aload_n 0, 1) := by decide +kernel
theorem dX4_parse_55 : decode cX4_parse 55 = .ok (.getfield 22, 3) := by decide +kernel
theorem dX4_parse_58 : decode cX4_parse 58 = .ok (.aload_n 0, 1) := by decide +kernel
theorem dX4_parse_59 : decode cX4_parse 59 = .ok (.getfield 19, 3) := by decide +kernel
theorem dX4_parse_62 : decode cX4_parse 62 = .ok (.if_icmp .lt 7, 3) := by decide +kernel
theorem dX4_parse_65 : decode cX4_parse 65 = .ok (.iconst 1, 1) := by decide +kernel
theorem dX4_parse_66 : decode cX4_parse 66 = .ok (.goto 4, 3) := by decide +kernel
theorem dX4_parse_69 : decode cX4_parse 69 = .ok (.iconst 0, 1) := by decide +kernel
theorem dX4_parse_70 : decode cX4_parse 70 = .ok (.istore_n 3, 1) := by decide +kernel
theorem dX4_parse_71 : decode cX4_parse 71 = .ok (.aload_n 0, 1) := by decide +kernel
theorem dX4_parse_72 : decode cX4_parse 72 = .ok (.iconst 0, 1) := by decide +kernel
theorem dX4_parse_73 : decode cX4_parse 73 = .ok (.putfield 19, 3) := by decide +kernel
theorem dX4_parse_76 : decode cX4_parse 76 = .ok (.iload_n 3, 1) := by decide +kernel
theorem dX4_parse_77 : decode cX4_parse 77 = .ok (.ifCond .eq 10, 3) := by decide +kernel
theorem dX4_parse_80 : decode cX4_parse 80 = .ok (.aload_n 1, 1) := by decide +kernel
theorem dX4_parse_81 : decode cX4_parse 81 = .ok (.getfield 34, 3) := by decide +kernel
theorem dX4_parse_84 : decode cX4_parse 84 = .ok (.goto 9, 3) := by decide +kernel
theorem dX4_parse_87 : decode cX4_parse 87 = .ok (.iconst (-1), 1) := by decide +kernel
theorem dX4_parse_88 : decode cX4_parse 88 = .ok (.aload_n 0, 1) := by decide +kernel
theorem dX4_parse_89 : decode cX4_parse 89 = .ok (.getfield 22, 3) := by decide +kernel
theorem dX4_parse_92 : decode cX4_parse 92 = .ok (.isub, 1) := by decide +kernel
theorem dX4_parse_93 : decode cX4_parse 93 = .ok (.ireturn, 1) := by decide +kernel
theorem dX4_takeStatement_0 : decode cX4_takeStatement 0 = .ok (.aload_n 0, 1) := by decide +kernel
theorem dX4_takeStatement_1 : decode cX4_takeStatement 1 = .ok (.invokevirtual 37, 3) := by decide +kernel
theorem dX4_takeStatement_4 : decode cX4_takeStatement 4 = .ok (.aload_n 0, 1) := by decide +kernel
theorem dX4_takeStatement_5 : decode cX4_takeStatement 5 = .ok (.invokevirtual 40, 3) := by decide +kernel
theorem dX4_takeStatement_8 : decode cX4_takeStatement 8 = .ok (.lookupswitch 40 #[(71, 34), (84, 28)], 28) := by decide +kernel
theorem dX4_takeStatement_36 : decode cX4_takeStatement 36 = .ok (.aload_n 0, 1) := by decide +kernel
theorem dX4_takeStatement_37 : decode cX4_takeStatement 37 = .ok (.aload_n 1, 1) := by decide +kernel
theorem dX4_takeStatement_38 : decode cX4_takeStatement 38 = .ok (.invokevirtual 44, 3) := by decide +kernel
theorem dX4_takeStatement_41 : decode cX4_takeStatement 41 = .ok (.ireturn, 1) := by decide +kernel
theorem dX4_takeStatement_42 : decode cX4_takeStatement 42 = .ok (.aload_n 0, 1) := by decide +kernel
theorem dX4_takeStatement_43 : decode cX4_takeStatement 43 = .ok (.aload_n 1, 1) := by decide +kernel
theorem dX4_takeStatement_44 : decode cX4_takeStatement 44 = .ok (.invokevirtual 47, 3) := by decide +kernel
theorem dX4_takeStatement_47 : decode cX4_takeStatement 47 = .ok (.ireturn, 1) := by decide +kernel
theorem dX4_takeStatement_48 : decode cX4_takeStatement 48 = .ok (.iconst 0, 1) := by decide +kernel
theorem dX4_takeStatement_49 : decode cX4_takeStatement 49 = .ok (.ireturn, 1) := by decide +kernel
theorem dX4_takeChange_0 : decode cX4_takeChange 0 = .ok (.aload_n 0, 1) := by decide +kernel
theorem dX4_takeChange_1 : decode cX4_takeChange 1 = .ok (.dup, 1) := by decide +kernel
theorem dX4_takeChange_2 : decode cX4_takeChange 2 = .ok (.getfield 22, 3) := by decide +kernel
theorem dX4_takeChange_5 : decode cX4_takeChange 5 = .ok (.iconst 1, 1) := by decide +kernel
theorem dX4_takeChange_6 : decode cX4_takeChange 6 = .ok (.iadd, 1) := by decide +kernel
theorem dX4_takeChange_7 : decode cX4_takeChange 7 = .ok (.putfield 22, 3) := by decide +kernel
theorem dX4_takeChange_10 : decode cX4_takeChange 10 = .ok (.aload_n 0, 1) := by decide +kernel
theorem dX4_takeChange_11 : decode cX4_takeChange 11 = .ok (.iconst 3, 1) := by decide +kernel
theorem dX4_takeChange_12 : decode cX4_takeChange 12 = .ok (.invokevirtual 50, 3) := by decide +kernel
theorem dX4_takeChange_15 : decode cX4_takeChange 15 = .ok (.istore_n 2, 1) := by decide +kernel
theorem dX4_takeChange_16 : decode cX4_takeChange 16 = .ok (.iload_n 2, 1) := by decide +kernel
theorem dX4_takeChange_17 : decode cX4_takeChange 17 = .ok (.bipush (-2), 2) := by decide +kernel
theorem dX4_takeChange_19 : decode cX4_takeChange 19 = .ok (.if_icmp .eq 10, 3) := by decide +kernel
theorem dX4_takeChange_22 : decode cX4_takeChange 22 = .ok (.aload_n 0, 1) := by decide +kernel
theorem dX4_takeChange_23 : decode cX4_takeChange 23 = .ok (.invokevirtual 54, 3) := by decide +kernel
theorem dX4_takeChange_26 : decode cX4_takeChange 26 = .ok (.ifCond .ne 5, 3) := by decide +kernel
theorem dX4_takeChange_29 : decode cX4_takeChange 29 = .ok (.iconst 0, 1) := by decide +kernel
theorem dX4_takeChange_30 : decode cX4_takeChange 30 = .ok (.ireturn, 1) := by decide +kernel
theorem dX4_takeChange_31 : decode cX4_takeChange 31 = .ok (.aload_n 1, 1) := by decide +kernel
theorem dX4_takeChange_32 : decode cX4_takeChange 32 = .ok (.bipush 84, 2) := by decide +kernel
theorem dX4_takeChange_34 : decode cX4_takeChange 34 = .ok (.iload_n 2, 1) := by decide +kernel
theorem dX4_takeChange_35 : decode cX4_takeChange 35 = .ok (.iconst (-1), 1) := by decide +kernel
theorem dX4_takeChange_36 : decode cX4_takeChange 36 = .ok (.iconst (-1), 1) := by decide +kernel
theorem dX4_takeChange_37 : decode cX4_takeChange 37 = .ok (.iconst (-1), 1) := by decide +kernel
theorem dX4_takeChange_38 : decode cX4_takeChange 38 = .ok (.invokevirtual 58, 3) := by decide +kernel
theorem dX4_takeChange_41 : decode cX4_takeChange 41 = .ok (.iconst 1, 1) := by decide +kernel
theorem dX4_takeChange_42 : decode cX4_takeChange 42 = .ok (.ireturn, 1) := by decide +kernel
theorem dX4_takeMove_0 : decode cX4_takeMove 0 = .ok (.aload_n 0, 1) := by decide +kernel
theorem dX4_takeMove_1 : decode cX4_takeMove 1 = .ok (.dup, 1) := by decide +kernel
theorem dX4_takeMove_2 : decode cX4_takeMove 2 = .ok (.getfield 22, 3) := by decide +kernel
theorem dX4_takeMove_5 : decode cX4_takeMove 5 = .ok (.iconst 1, 1) := by decide +kernel
theorem dX4_takeMove_6 : decode cX4_takeMove 6 = .ok (.iadd, 1) := by decide +kernel
theorem dX4_takeMove_7 : decode cX4_takeMove 7 = .ok (.putfield 22, 3) := by decide +kernel
theorem dX4_takeMove_10 : decode cX4_takeMove 10 = .ok (.aload_n 0, 1) := by decide +kernel
theorem dX4_takeMove_11 : decode cX4_takeMove 11 = .ok (.iconst 1, 1) := by decide +kernel
theorem dX4_takeMove_12 : decode cX4_takeMove 12 = .ok (.invokevirtual 50, 3) := by decide +kernel
theorem dX4_takeMove_15 : decode cX4_takeMove 15 = .ok (.istore_n 2, 1) := by decide +kernel
theorem dX4_takeMove_16 : decode cX4_takeMove 16 = .ok (.iload_n 2, 1) := by decide +kernel
theorem dX4_takeMove_17 : decode cX4_takeMove 17 = .ok (.bipush (-2), 2) := by decide +kernel
theorem dX4_takeMove_19 : decode cX4_takeMove 19 = .ok (.if_icmp .ne 5, 3) := by decide +kernel
theorem dX4_takeMove_22 : decode cX4_takeMove 22 = .ok (.iconst 0, 1) := by decide +kernel
theorem dX4_takeMove_23 : decode cX4_takeMove 23 = .ok (.ireturn, 1) := by decide +kernel
theorem dX4_takeMove_24 : decode cX4_takeMove 24 = .ok (.aload_n 0, 1) := by decide +kernel
theorem dX4_takeMove_25 : decode cX4_takeMove 25 = .ok (.bipush 88, 2) := by decide +kernel
theorem dX4_takeMove_27 : decode cX4_takeMove 27 = .ok (.aload_n 0, 1) := by decide +kernel
theorem dX4_takeMove_28 : decode cX4_takeMove 28 = .ok (.getfield 9, 3) := by decide +kernel
theorem dX4_takeMove_31 : decode cX4_takeMove 31 = .ok (.iconst 1, 1) := by decide +kernel
theorem dX4_takeMove_32 : decode cX4_takeMove 32 = .ok (.isub, 1) := by decide +kernel
theorem dX4_takeMove_33 : decode cX4_takeMove 33 = .ok (.invokevirtual 62, 3) := by decide +kernel
theorem dX4_takeMove_36 : decode cX4_takeMove 36 = .ok (.istore_n 3, 1) := by decide +kernel
theorem dX4_takeMove_37 : decode cX4_takeMove 37 = .ok (.iload_n 3, 1) := by decide +kernel
theorem dX4_takeMove_38 : decode cX4_takeMove 38 = .ok (.bipush (-2), 2) := by decide +kernel
theorem dX4_takeMove_40 : decode cX4_takeMove 40 = .ok (.if_icmp .ne 5, 3) := by decide +kernel
theorem dX4_takeMove_43 : decode cX4_takeMove 43 = .ok (.iconst 0, 1) := by decide +kernel
theorem dX4_takeMove_44 : decode cX4_takeMove 44 = .ok (.ireturn, 1) := by decide +kernel
theorem dX4_takeMove_45 : decode cX4_takeMove 45 = .ok (.aload_n 0, 1) := by decide +kernel
theorem dX4_takeMove_46 : decode cX4_takeMove 46 = .ok (.bipush 89, 2) := by decide +kernel
theorem dX4_takeMove_48 : decode cX4_takeMove 48 = .ok (.aload_n 0, 1) := by decide +kernel
theorem dX4_takeMove_49 : decode cX4_takeMove 49 = .ok (.getfield 9, 3) := by decide +kernel
theorem dX4_takeMove_52 : decode cX4_takeMove 52 = .ok (.iconst 1, 1) := by decide +kernel
theorem dX4_takeMove_53 : decode cX4_takeMove 53 = .ok (.isub, 1) := by decide +kernel
theorem dX4_takeMove_54 : decode cX4_takeMove 54 = .ok (.invokevirtual 62, 3) := by decide +kernel
theorem dX4_takeMove_57 : decode cX4_takeMove 57 = .ok (.istore 4, 2) := by decide +kernel
theorem dX4_takeMove_59 : decode cX4_takeMove 59 = .ok (.iload 4, 2) := by decide +kernel
theorem dX4_takeMove_61 : decode cX4_takeMove 61 = .ok (.bipush (-2), 2) := by decide +kernel
theorem dX4_takeMove_63 : decode cX4_takeMove 63 = .ok (.if_icmp .ne 5, 3) := by decide +kernel
theorem dX4_takeMove_66 : decode cX4_takeMove 66 = .ok (.iconst 0, 1) := by decide +kernel
theorem dX4_takeMove_67 : decode cX4_takeMove 67 = .ok (.ireturn, 1) := by decide +kernel
theorem dX4_takeMove_68 : decode cX4_takeMove 68 = .ok (.aload_n 0, 1) := by decide +kernel
theorem dX4_takeMove_69 : decode cX4_takeMove 69 = .ok (.bipush 90, 2) := by decide +kernel
theorem dX4_takeMove_71 : decode cX4_takeMove 71 = .ok (.bipush 100, 2) := by decide +kernel
theorem dX4_takeMove_73 : decode cX4_takeMove 73 = .ok (.invokevirtual 62, 3) := by decide +kernel
theorem dX4_takeMove_76 : decode cX4_takeMove 76 = .ok (.istore 5, 2) := by decide +kernel
theorem dX4_takeMove_78 : decode cX4_takeMove 78 = .ok (.iload 5, 2) := by decide +kernel
theorem dX4_takeMove_80 : decode cX4_takeMove 80 = .ok (.bipush (-2), 2) := by decide +kernel
theorem dX4_takeMove_82 : decode cX4_takeMove 82 = .ok (.if_icmp .ne 5, 3) := by decide +kernel
theorem dX4_takeMove_85 : decode cX4_takeMove 85 = .ok (.iconst 0, 1) := by decide +kernel
theorem dX4_takeMove_86 : decode cX4_takeMove 86 = .ok (.ireturn, 1) := by decide +kernel
theorem dX4_takeMove_87 : decode cX4_takeMove 87 = .ok (.iload_n 3, 1) := by decide +kernel
theorem dX4_takeMove_88 : decode cX4_takeMove 88 = .ok (.iconst (-1), 1) := by decide +kernel
theorem dX4_takeMove_89 : decode cX4_takeMove 89 = .ok (.if_icmp .ne 19, 3) := by decide +kernel
theorem dX4_takeMove_92 : decode cX4_takeMove 92 = .ok (.iload 4, 2) := by decide +kernel
theorem dX4_takeMove_94 : decode cX4_takeMove 94 = .ok (.iconst (-1), 1) := by decide +kernel
theorem dX4_takeMove_95 : decode cX4_takeMove 95 = .ok (.if_icmp .ne 13, 3) := by decide +kernel
theorem dX4_takeMove_98 : decode cX4_takeMove 98 = .ok (.iload 5, 2) := by decide +kernel
theorem dX4_takeMove_100 : decode cX4_takeMove 100 = .ok (.iconst (-1), 1) := by decide +kernel
theorem dX4_takeMove_101 : decode cX4_takeMove 101 = .ok (.if_icmp .ne 7, 3) := by decide +kernel
theorem dX4_takeMove_104 : decode cX4_takeMove 104 = .ok (.iconst 1, 1) := by decide +kernel
theorem dX4_takeMove_105 : decode cX4_takeMove 105 = .ok (.goto 4, 3) := by decide +kernel
theorem dX4_takeMove_108 : decode cX4_takeMove 108 = .ok (.iconst 0, 1) := by decide +kernel
theorem dX4_takeMove_109 : decode cX4_takeMove 109 = .ok (.istore 6, 2) := by decide +kernel
theorem dX4_takeMove_111 : decode cX4_takeMove 111 = .ok (.iload 6, 2) := by decide +kernel
theorem dX4_takeMove_113 : decode cX4_takeMove 113 = .ok (.ifCond .ne 10, 3) := by decide +kernel
theorem dX4_takeMove_116 : decode cX4_takeMove 116 = .ok (.aload_n 0, 1) := by decide +kernel
theorem dX4_takeMove_117 : decode cX4_takeMove 117 = .ok (.invokevirtual 54, 3) := by decide +kernel
theorem dX4_takeMove_120 : decode cX4_takeMove 120 = .ok (.ifCond .ne 5, 3) := by decide +kernel
theorem dX4_takeMove_123 : decode cX4_takeMove 123 = .ok (.iconst 0, 1) := by decide +kernel
theorem dX4_takeMove_124 : decode cX4_takeMove 124 = .ok (.ireturn, 1) := by decide +kernel
theorem dX4_takeMove_125 : decode cX4_takeMove 125 = .ok (.aload_n 1, 1) := by decide +kernel
theorem dX4_takeMove_126 : decode cX4_takeMove 126 = .ok (.bipush 71, 2) := by decide +kernel
theorem dX4_takeMove_128 : decode cX4_takeMove 128 = .ok (.iload_n 2, 1) := by decide +kernel
theorem dX4_takeMove_129 : decode cX4_takeMove 129 = .ok (.iload_n 3, 1) := by decide +kernel
theorem dX4_takeMove_130 : decode cX4_takeMove 130 = .ok (.iload 4, 2) := by decide +kernel
theorem dX4_takeMove_132 : decode cX4_takeMove 132 = .ok (.iload 5, 2) := by decide +kernel
theorem dX4_takeMove_134 : decode cX4_takeMove 134 = .ok (.invokevirtual 58, 3) := by decide +kernel
theorem dX4_takeMove_137 : decode cX4_takeMove 137 = .ok (.iconst 1, 1) := by decide +kernel
theorem dX4_takeMove_138 : decode cX4_takeMove 138 = .ok (.ireturn, 1) := by decide +kernel
theorem dX4_takeDigit_0 : decode cX4_takeDigit 0 = .ok (.aload_n 0, 1) := by decide +kernel
theorem dX4_takeDigit_1 : decode cX4_takeDigit 1 = .ok (.invokevirtual 40, 3) := by decide +kernel
theorem dX4_takeDigit_4 : decode cX4_takeDigit 4 = .ok (.bipush 48, 2) := by decide +kernel
theorem dX4_takeDigit_6 : decode cX4_takeDigit 6 = .ok (.isub, 1) := by decide +kernel
theorem dX4_takeDigit_7 : decode cX4_takeDigit 7 = .ok (.istore_n 2, 1) := by decide +kernel
theorem dX4_takeDigit_8 : decode cX4_takeDigit 8 = .ok (.iload_n 2, 1) := by decide +kernel
theorem dX4_takeDigit_9 : decode cX4_takeDigit 9 = .ok (.ifCond .lt 8, 3) := by decide +kernel
theorem dX4_takeDigit_12 : decode cX4_takeDigit 12 = .ok (.iload_n 2, 1) := by decide +kernel
theorem dX4_takeDigit_13 : decode cX4_takeDigit 13 = .ok (.iload_n 1, 1) := by decide +kernel
theorem dX4_takeDigit_14 : decode cX4_takeDigit 14 = .ok (.if_icmp .le 6, 3) := by decide +kernel
theorem dX4_takeDigit_17 : decode cX4_takeDigit 17 = .ok (.bipush (-2), 2) := by decide +kernel
theorem dX4_takeDigit_19 : decode cX4_takeDigit 19 = .ok (.ireturn, 1) := by decide +kernel
theorem dX4_takeDigit_20 : decode cX4_takeDigit 20 = .ok (.aload_n 0, 1) := by decide +kernel
theorem dX4_takeDigit_21 : decode cX4_takeDigit 21 = .ok (.dup, 1) := by decide +kernel
theorem dX4_takeDigit_22 : decode cX4_takeDigit 22 = .ok (.getfield 22, 3) := by decide +kernel
theorem dX4_takeDigit_25 : decode cX4_takeDigit 25 = .ok (.iconst 1, 1) := by decide +kernel
theorem dX4_takeDigit_26 : decode cX4_takeDigit 26 = .ok (.iadd, 1) := by decide +kernel
theorem dX4_takeDigit_27 : decode cX4_takeDigit 27 = .ok (.putfield 22, 3) := by decide +kernel
theorem dX4_takeDigit_30 : decode cX4_takeDigit 30 = .ok (.iload_n 2, 1) := by decide +kernel
theorem dX4_takeDigit_31 : decode cX4_takeDigit 31 = .ok (.ireturn, 1) := by decide +kernel
theorem dX4_takeNumber_0 : decode cX4_takeNumber 0 = .ok (.aload_n 0, 1) := by decide +kernel
theorem dX4_takeNumber_1 : decode cX4_takeNumber 1 = .ok (.invokevirtual 37, 3) := by decide +kernel
theorem dX4_takeNumber_4 : decode cX4_takeNumber 4 = .ok (.aload_n 0, 1) := by decide +kernel
theorem dX4_takeNumber_5 : decode cX4_takeNumber 5 = .ok (.invokevirtual 40, 3) := by decide +kernel
theorem dX4_takeNumber_8 : decode cX4_takeNumber 8 = .ok (.iload_n 1, 1) := by decide +kernel
theorem dX4_takeNumber_9 : decode cX4_takeNumber 9 = .ok (.if_icmp .eq 5, 3) := by decide +kernel
theorem dX4_takeNumber_12 : decode cX4_takeNumber 12 = .ok (.iconst (-1), 1) := by decide +kernel
theorem dX4_takeNumber_13 : decode cX4_takeNumber 13 = .ok (.ireturn, 1) := by decide +kernel
theorem dX4_takeNumber_14 : decode cX4_takeNumber 14 = .ok (.aload_n 0, 1) := by decide +kernel
theorem dX4_takeNumber_15 : decode cX4_takeNumber 15 = .ok (.dup, 1) := by decide +kernel
theorem dX4_takeNumber_16 : decode cX4_takeNumber 16 = .ok (.getfield 22, 3) := by decide +kernel
theorem dX4_takeNumber_19 : decode cX4_takeNumber 19 = .ok (.iconst 1, 1) := by decide +kernel
theorem dX4_takeNumber_20 : decode cX4_takeNumber 20 = .ok (.iadd, 1) := by decide +kernel
theorem dX4_takeNumber_21 : decode cX4_takeNumber 21 = .ok (.putfield 22, 3) := by decide +kernel
theorem dX4_takeNumber_24 : decode cX4_takeNumber 24 = .ok (.aload_n 0, 1) := by decide +kernel
theorem dX4_takeNumber_25 : decode cX4_takeNumber 25 = .ok (.getfield 22, 3) := by decide +kernel
theorem dX4_takeNumber_28 : decode cX4_takeNumber 28 = .ok (.istore_n 3, 1) := by decide +kernel
theorem dX4_takeNumber_29 : decode cX4_takeNumber 29 = .ok (.iconst 0, 1) := by decide +kernel
theorem dX4_takeNumber_30 : decode cX4_takeNumber 30 = .ok (.istore 4, 2) := by decide +kernel
theorem dX4_takeNumber_32 : decode cX4_takeNumber 32 = .ok (.iconst 0, 1) := by decide +kernel
theorem dX4_takeNumber_33 : decode cX4_takeNumber 33 = .ok (.istore 5, 2) := by decide +kernel
theorem dX4_takeNumber_35 : decode cX4_takeNumber 35 = .ok (.iload 5, 2) := by decide +kernel
theorem dX4_takeNumber_37 : decode cX4_takeNumber 37 = .ok (.iconst 3, 1) := by decide +kernel
theorem dX4_takeNumber_38 : decode cX4_takeNumber 38 = .ok (.if_icmp .ge 52, 3) := by decide +kernel
theorem dX4_takeNumber_41 : decode cX4_takeNumber 41 = .ok (.aload_n 0, 1) := by decide +kernel
theorem dX4_takeNumber_42 : decode cX4_takeNumber 42 = .ok (.invokevirtual 40, 3) := by decide +kernel
theorem dX4_takeNumber_45 : decode cX4_takeNumber 45 = .ok (.bipush 48, 2) := by decide +kernel
theorem dX4_takeNumber_47 : decode cX4_takeNumber 47 = .ok (.if_icmp .lt 43, 3) := by decide +kernel
theorem dX4_takeNumber_50 : decode cX4_takeNumber 50 = .ok (.aload_n 0, 1) := by decide +kernel
theorem dX4_takeNumber_51 : decode cX4_takeNumber 51 = .ok (.invokevirtual 40, 3) := by decide +kernel
theorem dX4_takeNumber_54 : decode cX4_takeNumber 54 = .ok (.bipush 57, 2) := by decide +kernel
theorem dX4_takeNumber_56 : decode cX4_takeNumber 56 = .ok (.if_icmp .gt 34, 3) := by decide +kernel
theorem dX4_takeNumber_59 : decode cX4_takeNumber 59 = .ok (.bipush 10, 2) := by decide +kernel
theorem dX4_takeNumber_61 : decode cX4_takeNumber 61 = .ok (.iload 4, 2) := by decide +kernel
theorem dX4_takeNumber_63 : decode cX4_takeNumber 63 = .ok (.imul, 1) := by decide +kernel
theorem dX4_takeNumber_64 : decode cX4_takeNumber 64 = .ok (.aload_n 0, 1) := by decide +kernel
theorem dX4_takeNumber_65 : decode cX4_takeNumber 65 = .ok (.invokevirtual 40, 3) := by decide +kernel
theorem dX4_takeNumber_68 : decode cX4_takeNumber 68 = .ok (.bipush 48, 2) := by decide +kernel
theorem dX4_takeNumber_70 : decode cX4_takeNumber 70 = .ok (.isub, 1) := by decide +kernel
theorem dX4_takeNumber_71 : decode cX4_takeNumber 71 = .ok (.iadd, 1) := by decide +kernel
theorem dX4_takeNumber_72 : decode cX4_takeNumber 72 = .ok (.istore 4, 2) := by decide +kernel
theorem dX4_takeNumber_74 : decode cX4_takeNumber 74 = .ok (.aload_n 0, 1) := by decide +kernel
theorem dX4_takeNumber_75 : decode cX4_takeNumber 75 = .ok (.dup, 1) := by decide +kernel
theorem dX4_takeNumber_76 : decode cX4_takeNumber 76 = .ok (.getfield 22, 3) := by decide +kernel
theorem dX4_takeNumber_79 : decode cX4_takeNumber 79 = .ok (.iconst 1, 1) := by decide +kernel
theorem dX4_takeNumber_80 : decode cX4_takeNumber 80 = .ok (.iadd, 1) := by decide +kernel
theorem dX4_takeNumber_81 : decode cX4_takeNumber 81 = .ok (.putfield 22, 3) := by decide +kernel
theorem dX4_takeNumber_84 : decode cX4_takeNumber 84 = .ok (.iinc 5 1, 3) := by decide +kernel
theorem dX4_takeNumber_87 : decode cX4_takeNumber 87 = .ok (.goto (-52), 3) := by decide +kernel
theorem dX4_takeNumber_90 : decode cX4_takeNumber 90 = .ok (.aload_n 0, 1) := by decide +kernel
theorem dX4_takeNumber_91 : decode cX4_takeNumber 91 = .ok (.getfield 22, 3) := by decide +kernel
theorem dX4_takeNumber_94 : decode cX4_takeNumber 94 = .ok (.iload_n 3, 1) := by decide +kernel
theorem dX4_takeNumber_95 : decode cX4_takeNumber 95 = .ok (.if_icmp .ne 6, 3) := by decide +kernel
theorem dX4_takeNumber_98 : decode cX4_takeNumber 98 = .ok (.bipush (-2), 2) := by decide +kernel
theorem dX4_takeNumber_100 : decode cX4_takeNumber 100 = .ok (.ireturn, 1) := by decide +kernel
theorem dX4_takeNumber_101 : decode cX4_takeNumber 101 = .ok (.iload 4, 2) := by decide +kernel
theorem dX4_takeNumber_103 : decode cX4_takeNumber 103 = .ok (.iload_n 2, 1) := by decide +kernel
theorem dX4_takeNumber_104 : decode cX4_takeNumber 104 = .ok (.if_icmp .le 11, 3) := by decide +kernel
theorem dX4_takeNumber_107 : decode cX4_takeNumber 107 = .ok (.aload_n 0, 1) := by decide +kernel
theorem dX4_takeNumber_108 : decode cX4_takeNumber 108 = .ok (.iload_n 3, 1) := by decide +kernel
theorem dX4_takeNumber_109 : decode cX4_takeNumber 109 = .ok (.putfield 22, 3) := by decide +kernel
theorem dX4_takeNumber_112 : decode cX4_takeNumber 112 = .ok (.bipush (-2), 2) := by decide +kernel
theorem dX4_takeNumber_114 : decode cX4_takeNumber 114 = .ok (.ireturn, 1) := by decide +kernel
theorem dX4_takeNumber_115 : decode cX4_takeNumber 115 = .ok (.iload 4, 2) := by decide +kernel
theorem dX4_takeNumber_117 : decode cX4_takeNumber 117 = .ok (.ireturn, 1) := by decide +kernel
theorem dX4_takeEnd_0 : decode cX4_takeEnd 0 = .ok (.aload_n 0, 1) := by decide +kernel
theorem dX4_takeEnd_1 : decode cX4_takeEnd 1 = .ok (.invokevirtual 37, 3) := by decide +kernel
theorem dX4_takeEnd_4 : decode cX4_takeEnd 4 = .ok (.aload_n 0, 1) := by decide +kernel
theorem dX4_takeEnd_5 : decode cX4_takeEnd 5 = .ok (.invokevirtual 40, 3) := by decide +kernel
theorem dX4_takeEnd_8 : decode cX4_takeEnd 8 = .ok (.bipush 59, 2) := by decide +kernel
theorem dX4_takeEnd_10 : decode cX4_takeEnd 10 = .ok (.if_icmp .eq 5, 3) := by decide +kernel
theorem dX4_takeEnd_13 : decode cX4_takeEnd 13 = .ok (.iconst 0, 1) := by decide +kernel
theorem dX4_takeEnd_14 : decode cX4_takeEnd 14 = .ok (.ireturn, 1) := by decide +kernel
theorem dX4_takeEnd_15 : decode cX4_takeEnd 15 = .ok (.aload_n 0, 1) := by decide +kernel
theorem dX4_takeEnd_16 : decode cX4_takeEnd 16 = .ok (.dup, 1) := by decide +kernel
theorem dX4_takeEnd_17 : decode cX4_takeEnd 17 = .ok (.getfield 22, 3) := by decide +kernel
theorem dX4_takeEnd_20 : decode cX4_takeEnd 20 = .ok (.iconst 1, 1) := by decide +kernel
theorem dX4_takeEnd_21 : decode cX4_takeEnd 21 = .ok (.iadd, 1) := by decide +kernel
theorem dX4_takeEnd_22 : decode cX4_takeEnd 22 = .ok (.putfield 22, 3) := by decide +kernel
theorem dX4_takeEnd_25 : decode cX4_takeEnd 25 = .ok (.iconst 1, 1) := by decide +kernel
theorem dX4_takeEnd_26 : decode cX4_takeEnd 26 = .ok (.ireturn, 1) := by decide +kernel
theorem dX4_skipSpaces_0 : decode cX4_skipSpaces 0 = .ok (.aload_n 0, 1) := by decide +kernel
theorem dX4_skipSpaces_1 : decode cX4_skipSpaces 1 = .ok (.getfield 22, 3) := by decide +kernel
theorem dX4_skipSpaces_4 : decode cX4_skipSpaces 4 = .ok (.aload_n 0, 1) := by decide +kernel
theorem dX4_skipSpaces_5 : decode cX4_skipSpaces 5 = .ok (.getfield 19, 3) := by decide +kernel
theorem dX4_skipSpaces_8 : decode cX4_skipSpaces 8 = .ok (.if_icmp .ge 25, 3) := by decide +kernel
theorem dX4_skipSpaces_11 : decode cX4_skipSpaces 11 = .ok (.aload_n 0, 1) := by decide +kernel
theorem dX4_skipSpaces_12 : decode cX4_skipSpaces 12 = .ok (.invokevirtual 40, 3) := by decide +kernel
theorem dX4_skipSpaces_15 : decode cX4_skipSpaces 15 = .ok (.bipush 32, 2) := by decide +kernel
theorem dX4_skipSpaces_17 : decode cX4_skipSpaces 17 = .ok (.if_icmp .ne 16, 3) := by decide +kernel
theorem dX4_skipSpaces_20 : decode cX4_skipSpaces 20 = .ok (.aload_n 0, 1) := by decide +kernel
theorem dX4_skipSpaces_21 : decode cX4_skipSpaces 21 = .ok (.dup, 1) := by decide +kernel
theorem dX4_skipSpaces_22 : decode cX4_skipSpaces 22 = .ok (.getfield 22, 3) := by decide +kernel
theorem dX4_skipSpaces_25 : decode cX4_skipSpaces 25 = .ok (.iconst 1, 1) := by decide +kernel
theorem dX4_skipSpaces_26 : decode cX4_skipSpaces 26 = .ok (.iadd, 1) := by decide +kernel
theorem dX4_skipSpaces_27 : decode cX4_skipSpaces 27 = .ok (.putfield 22, 3) := by decide +kernel
theorem dX4_skipSpaces_30 : decode cX4_skipSpaces 30 = .ok (.goto (-30), 3) := by decide +kernel
theorem dX4_skipSpaces_33 : decode cX4_skipSpaces 33 = .ok (.return_, 1) := by decide +kernel
theorem dX4_here_0 : decode cX4_here 0 = .ok (.aload_n 0, 1) := by decide +kernel
theorem dX4_here_1 : decode cX4_here 1 = .ok (.getfield 22, 3) := by decide +kernel
theorem dX4_here_4 : decode cX4_here 4 = .ok (.ifCond .lt 26, 3) := by decide +kernel
theorem dX4_here_7 : decode cX4_here 7 = .ok (.aload_n 0, 1) := by decide +kernel
theorem dX4_here_8 : decode cX4_here 8 = .ok (.getfield 22, 3) := by decide +kernel
theorem dX4_here_11 : decode cX4_here 11 = .ok (.aload_n 0, 1) := by decide +kernel
theorem dX4_here_12 : decode cX4_here 12 = .ok (.getfield 19, 3) := by decide +kernel
theorem dX4_here_15 : decode cX4_here 15 = .ok (.if_icmp .ge 15, 3) := by decide +kernel
theorem dX4_here_18 : decode cX4_here 18 = .ok (.aload_n 0, 1) := by decide +kernel
theorem dX4_here_19 : decode cX4_here 19 = .ok (.getfield 15, 3) := by decide +kernel
theorem dX4_here_22 : decode cX4_here 22 = .ok (.aload_n 0, 1) := by decide +kernel
theorem dX4_here_23 : decode cX4_here 23 = .ok (.getfield 22, 3) := by decide +kernel
theorem dX4_here_26 : decode cX4_here 26 = .ok (.iaload, 1) := by decide +kernel
theorem dX4_here_27 : decode cX4_here 27 = .ok (.goto 4, 3) := by decide +kernel
theorem dX4_here_30 : decode cX4_here 30 = .ok (.iconst (-1), 1) := by decide +kernel
theorem dX4_here_31 : decode cX4_here 31 = .ok (.ireturn, 1) := by decide +kernel
end
section
theorem dX6_init_0 : decode cX6_init 0 = .ok (.aload_n 0, 1) := by decide +kernel
theorem dX6_init_1 : decode cX6_init 1 = .ok (.invokespecial 1, 3) := by decide +kernel
theorem dX6_init_4 : decode cX6_init 4 = .ok (.iconst 2, 1) := by decide +kernel
theorem dX6_init_5 : decode cX6_init 5 = .ok (.bipush 20, 2) := by decide +kernel
theorem dX6_init_7 : decode cX6_init 7 = .ok (.iload_n 1, 1) := by decide +kernel
theorem dX6_init_8 : decode cX6_init 8 = .ok (.invokestatic 9, 3) := by decide +kernel
theorem dX6_init_11 : decode cX6_init 11 = .ok (.invokestatic 15, 3) := by decide +kernel
theorem dX6_init_14 : decode cX6_init 14 = .ok (.istore_n 2, 1) := by decide +kernel
theorem dX6_init_15 : decode cX6_init 15 = .ok (.aload_n 0, 1) := by decide +kernel
theorem dX6_init_16 : decode cX6_init 16 = .ok (.new 18, 3) := by decide +kernel
theorem dX6_init_19 : decode cX6_init 19 = .ok (.dup, 1) := by decide +kernel
theorem dX6_init_20 : decode cX6_init 20 = .ok (.iload_n 2, 1) := by decide +kernel
theorem dX6_init_21 : decode cX6_init 21 = .ok (.invokespecial 20, 3) := by decide +kernel
theorem dX6_init_24 : decode cX6_init 24 = .ok (.putfield 23, 3) := by decide +kernel
theorem dX6_init_27 : decode cX6_init 27 = .ok (.aload_n 0, 1) := by decide +kernel
theorem dX6_init_28 : decode cX6_init 28 = .ok (.iconst 4, 1) := by decide +kernel
theorem dX6_init_29 : decode cX6_init 29 = .ok (.anewarray 27, 3) := by decide +kernel
theorem dX6_init_32 : decode cX6_init 32 = .ok (.putfield 29, 3) := by decide +kernel
theorem dX6_init_35 : decode cX6_init 35 = .ok (.iconst 0, 1) := by decide +kernel
theorem dX6_init_36 : decode cX6_init 36 = .ok (.istore_n 3, 1) := by decide +kernel
theorem dX6_init_37 : decode cX6_init 37 = .ok (.iload_n 3, 1) := by decide +kernel
theorem dX6_init_38 : decode cX6_init 38 = .ok (.iconst 4, 1) := by decide +kernel
theorem dX6_init_39 : decode cX6_init 39 = .ok (.if_icmp .ge 22, 3) := by decide +kernel
theorem dX6_init_42 : decode cX6_init 42 = .ok (.aload_n 0, 1) := by decide +kernel
theorem dX6_init_43 : decode cX6_init 43 = .ok (.getfield 29, 3) := by decide +kernel
theorem dX6_init_46 : decode cX6_init 46 = .ok (.iload_n 3, 1) := by decide +kernel
theorem dX6_init_47 : decode cX6_init 47 = .ok (.new 27, 3) := by decide +kernel
theorem dX6_init_50 : decode cX6_init 50 = .ok (.dup, 1) := by decide +kernel
theorem dX6_init_51 : decode cX6_init 51 = .ok (.invokespecial 33, 3) := by decide +kernel
theorem dX6_init_54 : decode cX6_init 54 = .ok (.aastore, 1) := by decide +kernel
theorem dX6_init_55 : decode cX6_init 55 = .ok (.iinc 3 1, 3) := by decide +kernel
theorem dX6_init_58 : decode cX6_init 58 = .ok (.goto (-21), 3) := by decide +kernel
theorem dX6_init_61 : decode cX6_init 61 = .ok (.aload_n 0, 1) := by decide +kernel
theorem dX6_init_62 : decode cX6_init 62 = .ok (.new 34, 3) := by decide +kernel
theorem dX6_init_65 : decode cX6_init 65 = .ok (.dup, 1) := by decide +kernel
theorem dX6_init_66 : decode cX6_init 66 = .ok (.iload_n 2, 1) := by decide +kernel
theorem dX6_init_67 : decode cX6_init 67 = .ok (.invokespecial 36, 3) := by decide +kernel
theorem dX6_init_70 : decode cX6_init 70 = .ok (.putfield 37, 3) := by decide +kernel
theorem dX6_init_73 : decode cX6_init 73 = .ok (.aload_n 0, 1) := by decide +kernel
theorem dX6_init_74 : decode cX6_init 74 = .ok (.new 41, 3) := by decide +kernel
theorem dX6_init_77 : decode cX6_init 77 = .ok (.dup, 1) := by decide +kernel
theorem dX6_init_78 : decode cX6_init 78 = .ok (.invokespecial 43, 3) := by decide +kernel
theorem dX6_init_81 : decode cX6_init 81 = .ok (.putfield 44, 3) := by decide +kernel
theorem dX6_init_84 : decode cX6_init 84 = .ok (.aload_n 0, 1) := by decide +kernel
theorem dX6_init_85 : decode cX6_init 85 = .ok (.new 48, 3) := by decide +kernel
theorem dX6_init_88 : decode cX6_init 88 = .ok (.dup, 1) := by decide +kernel
theorem dX6_init_89 : decode cX6_init 89 = .ok (.iload_n 2, 1) := by decide +kernel
theorem dX6_init_90 : decode cX6_init 90 = .ok (.invokespecial 50, 3) := by decide +kernel
theorem dX6_init_93 : decode cX6_init 93 = .ok (.putfield 51, 3) := by decide +kernel
theorem dX6_init_96 : decode cX6_init 96 = .ok (.aload_n 0, 1) := by decide +kernel
theorem dX6_init_97 : decode cX6_init 97 = .ok (.new 55, 3) := by decide +kernel
theorem dX6_init_100 : decode cX6_init 100 = .ok (.dup, 1) := by decide +kernel
theorem dX6_init_101 : decode cX6_init 101 = .ok (.invokespecial 57, 3) := by decide +kernel
theorem dX6_init_104 : decode cX6_init 104 = .ok (.putfield 58, 3) := by decide +kernel
theorem dX6_init_107 : decode cX6_init 107 = .ok (.aload_n 0, 1) := by decide +kernel
theorem dX6_init_108 : decode cX6_init 108 = .ok (.new 55, 3) := by decide +kernel
theorem dX6_init_111 : decode cX6_init 111 = .ok (.dup, 1) := by decide +kernel
theorem dX6_init_112 : decode cX6_init 112 = .ok (.invokespecial 57, 3) := by decide +kernel
theorem dX6_init_115 : decode cX6_init 115 = .ok (.putfield 62, 3) := by decide +kernel
theorem dX6_init_118 : decode cX6_init 118 = .ok (.return_, 1) := by decide +kernel
theorem dX6_target_0 : decode cX6_target 0 = .ok (.aload_n 0, 1) := by decide +kernel
theorem dX6_target_1 : decode cX6_target 1 = .ok (.iload_n 1, 1) := by decide +kernel
theorem dX6_target_2 : decode cX6_target 2 = .ok (.iload_n 2, 1) := by decide +kernel
theorem dX6_target_3 : decode cX6_target 3 = .ok (.iload_n 3, 1) := by decide +kernel
theorem dX6_target_4 : decode cX6_target 4 = .ok (.iload 4, 2) := by decide +kernel
theorem dX6_target_6 : decode cX6_target 6 = .ok (.invokevirtual 65, 3) := by decide +kernel
theorem dX6_target_9 : decode cX6_target 9 = .ok (.iload 5, 2) := by decide +kernel
theorem dX6_target_11 : decode cX6_target 11 = .ok (.ifCond .lt 10, 3) := by decide +kernel
theorem dX6_target_14 : decode cX6_target 14 = .ok (.iload 5, 2) := by decide +kernel
theorem dX6_target_16 : decode cX6_target 16 = .ok (.bipush 100, 2) := by decide +kernel
theorem dX6_target_18 : decode cX6_target 18 = .ok (.if_icmp .le 13, 3) := by decide +kernel
theorem dX6_target_21 : decode cX6_target 21 = .ok (.new 69, 3) := by decide +kernel
theorem dX6_target_24 : decode cX6_target 24 = .ok (.dup, 1) := by decide +kernel
theorem dX6_target_25 : decode cX6_target 25 = .ok (.ldc 71, 2) := by decide +kernel
theorem dX6_target_27 : decode cX6_target 27 = .ok (.invokespecial 73, 3) := by decide +kernel
theorem dX6_target_30 : decode cX6_target 30 = .ok (.athrow, 1) := by decide +kernel
theorem dX6_target_31 : decode cX6_target 31 = .ok (.aload_n 0, 1) := by decide +kernel
theorem dX6_target_32 : decode cX6_target 32 = .ok (.getfield 23, 3) := by decide +kernel
theorem dX6_target_35 : decode cX6_target 35 = .ok (.iload_n 1, 1) := by decide +kernel
theorem dX6_target_36 : decode cX6_target 36 = .ok (.iload_n 2, 1) := by decide +kernel
theorem dX6_target_37 : decode cX6_target 37 = .ok (.iload_n 3, 1) := by decide +kernel
theorem dX6_target_38 : decode cX6_target 38 = .ok (.iload 4, 2) := by decide +kernel
theorem dX6_target_40 : decode cX6_target 40 = .ok (.iload 5, 2) := by decide +kernel
theorem dX6_target_42 : decode cX6_target 42 = .ok (.invokevirtual 76, 3) := by decide +kernel
theorem dX6_target_45 : decode cX6_target 45 = .ok (.return_, 1) := by decide +kernel
theorem dX6_keep_0 : decode cX6_keep 0 = .ok (.aload_n 0, 1) := by decide +kernel
theorem dX6_keep_1 : decode cX6_keep 1 = .ok (.iload_n 1, 1) := by decide +kernel
theorem dX6_keep_2 : decode cX6_keep 2 = .ok (.iload_n 2, 1) := by decide +kernel
theorem dX6_keep_3 : decode cX6_keep 3 = .ok (.iload_n 3, 1) := by decide +kernel
theorem dX6_keep_4 : decode cX6_keep 4 = .ok (.iload 4, 2) := by decide +kernel
theorem dX6_keep_6 : decode cX6_keep 6 = .ok (.invokevirtual 65, 3) := by decide +kernel
theorem dX6_keep_9 : decode cX6_keep 9 = .ok (.aload_n 0, 1) := by decide +kernel
theorem dX6_keep_10 : decode cX6_keep 10 = .ok (.getfield 23, 3) := by decide +kernel
theorem dX6_keep_13 : decode cX6_keep 13 = .ok (.iload_n 1, 1) := by decide +kernel
theorem dX6_keep_14 : decode cX6_keep 14 = .ok (.iload_n 2, 1) := by decide +kernel
theorem dX6_keep_15 : decode cX6_keep 15 = .ok (.iload_n 3, 1) := by decide +kernel
theorem dX6_keep_16 : decode cX6_keep 16 = .ok (.iload 4, 2) := by decide +kernel
theorem dX6_keep_18 : decode cX6_keep 18 = .ok (.iload 5, 2) := by decide +kernel
theorem dX6_keep_20 : decode cX6_keep 20 = .ok (.invokevirtual 80, 3) := by decide +kernel
theorem dX6_keep_23 : decode cX6_keep 23 = .ok (.return_, 1) := by decide +kernel
theorem dX6_tool_0 : decode cX6_tool 0 = .ok (.iload_n 1, 1) := by decide +kernel
theorem dX6_tool_1 : decode cX6_tool 1 = .ok (.invokestatic 84, 3) := by decide +kernel
theorem dX6_tool_4 : decode cX6_tool 4 = .ok (.iload_n 2, 1) := by decide +kernel
theorem dX6_tool_5 : decode cX6_tool 5 = .ok (.ifCond .lt 9, 3) := by decide +kernel
theorem dX6_tool_8 : decode cX6_tool 8 = .ok (.iload_n 2, 1) := by decide +kernel
theorem dX6_tool_9 : decode cX6_tool 9 = .ok (.bipush 6, 2) := by decide +kernel
theorem dX6_tool_11 : decode cX6_tool 11 = .ok (.if_icmp .le 13, 3) := by decide +kernel
theorem dX6_tool_14 : decode cX6_tool 14 = .ok (.new 69, 3) := by decide +kernel
theorem dX6_tool_17 : decode cX6_tool 17 = .ok (.dup, 1) := by decide +kernel
theorem dX6_tool_18 : decode cX6_tool 18 = .ok (.ldc 87, 2) := by decide +kernel
theorem dX6_tool_20 : decode cX6_tool 20 = .ok (.invokespecial 73, 3) := by decide +kernel
theorem dX6_tool_23 : decode cX6_tool 23 = .ok (.athrow, 1) := by decide +kernel
theorem dX6_tool_24 : decode cX6_tool 24 = .ok (.iload_n 3, 1) := by decide +kernel
theorem dX6_tool_25 : decode cX6_tool 25 = .ok (.iconst 1, 1) := by decide +kernel
theorem dX6_tool_26 : decode cX6_tool 26 = .ok (.if_icmp .lt 9, 3) := by decide +kernel
theorem dX6_tool_29 : decode cX6_tool 29 = .ok (.iload_n 3, 1) := by decide +kernel
theorem dX6_tool_30 : decode cX6_tool 30 = .ok (.bipush 10, 2) := by decide +kernel
theorem dX6_tool_32 : decode cX6_tool 32 = .ok (.if_icmp .le 13, 3) := by decide +kernel
theorem dX6_tool_35 : decode cX6_tool 35 = .ok (.new 69, 3) := by decide +kernel
theorem dX6_tool_38 : decode cX6_tool 38 = .ok (.dup, 1) := by decide +kernel
theorem dX6_tool_39 : decode cX6_tool 39 = .ok (.ldc 89, 2) := by decide +kernel
theorem dX6_tool_41 : decode cX6_tool 41 = .ok (.invokespecial 73, 3) := by decide +kernel
theorem dX6_tool_44 : decode cX6_tool 44 = .ok (.athrow, 1) := by decide +kernel
theorem dX6_tool_45 : decode cX6_tool 45 = .ok (.aload_n 0, 1) := by decide +kernel
theorem dX6_tool_46 : decode cX6_tool 46 = .ok (.getfield 29, 3) := by decide +kernel
theorem dX6_tool_49 : decode cX6_tool 49 = .ok (.iload_n 1, 1) := by decide +kernel
theorem dX6_tool_50 : decode cX6_tool 50 = .ok (.aaload, 1) := by decide +kernel
theorem dX6_tool_51 : decode cX6_tool 51 = .ok (.iload_n 2, 1) := by decide +kernel
theorem dX6_tool_52 : decode cX6_tool 52 = .ok (.iload_n 3, 1) := by decide +kernel
theorem dX6_tool_53 : decode cX6_tool 53 = .ok (.invokevirtual 91, 3) := by decide +kernel
theorem dX6_tool_56 : decode cX6_tool 56 = .ok (.return_, 1) := by decide +kernel
theorem dX6_unit_0 : decode cX6_unit 0 = .ok (.aload_n 0, 1) := by decide +kernel
theorem dX6_unit_1 : decode cX6_unit 1 = .ok (.getfield 37, 3) := by decide +kernel
theorem dX6_unit_4 : decode cX6_unit 4 = .ok (.iload_n 1, 1) := by decide +kernel
theorem dX6_unit_5 : decode cX6_unit 5 = .ok (.invokevirtual 95, 3) := by decide +kernel
theorem dX6_unit_8 : decode cX6_unit 8 = .ok (.ireturn, 1) := by decide +kernel
theorem dX6_read_0 : decode cX6_read 0 = .ok (.aload_n 0, 1) := by decide +kernel
theorem dX6_read_1 : decode cX6_read 1 = .ok (.getfield 37, 3) := by decide +kernel
theorem dX6_read_4 : decode cX6_read 4 = .ok (.aload_n 0, 1) := by decide +kernel
theorem dX6_read_5 : decode cX6_read 5 = .ok (.getfield 62, 3) := by decide +kernel
theorem dX6_read_8 : decode cX6_read 8 = .ok (.invokevirtual 99, 3) := by decide +kernel
theorem dX6_read_11 : decode cX6_read 11 = .ok (.istore_n 1, 1) := by decide +kernel
theorem dX6_read_12 : decode cX6_read 12 = .ok (.iload_n 1, 1) := by decide +kernel
theorem dX6_read_13 : decode cX6_read 13 = .ok (.ifCond .lt 21, 3) := by decide +kernel
theorem dX6_read_16 : decode cX6_read 16 = .ok (.aload_n 0, 1) := by decide +kernel
theorem dX6_read_17 : decode cX6_read 17 = .ok (.getfield 62, 3) := by decide +kernel
theorem dX6_read_20 : decode cX6_read 20 = .ok (.astore_n 2, 1) := by decide +kernel
theorem dX6_read_21 : decode cX6_read 21 = .ok (.aload_n 0, 1) := by decide +kernel
theorem dX6_read_22 : decode cX6_read 22 = .ok (.aload_n 0, 1) := by decide +kernel
theorem dX6_read_23 : decode cX6_read 23 = .ok (.getfield 58, 3) := by decide +kernel
theorem dX6_read_26 : decode cX6_read 26 = .ok (.putfield 62, 3) := by decide +kernel
theorem dX6_read_29 : decode cX6_read 29 = .ok (.aload_n 0, 1) := by decide +kernel
theorem dX6_read_30 : decode cX6_read 30 = .ok (.aload_n 2, 1) := by decide +kernel
theorem dX6_read_31 : decode cX6_read 31 = .ok (.putfield 58, 3) := by decide +kernel
theorem dX6_read_34 : decode cX6_read 34 = .ok (.iload_n 1, 1) := by decide +kernel
theorem dX6_read_35 : decode cX6_read 35 = .ok (.ireturn, 1) := by decide +kernel
theorem dX6_run_0 : decode cX6_run 0 = .ok (.aload_n 0, 1) := by decide +kernel
theorem dX6_run_1 : decode cX6_run 1 = .ok (.getfield 58, 3) := by decide +kernel
theorem dX6_run_4 : decode cX6_run 4 = .ok (.getfield 103, 3) := by decide +kernel
theorem dX6_run_7 : decode cX6_run 7 = .ok (.ifCond .ne 13, 3) := by decide +kernel
theorem dX6_run_10 : decode cX6_run 10 = .ok (.new 107, 3) := by decide +kernel
theorem dX6_run_13 : decode cX6_run 13 = .ok (.dup, 1) := by decide +kernel
theorem dX6_run_14 : decode cX6_run 14 = .ok (.ldc 109, 2) := by decide +kernel
theorem dX6_run_16 : decode cX6_run 16 = .ok (.invokespecial 111, 3) := by decide +kernel
theorem dX6_run_19 : decode cX6_run 19 = .ok (.athrow, 1) := by decide +kernel
theorem dX6_run_20 : decode cX6_run 20 = .ok (.aload_n 0, 1) := by decide +kernel
theorem dX6_run_21 : decode cX6_run 21 = .ok (.getfield 44, 3) := by decide +kernel
theorem dX6_run_24 : decode cX6_run 24 = .ok (.aload_n 0, 1) := by decide +kernel
theorem dX6_run_25 : decode cX6_run 25 = .ok (.getfield 58, 3) := by decide +kernel
theorem dX6_run_28 : decode cX6_run 28 = .ok (.aload_n 0, 1) := by decide +kernel
theorem dX6_run_29 : decode cX6_run 29 = .ok (.getfield 23, 3) := by decide +kernel
theorem dX6_run_32 : decode cX6_run 32 = .ok (.aload_n 0, 1) := by decide +kernel
theorem dX6_run_33 : decode cX6_run 33 = .ok (.getfield 29, 3) := by decide +kernel
theorem dX6_run_36 : decode cX6_run 36 = .ok (.invokevirtual 112, 3) := by decide +kernel
theorem dX6_run_39 : decode cX6_run 39 = .ok (.ireturn, 1) := by decide +kernel
theorem dX6_about_0 : decode cX6_about 0 = .ok (.iload_n 1, 1) := by decide +kernel
theorem dX6_about_1 : decode cX6_about 1 = .ok (.iconst 5, 1) := by decide +kernel
theorem dX6_about_2 : decode cX6_about 2 = .ok (.invokestatic 116, 3) := by decide +kernel
theorem dX6_about_5 : decode cX6_about 5 = .ok (.aload_n 0, 1) := by decide +kernel
theorem dX6_about_6 : decode cX6_about 6 = .ok (.getfield 44, 3) := by decide +kernel
theorem dX6_about_9 : decode cX6_about 9 = .ok (.getfield 119, 3) := by decide +kernel
theorem dX6_about_12 : decode cX6_about 12 = .ok (.ifCond .ne 13, 3) := by decide +kernel
theorem dX6_about_15 : decode cX6_about 15 = .ok (.new 107, 3) := by decide +kernel
theorem dX6_about_18 : decode cX6_about 18 = .ok (.dup, 1) := by decide +kernel
theorem dX6_about_19 : decode cX6_about 19 = .ok (.ldc 123, 2) := by decide +kernel
theorem dX6_about_21 : decode cX6_about 21 = .ok (.invokespecial 111, 3) := by decide +kernel
theorem dX6_about_24 : decode cX6_about 24 = .ok (.athrow, 1) := by decide +kernel
theorem dX6_about_25 : decode cX6_about 25 = .ok (.iload_n 1, 1) := by decide +kernel
theorem dX6_about_26 : decode cX6_about 26 = .ok (.tableswitch 74 0 4 #[34, 42, 50, 58, 66], 34) := by decide +kernel
theorem dX6_about_60 : decode cX6_about 60 = .ok (.aload_n 0, 1) := by decide +kernel
theorem dX6_about_61 : decode cX6_about 61 = .ok (.getfield 44, 3) := by decide +kernel
theorem dX6_about_64 : decode cX6_about 64 = .ok (.getfield 125, 3) := by decide +kernel
theorem dX6_about_67 : decode cX6_about 67 = .ok (.ireturn, 1) := by decide +kernel
theorem dX6_about_68 : decode cX6_about 68 = .ok (.aload_n 0, 1) := by decide +kernel
theorem dX6_about_69 : decode cX6_about 69 = .ok (.getfield 44, 3) := by decide +kernel
theorem dX6_about_72 : decode cX6_about 72 = .ok (.getfield 128, 3) := by decide +kernel
theorem dX6_about_75 : decode cX6_about 75 = .ok (.ireturn, 1) := by decide +kernel
theorem dX6_about_76 : decode cX6_about 76 = .ok (.aload_n 0, 1) := by decide +kernel
theorem dX6_about_77 : decode cX6_about 77 = .ok (.getfield 44, 3) := by decide +kernel
theorem dX6_about_80 : decode cX6_about 80 = .ok (.getfield 131, 3) := by decide +kernel
theorem dX6_about_83 : decode cX6_about 83 = .ok (.ireturn, 1) := by decide +kernel
theorem dX6_about_84 : decode cX6_about 84 = .ok (.aload_n 0, 1) := by decide +kernel
theorem dX6_about_85 : decode cX6_about 85 = .ok (.getfield 44, 3) := by decide +kernel
theorem dX6_about_88 : decode cX6_about 88 = .ok (.getfield 134, 3) := by decide +kernel
theorem dX6_about_91 : decode cX6_about 91 = .ok (.ireturn, 1) := by decide +kernel
theorem dX6_about_92 : decode cX6_about 92 = .ok (.aload_n 0, 1) := by decide +kernel
theorem dX6_about_93 : decode cX6_about 93 = .ok (.getfield 44, 3) := by decide +kernel
theorem dX6_about_96 : decode cX6_about 96 = .ok (.getfield 137, 3) := by decide +kernel
theorem dX6_about_99 : decode cX6_about 99 = .ok (.ireturn, 1) := by decide +kernel
theorem dX6_about_100 : decode cX6_about 100 = .ok (.aload_n 0, 1) := by decide +kernel
theorem dX6_about_101 : decode cX6_about 101 = .ok (.getfield 44, 3) := by decide +kernel
theorem dX6_about_104 : decode cX6_about 104 = .ok (.getfield 140, 3) := by decide +kernel
theorem dX6_about_107 : decode cX6_about 107 = .ok (.ireturn, 1) := by decide +kernel
theorem dX6_cell_0 : decode cX6_cell 0 = .ok (.aload_n 0, 1) := by decide +kernel
theorem dX6_cell_1 : decode cX6_cell 1 = .ok (.iload_n 1, 1) := by decide +kernel
theorem dX6_cell_2 : decode cX6_cell 2 = .ok (.iload_n 2, 1) := by decide +kernel
theorem dX6_cell_3 : decode cX6_cell 3 = .ok (.invokevirtual 143, 3) := by decide +kernel
theorem dX6_cell_6 : decode cX6_cell 6 = .ok (.iload_n 3, 1) := by decide +kernel
theorem dX6_cell_7 : decode cX6_cell 7 = .ok (.iconst 2, 1) := by decide +kernel
theorem dX6_cell_8 : decode cX6_cell 8 = .ok (.invokestatic 116, 3) := by decide +kernel
theorem dX6_cell_11 : decode cX6_cell 11 = .ok (.aload_n 0, 1) := by decide +kernel
theorem dX6_cell_12 : decode cX6_cell 12 = .ok (.getfield 23, 3) := by decide +kernel
theorem dX6_cell_15 : decode cX6_cell 15 = .ok (.iload_n 1, 1) := by decide +kernel
theorem dX6_cell_16 : decode cX6_cell 16 = .ok (.iload_n 2, 1) := by decide +kernel
theorem dX6_cell_17 : decode cX6_cell 17 = .ok (.invokevirtual 146, 3) := by decide +kernel
theorem dX6_cell_20 : decode cX6_cell 20 = .ok (.istore 4, 2) := by decide +kernel
theorem dX6_cell_22 : decode cX6_cell 22 = .ok (.iload_n 3, 1) := by decide +kernel
theorem dX6_cell_23 : decode cX6_cell 23 = .ok (.lookupswitch 47 #[(0, 25), (1, 36)], 25) := by decide +kernel
theorem dX6_cell_48 : decode cX6_cell 48 = .ok (.aload_n 0, 1) := by decide +kernel
theorem dX6_cell_49 : decode cX6_cell 49 = .ok (.getfield 23, 3) := by decide +kernel
theorem dX6_cell_52 : decode cX6_cell 52 = .ok (.getfield 149, 3) := by decide +kernel
theorem dX6_cell_55 : decode cX6_cell 55 = .ok (.iload 4, 2) := by decide +kernel
theorem dX6_cell_57 : decode cX6_cell 57 = .ok (.iaload, 1) := by decide +kernel
theorem dX6_cell_58 : decode cX6_cell 58 = .ok (.ireturn, 1) := by decide +kernel
theorem dX6_cell_59 : decode cX6_cell 59 = .ok (.aload_n 0, 1) := by decide +kernel
theorem dX6_cell_60 : decode cX6_cell 60 = .ok (.getfield 23, 3) := by decide +kernel
theorem dX6_cell_63 : decode cX6_cell 63 = .ok (.getfield 153, 3) := by decide +kernel
theorem dX6_cell_66 : decode cX6_cell 66 = .ok (.iload 4, 2) := by decide +kernel
theorem dX6_cell_68 : decode cX6_cell 68 = .ok (.iaload, 1) := by decide +kernel
theorem dX6_cell_69 : decode cX6_cell 69 = .ok (.ireturn, 1) := by decide +kernel
theorem dX6_cell_70 : decode cX6_cell 70 = .ok (.aload_n 0, 1) := by decide +kernel
theorem dX6_cell_71 : decode cX6_cell 71 = .ok (.getfield 23, 3) := by decide +kernel
theorem dX6_cell_74 : decode cX6_cell 74 = .ok (.getfield 156, 3) := by decide +kernel
theorem dX6_cell_77 : decode cX6_cell 77 = .ok (.iload 4, 2) := by decide +kernel
theorem dX6_cell_79 : decode cX6_cell 79 = .ok (.baload, 1) := by decide +kernel
theorem dX6_cell_80 : decode cX6_cell 80 = .ok (.ifCond .eq 7, 3) := by decide +kernel
theorem dX6_cell_83 : decode cX6_cell 83 = .ok (.iconst 1, 1) := by decide +kernel
theorem dX6_cell_84 : decode cX6_cell 84 = .ok (.goto 4, 3) := by decide +kernel
theorem dX6_cell_87 : decode cX6_cell 87 = .ok (.iconst 0, 1) := by decide +kernel
theorem dX6_cell_88 : decode cX6_cell 88 = .ok (.ireturn, 1) := by decide +kernel
theorem dX6_check_0 : decode cX6_check 0 = .ok (.iload_n 1, 1) := by decide +kernel
theorem dX6_check_1 : decode cX6_check 1 = .ok (.iconst 3, 1) := by decide +kernel
theorem dX6_check_2 : decode cX6_check 2 = .ok (.invokestatic 116, 3) := by decide +kernel
theorem dX6_check_5 : decode cX6_check 5 = .ok (.iload_n 1, 1) := by decide +kernel
theorem dX6_check_6 : decode cX6_check 6 = .ok (.tableswitch 53 0 2 #[26, 35, 44], 26) := by decide +kernel
theorem dX6_check_32 : decode cX6_check 32 = .ok (.aload_n 0, 1) := by decide +kernel
theorem dX6_check_33 : decode cX6_check 33 = .ok (.getfield 23, 3) := by decide +kernel
theorem dX6_check_36 : decode cX6_check 36 = .ok (.iconst 1, 1) := by decide +kernel
theorem dX6_check_37 : decode cX6_check 37 = .ok (.invokevirtual 160, 3) := by decide +kernel
theorem dX6_check_40 : decode cX6_check 40 = .ok (.ireturn, 1) := by decide +kernel
theorem dX6_check_41 : decode cX6_check 41 = .ok (.aload_n 0, 1) := by decide +kernel
theorem dX6_check_42 : decode cX6_check 42 = .ok (.getfield 23, 3) := by decide +kernel
theorem dX6_check_45 : decode cX6_check 45 = .ok (.iconst 0, 1) := by decide +kernel
theorem dX6_check_46 : decode cX6_check 46 = .ok (.invokevirtual 160, 3) := by decide +kernel
theorem dX6_check_49 : decode cX6_check 49 = .ok (.ireturn, 1) := by decide +kernel
theorem dX6_check_50 : decode cX6_check 50 = .ok (.aload_n 0, 1) := by decide +kernel
theorem dX6_check_51 : decode cX6_check 51 = .ok (.getfield 23, 3) := by decide +kernel
theorem dX6_check_54 : decode cX6_check 54 = .ok (.iconst 1, 1) := by decide +kernel
theorem dX6_check_55 : decode cX6_check 55 = .ok (.invokevirtual 164, 3) := by decide +kernel
theorem dX6_check_58 : decode cX6_check 58 = .ok (.ireturn, 1) := by decide +kernel
theorem dX6_check_59 : decode cX6_check 59 = .ok (.aload_n 0, 1) := by decide +kernel
theorem dX6_check_60 : decode cX6_check 60 = .ok (.getfield 23, 3) := by decide +kernel
theorem dX6_check_63 : decode cX6_check 63 = .ok (.iconst 0, 1) := by decide +kernel
theorem dX6_check_64 : decode cX6_check 64 = .ok (.invokevirtual 164, 3) := by decide +kernel
theorem dX6_check_67 : decode cX6_check 67 = .ok (.ireturn, 1) := by decide +kernel
theorem dX6_reached_0 : decode cX6_reached 0 = .ok (.iload_n 1, 1) := by decide +kernel
theorem dX6_reached_1 : decode cX6_reached 1 = .ok (.invokestatic 84, 3) := by decide +kernel
theorem dX6_reached_4 : decode cX6_reached 4 = .ok (.aload_n 0, 1) := by decide +kernel
theorem dX6_reached_5 : decode cX6_reached 5 = .ok (.getfield 23, 3) := by decide +kernel
theorem dX6_reached_8 : decode cX6_reached 8 = .ok (.aload_n 0, 1) := by decide +kernel
theorem dX6_reached_9 : decode cX6_reached 9 = .ok (.getfield 29, 3) := by decide +kernel
theorem dX6_reached_12 : decode cX6_reached 12 = .ok (.iload_n 1, 1) := by decide +kernel
theorem dX6_reached_13 : decode cX6_reached 13 = .ok (.aaload, 1) := by decide +kernel
theorem dX6_reached_14 : decode cX6_reached 14 = .ok (.invokevirtual 167, 3) := by decide +kernel
theorem dX6_reached_17 : decode cX6_reached 17 = .ok (.ireturn, 1) := by decide +kernel
theorem dX6_pieces_0 : decode cX6_pieces 0 = .ok (.aload_n 0, 1) := by decide +kernel
theorem dX6_pieces_1 : decode cX6_pieces 1 = .ok (.getfield 51, 3) := by decide +kernel
theorem dX6_pieces_4 : decode cX6_pieces 4 = .ok (.aload_n 0, 1) := by decide +kernel
theorem dX6_pieces_5 : decode cX6_pieces 5 = .ok (.getfield 23, 3) := by decide +kernel
theorem dX6_pieces_8 : decode cX6_pieces 8 = .ok (.invokevirtual 171, 3) := by decide +kernel
theorem dX6_pieces_11 : decode cX6_pieces 11 = .ok (.ireturn, 1) := by decide +kernel
theorem dX6_blank_0 : decode cX6_blank 0 = .ok (.aload_n 0, 1) := by decide +kernel
theorem dX6_blank_1 : decode cX6_blank 1 = .ok (.getfield 23, 3) := by decide +kernel
theorem dX6_blank_4 : decode cX6_blank 4 = .ok (.invokevirtual 174, 3) := by decide +kernel
theorem dX6_blank_7 : decode cX6_blank 7 = .ok (.return_, 1) := by decide +kernel
theorem dX6_demandBlock_0 : decode cX6_demandBlock 0 = .ok (.aload_n 0, 1) := by decide +kernel
theorem dX6_demandBlock_1 : decode cX6_demandBlock 1 = .ok (.iload_n 1, 1) := by decide +kernel
theorem dX6_demandBlock_2 : decode cX6_demandBlock 2 = .ok (.iload_n 2, 1) := by decide +kernel
theorem dX6_demandBlock_3 : decode cX6_demandBlock 3 = .ok (.invokevirtual 143, 3) := by decide +kernel
theorem dX6_demandBlock_6 : decode cX6_demandBlock 6 = .ok (.aload_n 0, 1) := by decide +kernel
theorem dX6_demandBlock_7 : decode cX6_demandBlock 7 = .ok (.iload_n 3, 1) := by decide +kernel
theorem dX6_demandBlock_8 : decode cX6_demandBlock 8 = .ok (.iload 4, 2) := by decide +kernel
theorem dX6_demandBlock_10 : decode cX6_demandBlock 10 = .ok (.invokevirtual 143, 3) := by decide +kernel
theorem dX6_demandBlock_13 : decode cX6_demandBlock 13 = .ok (.iload_n 3, 1) := by decide +kernel
theorem dX6_demandBlock_14 : decode cX6_demandBlock 14 = .ok (.iload_n 1, 1) := by decide +kernel
theorem dX6_demandBlock_15 : decode cX6_demandBlock 15 = .ok (.if_icmp .lt 9, 3) := by decide +kernel
theorem dX6_demandBlock_18 : decode cX6_demandBlock 18 = .ok (.iload 4, 2) := by decide +kernel
theorem dX6_demandBlock_20 : decode cX6_demandBlock 20 = .ok (.iload_n 2, 1) := by decide +kernel
theorem dX6_demandBlock_21 : decode cX6_demandBlock 21 = .ok (.if_icmp .ge 13, 3) := by decide +kernel
theorem dX6_demandBlock_24 : decode cX6_demandBlock 24 = .ok (.new 69, 3) := by decide +kernel
theorem dX6_demandBlock_27 : decode cX6_demandBlock 27 = .ok (.dup, 1) := by decide +kernel
theorem dX6_demandBlock_28 : decode cX6_demandBlock 28 = .ok (.ldc 177, 2) := by decide +kernel
theorem dX6_demandBlock_30 : decode cX6_demandBlock 30 = .ok (.invokespecial 73, 3) := by decide +kernel
theorem dX6_demandBlock_33 : decode cX6_demandBlock 33 = .ok (.athrow, 1) := by decide +kernel
theorem dX6_demandBlock_34 : decode cX6_demandBlock 34 = .ok (.return_, 1) := by decide +kernel
theorem dX6_demandCell_0 : decode cX6_demandCell 0 = .ok (.aload_n 0, 1) := by decide +kernel
theorem dX6_demandCell_1 : decode cX6_demandCell 1 = .ok (.getfield 23, 3) := by decide +kernel
theorem dX6_demandCell_4 : decode cX6_demandCell 4 = .ok (.iload_n 1, 1) := by decide +kernel
theorem dX6_demandCell_5 : decode cX6_demandCell 5 = .ok (.iload_n 2, 1) := by decide +kernel
theorem dX6_demandCell_6 : decode cX6_demandCell 6 = .ok (.invokevirtual 179, 3) := by decide +kernel
theorem dX6_demandCell_9 : decode cX6_demandCell 9 = .ok (.ifCond .ne 13, 3) := by decide +kernel
theorem dX6_demandCell_12 : decode cX6_demandCell 12 = .ok (.new 183, 3) := by decide +kernel
theorem dX6_demandCell_15 : decode cX6_demandCell 15 = .ok (.dup, 1) := by decide +kernel
theorem dX6_demandCell_16 : decode cX6_demandCell 16 = .ok (.ldc 185, 2) := by decide +kernel
theorem dX6_demandCell_18 : decode cX6_demandCell 18 = .ok (.invokespecial 187, 3) := by decide +kernel
theorem dX6_demandCell_21 : decode cX6_demandCell 21 = .ok (.athrow, 1) := by decide +kernel
theorem dX6_demandCell_22 : decode cX6_demandCell 22 = .ok (.return_, 1) := by decide +kernel
theorem dX6_demandTool_0 : decode cX6_demandTool 0 = .ok (.iload_n 0, 1) := by decide +kernel
theorem dX6_demandTool_1 : decode cX6_demandTool 1 = .ok (.ifCond .lt 8, 3) := by decide +kernel
theorem dX6_demandTool_4 : decode cX6_demandTool 4 = .ok (.iload_n 0, 1) := by decide +kernel
theorem dX6_demandTool_5 : decode cX6_demandTool 5 = .ok (.iconst 4, 1) := by decide +kernel
theorem dX6_demandTool_6 : decode cX6_demandTool 6 = .ok (.if_icmp .lt 13, 3) := by decide +kernel
theorem dX6_demandTool_9 : decode cX6_demandTool 9 = .ok (.new 183, 3) := by decide +kernel
theorem dX6_demandTool_12 : decode cX6_demandTool 12 = .ok (.dup, 1) := by decide +kernel
theorem dX6_demandTool_13 : decode cX6_demandTool 13 = .ok (.ldc 188, 2) := by decide +kernel
theorem dX6_demandTool_15 : decode cX6_demandTool 15 = .ok (.invokespecial 187, 3) := by decide +kernel
theorem dX6_demandTool_18 : decode cX6_demandTool 18 = .ok (.athrow, 1) := by decide +kernel
theorem dX6_demandTool_19 : decode cX6_demandTool 19 = .ok (.return_, 1) := by decide +kernel
theorem dX6_demandWhat_0 : decode cX6_demandWhat 0 = .ok (.iload_n 0, 1) := by decide +kernel
theorem dX6_demandWhat_1 : decode cX6_demandWhat 1 = .ok (.ifCond .lt 8, 3) := by decide +kernel
theorem dX6_demandWhat_4 : decode cX6_demandWhat 4 = .ok (.iload_n 0, 1) := by decide +kernel
theorem dX6_demandWhat_5 : decode cX6_demandWhat 5 = .ok (.iload_n 1, 1) := by decide +kernel
theorem dX6_demandWhat_6 : decode cX6_demandWhat 6 = .ok (.if_icmp .le 13, 3) := by decide +kernel
theorem dX6_demandWhat_9 : decode cX6_demandWhat 9 = .ok (.new 183, 3) := by decide +kernel
theorem dX6_demandWhat_12 : decode cX6_demandWhat 12 = .ok (.dup, 1) := by decide +kernel
theorem dX6_demandWhat_13 : decode cX6_demandWhat 13 = .ok (.ldc 190, 2) := by decide +kernel
theorem dX6_demandWhat_15 : decode cX6_demandWhat 15 = .ok (.invokespecial 187, 3) := by decide +kernel
theorem dX6_demandWhat_18 : decode cX6_demandWhat 18 = .ok (.athrow, 1) := by decide +kernel
theorem dX6_demandWhat_19 : decode cX6_demandWhat 19 = .ok (.return_, 1) := by decide +kernel
theorem dL_cell1_0 : decode cL_cell1 0 = .ok (.iload_n 1, 1) := by decide +kernel
theorem dL_cell1_1 : decode cL_cell1 1 = .ok (.aload_n 0, 1) := by decide +kernel
theorem dL_cell1_2 : decode cL_cell1 2 = .ok (.arraylength, 1) := by decide +kernel
theorem dL_cell1_3 : decode cL_cell1 3 = .ok (.if_icmp .ge 9, 3) := by decide +kernel
theorem dL_cell1_6 : decode cL_cell1 6 = .ok (.aload_n 0, 1) := by decide +kernel
theorem dL_cell1_7 : decode cL_cell1 7 = .ok (.iload_n 1, 1) := by decide +kernel
theorem dL_cell1_8 : decode cL_cell1 8 = .ok (.iaload, 1) := by decide +kernel
theorem dL_cell1_9 : decode cL_cell1 9 = .ok (.goto 4, 3) := by decide +kernel
theorem dL_cell1_12 : decode cL_cell1 12 = .ok (.iconst 0, 1) := by decide +kernel
theorem dL_cell1_13 : decode cL_cell1 13 = .ok (.ireturn, 1) := by decide +kernel
theorem dL_target_0 : decode cL_target 0 = .ok (.aload_n 0, 1) := by decide +kernel
theorem dL_target_1 : decode cL_target 1 = .ok (.iload_n 1, 1) := by decide +kernel
theorem dL_target_2 : decode cL_target 2 = .ok (.iload_n 2, 1) := by decide +kernel
theorem dL_target_3 : decode cL_target 3 = .ok (.iload_n 3, 1) := by decide +kernel
theorem dL_target_4 : decode cL_target 4 = .ok (.iload 4, 2) := by decide +kernel
theorem dL_target_6 : decode cL_target 6 = .ok (.iload 5, 2) := by decide +kernel
theorem dL_target_8 : decode cL_target 8 = .ok (.invokevirtual 7, 3) := by decide +kernel
theorem dL_target_11 : decode cL_target 11 = .ok (.goto 11, 3) := by decide +kernel
theorem dL_target_14 : decode cL_target 14 = .ok (.astore 6, 2) := by decide +kernel
theorem dL_target_16 : decode cL_target 16 = .ok (.iconst 1, 1) := by decide +kernel
theorem dL_target_17 : decode cL_target 17 = .ok (.ireturn, 1) := by decide +kernel
theorem dL_target_18 : decode cL_target 18 = .ok (.astore 6, 2) := by decide +kernel
theorem dL_target_20 : decode cL_target 20 = .ok (.iconst 2, 1) := by decide +kernel
theorem dL_target_21 : decode cL_target 21 = .ok (.ireturn, 1) := by decide +kernel
theorem dL_target_22 : decode cL_target 22 = .ok (.iconst 0, 1) := by decide +kernel
theorem dL_target_23 : decode cL_target 23 = .ok (.ireturn, 1) := by decide +kernel
theorem dL_keep_0 : decode cL_keep 0 = .ok (.aload_n 0, 1) := by decide +kernel
theorem dL_keep_1 : decode cL_keep 1 = .ok (.iload_n 1, 1) := by decide +kernel
theorem dL_keep_2 : decode cL_keep 2 = .ok (.iload_n 2, 1) := by decide +kernel
theorem dL_keep_3 : decode cL_keep 3 = .ok (.iload_n 3, 1) := by decide +kernel
theorem dL_keep_4 : decode cL_keep 4 = .ok (.iload 4, 2) := by decide +kernel
theorem dL_keep_6 : decode cL_keep 6 = .ok (.iload 5, 2) := by decide +kernel
theorem dL_keep_8 : decode cL_keep 8 = .ok (.invokevirtual 17, 3) := by decide +kernel
theorem dL_keep_11 : decode cL_keep 11 = .ok (.goto 11, 3) := by decide +kernel
theorem dL_keep_14 : decode cL_keep 14 = .ok (.astore 6, 2) := by decide +kernel
theorem dL_keep_16 : decode cL_keep 16 = .ok (.iconst 1, 1) := by decide +kernel
theorem dL_keep_17 : decode cL_keep 17 = .ok (.ireturn, 1) := by decide +kernel
theorem dL_keep_18 : decode cL_keep 18 = .ok (.astore 6, 2) := by decide +kernel
theorem dL_keep_20 : decode cL_keep 20 = .ok (.iconst 2, 1) := by decide +kernel
theorem dL_keep_21 : decode cL_keep 21 = .ok (.ireturn, 1) := by decide +kernel
theorem dL_keep_22 : decode cL_keep 22 = .ok (.iconst 0, 1) := by decide +kernel
theorem dL_keep_23 : decode cL_keep 23 = .ok (.ireturn, 1) := by decide +kernel
theorem dL_tool_0 : decode cL_tool 0 = .ok (.aload_n 0, 1) := by decide +kernel
theorem dL_tool_1 : decode cL_tool 1 = .ok (.iload_n 1, 1) := by decide +kernel
theorem dL_tool_2 : decode cL_tool 2 = .ok (.iload_n 2, 1) := by decide +kernel
theorem dL_tool_3 : decode cL_tool 3 = .ok (.iload_n 3, 1) := by decide +kernel
theorem dL_tool_4 : decode cL_tool 4 = .ok (.invokevirtual 21, 3) := by decide +kernel
theorem dL_tool_7 : decode cL_tool 7 = .ok (.goto 11, 3) := by decide +kernel
theorem dL_tool_10 : decode cL_tool 10 = .ok (.astore 4, 2) := by decide +kernel
theorem dL_tool_12 : decode cL_tool 12 = .ok (.iconst 1, 1) := by decide +kernel
theorem dL_tool_13 : decode cL_tool 13 = .ok (.ireturn, 1) := by decide +kernel
theorem dL_tool_14 : decode cL_tool 14 = .ok (.astore 4, 2) := by decide +kernel
theorem dL_tool_16 : decode cL_tool 16 = .ok (.iconst 2, 1) := by decide +kernel
theorem dL_tool_17 : decode cL_tool 17 = .ok (.ireturn, 1) := by decide +kernel
theorem dL_tool_18 : decode cL_tool 18 = .ok (.iconst 0, 1) := by decide +kernel
theorem dL_tool_19 : decode cL_tool 19 = .ok (.ireturn, 1) := by decide +kernel
theorem dL_run_0 : decode cL_run 0 = .ok (.aload_n 1, 1) := by decide +kernel
theorem dL_run_1 : decode cL_run 1 = .ok (.iconst 0, 1) := by decide +kernel
theorem dL_run_2 : decode cL_run 2 = .ok (.aload_n 0, 1) := by decide +kernel
theorem dL_run_3 : decode cL_run 3 = .ok (.invokevirtual 25, 3) := by decide +kernel
theorem dL_run_6 : decode cL_run 6 = .ok (.i2l, 1) := by decide +kernel
theorem dL_run_7 : decode cL_run 7 = .ok (.lastore, 1) := by decide +kernel
theorem dL_run_8 : decode cL_run 8 = .ok (.goto 6, 3) := by decide +kernel
theorem dL_run_11 : decode cL_run 11 = .ok (.astore_n 2, 1) := by decide +kernel
theorem dL_run_12 : decode cL_run 12 = .ok (.iconst 1, 1) := by decide +kernel
theorem dL_run_13 : decode cL_run 13 = .ok (.ireturn, 1) := by decide +kernel
theorem dL_run_14 : decode cL_run 14 = .ok (.iconst 0, 1) := by decide +kernel
theorem dL_run_15 : decode cL_run 15 = .ok (.ireturn, 1) := by decide +kernel
theorem dL_about_0 : decode cL_about 0 = .ok (.aload_n 2, 1) := by decide +kernel
theorem dL_about_1 : decode cL_about 1 = .ok (.iconst 0, 1) := by decide +kernel
theorem dL_about_2 : decode cL_about 2 = .ok (.aload_n 0, 1) := by decide +kernel
theorem dL_about_3 : decode cL_about 3 = .ok (.iload_n 1, 1) := by decide +kernel
theorem dL_about_4 : decode cL_about 4 = .ok (.invokevirtual 31, 3) := by decide +kernel
theorem dL_about_7 : decode cL_about 7 = .ok (.i2l, 1) := by decide +kernel
theorem dL_about_8 : decode cL_about 8 = .ok (.lastore, 1) := by decide +kernel
theorem dL_about_9 : decode cL_about 9 = .ok (.goto 9, 3) := by decide +kernel
theorem dL_about_12 : decode cL_about 12 = .ok (.astore_n 3, 1) := by decide +kernel
theorem dL_about_13 : decode cL_about 13 = .ok (.iconst 1, 1) := by decide +kernel
theorem dL_about_14 : decode cL_about 14 = .ok (.ireturn, 1) := by decide +kernel
theorem dL_about_15 : decode cL_about 15 = .ok (.astore_n 3, 1) := by decide +kernel
theorem dL_about_16 : decode cL_about 16 = .ok (.iconst 2, 1) := by decide +kernel
theorem dL_about_17 : decode cL_about 17 = .ok (.ireturn, 1) := by decide +kernel
theorem dL_about_18 : decode cL_about 18 = .ok (.iconst 0, 1) := by decide +kernel
theorem dL_about_19 : decode cL_about 19 = .ok (.ireturn, 1) := by decide +kernel
theorem dL_cell2_0 : decode cL_cell2 0 = .ok (.aload 4, 2) := by decide +kernel
theorem dL_cell2_2 : decode cL_cell2 2 = .ok (.iconst 0, 1) := by decide +kernel
theorem dL_cell2_3 : decode cL_cell2 3 = .ok (.aload_n 0, 1) := by decide +kernel
theorem dL_cell2_4 : decode cL_cell2 4 = .ok (.iload_n 1, 1) := by decide +kernel
theorem dL_cell2_5 : decode cL_cell2 5 = .ok (.iload_n 2, 1) := by decide +kernel
theorem dL_cell2_6 : decode cL_cell2 6 = .ok (.iload_n 3, 1) := by decide +kernel
theorem dL_cell2_7 : decode cL_cell2 7 = .ok (.invokevirtual 35, 3) := by decide +kernel
theorem dL_cell2_10 : decode cL_cell2 10 = .ok (.i2l, 1) := by decide +kernel
theorem dL_cell2_11 : decode cL_cell2 11 = .ok (.lastore, 1) := by decide +kernel
theorem dL_cell2_12 : decode cL_cell2 12 = .ok (.goto 7, 3) := by decide +kernel
theorem dL_cell2_15 : decode cL_cell2 15 = .ok (.astore 5, 2) := by decide +kernel
theorem dL_cell2_17 : decode cL_cell2 17 = .ok (.iconst 1, 1) := by decide +kernel
theorem dL_cell2_18 : decode cL_cell2 18 = .ok (.ireturn, 1) := by decide +kernel
theorem dL_cell2_19 : decode cL_cell2 19 = .ok (.iconst 0, 1) := by decide +kernel
theorem dL_cell2_20 : decode cL_cell2 20 = .ok (.ireturn, 1) := by decide +kernel
theorem dL_check_0 : decode cL_check 0 = .ok (.aload_n 2, 1) := by decide +kernel
theorem dL_check_1 : decode cL_check 1 = .ok (.iconst 0, 1) := by decide +kernel
theorem dL_check_2 : decode cL_check 2 = .ok (.aload_n 0, 1) := by decide +kernel
theorem dL_check_3 : decode cL_check 3 = .ok (.iload_n 1, 1) := by decide +kernel
theorem dL_check_4 : decode cL_check 4 = .ok (.invokevirtual 39, 3) := by decide +kernel
theorem dL_check_7 : decode cL_check 7 = .ok (.i2l, 1) := by decide +kernel
theorem dL_check_8 : decode cL_check 8 = .ok (.lastore, 1) := by decide +kernel
theorem dL_check_9 : decode cL_check 9 = .ok (.goto 6, 3) := by decide +kernel
theorem dL_check_12 : decode cL_check 12 = .ok (.astore_n 3, 1) := by decide +kernel
theorem dL_check_13 : decode cL_check 13 = .ok (.iconst 1, 1) := by decide +kernel
theorem dL_check_14 : decode cL_check 14 = .ok (.ireturn, 1) := by decide +kernel
theorem dL_check_15 : decode cL_check 15 = .ok (.iconst 0, 1) := by decide +kernel
theorem dL_check_16 : decode cL_check 16 = .ok (.ireturn, 1) := by decide +kernel
theorem dL_reached_0 : decode cL_reached 0 = .ok (.aload_n 2, 1) := by decide +kernel
theorem dL_reached_1 : decode cL_reached 1 = .ok (.iconst 0, 1) := by decide +kernel
theorem dL_reached_2 : decode cL_reached 2 = .ok (.aload_n 0, 1) := by decide +kernel
theorem dL_reached_3 : decode cL_reached 3 = .ok (.iload_n 1, 1) := by decide +kernel
theorem dL_reached_4 : decode cL_reached 4 = .ok (.invokevirtual 42, 3) := by decide +kernel
theorem dL_reached_7 : decode cL_reached 7 = .ok (.i2l, 1) := by decide +kernel
theorem dL_reached_8 : decode cL_reached 8 = .ok (.lastore, 1) := by decide +kernel
theorem dL_reached_9 : decode cL_reached 9 = .ok (.goto 6, 3) := by decide +kernel
theorem dL_reached_12 : decode cL_reached 12 = .ok (.astore_n 3, 1) := by decide +kernel
theorem dL_reached_13 : decode cL_reached 13 = .ok (.iconst 1, 1) := by decide +kernel
theorem dL_reached_14 : decode cL_reached 14 = .ok (.ireturn, 1) := by decide +kernel
theorem dL_reached_15 : decode cL_reached 15 = .ok (.iconst 0, 1) := by decide +kernel
theorem dL_reached_16 : decode cL_reached 16 = .ok (.ireturn, 1) := by decide +kernel
end
section
theorem dX7_init_0 : decode cX7_init 0 = .ok (.aload_n 0, 1) := by decide +kernel
theorem dX7_init_1 : decode cX7_init 1 = .ok (.invokespecial 1, 3) := by decide +kernel
theorem dX7_init_4 : decode cX7_init 4 = .ok (.aload_n 0, 1) := by decide +kernel
theorem dX7_init_5 : decode cX7_init 5 = .ok (.sipush 400, 3) := by decide +kernel
theorem dX7_init_8 : decode cX7_init 8 = .ok (.newarray .int, 2) := by decide +kernel
theorem dX7_init_10 : decode cX7_init 10 = .ok (.putfield 7, 3) := by decide +kernel
theorem dX7_init_13 : decode cX7_init 13 = .ok (.aload_n 0, 1) := by decide +kernel
theorem dX7_init_14 : decode cX7_init 14 = .ok (.sipush 400, 3) := by decide +kernel
theorem dX7_init_17 : decode cX7_init 17 = .ok (.newarray .int, 2) := by decide +kernel
theorem dX7_init_19 : decode cX7_init 19 = .ok (.putfield 13, 3) := by decide +kernel
theorem dX7_init_22 : decode cX7_init 22 = .ok (.aload_n 0, 1) := by decide +kernel
theorem dX7_init_23 : decode cX7_init 23 = .ok (.sipush 400, 3) := by decide +kernel
theorem dX7_init_26 : decode cX7_init 26 = .ok (.newarray .boolean, 2) := by decide +kernel
theorem dX7_init_28 : decode cX7_init 28 = .ok (.putfield 16, 3) := by decide +kernel
theorem dX7_init_31 : decode cX7_init 31 = .ok (.aload_n 0, 1) := by decide +kernel
theorem dX7_init_32 : decode cX7_init 32 = .ok (.iconst 4, 1) := by decide +kernel
theorem dX7_init_33 : decode cX7_init 33 = .ok (.newarray .int, 2) := by decide +kernel
theorem dX7_init_35 : decode cX7_init 35 = .ok (.putfield 20, 3) := by decide +kernel
theorem dX7_init_38 : decode cX7_init 38 = .ok (.aload_n 0, 1) := by decide +kernel
theorem dX7_init_39 : decode cX7_init 39 = .ok (.iconst 4, 1) := by decide +kernel
theorem dX7_init_40 : decode cX7_init 40 = .ok (.newarray .int, 2) := by decide +kernel
theorem dX7_init_42 : decode cX7_init 42 = .ok (.dup, 1) := by decide +kernel
theorem dX7_init_43 : decode cX7_init 43 = .ok (.iconst 0, 1) := by decide +kernel
theorem dX7_init_44 : decode cX7_init 44 = .ok (.iconst 1, 1) := by decide +kernel
theorem dX7_init_45 : decode cX7_init 45 = .ok (.iastore, 1) := by decide +kernel
theorem dX7_init_46 : decode cX7_init 46 = .ok (.dup, 1) := by decide +kernel
theorem dX7_init_47 : decode cX7_init 47 = .ok (.iconst 1, 1) := by decide +kernel
theorem dX7_init_48 : decode cX7_init 48 = .ok (.iconst 1, 1) := by decide +kernel
theorem dX7_init_49 : decode cX7_init 49 = .ok (.iastore, 1) := by decide +kernel
theorem dX7_init_50 : decode cX7_init 50 = .ok (.dup, 1) := by decide +kernel
theorem dX7_init_51 : decode cX7_init 51 = .ok (.iconst 2, 1) := by decide +kernel
theorem dX7_init_52 : decode cX7_init 52 = .ok (.iconst 1, 1) := by decide +kernel
theorem dX7_init_53 : decode cX7_init 53 = .ok (.iastore, 1) := by decide +kernel
theorem dX7_init_54 : decode cX7_init 54 = .ok (.dup, 1) := by decide +kernel
theorem dX7_init_55 : decode cX7_init 55 = .ok (.iconst 3, 1) := by decide +kernel
theorem dX7_init_56 : decode cX7_init 56 = .ok (.iconst 1, 1) := by decide +kernel
theorem dX7_init_57 : decode cX7_init 57 = .ok (.iastore, 1) := by decide +kernel
theorem dX7_init_58 : decode cX7_init 58 = .ok (.putfield 23, 3) := by decide +kernel
theorem dX7_init_61 : decode cX7_init 61 = .ok (.aload_n 0, 1) := by decide +kernel
theorem dX7_init_62 : decode cX7_init 62 = .ok (.sipush 240, 3) := by decide +kernel
theorem dX7_init_65 : decode cX7_init 65 = .ok (.newarray .int, 2) := by decide +kernel
theorem dX7_init_67 : decode cX7_init 67 = .ok (.putfield 26, 3) := by decide +kernel
theorem dX7_init_70 : decode cX7_init 70 = .ok (.aload_n 0, 1) := by decide +kernel
theorem dX7_init_71 : decode cX7_init 71 = .ok (.sipush 160, 3) := by decide +kernel
theorem dX7_init_74 : decode cX7_init 74 = .ok (.newarray .int, 2) := by decide +kernel
theorem dX7_init_76 : decode cX7_init 76 = .ok (.putfield 29, 3) := by decide +kernel
theorem dX7_init_79 : decode cX7_init 79 = .ok (.aload_n 0, 1) := by decide +kernel
theorem dX7_init_80 : decode cX7_init 80 = .ok (.sipush 160, 3) := by decide +kernel
theorem dX7_init_83 : decode cX7_init 83 = .ok (.newarray .int, 2) := by decide +kernel
theorem dX7_init_85 : decode cX7_init 85 = .ok (.putfield 32, 3) := by decide +kernel
theorem dX7_init_88 : decode cX7_init 88 = .ok (.aload_n 0, 1) := by decide +kernel
theorem dX7_init_89 : decode cX7_init 89 = .ok (.iconst 3, 1) := by decide +kernel
theorem dX7_init_90 : decode cX7_init 90 = .ok (.newarray .int, 2) := by decide +kernel
theorem dX7_init_92 : decode cX7_init 92 = .ok (.putfield 35, 3) := by decide +kernel
theorem dX7_init_95 : decode cX7_init 95 = .ok (.aload_n 0, 1) := by decide +kernel
theorem dX7_init_96 : decode cX7_init 96 = .ok (.bipush 6, 2) := by decide +kernel
theorem dX7_init_98 : decode cX7_init 98 = .ok (.newarray .int, 2) := by decide +kernel
theorem dX7_init_100 : decode cX7_init 100 = .ok (.putfield 38, 3) := by decide +kernel
theorem dX7_init_103 : decode cX7_init 103 = .ok (.aload_n 0, 1) := by decide +kernel
theorem dX7_init_104 : decode cX7_init 104 = .ok (.sipush 400, 3) := by decide +kernel
theorem dX7_init_107 : decode cX7_init 107 = .ok (.newarray .int, 2) := by decide +kernel
theorem dX7_init_109 : decode cX7_init 109 = .ok (.putfield 41, 3) := by decide +kernel
theorem dX7_init_112 : decode cX7_init 112 = .ok (.aload_n 0, 1) := by decide +kernel
theorem dX7_init_113 : decode cX7_init 113 = .ok (.sipush 400, 3) := by decide +kernel
theorem dX7_init_116 : decode cX7_init 116 = .ok (.newarray .boolean, 2) := by decide +kernel
theorem dX7_init_118 : decode cX7_init 118 = .ok (.putfield 44, 3) := by decide +kernel
theorem dX7_init_121 : decode cX7_init 121 = .ok (.aload_n 0, 1) := by decide +kernel
theorem dX7_init_122 : decode cX7_init 122 = .ok (.iconst 3, 1) := by decide +kernel
theorem dX7_init_123 : decode cX7_init 123 = .ok (.newarray .int, 2) := by decide +kernel
theorem dX7_init_125 : decode cX7_init 125 = .ok (.putfield 47, 3) := by decide +kernel
theorem dX7_init_128 : decode cX7_init 128 = .ok (.aload_n 0, 1) := by decide +kernel
theorem dX7_init_129 : decode cX7_init 129 = .ok (.iconst 3, 1) := by decide +kernel
theorem dX7_init_130 : decode cX7_init 130 = .ok (.newarray .int, 2) := by decide +kernel
theorem dX7_init_132 : decode cX7_init 132 = .ok (.putfield 50, 3) := by decide +kernel
theorem dX7_init_135 : decode cX7_init 135 = .ok (.aload_n 0, 1) := by decide +kernel
theorem dX7_init_136 : decode cX7_init 136 = .ok (.iload_n 1, 1) := by decide +kernel
theorem dX7_init_137 : decode cX7_init 137 = .ok (.iconst 2, 1) := by decide +kernel
theorem dX7_init_138 : decode cX7_init 138 = .ok (.if_icmp .ge 7, 3) := by decide +kernel
theorem dX7_init_141 : decode cX7_init 141 = .ok (.iconst 2, 1) := by decide +kernel
theorem dX7_init_142 : decode cX7_init 142 = .ok (.goto 15, 3) := by decide +kernel
theorem dX7_init_145 : decode cX7_init 145 = .ok (.iload_n 1, 1) := by decide +kernel
theorem dX7_init_146 : decode cX7_init 146 = .ok (.bipush 20, 2) := by decide +kernel
theorem dX7_init_148 : decode cX7_init 148 = .ok (.if_icmp .le 8, 3) := by decide +kernel
theorem dX7_init_151 : decode cX7_init 151 = .ok (.bipush 20, 2) := by decide +kernel
theorem dX7_init_153 : decode cX7_init 153 = .ok (.goto 4, 3) := by decide +kernel
theorem dX7_init_156 : decode cX7_init 156 = .ok (.iload_n 1, 1) := by decide +kernel
theorem dX7_init_157 : decode cX7_init 157 = .ok (.putfield 53, 3) := by decide +kernel
theorem dX7_init_160 : decode cX7_init 160 = .ok (.iconst 0, 1) := by decide +kernel
theorem dX7_init_161 : decode cX7_init 161 = .ok (.istore_n 2, 1) := by decide +kernel
theorem dX7_init_162 : decode cX7_init 162 = .ok (.iload_n 2, 1) := by decide +kernel
theorem dX7_init_163 : decode cX7_init 163 = .ok (.sipush 400, 3) := by decide +kernel
theorem dX7_init_166 : decode cX7_init 166 = .ok (.if_icmp .ge 25, 3) := by decide +kernel
theorem dX7_init_169 : decode cX7_init 169 = .ok (.aload_n 0, 1) := by decide +kernel
theorem dX7_init_170 : decode cX7_init 170 = .ok (.getfield 7, 3) := by decide +kernel
theorem dX7_init_173 : decode cX7_init 173 = .ok (.iload_n 2, 1) := by decide +kernel
theorem dX7_init_174 : decode cX7_init 174 = .ok (.bipush 100, 2) := by decide +kernel
theorem dX7_init_176 : decode cX7_init 176 = .ok (.iastore, 1) := by decide +kernel
theorem dX7_init_177 : decode cX7_init 177 = .ok (.aload_n 0, 1) := by decide +kernel
theorem dX7_init_178 : decode cX7_init 178 = .ok (.getfield 13, 3) := by decide +kernel
theorem dX7_init_181 : decode cX7_init 181 = .ok (.iload_n 2, 1) := by decide +kernel
theorem dX7_init_182 : decode cX7_init 182 = .ok (.bipush 100, 2) := by decide +kernel
theorem dX7_init_184 : decode cX7_init 184 = .ok (.iastore, 1) := by decide +kernel
theorem dX7_init_185 : decode cX7_init 185 = .ok (.iinc 2 1, 3) := by decide +kernel
theorem dX7_init_188 : decode cX7_init 188 = .ok (.goto (-26), 3) := by decide +kernel
theorem dX7_init_191 : decode cX7_init 191 = .ok (.return_, 1) := by decide +kernel
theorem dX7_thrown_0 : decode cX7_thrown 0 = .ok (.aload_n 0, 1) := by decide +kernel
theorem dX7_thrown_1 : decode cX7_thrown 1 = .ok (.getfield 57, 3) := by decide +kernel
theorem dX7_thrown_4 : decode cX7_thrown 4 = .ok (.ireturn, 1) := by decide +kernel
theorem dX7_isIn_0 : decode cX7_isIn 0 = .ok (.iload_n 0, 1) := by decide +kernel
theorem dX7_isIn_1 : decode cX7_isIn 1 = .ok (.iload_n 1, 1) := by decide +kernel
theorem dX7_isIn_2 : decode cX7_isIn 2 = .ok (.if_icmp .lt 12, 3) := by decide +kernel
theorem dX7_isIn_5 : decode cX7_isIn 5 = .ok (.iload_n 0, 1) := by decide +kernel
theorem dX7_isIn_6 : decode cX7_isIn 6 = .ok (.iload_n 2, 1) := by decide +kernel
theorem dX7_isIn_7 : decode cX7_isIn 7 = .ok (.if_icmp .gt 7, 3) := by decide +kernel
theorem dX7_isIn_10 : decode cX7_isIn 10 = .ok (.iconst 1, 1) := by decide +kernel
theorem dX7_isIn_11 : decode cX7_isIn 11 = .ok (.goto 4, 3) := by decide +kernel
theorem dX7_isIn_14 : decode cX7_isIn 14 = .ok (.iconst 0, 1) := by decide +kernel
theorem dX7_isIn_15 : decode cX7_isIn 15 = .ok (.ireturn, 1) := by decide +kernel
theorem dX7_isCell_0 : decode cX7_isCell 0 = .ok (.iload_n 1, 1) := by decide +kernel
theorem dX7_isCell_1 : decode cX7_isCell 1 = .ok (.iconst 0, 1) := by decide +kernel
theorem dX7_isCell_2 : decode cX7_isCell 2 = .ok (.aload_n 0, 1) := by decide +kernel
theorem dX7_isCell_3 : decode cX7_isCell 3 = .ok (.getfield 53, 3) := by decide +kernel
theorem dX7_isCell_6 : decode cX7_isCell 6 = .ok (.iconst 1, 1) := by decide +kernel
theorem dX7_isCell_7 : decode cX7_isCell 7 = .ok (.isub, 1) := by decide +kernel
theorem dX7_isCell_8 : decode cX7_isCell 8 = .ok (.invokestatic 60, 3) := by decide +kernel
theorem dX7_isCell_11 : decode cX7_isCell 11 = .ok (.ifCond .eq 21, 3) := by decide +kernel
theorem dX7_isCell_14 : decode cX7_isCell 14 = .ok (.iload_n 2, 1) := by decide +kernel
theorem dX7_isCell_15 : decode cX7_isCell 15 = .ok (.iconst 0, 1) := by decide +kernel
theorem dX7_isCell_16 : decode cX7_isCell 16 = .ok (.aload_n 0, 1) := by decide +kernel
theorem dX7_isCell_17 : decode cX7_isCell 17 = .ok (.getfield 53, 3) := by decide +kernel
theorem dX7_isCell_20 : decode cX7_isCell 20 = .ok (.iconst 1, 1) := by decide +kernel
theorem dX7_isCell_21 : decode cX7_isCell 21 = .ok (.isub, 1) := by decide +kernel
theorem dX7_isCell_22 : decode cX7_isCell 22 = .ok (.invokestatic 60, 3) := by decide +kernel
theorem dX7_isCell_25 : decode cX7_isCell 25 = .ok (.ifCond .eq 7, 3) := by decide +kernel
theorem dX7_isCell_28 : decode cX7_isCell 28 = .ok (.iconst 1, 1) := by decide +kernel
theorem dX7_isCell_29 : decode cX7_isCell 29 = .ok (.goto 4, 3) := by decide +kernel
theorem dX7_isCell_32 : decode cX7_isCell 32 = .ok (.iconst 0, 1) := by decide +kernel
theorem dX7_isCell_33 : decode cX7_isCell 33 = .ok (.ireturn, 1) := by decide +kernel
theorem dX7_spanFault_0 : decode cX7_spanFault 0 = .ok (.aload_n 0, 1) := by decide +kernel
theorem dX7_spanFault_1 : decode cX7_spanFault 1 = .ok (.iload_n 1, 1) := by decide +kernel
theorem dX7_spanFault_2 : decode cX7_spanFault 2 = .ok (.iload_n 2, 1) := by decide +kernel
theorem dX7_spanFault_3 : decode cX7_spanFault 3 = .ok (.invokevirtual 64, 3) := by decide +kernel
theorem dX7_spanFault_6 : decode cX7_spanFault 6 = .ok (.ifCond .eq 13, 3) := by decide +kernel
theorem dX7_spanFault_9 : decode cX7_spanFault 9 = .ok (.aload_n 0, 1) := by decide +kernel
theorem dX7_spanFault_10 : decode cX7_spanFault 10 = .ok (.iload_n 3, 1) := by decide +kernel
theorem dX7_spanFault_11 : decode cX7_spanFault 11 = .ok (.iload 4, 2) := by decide +kernel
theorem dX7_spanFault_13 : decode cX7_spanFault 13 = .ok (.invokevirtual 64, 3) := by decide +kernel
theorem dX7_spanFault_16 : decode cX7_spanFault 16 = .ok (.ifCond .ne 7, 3) := by decide +kernel
theorem dX7_spanFault_19 : decode cX7_spanFault 19 = .ok (.iconst 1, 1) := by decide +kernel
theorem dX7_spanFault_20 : decode cX7_spanFault 20 = .ok (.goto 24, 3) := by decide +kernel
theorem dX7_spanFault_23 : decode cX7_spanFault 23 = .ok (.iload_n 3, 1) := by decide +kernel
theorem dX7_spanFault_24 : decode cX7_spanFault 24 = .ok (.iload_n 1, 1) := by decide +kernel
theorem dX7_spanFault_25 : decode cX7_spanFault 25 = .ok (.if_icmp .lt 18, 3) := by decide +kernel
theorem dX7_spanFault_28 : decode cX7_spanFault 28 = .ok (.iload 4, 2) := by decide +kernel
theorem dX7_spanFault_30 : decode cX7_spanFault 30 = .ok (.iload_n 2, 1) := by decide +kernel
theorem dX7_spanFault_31 : decode cX7_spanFault 31 = .ok (.if_icmp .lt 12, 3) := by decide +kernel
theorem dX7_spanFault_34 : decode cX7_spanFault 34 = .ok (.iload 5, 2) := by decide +kernel
theorem dX7_spanFault_36 : decode cX7_spanFault 36 = .ok (.ifCond .eq 7, 3) := by decide +kernel
theorem dX7_spanFault_39 : decode cX7_spanFault 39 = .ok (.iconst 0, 1) := by decide +kernel
theorem dX7_spanFault_40 : decode cX7_spanFault 40 = .ok (.goto 4, 3) := by decide +kernel
theorem dX7_spanFault_43 : decode cX7_spanFault 43 = .ok (.iconst 2, 1) := by decide +kernel
theorem dX7_spanFault_44 : decode cX7_spanFault 44 = .ok (.ireturn, 1) := by decide +kernel
theorem dX7_target_0 : decode cX7_target 0 = .ok (.aload_n 0, 1) := by decide +kernel
theorem dX7_target_1 : decode cX7_target 1 = .ok (.aload_n 0, 1) := by decide +kernel
theorem dX7_target_2 : decode cX7_target 2 = .ok (.iload_n 1, 1) := by decide +kernel
theorem dX7_target_3 : decode cX7_target 3 = .ok (.iload_n 2, 1) := by decide +kernel
theorem dX7_target_4 : decode cX7_target 4 = .ok (.iload_n 3, 1) := by decide +kernel
theorem dX7_target_5 : decode cX7_target 5 = .ok (.iload 4, 2) := by decide +kernel
theorem dX7_target_7 : decode cX7_target 7 = .ok (.iload 5, 2) := by decide +kernel
theorem dX7_target_9 : decode cX7_target 9 = .ok (.iconst 0, 1) := by decide +kernel
theorem dX7_target_10 : decode cX7_target 10 = .ok (.bipush 100, 2) := by decide +kernel
theorem dX7_target_12 : decode cX7_target 12 = .ok (.invokestatic 60, 3) := by decide +kernel
theorem dX7_target_15 : decode cX7_target 15 = .ok (.invokevirtual 68, 3) := by decide +kernel
theorem dX7_target_18 : decode cX7_target 18 = .ok (.putfield 57, 3) := by decide +kernel
theorem dX7_target_21 : decode cX7_target 21 = .ok (.iload_n 2, 1) := by decide +kernel
theorem dX7_target_22 : decode cX7_target 22 = .ok (.istore 6, 2) := by decide +kernel
theorem dX7_target_24 : decode cX7_target 24 = .ok (.aload_n 0, 1) := by decide +kernel
theorem dX7_target_25 : decode cX7_target 25 = .ok (.getfield 57, 3) := by decide +kernel
theorem dX7_target_28 : decode cX7_target 28 = .ok (.ifCond .ne 46, 3) := by decide +kernel
theorem dX7_target_31 : decode cX7_target 31 = .ok (.iload 6, 2) := by decide +kernel
theorem dX7_target_33 : decode cX7_target 33 = .ok (.iload 4, 2) := by decide +kernel
theorem dX7_target_35 : decode cX7_target 35 = .ok (.if_icmp .gt 39, 3) := by decide +kernel
theorem dX7_target_38 : decode cX7_target 38 = .ok (.iload_n 1, 1) := by decide +kernel
theorem dX7_target_39 : decode cX7_target 39 = .ok (.istore 7, 2) := by decide +kernel
theorem dX7_target_41 : decode cX7_target 41 = .ok (.iload 7, 2) := by decide +kernel
theorem dX7_target_43 : decode cX7_target 43 = .ok (.iload_n 3, 1) := by decide +kernel
theorem dX7_target_44 : decode cX7_target 44 = .ok (.if_icmp .gt 24, 3) := by decide +kernel
theorem dX7_target_47 : decode cX7_target 47 = .ok (.aload_n 0, 1) := by decide +kernel
theorem dX7_target_48 : decode cX7_target 48 = .ok (.getfield 13, 3) := by decide +kernel
theorem dX7_target_51 : decode cX7_target 51 = .ok (.bipush 20, 2) := by decide +kernel
theorem dX7_target_53 : decode cX7_target 53 = .ok (.iload 6, 2) := by decide +kernel
theorem dX7_target_55 : decode cX7_target 55 = .ok (.imul, 1) := by decide +kernel
theorem dX7_target_56 : decode cX7_target 56 = .ok (.iload 7, 2) := by decide +kernel
theorem dX7_target_58 : decode cX7_target 58 = .ok (.iadd, 1) := by decide +kernel
theorem dX7_target_59 : decode cX7_target 59 = .ok (.iload 5, 2) := by decide +kernel
theorem dX7_target_61 : decode cX7_target 61 = .ok (.iastore, 1) := by decide +kernel
theorem dX7_target_62 : decode cX7_target 62 = .ok (.iinc 7 1, 3) := by decide +kernel
theorem dX7_target_65 : decode cX7_target 65 = .ok (.goto (-24), 3) := by decide +kernel
theorem dX7_target_68 : decode cX7_target 68 = .ok (.iinc 6 1, 3) := by decide +kernel
theorem dX7_target_71 : decode cX7_target 71 = .ok (.goto (-47), 3) := by decide +kernel
theorem dX7_target_74 : decode cX7_target 74 = .ok (.return_, 1) := by decide +kernel
theorem dX7_keep_0 : decode cX7_keep 0 = .ok (.aload_n 0, 1) := by decide +kernel
theorem dX7_keep_1 : decode cX7_keep 1 = .ok (.aload_n 0, 1) := by decide +kernel
theorem dX7_keep_2 : decode cX7_keep 2 = .ok (.iload_n 1, 1) := by decide +kernel
theorem dX7_keep_3 : decode cX7_keep 3 = .ok (.iload_n 2, 1) := by decide +kernel
theorem dX7_keep_4 : decode cX7_keep 4 = .ok (.iload_n 3, 1) := by decide +kernel
theorem dX7_keep_5 : decode cX7_keep 5 = .ok (.iload 4, 2) := by decide +kernel
theorem dX7_keep_7 : decode cX7_keep 7 = .ok (.iconst 1, 1) := by decide +kernel
theorem dX7_keep_8 : decode cX7_keep 8 = .ok (.invokevirtual 68, 3) := by decide +kernel
theorem dX7_keep_11 : decode cX7_keep 11 = .ok (.putfield 57, 3) := by decide +kernel
theorem dX7_keep_14 : decode cX7_keep 14 = .ok (.iload_n 2, 1) := by decide +kernel
theorem dX7_keep_15 : decode cX7_keep 15 = .ok (.istore 6, 2) := by decide +kernel
theorem dX7_keep_17 : decode cX7_keep 17 = .ok (.aload_n 0, 1) := by decide +kernel
theorem dX7_keep_18 : decode cX7_keep 18 = .ok (.getfield 57, 3) := by decide +kernel
theorem dX7_keep_21 : decode cX7_keep 21 = .ok (.ifCond .ne 46, 3) := by decide +kernel
theorem dX7_keep_24 : decode cX7_keep 24 = .ok (.iload 6, 2) := by decide +kernel
theorem dX7_keep_26 : decode cX7_keep 26 = .ok (.iload 4, 2) := by decide +kernel
theorem dX7_keep_28 : decode cX7_keep 28 = .ok (.if_icmp .gt 39, 3) := by decide +kernel
theorem dX7_keep_31 : decode cX7_keep 31 = .ok (.iload_n 1, 1) := by decide +kernel
theorem dX7_keep_32 : decode cX7_keep 32 = .ok (.istore 7, 2) := by decide +kernel
theorem dX7_keep_34 : decode cX7_keep 34 = .ok (.iload 7, 2) := by decide +kernel
theorem dX7_keep_36 : decode cX7_keep 36 = .ok (.iload_n 3, 1) := by decide +kernel
theorem dX7_keep_37 : decode cX7_keep 37 = .ok (.if_icmp .gt 24, 3) := by decide +kernel
theorem dX7_keep_40 : decode cX7_keep 40 = .ok (.aload_n 0, 1) := by decide +kernel
theorem dX7_keep_41 : decode cX7_keep 41 = .ok (.getfield 16, 3) := by decide +kernel
theorem dX7_keep_44 : decode cX7_keep 44 = .ok (.bipush 20, 2) := by decide +kernel
theorem dX7_keep_46 : decode cX7_keep 46 = .ok (.iload 6, 2) := by decide +kernel
theorem dX7_keep_48 : decode cX7_keep 48 = .ok (.imul, 1) := by decide +kernel
theorem dX7_keep_49 : decode cX7_keep 49 = .ok (.iload 7, 2) := by decide +kernel
theorem dX7_keep_51 : decode cX7_keep 51 = .ok (.iadd, 1) := by decide +kernel
theorem dX7_keep_52 : decode cX7_keep 52 = .ok (.iload 5, 2) := by decide +kernel
theorem dX7_keep_54 : decode cX7_keep 54 = .ok (.bastore, 1) := by decide +kernel
theorem dX7_keep_55 : decode cX7_keep 55 = .ok (.iinc 7 1, 3) := by decide +kernel
theorem dX7_keep_58 : decode cX7_keep 58 = .ok (.goto (-24), 3) := by decide +kernel
theorem dX7_keep_61 : decode cX7_keep 61 = .ok (.iinc 6 1, 3) := by decide +kernel
theorem dX7_keep_64 : decode cX7_keep 64 = .ok (.goto (-47), 3) := by decide +kernel
theorem dX7_keep_67 : decode cX7_keep 67 = .ok (.return_, 1) := by decide +kernel
theorem dX7_tool_0 : decode cX7_tool 0 = .ok (.aload_n 0, 1) := by decide +kernel
theorem dX7_tool_1 : decode cX7_tool 1 = .ok (.iload_n 1, 1) := by decide +kernel
theorem dX7_tool_2 : decode cX7_tool 2 = .ok (.iconst 0, 1) := by decide +kernel
theorem dX7_tool_3 : decode cX7_tool 3 = .ok (.iconst 3, 1) := by decide +kernel
theorem dX7_tool_4 : decode cX7_tool 4 = .ok (.invokestatic 60, 3) := by decide +kernel
theorem dX7_tool_7 : decode cX7_tool 7 = .ok (.ifCond .ne 7, 3) := by decide +kernel
theorem dX7_tool_10 : decode cX7_tool 10 = .ok (.iconst 1, 1) := by decide +kernel
theorem dX7_tool_11 : decode cX7_tool 11 = .ok (.goto 28, 3) := by decide +kernel
theorem dX7_tool_14 : decode cX7_tool 14 = .ok (.iload_n 2, 1) := by decide +kernel
theorem dX7_tool_15 : decode cX7_tool 15 = .ok (.iconst 0, 1) := by decide +kernel
theorem dX7_tool_16 : decode cX7_tool 16 = .ok (.bipush 6, 2) := by decide +kernel
theorem dX7_tool_18 : decode cX7_tool 18 = .ok (.invokestatic 60, 3) := by decide +kernel
theorem dX7_tool_21 : decode cX7_tool 21 = .ok (.ifCond .eq 17, 3) := by decide +kernel
theorem dX7_tool_24 : decode cX7_tool 24 = .ok (.iload_n 3, 1) := by decide +kernel
theorem dX7_tool_25 : decode cX7_tool 25 = .ok (.iconst 1, 1) := by decide +kernel
theorem dX7_tool_26 : decode cX7_tool 26 = .ok (.bipush 10, 2) := by decide +kernel
theorem dX7_tool_28 : decode cX7_tool 28 = .ok (.invokestatic 60, 3) := by decide +kernel
theorem dX7_tool_31 : decode cX7_tool 31 = .ok (.ifCond .eq 7, 3) := by decide +kernel
theorem dX7_tool_34 : decode cX7_tool 34 = .ok (.iconst 0, 1) := by decide +kernel
theorem dX7_tool_35 : decode cX7_tool 35 = .ok (.goto 4, 3) := by decide +kernel
theorem dX7_tool_38 : decode cX7_tool 38 = .ok (.iconst 2, 1) := by decide +kernel
theorem dX7_tool_39 : decode cX7_tool 39 = .ok (.putfield 57, 3) := by decide +kernel
theorem dX7_tool_42 : decode cX7_tool 42 = .ok (.aload_n 0, 1) := by decide +kernel
theorem dX7_tool_43 : decode cX7_tool 43 = .ok (.getfield 57, 3) := by decide +kernel
theorem dX7_tool_46 : decode cX7_tool 46 = .ok (.ifCond .ne 17, 3) := by decide +kernel
theorem dX7_tool_49 : decode cX7_tool 49 = .ok (.aload_n 0, 1) := by decide +kernel
theorem dX7_tool_50 : decode cX7_tool 50 = .ok (.getfield 20, 3) := by decide +kernel
theorem dX7_tool_53 : decode cX7_tool 53 = .ok (.iload_n 1, 1) := by decide +kernel
theorem dX7_tool_54 : decode cX7_tool 54 = .ok (.iload_n 2, 1) := by decide +kernel
theorem dX7_tool_55 : decode cX7_tool 55 = .ok (.iastore, 1) := by decide +kernel
theorem dX7_tool_56 : decode cX7_tool 56 = .ok (.aload_n 0, 1) := by decide +kernel
theorem dX7_tool_57 : decode cX7_tool 57 = .ok (.getfield 23, 3) := by decide +kernel
theorem dX7_tool_60 : decode cX7_tool 60 = .ok (.iload_n 1, 1) := by decide +kernel
theorem dX7_tool_61 : decode cX7_tool 61 = .ok (.iload_n 3, 1) := by decide +kernel
theorem dX7_tool_62 : decode cX7_tool 62 = .ok (.iastore, 1) := by decide +kernel
theorem dX7_tool_63 : decode cX7_tool 63 = .ok (.return_, 1) := by decide +kernel
theorem dX7_unit_0 : decode cX7_unit 0 = .ok (.aload_n 0, 1) := by decide +kernel
theorem dX7_unit_1 : decode cX7_unit 1 = .ok (.iconst 0, 1) := by decide +kernel
theorem dX7_unit_2 : decode cX7_unit 2 = .ok (.putfield 57, 3) := by decide +kernel
theorem dX7_unit_5 : decode cX7_unit 5 = .ok (.iload_n 1, 1) := by decide +kernel
theorem dX7_unit_6 : decode cX7_unit 6 = .ok (.bipush 32, 2) := by decide +kernel
theorem dX7_unit_8 : decode cX7_unit 8 = .ok (.bipush 126, 2) := by decide +kernel
theorem dX7_unit_10 : decode cX7_unit 10 = .ok (.invokestatic 60, 3) := by decide +kernel
theorem dX7_unit_13 : decode cX7_unit 13 = .ok (.ifCond .eq 17, 3) := by decide +kernel
theorem dX7_unit_16 : decode cX7_unit 16 = .ok (.aload_n 0, 1) := by decide +kernel
theorem dX7_unit_17 : decode cX7_unit 17 = .ok (.getfield 72, 3) := by decide +kernel
theorem dX7_unit_20 : decode cX7_unit 20 = .ok (.sipush 240, 3) := by decide +kernel
theorem dX7_unit_23 : decode cX7_unit 23 = .ok (.if_icmp .ge 7, 3) := by decide +kernel
theorem dX7_unit_26 : decode cX7_unit 26 = .ok (.iconst 1, 1) := by decide +kernel
theorem dX7_unit_27 : decode cX7_unit 27 = .ok (.goto 4, 3) := by decide +kernel
theorem dX7_unit_30 : decode cX7_unit 30 = .ok (.iconst 0, 1) := by decide +kernel
theorem dX7_unit_31 : decode cX7_unit 31 = .ok (.istore_n 2, 1) := by decide +kernel
theorem dX7_unit_32 : decode cX7_unit 32 = .ok (.iload_n 2, 1) := by decide +kernel
theorem dX7_unit_33 : decode cX7_unit 33 = .ok (.ifCond .eq 23, 3) := by decide +kernel
theorem dX7_unit_36 : decode cX7_unit 36 = .ok (.aload_n 0, 1) := by decide +kernel
theorem dX7_unit_37 : decode cX7_unit 37 = .ok (.getfield 26, 3) := by decide +kernel
theorem dX7_unit_40 : decode cX7_unit 40 = .ok (.aload_n 0, 1) := by decide +kernel
theorem dX7_unit_41 : decode cX7_unit 41 = .ok (.getfield 72, 3) := by decide +kernel
theorem dX7_unit_44 : decode cX7_unit 44 = .ok (.iload_n 1, 1) := by decide +kernel
theorem dX7_unit_45 : decode cX7_unit 45 = .ok (.iastore, 1) := by decide +kernel
theorem dX7_unit_46 : decode cX7_unit 46 = .ok (.aload_n 0, 1) := by decide +kernel
theorem dX7_unit_47 : decode cX7_unit 47 = .ok (.dup, 1) := by decide +kernel
theorem dX7_unit_48 : decode cX7_unit 48 = .ok (.getfield 72, 3) := by decide +kernel
theorem dX7_unit_51 : decode cX7_unit 51 = .ok (.iconst 1, 1) := by decide +kernel
theorem dX7_unit_52 : decode cX7_unit 52 = .ok (.iadd, 1) := by decide +kernel
theorem dX7_unit_53 : decode cX7_unit 53 = .ok (.putfield 72, 3) := by decide +kernel
theorem dX7_unit_56 : decode cX7_unit 56 = .ok (.iload_n 2, 1) := by decide +kernel
theorem dX7_unit_57 : decode cX7_unit 57 = .ok (.ireturn, 1) := by decide +kernel
theorem dX7_now_0 : decode cX7_now 0 = .ok (.aload_n 0, 1) := by decide +kernel
theorem dX7_now_1 : decode cX7_now 1 = .ok (.getfield 75, 3) := by decide +kernel
theorem dX7_now_4 : decode cX7_now 4 = .ok (.aload_n 0, 1) := by decide +kernel
theorem dX7_now_5 : decode cX7_now 5 = .ok (.getfield 72, 3) := by decide +kernel
theorem dX7_now_8 : decode cX7_now 8 = .ok (.if_icmp .ge 15, 3) := by decide +kernel
theorem dX7_now_11 : decode cX7_now 11 = .ok (.aload_n 0, 1) := by decide +kernel
theorem dX7_now_12 : decode cX7_now 12 = .ok (.getfield 26, 3) := by decide +kernel
theorem dX7_now_15 : decode cX7_now 15 = .ok (.aload_n 0, 1) := by decide +kernel
theorem dX7_now_16 : decode cX7_now 16 = .ok (.getfield 75, 3) := by decide +kernel
theorem dX7_now_19 : decode cX7_now 19 = .ok (.iaload, 1) := by decide +kernel
theorem dX7_now_20 : decode cX7_now 20 = .ok (.goto 4, 3) := by decide +kernel
theorem dX7_now_23 : decode cX7_now 23 = .ok (.iconst (-1), 1) := by decide +kernel
theorem dX7_now_24 : decode cX7_now 24 = .ok (.ireturn, 1) := by decide +kernel
theorem dX7_must_0 : decode cX7_must 0 = .ok (.aload_n 0, 1) := by decide +kernel
theorem dX7_must_1 : decode cX7_must 1 = .ok (.getfield 78, 3) := by decide +kernel
theorem dX7_must_4 : decode cX7_must 4 = .ok (.iconst (-1), 1) := by decide +kernel
theorem dX7_must_5 : decode cX7_must 5 = .ok (.if_icmp .ne 15, 3) := by decide +kernel
theorem dX7_must_8 : decode cX7_must 8 = .ok (.iload_n 1, 1) := by decide +kernel
theorem dX7_must_9 : decode cX7_must 9 = .ok (.ifCond .ne 11, 3) := by decide +kernel
theorem dX7_must_12 : decode cX7_must 12 = .ok (.aload_n 0, 1) := by decide +kernel
theorem dX7_must_13 : decode cX7_must 13 = .ok (.aload_n 0, 1) := by decide +kernel
theorem dX7_must_14 : decode cX7_must 14 = .ok (.getfield 75, 3) := by decide +kernel
theorem dX7_must_17 : decode cX7_must 17 = .ok (.putfield 78, 3) := by decide +kernel
theorem dX7_must_20 : decode cX7_must 20 = .ok (.aload_n 0, 1) := by decide +kernel
theorem dX7_must_21 : decode cX7_must 21 = .ok (.getfield 78, 3) := by decide +kernel
theorem dX7_must_24 : decode cX7_must 24 = .ok (.iconst (-1), 1) := by decide +kernel
theorem dX7_must_25 : decode cX7_must 25 = .ok (.if_icmp .ne 13, 3) := by decide +kernel
theorem dX7_must_28 : decode cX7_must 28 = .ok (.aload_n 0, 1) := by decide +kernel
theorem dX7_must_29 : decode cX7_must 29 = .ok (.dup, 1) := by decide +kernel
theorem dX7_must_30 : decode cX7_must 30 = .ok (.getfield 75, 3) := by decide +kernel
theorem dX7_must_33 : decode cX7_must 33 = .ok (.iconst 1, 1) := by decide +kernel
theorem dX7_must_34 : decode cX7_must 34 = .ok (.iadd, 1) := by decide +kernel
theorem dX7_must_35 : decode cX7_must 35 = .ok (.putfield 75, 3) := by decide +kernel
theorem dX7_must_38 : decode cX7_must 38 = .ok (.return_, 1) := by decide +kernel
theorem dX7_spaces_0 : decode cX7_spaces 0 = .ok (.aload_n 0, 1) := by decide +kernel
theorem dX7_spaces_1 : decode cX7_spaces 1 = .ok (.getfield 78, 3) := by decide +kernel
theorem dX7_spaces_4 : decode cX7_spaces 4 = .ok (.iconst (-1), 1) := by decide +kernel
theorem dX7_spaces_5 : decode cX7_spaces 5 = .ok (.if_icmp .ne 25, 3) := by decide +kernel
theorem dX7_spaces_8 : decode cX7_spaces 8 = .ok (.aload_n 0, 1) := by decide +kernel
theorem dX7_spaces_9 : decode cX7_spaces 9 = .ok (.invokevirtual 81, 3) := by decide +kernel
theorem dX7_spaces_12 : decode cX7_spaces 12 = .ok (.bipush 32, 2) := by decide +kernel
theorem dX7_spaces_14 : decode cX7_spaces 14 = .ok (.if_icmp .ne 16, 3) := by decide +kernel
theorem dX7_spaces_17 : decode cX7_spaces 17 = .ok (.aload_n 0, 1) := by decide +kernel
theorem dX7_spaces_18 : decode cX7_spaces 18 = .ok (.dup, 1) := by decide +kernel
theorem dX7_spaces_19 : decode cX7_spaces 19 = .ok (.getfield 75, 3) := by decide +kernel
theorem dX7_spaces_22 : decode cX7_spaces 22 = .ok (.iconst 1, 1) := by decide +kernel
theorem dX7_spaces_23 : decode cX7_spaces 23 = .ok (.iadd, 1) := by decide +kernel
theorem dX7_spaces_24 : decode cX7_spaces 24 = .ok (.putfield 75, 3) := by decide +kernel
theorem dX7_spaces_27 : decode cX7_spaces 27 = .ok (.goto (-27), 3) := by decide +kernel
theorem dX7_spaces_30 : decode cX7_spaces 30 = .ok (.return_, 1) := by decide +kernel
theorem dX7_digit_0 : decode cX7_digit 0 = .ok (.aload_n 0, 1) := by decide +kernel
theorem dX7_digit_1 : decode cX7_digit 1 = .ok (.invokevirtual 81, 3) := by decide +kernel
theorem dX7_digit_4 : decode cX7_digit 4 = .ok (.bipush 48, 2) := by decide +kernel
theorem dX7_digit_6 : decode cX7_digit 6 = .ok (.isub, 1) := by decide +kernel
theorem dX7_digit_7 : decode cX7_digit 7 = .ok (.istore_n 2, 1) := by decide +kernel
theorem dX7_digit_8 : decode cX7_digit 8 = .ok (.aload_n 0, 1) := by decide +kernel
theorem dX7_digit_9 : decode cX7_digit 9 = .ok (.iload_n 2, 1) := by decide +kernel
theorem dX7_digit_10 : decode cX7_digit 10 = .ok (.iconst 0, 1) := by decide +kernel
theorem dX7_digit_11 : decode cX7_digit 11 = .ok (.iload_n 1, 1) := by decide +kernel
theorem dX7_digit_12 : decode cX7_digit 12 = .ok (.invokestatic 60, 3) := by decide +kernel
theorem dX7_digit_15 : decode cX7_digit 15 = .ok (.invokevirtual 85, 3) := by decide +kernel
theorem dX7_digit_18 : decode cX7_digit 18 = .ok (.iload_n 2, 1) := by decide +kernel
theorem dX7_digit_19 : decode cX7_digit 19 = .ok (.ireturn, 1) := by decide +kernel
theorem dX7_number_0 : decode cX7_number 0 = .ok (.aload_n 0, 1) := by decide +kernel
theorem dX7_number_1 : decode cX7_number 1 = .ok (.getfield 75, 3) := by decide +kernel
theorem dX7_number_4 : decode cX7_number 4 = .ok (.istore_n 2, 1) := by decide +kernel
theorem dX7_number_5 : decode cX7_number 5 = .ok (.aload_n 0, 1) := by decide +kernel
theorem dX7_number_6 : decode cX7_number 6 = .ok (.bipush 9, 2) := by decide +kernel
theorem dX7_number_8 : decode cX7_number 8 = .ok (.invokevirtual 89, 3) := by decide +kernel
theorem dX7_number_11 : decode cX7_number 11 = .ok (.istore_n 3, 1) := by decide +kernel
theorem dX7_number_12 : decode cX7_number 12 = .ok (.iconst 1, 1) := by decide +kernel
theorem dX7_number_13 : decode cX7_number 13 = .ok (.istore 4, 2) := by decide +kernel
theorem dX7_number_15 : decode cX7_number 15 = .ok (.aload_n 0, 1) := by decide +kernel
theorem dX7_number_16 : decode cX7_number 16 = .ok (.getfield 78, 3) := by decide +kernel
theorem dX7_number_19 : decode cX7_number 19 = .ok (.iconst (-1), 1) := by decide +kernel
theorem dX7_number_20 : decode cX7_number 20 = .ok (.if_icmp .ne 41, 3) := by decide +kernel
theorem dX7_number_23 : decode cX7_number 23 = .ok (.iload 4, 2) := by decide +kernel
theorem dX7_number_25 : decode cX7_number 25 = .ok (.iconst 3, 1) := by decide +kernel
theorem dX7_number_26 : decode cX7_number 26 = .ok (.if_icmp .ge 35, 3) := by decide +kernel
theorem dX7_number_29 : decode cX7_number 29 = .ok (.aload_n 0, 1) := by decide +kernel
theorem dX7_number_30 : decode cX7_number 30 = .ok (.invokevirtual 81, 3) := by decide +kernel
theorem dX7_number_33 : decode cX7_number 33 = .ok (.bipush 48, 2) := by decide +kernel
theorem dX7_number_35 : decode cX7_number 35 = .ok (.bipush 57, 2) := by decide +kernel
theorem dX7_number_37 : decode cX7_number 37 = .ok (.invokestatic 60, 3) := by decide +kernel
theorem dX7_number_40 : decode cX7_number 40 = .ok (.ifCond .eq 21, 3) := by decide +kernel
theorem dX7_number_43 : decode cX7_number 43 = .ok (.bipush 10, 2) := by decide +kernel
theorem dX7_number_45 : decode cX7_number 45 = .ok (.iload_n 3, 1) := by decide +kernel
theorem dX7_number_46 : decode cX7_number 46 = .ok (.imul, 1) := by decide +kernel
theorem dX7_number_47 : decode cX7_number 47 = .ok (.aload_n 0, 1) := by decide +kernel
theorem dX7_number_48 : decode cX7_number 48 = .ok (.bipush 9, 2) := by decide +kernel
theorem dX7_number_50 : decode cX7_number 50 = .ok (.invokevirtual 89, 3) := by decide +kernel
theorem dX7_number_53 : decode cX7_number 53 = .ok (.iadd, 1) := by decide +kernel
theorem dX7_number_54 : decode cX7_number 54 = .ok (.istore_n 3, 1) := by decide +kernel
theorem dX7_number_55 : decode cX7_number 55 = .ok (.iinc 4 1, 3) := by decide +kernel
theorem dX7_number_58 : decode cX7_number 58 = .ok (.goto (-43), 3) := by decide +kernel
theorem dX7_number_61 : decode cX7_number 61 = .ok (.aload_n 0, 1) := by decide +kernel
theorem dX7_number_62 : decode cX7_number 62 = .ok (.getfield 78, 3) := by decide +kernel
theorem dX7_number_65 : decode cX7_number 65 = .ok (.iconst (-1), 1) := by decide +kernel
theorem dX7_number_66 : decode cX7_number 66 = .ok (.if_icmp .ne 13, 3) := by decide +kernel
theorem dX7_number_69 : decode cX7_number 69 = .ok (.iload_n 3, 1) := by decide +kernel
theorem dX7_number_70 : decode cX7_number 70 = .ok (.iload_n 1, 1) := by decide +kernel
theorem dX7_number_71 : decode cX7_number 71 = .ok (.if_icmp .le 8, 3) := by decide +kernel
theorem dX7_number_74 : decode cX7_number 74 = .ok (.aload_n 0, 1) := by decide +kernel
theorem dX7_number_75 : decode cX7_number 75 = .ok (.iload_n 2, 1) := by decide +kernel
theorem dX7_number_76 : decode cX7_number 76 = .ok (.putfield 78, 3) := by decide +kernel
theorem dX7_number_79 : decode cX7_number 79 = .ok (.iload_n 3, 1) := by decide +kernel
theorem dX7_number_80 : decode cX7_number 80 = .ok (.ireturn, 1) := by decide +kernel
theorem dX7_statement_0 : decode cX7_statement 0 = .ok (.aload_n 0, 1) := by decide +kernel
theorem dX7_statement_1 : decode cX7_statement 1 = .ok (.invokevirtual 81, 3) := by decide +kernel
theorem dX7_statement_4 : decode cX7_statement 4 = .ok (.istore_n 2, 1) := by decide +kernel
theorem dX7_statement_5 : decode cX7_statement 5 = .ok (.aload_n 0, 1) := by decide +kernel
theorem dX7_statement_6 : decode cX7_statement 6 = .ok (.iload_n 2, 1) := by decide +kernel
theorem dX7_statement_7 : decode cX7_statement 7 = .ok (.bipush 84, 2) := by decide +kernel
theorem dX7_statement_9 : decode cX7_statement 9 = .ok (.if_icmp .eq 9, 3) := by decide +kernel
theorem dX7_statement_12 : decode cX7_statement 12 = .ok (.iload_n 2, 1) := by decide +kernel
theorem dX7_statement_13 : decode cX7_statement 13 = .ok (.bipush 71, 2) := by decide +kernel
theorem dX7_statement_15 : decode cX7_statement 15 = .ok (.if_icmp .ne 7, 3) := by decide +kernel
theorem dX7_statement_18 : decode cX7_statement 18 = .ok (.iconst 1, 1) := by decide +kernel
theorem dX7_statement_19 : decode cX7_statement 19 = .ok (.goto 4, 3) := by decide +kernel
theorem dX7_statement_22 : decode cX7_statement 22 = .ok (.iconst 0, 1) := by decide +kernel
theorem dX7_statement_23 : decode cX7_statement 23 = .ok (.invokevirtual 85, 3) := by decide +kernel
theorem dX7_statement_26 : decode cX7_statement 26 = .ok (.iconst 1, 1) := by decide +kernel
theorem dX7_statement_27 : decode cX7_statement 27 = .ok (.istore_n 3, 1) := by decide +kernel
theorem dX7_statement_28 : decode cX7_statement 28 = .ok (.iload_n 3, 1) := by decide +kernel
theorem dX7_statement_29 : decode cX7_statement 29 = .ok (.iconst 5, 1) := by decide +kernel
theorem dX7_statement_30 : decode cX7_statement 30 = .ok (.if_icmp .ge 20, 3) := by decide +kernel
theorem dX7_statement_33 : decode cX7_statement 33 = .ok (.aload_n 0, 1) := by decide +kernel
theorem dX7_statement_34 : decode cX7_statement 34 = .ok (.getfield 32, 3) := by decide +kernel
theorem dX7_statement_37 : decode cX7_statement 37 = .ok (.iconst 5, 1) := by decide +kernel
theorem dX7_statement_38 : decode cX7_statement 38 = .ok (.iload_n 1, 1) := by decide +kernel
theorem dX7_statement_39 : decode cX7_statement 39 = .ok (.imul, 1) := by decide +kernel
theorem dX7_statement_40 : decode cX7_statement 40 = .ok (.iload_n 3, 1) := by decide +kernel
theorem dX7_statement_41 : decode cX7_statement 41 = .ok (.iadd, 1) := by decide +kernel
theorem dX7_statement_42 : decode cX7_statement 42 = .ok (.iconst (-1), 1) := by decide +kernel
theorem dX7_statement_43 : decode cX7_statement 43 = .ok (.iastore, 1) := by decide +kernel
theorem dX7_statement_44 : decode cX7_statement 44 = .ok (.iinc 3 1, 3) := by decide +kernel
theorem dX7_statement_47 : decode cX7_statement 47 = .ok (.goto (-19), 3) := by decide +kernel
theorem dX7_statement_50 : decode cX7_statement 50 = .ok (.iload_n 2, 1) := by decide +kernel
theorem dX7_statement_51 : decode cX7_statement 51 = .ok (.bipush 84, 2) := by decide +kernel
theorem dX7_statement_53 : decode cX7_statement 53 = .ok (.if_icmp .ne 34, 3) := by decide +kernel
theorem dX7_statement_56 : decode cX7_statement 56 = .ok (.aload_n 0, 1) := by decide +kernel
theorem dX7_statement_57 : decode cX7_statement 57 = .ok (.getfield 32, 3) := by decide +kernel
theorem dX7_statement_60 : decode cX7_statement 60 = .ok (.iconst 5, 1) := by decide +kernel
theorem dX7_statement_61 : decode cX7_statement 61 = .ok (.iload_n 1, 1) := by decide +kernel
theorem dX7_statement_62 : decode cX7_statement 62 = .ok (.imul, 1) := by decide +kernel
theorem dX7_statement_63 : decode cX7_statement 63 = .ok (.iconst 2, 1) := by decide +kernel
theorem dX7_statement_64 : decode cX7_statement 64 = .ok (.iastore, 1) := by decide +kernel
theorem dX7_statement_65 : decode cX7_statement 65 = .ok (.aload_n 0, 1) := by decide +kernel
theorem dX7_statement_66 : decode cX7_statement 66 = .ok (.getfield 32, 3) := by decide +kernel
theorem dX7_statement_69 : decode cX7_statement 69 = .ok (.iconst 5, 1) := by decide +kernel
theorem dX7_statement_70 : decode cX7_statement 70 = .ok (.iload_n 1, 1) := by decide +kernel
theorem dX7_statement_71 : decode cX7_statement 71 = .ok (.imul, 1) := by decide +kernel
theorem dX7_statement_72 : decode cX7_statement 72 = .ok (.iconst 4, 1) := by decide +kernel
theorem dX7_statement_73 : decode cX7_statement 73 = .ok (.iadd, 1) := by decide +kernel
theorem dX7_statement_74 : decode cX7_statement 74 = .ok (.aload_n 0, 1) := by decide +kernel
theorem dX7_statement_75 : decode cX7_statement 75 = .ok (.iconst 3, 1) := by decide +kernel
theorem dX7_statement_76 : decode cX7_statement 76 = .ok (.invokevirtual 89, 3) := by decide +kernel
theorem dX7_statement_79 : decode cX7_statement 79 = .ok (.iastore, 1) := by decide +kernel
theorem dX7_statement_80 : decode cX7_statement 80 = .ok (.aload_n 0, 1) := by decide +kernel
theorem dX7_statement_81 : decode cX7_statement 81 = .ok (.invokevirtual 93, 3) := by decide +kernel
theorem dX7_statement_84 : decode cX7_statement 84 = .ok (.goto 122, 3) := by decide +kernel
theorem dX7_statement_87 : decode cX7_statement 87 = .ok (.aload_n 0, 1) := by decide +kernel
theorem dX7_statement_88 : decode cX7_statement 88 = .ok (.getfield 32, 3) := by decide +kernel
theorem dX7_statement_91 : decode cX7_statement 91 = .ok (.iconst 5, 1) := by decide +kernel
theorem dX7_statement_92 : decode cX7_statement 92 = .ok (.iload_n 1, 1) := by decide +kernel
theorem dX7_statement_93 : decode cX7_statement 93 = .ok (.imul, 1) := by decide +kernel
theorem dX7_statement_94 : decode cX7_statement 94 = .ok (.aload_n 0, 1) := by decide +kernel
theorem dX7_statement_95 : decode cX7_statement 95 = .ok (.iconst 1, 1) := by decide +kernel
theorem dX7_statement_96 : decode cX7_statement 96 = .ok (.invokevirtual 89, 3) := by decide +kernel
theorem dX7_statement_99 : decode cX7_statement 99 = .ok (.iastore, 1) := by decide +kernel
theorem dX7_statement_100 : decode cX7_statement 100 = .ok (.aload_n 0, 1) := by decide +kernel
theorem dX7_statement_101 : decode cX7_statement 101 = .ok (.invokevirtual 93, 3) := by decide +kernel
theorem dX7_statement_104 : decode cX7_statement 104 = .ok (.iconst (-1), 1) := by decide +kernel
theorem dX7_statement_105 : decode cX7_statement 105 = .ok (.istore_n 3, 1) := by decide +kernel
theorem dX7_statement_106 : decode cX7_statement 106 = .ok (.aload_n 0, 1) := by decide +kernel
theorem dX7_statement_107 : decode cX7_statement 107 = .ok (.getfield 78, 3) := by decide +kernel
theorem dX7_statement_110 : decode cX7_statement 110 = .ok (.iconst (-1), 1) := by decide +kernel
theorem dX7_statement_111 : decode cX7_statement 111 = .ok (.if_icmp .ne 95, 3) := by decide +kernel
theorem dX7_statement_114 : decode cX7_statement 114 = .ok (.iload_n 3, 1) := by decide +kernel
theorem dX7_statement_115 : decode cX7_statement 115 = .ok (.iconst (-1), 1) := by decide +kernel
theorem dX7_statement_116 : decode cX7_statement 116 = .ok (.if_icmp .eq 12, 3) := by decide +kernel
theorem dX7_statement_119 : decode cX7_statement 119 = .ok (.aload_n 0, 1) := by decide +kernel
theorem dX7_statement_120 : decode cX7_statement 120 = .ok (.invokevirtual 81, 3) := by decide +kernel
theorem dX7_statement_123 : decode cX7_statement 123 = .ok (.bipush 59, 2) := by decide +kernel
theorem dX7_statement_125 : decode cX7_statement 125 = .ok (.if_icmp .eq 81, 3) := by decide +kernel
theorem dX7_statement_128 : decode cX7_statement 128 = .ok (.aload_n 0, 1) := by decide +kernel
theorem dX7_statement_129 : decode cX7_statement 129 = .ok (.invokevirtual 81, 3) := by decide +kernel
theorem dX7_statement_132 : decode cX7_statement 132 = .ok (.bipush 88, 2) := by decide +kernel
theorem dX7_statement_134 : decode cX7_statement 134 = .ok (.isub, 1) := by decide +kernel
theorem dX7_statement_135 : decode cX7_statement 135 = .ok (.istore 4, 2) := by decide +kernel
theorem dX7_statement_137 : decode cX7_statement 137 = .ok (.aload_n 0, 1) := by decide +kernel
theorem dX7_statement_138 : decode cX7_statement 138 = .ok (.iload 4, 2) := by decide +kernel
theorem dX7_statement_140 : decode cX7_statement 140 = .ok (.iload_n 3, 1) := by decide +kernel
theorem dX7_statement_141 : decode cX7_statement 141 = .ok (.iconst 1, 1) := by decide +kernel
theorem dX7_statement_142 : decode cX7_statement 142 = .ok (.iadd, 1) := by decide +kernel
theorem dX7_statement_143 : decode cX7_statement 143 = .ok (.iconst 2, 1) := by decide +kernel
theorem dX7_statement_144 : decode cX7_statement 144 = .ok (.invokestatic 60, 3) := by decide +kernel
theorem dX7_statement_147 : decode cX7_statement 147 = .ok (.invokevirtual 85, 3) := by decide +kernel
theorem dX7_statement_150 : decode cX7_statement 150 = .ok (.aload_n 0, 1) := by decide +kernel
theorem dX7_statement_151 : decode cX7_statement 151 = .ok (.iload 4, 2) := by decide +kernel
theorem dX7_statement_153 : decode cX7_statement 153 = .ok (.iconst 2, 1) := by decide +kernel
theorem dX7_statement_154 : decode cX7_statement 154 = .ok (.if_icmp .ne 8, 3) := by decide +kernel
theorem dX7_statement_157 : decode cX7_statement 157 = .ok (.bipush 100, 2) := by decide +kernel
theorem dX7_statement_159 : decode cX7_statement 159 = .ok (.goto 9, 3) := by decide +kernel
theorem dX7_statement_162 : decode cX7_statement 162 = .ok (.aload_n 0, 1) := by decide +kernel
theorem dX7_statement_163 : decode cX7_statement 163 = .ok (.getfield 53, 3) := by decide +kernel
theorem dX7_statement_166 : decode cX7_statement 166 = .ok (.iconst 1, 1) := by decide +kernel
theorem dX7_statement_167 : decode cX7_statement 167 = .ok (.isub, 1) := by decide +kernel
theorem dX7_statement_168 : decode cX7_statement 168 = .ok (.invokevirtual 96, 3) := by decide +kernel
theorem dX7_statement_171 : decode cX7_statement 171 = .ok (.istore 5, 2) := by decide +kernel
theorem dX7_statement_173 : decode cX7_statement 173 = .ok (.aload_n 0, 1) := by decide +kernel
theorem dX7_statement_174 : decode cX7_statement 174 = .ok (.getfield 78, 3) := by decide +kernel
theorem dX7_statement_177 : decode cX7_statement 177 = .ok (.iconst (-1), 1) := by decide +kernel
theorem dX7_statement_178 : decode cX7_statement 178 = .ok (.if_icmp .ne 21, 3) := by decide +kernel
theorem dX7_statement_181 : decode cX7_statement 181 = .ok (.aload_n 0, 1) := by decide +kernel
theorem dX7_statement_182 : decode cX7_statement 182 = .ok (.getfield 32, 3) := by decide +kernel
theorem dX7_statement_185 : decode cX7_statement 185 = .ok (.iconst 5, 1) := by decide +kernel
theorem dX7_statement_186 : decode cX7_statement 186 = .ok (.iload_n 1, 1) := by decide +kernel
theorem dX7_statement_187 : decode cX7_statement 187 = .ok (.imul, 1) := by decide +kernel
theorem dX7_statement_188 : decode cX7_statement 188 = .ok (.iconst 1, 1) := by decide +kernel
theorem dX7_statement_189 : decode cX7_statement 189 = .ok (.iadd, 1) := by decide +kernel
theorem dX7_statement_190 : decode cX7_statement 190 = .ok (.iload 4, 2) := by decide +kernel
theorem dX7_statement_192 : decode cX7_statement 192 = .ok (.iadd, 1) := by decide +kernel
theorem dX7_statement_193 : decode cX7_statement 193 = .ok (.iload 5, 2) := by decide +kernel
theorem dX7_statement_195 : decode cX7_statement 195 = .ok (.iastore, 1) := by decide +kernel
theorem dX7_statement_196 : decode cX7_statement 196 = .ok (.iload 4, 2) := by decide +kernel
theorem dX7_statement_198 : decode cX7_statement 198 = .ok (.istore_n 3, 1) := by decide +kernel
theorem dX7_statement_199 : decode cX7_statement 199 = .ok (.aload_n 0, 1) := by decide +kernel
theorem dX7_statement_200 : decode cX7_statement 200 = .ok (.invokevirtual 93, 3) := by decide +kernel
theorem dX7_statement_203 : decode cX7_statement 203 = .ok (.goto (-97), 3) := by decide +kernel
theorem dX7_statement_206 : decode cX7_statement 206 = .ok (.aload_n 0, 1) := by decide +kernel
theorem dX7_statement_207 : decode cX7_statement 207 = .ok (.aload_n 0, 1) := by decide +kernel
theorem dX7_statement_208 : decode cX7_statement 208 = .ok (.invokevirtual 81, 3) := by decide +kernel
theorem dX7_statement_211 : decode cX7_statement 211 = .ok (.bipush 59, 2) := by decide +kernel
theorem dX7_statement_213 : decode cX7_statement 213 = .ok (.if_icmp .ne 7, 3) := by decide +kernel
theorem dX7_statement_216 : decode cX7_statement 216 = .ok (.iconst 1, 1) := by decide +kernel
theorem dX7_statement_217 : decode cX7_statement 217 = .ok (.goto 4, 3) := by decide +kernel
theorem dX7_statement_220 : decode cX7_statement 220 = .ok (.iconst 0, 1) := by decide +kernel
theorem dX7_statement_221 : decode cX7_statement 221 = .ok (.invokevirtual 85, 3) := by decide +kernel
theorem dX7_statement_224 : decode cX7_statement 224 = .ok (.return_, 1) := by decide +kernel
theorem dX7_read_0 : decode cX7_read 0 = .ok (.aload_n 0, 1) := by decide +kernel
theorem dX7_read_1 : decode cX7_read 1 = .ok (.iconst 0, 1) := by decide +kernel
theorem dX7_read_2 : decode cX7_read 2 = .ok (.putfield 57, 3) := by decide +kernel
theorem dX7_read_5 : decode cX7_read 5 = .ok (.aload_n 0, 1) := by decide +kernel
theorem dX7_read_6 : decode cX7_read 6 = .ok (.iconst 0, 1) := by decide +kernel
theorem dX7_read_7 : decode cX7_read 7 = .ok (.putfield 75, 3) := by decide +kernel
theorem dX7_read_10 : decode cX7_read 10 = .ok (.aload_n 0, 1) := by decide +kernel
theorem dX7_read_11 : decode cX7_read 11 = .ok (.iconst (-1), 1) := by decide +kernel
theorem dX7_read_12 : decode cX7_read 12 = .ok (.putfield 78, 3) := by decide +kernel
theorem dX7_read_15 : decode cX7_read 15 = .ok (.iconst 0, 1) := by decide +kernel
theorem dX7_read_16 : decode cX7_read 16 = .ok (.istore_n 1, 1) := by decide +kernel
theorem dX7_read_17 : decode cX7_read 17 = .ok (.aload_n 0, 1) := by decide +kernel
theorem dX7_read_18 : decode cX7_read 18 = .ok (.getfield 78, 3) := by decide +kernel
theorem dX7_read_21 : decode cX7_read 21 = .ok (.iconst (-1), 1) := by decide +kernel
theorem dX7_read_22 : decode cX7_read 22 = .ok (.if_icmp .ne 39, 3) := by decide +kernel
theorem dX7_read_25 : decode cX7_read 25 = .ok (.iload_n 1, 1) := by decide +kernel
theorem dX7_read_26 : decode cX7_read 26 = .ok (.ifCond .eq 14, 3) := by decide +kernel
theorem dX7_read_29 : decode cX7_read 29 = .ok (.aload_n 0, 1) := by decide +kernel
theorem dX7_read_30 : decode cX7_read 30 = .ok (.getfield 75, 3) := by decide +kernel
theorem dX7_read_33 : decode cX7_read 33 = .ok (.aload_n 0, 1) := by decide +kernel
theorem dX7_read_34 : decode cX7_read 34 = .ok (.getfield 72, 3) := by decide +kernel
theorem dX7_read_37 : decode cX7_read 37 = .ok (.if_icmp .ge 24, 3) := by decide +kernel
theorem dX7_read_40 : decode cX7_read 40 = .ok (.iload_n 1, 1) := by decide +kernel
theorem dX7_read_41 : decode cX7_read 41 = .ok (.bipush 32, 2) := by decide +kernel
theorem dX7_read_43 : decode cX7_read 43 = .ok (.if_icmp .ge 18, 3) := by decide +kernel
theorem dX7_read_46 : decode cX7_read 46 = .ok (.aload_n 0, 1) := by decide +kernel
theorem dX7_read_47 : decode cX7_read 47 = .ok (.invokevirtual 93, 3) := by decide +kernel
theorem dX7_read_50 : decode cX7_read 50 = .ok (.aload_n 0, 1) := by decide +kernel
theorem dX7_read_51 : decode cX7_read 51 = .ok (.iload_n 1, 1) := by decide +kernel
theorem dX7_read_52 : decode cX7_read 52 = .ok (.invokevirtual 99, 3) := by decide +kernel
theorem dX7_read_55 : decode cX7_read 55 = .ok (.iinc 1 1, 3) := by decide +kernel
theorem dX7_read_58 : decode cX7_read 58 = .ok (.goto (-41), 3) := by decide +kernel
theorem dX7_read_61 : decode cX7_read 61 = .ok (.aload_n 0, 1) := by decide +kernel
theorem dX7_read_62 : decode cX7_read 62 = .ok (.getfield 78, 3) := by decide +kernel
theorem dX7_read_65 : decode cX7_read 65 = .ok (.iconst (-1), 1) := by decide +kernel
theorem dX7_read_66 : decode cX7_read 66 = .ok (.if_icmp .ne 22, 3) := by decide +kernel
theorem dX7_read_69 : decode cX7_read 69 = .ok (.aload_n 0, 1) := by decide +kernel
theorem dX7_read_70 : decode cX7_read 70 = .ok (.getfield 75, 3) := by decide +kernel
theorem dX7_read_73 : decode cX7_read 73 = .ok (.aload_n 0, 1) := by decide +kernel
theorem dX7_read_74 : decode cX7_read 74 = .ok (.getfield 72, 3) := by decide +kernel
theorem dX7_read_77 : decode cX7_read 77 = .ok (.if_icmp .ge 11, 3) := by decide +kernel
theorem dX7_read_80 : decode cX7_read 80 = .ok (.aload_n 0, 1) := by decide +kernel
theorem dX7_read_81 : decode cX7_read 81 = .ok (.aload_n 0, 1) := by decide +kernel
theorem dX7_read_82 : decode cX7_read 82 = .ok (.getfield 75, 3) := by decide +kernel
theorem dX7_read_85 : decode cX7_read 85 = .ok (.putfield 78, 3) := by decide +kernel
theorem dX7_read_88 : decode cX7_read 88 = .ok (.aload_n 0, 1) := by decide +kernel
theorem dX7_read_89 : decode cX7_read 89 = .ok (.iconst 0, 1) := by decide +kernel
theorem dX7_read_90 : decode cX7_read 90 = .ok (.putfield 72, 3) := by decide +kernel
theorem dX7_read_93 : decode cX7_read 93 = .ok (.aload_n 0, 1) := by decide +kernel
theorem dX7_read_94 : decode cX7_read 94 = .ok (.getfield 78, 3) := by decide +kernel
theorem dX7_read_97 : decode cX7_read 97 = .ok (.iconst (-1), 1) := by decide +kernel
theorem dX7_read_98 : decode cX7_read 98 = .ok (.if_icmp .eq 10, 3) := by decide +kernel
theorem dX7_read_101 : decode cX7_read 101 = .ok (.iconst (-1), 1) := by decide +kernel
theorem dX7_read_102 : decode cX7_read 102 = .ok (.aload_n 0, 1) := by decide +kernel
theorem dX7_read_103 : decode cX7_read 103 = .ok (.getfield 78, 3) := by decide +kernel
theorem dX7_read_106 : decode cX7_read 106 = .ok (.isub, 1) := by decide +kernel
theorem dX7_read_107 : decode cX7_read 107 = .ok (.ireturn, 1) := by decide +kernel
theorem dX7_read_108 : decode cX7_read 108 = .ok (.iconst 0, 1) := by decide +kernel
theorem dX7_read_109 : decode cX7_read 109 = .ok (.istore_n 2, 1) := by decide +kernel
theorem dX7_read_110 : decode cX7_read 110 = .ok (.iload_n 2, 1) := by decide +kernel
theorem dX7_read_111 : decode cX7_read 111 = .ok (.sipush 160, 3) := by decide +kernel
theorem dX7_read_114 : decode cX7_read 114 = .ok (.if_icmp .ge 21, 3) := by decide +kernel
theorem dX7_read_117 : decode cX7_read 117 = .ok (.aload_n 0, 1) := by decide +kernel
theorem dX7_read_118 : decode cX7_read 118 = .ok (.getfield 29, 3) := by decide +kernel
theorem dX7_read_121 : decode cX7_read 121 = .ok (.iload_n 2, 1) := by decide +kernel
theorem dX7_read_122 : decode cX7_read 122 = .ok (.aload_n 0, 1) := by decide +kernel
theorem dX7_read_123 : decode cX7_read 123 = .ok (.getfield 32, 3) := by decide +kernel
theorem dX7_read_126 : decode cX7_read 126 = .ok (.iload_n 2, 1) := by decide +kernel
theorem dX7_read_127 : decode cX7_read 127 = .ok (.iaload, 1) := by decide +kernel
theorem dX7_read_128 : decode cX7_read 128 = .ok (.iastore, 1) := by decide +kernel
theorem dX7_read_129 : decode cX7_read 129 = .ok (.iinc 2 1, 3) := by decide +kernel
theorem dX7_read_132 : decode cX7_read 132 = .ok (.goto (-22), 3) := by decide +kernel
theorem dX7_read_135 : decode cX7_read 135 = .ok (.aload_n 0, 1) := by decide +kernel
theorem dX7_read_136 : decode cX7_read 136 = .ok (.iload_n 1, 1) := by decide +kernel
theorem dX7_read_137 : decode cX7_read 137 = .ok (.putfield 103, 3) := by decide +kernel
theorem dX7_read_140 : decode cX7_read 140 = .ok (.aload_n 0, 1) := by decide +kernel
theorem dX7_read_141 : decode cX7_read 141 = .ok (.iconst 1, 1) := by decide +kernel
theorem dX7_read_142 : decode cX7_read 142 = .ok (.putfield 106, 3) := by decide +kernel
theorem dX7_read_145 : decode cX7_read 145 = .ok (.iload_n 1, 1) := by decide +kernel
theorem dX7_read_146 : decode cX7_read 146 = .ok (.ireturn, 1) := by decide +kernel
end
section
theorem dX7_isNear_0 : decode cX7_isNear 0 = .ok (.iload_n 0, 1) := by decide +kernel
theorem dX7_isNear_1 : decode cX7_isNear 1 = .ok (.iload_n 0, 1) := by decide +kernel
theorem dX7_isNear_2 : decode cX7_isNear 2 = .ok (.imul, 1) := by decide +kernel
theorem dX7_isNear_3 : decode cX7_isNear 3 = .ok (.iload_n 1, 1) := by decide +kernel
theorem dX7_isNear_4 : decode cX7_isNear 4 = .ok (.iload_n 1, 1) := by decide +kernel
theorem dX7_isNear_5 : decode cX7_isNear 5 = .ok (.imul, 1) := by decide +kernel
theorem dX7_isNear_6 : decode cX7_isNear 6 = .ok (.iadd, 1) := by decide +kernel
theorem dX7_isNear_7 : decode cX7_isNear 7 = .ok (.iload_n 2, 1) := by decide +kernel
theorem dX7_isNear_8 : decode cX7_isNear 8 = .ok (.iload_n 2, 1) := by decide +kernel
theorem dX7_isNear_9 : decode cX7_isNear 9 = .ok (.imul, 1) := by decide +kernel
theorem dX7_isNear_10 : decode cX7_isNear 10 = .ok (.if_icmp .gt 7, 3) := by decide +kernel
theorem dX7_isNear_13 : decode cX7_isNear 13 = .ok (.iconst 1, 1) := by decide +kernel
theorem dX7_isNear_14 : decode cX7_isNear 14 = .ok (.goto 4, 3) := by decide +kernel
theorem dX7_isNear_17 : decode cX7_isNear 17 = .ok (.iconst 0, 1) := by decide +kernel
theorem dX7_isNear_18 : decode cX7_isNear 18 = .ok (.ireturn, 1) := by decide +kernel
theorem dX7_isInDisc_0 : decode cX7_isInDisc 0 = .ok (.iload 4, 2) := by decide +kernel
theorem dX7_isInDisc_2 : decode cX7_isInDisc 2 = .ok (.bipush 20, 2) := by decide +kernel
theorem dX7_isInDisc_4 : decode cX7_isInDisc 4 = .ok (.irem, 1) := by decide +kernel
theorem dX7_isInDisc_5 : decode cX7_isInDisc 5 = .ok (.iload_n 2, 1) := by decide +kernel
theorem dX7_isInDisc_6 : decode cX7_isInDisc 6 = .ok (.isub, 1) := by decide +kernel
theorem dX7_isInDisc_7 : decode cX7_isInDisc 7 = .ok (.iload 4, 2) := by decide +kernel
theorem dX7_isInDisc_9 : decode cX7_isInDisc 9 = .ok (.bipush 20, 2) := by decide +kernel
theorem dX7_isInDisc_11 : decode cX7_isInDisc 11 = .ok (.idiv, 1) := by decide +kernel
theorem dX7_isInDisc_12 : decode cX7_isInDisc 12 = .ok (.iload_n 3, 1) := by decide +kernel
theorem dX7_isInDisc_13 : decode cX7_isInDisc 13 = .ok (.isub, 1) := by decide +kernel
theorem dX7_isInDisc_14 : decode cX7_isInDisc 14 = .ok (.aload_n 0, 1) := by decide +kernel
theorem dX7_isInDisc_15 : decode cX7_isInDisc 15 = .ok (.getfield 20, 3) := by decide +kernel
theorem dX7_isInDisc_18 : decode cX7_isInDisc 18 = .ok (.iload_n 1, 1) := by decide +kernel
theorem dX7_isInDisc_19 : decode cX7_isInDisc 19 = .ok (.iaload, 1) := by decide +kernel
theorem dX7_isInDisc_20 : decode cX7_isInDisc 20 = .ok (.invokestatic 110, 3) := by decide +kernel
theorem dX7_isInDisc_23 : decode cX7_isInDisc 23 = .ok (.ifCond .eq 24, 3) := by decide +kernel
theorem dX7_isInDisc_26 : decode cX7_isInDisc 26 = .ok (.aload_n 0, 1) := by decide +kernel
theorem dX7_isInDisc_27 : decode cX7_isInDisc 27 = .ok (.iload 4, 2) := by decide +kernel
theorem dX7_isInDisc_29 : decode cX7_isInDisc 29 = .ok (.bipush 20, 2) := by decide +kernel
theorem dX7_isInDisc_31 : decode cX7_isInDisc 31 = .ok (.irem, 1) := by decide +kernel
theorem dX7_isInDisc_32 : decode cX7_isInDisc 32 = .ok (.iload 4, 2) := by decide +kernel
theorem dX7_isInDisc_34 : decode cX7_isInDisc 34 = .ok (.bipush 20, 2) := by decide +kernel
theorem dX7_isInDisc_36 : decode cX7_isInDisc 36 = .ok (.idiv, 1) := by decide +kernel
theorem dX7_isInDisc_37 : decode cX7_isInDisc 37 = .ok (.invokevirtual 64, 3) := by decide +kernel
theorem dX7_isInDisc_40 : decode cX7_isInDisc 40 = .ok (.ifCond .eq 7, 3) := by decide +kernel
theorem dX7_isInDisc_43 : decode cX7_isInDisc 43 = .ok (.iconst 1, 1) := by decide +kernel
theorem dX7_isInDisc_44 : decode cX7_isInDisc 44 = .ok (.goto 4, 3) := by decide +kernel
theorem dX7_isInDisc_47 : decode cX7_isInDisc 47 = .ok (.iconst 0, 1) := by decide +kernel
theorem dX7_isInDisc_48 : decode cX7_isInDisc 48 = .ok (.ireturn, 1) := by decide +kernel
theorem dX7_floor_0 : decode cX7_floor 0 = .ok (.iload_n 0, 1) := by decide +kernel
theorem dX7_floor_1 : decode cX7_floor 1 = .ok (.iload_n 1, 1) := by decide +kernel
theorem dX7_floor_2 : decode cX7_floor 2 = .ok (.idiv, 1) := by decide +kernel
theorem dX7_floor_3 : decode cX7_floor 3 = .ok (.istore_n 2, 1) := by decide +kernel
theorem dX7_floor_4 : decode cX7_floor 4 = .ok (.iload_n 0, 1) := by decide +kernel
theorem dX7_floor_5 : decode cX7_floor 5 = .ok (.iload_n 1, 1) := by decide +kernel
theorem dX7_floor_6 : decode cX7_floor 6 = .ok (.irem, 1) := by decide +kernel
theorem dX7_floor_7 : decode cX7_floor 7 = .ok (.ifCond .ge 9, 3) := by decide +kernel
theorem dX7_floor_10 : decode cX7_floor 10 = .ok (.iload_n 2, 1) := by decide +kernel
theorem dX7_floor_11 : decode cX7_floor 11 = .ok (.iconst 1, 1) := by decide +kernel
theorem dX7_floor_12 : decode cX7_floor 12 = .ok (.isub, 1) := by decide +kernel
theorem dX7_floor_13 : decode cX7_floor 13 = .ok (.goto 4, 3) := by decide +kernel
theorem dX7_floor_16 : decode cX7_floor 16 = .ok (.iload_n 2, 1) := by decide +kernel
theorem dX7_floor_17 : decode cX7_floor 17 = .ok (.ireturn, 1) := by decide +kernel
theorem dX7_step_0 : decode cX7_step 0 = .ok (.iconst 0, 1) := by decide +kernel
theorem dX7_step_1 : decode cX7_step 1 = .ok (.istore 5, 2) := by decide +kernel
theorem dX7_step_3 : decode cX7_step 3 = .ok (.iconst 0, 1) := by decide +kernel
theorem dX7_step_4 : decode cX7_step 4 = .ok (.istore 6, 2) := by decide +kernel
theorem dX7_step_6 : decode cX7_step 6 = .ok (.iconst 0, 1) := by decide +kernel
theorem dX7_step_7 : decode cX7_step 7 = .ok (.istore 7, 2) := by decide +kernel
theorem dX7_step_9 : decode cX7_step 9 = .ok (.iload 7, 2) := by decide +kernel
theorem dX7_step_11 : decode cX7_step 11 = .ok (.sipush 400, 3) := by decide +kernel
theorem dX7_step_14 : decode cX7_step 14 = .ok (.if_icmp .ge 87, 3) := by decide +kernel
theorem dX7_step_17 : decode cX7_step 17 = .ok (.aload_n 0, 1) := by decide +kernel
theorem dX7_step_18 : decode cX7_step 18 = .ok (.aload_n 0, 1) := by decide +kernel
theorem dX7_step_19 : decode cX7_step 19 = .ok (.getfield 113, 3) := by decide +kernel
theorem dX7_step_22 : decode cX7_step 22 = .ok (.iload_n 2, 1) := by decide +kernel
theorem dX7_step_23 : decode cX7_step 23 = .ok (.iload_n 3, 1) := by decide +kernel
theorem dX7_step_24 : decode cX7_step 24 = .ok (.iload 7, 2) := by decide +kernel
theorem dX7_step_26 : decode cX7_step 26 = .ok (.invokevirtual 116, 3) := by decide +kernel
theorem dX7_step_29 : decode cX7_step 29 = .ok (.ifCond .eq 19, 3) := by decide +kernel
theorem dX7_step_32 : decode cX7_step 32 = .ok (.aload_n 0, 1) := by decide +kernel
theorem dX7_step_33 : decode cX7_step 33 = .ok (.getfield 7, 3) := by decide +kernel
theorem dX7_step_36 : decode cX7_step 36 = .ok (.iload 7, 2) := by decide +kernel
theorem dX7_step_38 : decode cX7_step 38 = .ok (.iaload, 1) := by decide +kernel
theorem dX7_step_39 : decode cX7_step 39 = .ok (.iload 4, 2) := by decide +kernel
theorem dX7_step_41 : decode cX7_step 41 = .ok (.if_icmp .le 7, 3) := by decide +kernel
theorem dX7_step_44 : decode cX7_step 44 = .ok (.iconst 1, 1) := by decide +kernel
theorem dX7_step_45 : decode cX7_step 45 = .ok (.goto 4, 3) := by decide +kernel
theorem dX7_step_48 : decode cX7_step 48 = .ok (.iconst 0, 1) := by decide +kernel
theorem dX7_step_49 : decode cX7_step 49 = .ok (.istore 8, 2) := by decide +kernel
theorem dX7_step_51 : decode cX7_step 51 = .ok (.iload 5, 2) := by decide +kernel
theorem dX7_step_53 : decode cX7_step 53 = .ok (.ifCond .ne 8, 3) := by decide +kernel
theorem dX7_step_56 : decode cX7_step 56 = .ok (.iload 8, 2) := by decide +kernel
theorem dX7_step_58 : decode cX7_step 58 = .ok (.ifCond .eq 7, 3) := by decide +kernel
theorem dX7_step_61 : decode cX7_step 61 = .ok (.iconst 1, 1) := by decide +kernel
theorem dX7_step_62 : decode cX7_step 62 = .ok (.goto 4, 3) := by decide +kernel
theorem dX7_step_65 : decode cX7_step 65 = .ok (.iconst 0, 1) := by decide +kernel
theorem dX7_step_66 : decode cX7_step 66 = .ok (.istore 5, 2) := by decide +kernel
theorem dX7_step_68 : decode cX7_step 68 = .ok (.iload 6, 2) := by decide +kernel
theorem dX7_step_70 : decode cX7_step 70 = .ok (.ifCond .ne 18, 3) := by decide +kernel
theorem dX7_step_73 : decode cX7_step 73 = .ok (.iload 8, 2) := by decide +kernel
theorem dX7_step_75 : decode cX7_step 75 = .ok (.ifCond .eq 17, 3) := by decide +kernel
theorem dX7_step_78 : decode cX7_step 78 = .ok (.aload_n 0, 1) := by decide +kernel
theorem dX7_step_79 : decode cX7_step 79 = .ok (.getfield 16, 3) := by decide +kernel
theorem dX7_step_82 : decode cX7_step 82 = .ok (.iload 7, 2) := by decide +kernel
theorem dX7_step_84 : decode cX7_step 84 = .ok (.baload, 1) := by decide +kernel
theorem dX7_step_85 : decode cX7_step 85 = .ok (.ifCond .eq 7, 3) := by decide +kernel
theorem dX7_step_88 : decode cX7_step 88 = .ok (.iconst 1, 1) := by decide +kernel
theorem dX7_step_89 : decode cX7_step 89 = .ok (.goto 4, 3) := by decide +kernel
theorem dX7_step_92 : decode cX7_step 92 = .ok (.iconst 0, 1) := by decide +kernel
theorem dX7_step_93 : decode cX7_step 93 = .ok (.istore 6, 2) := by decide +kernel
theorem dX7_step_95 : decode cX7_step 95 = .ok (.iinc 7 1, 3) := by decide +kernel
theorem dX7_step_98 : decode cX7_step 98 = .ok (.goto (-89), 3) := by decide +kernel
theorem dX7_step_101 : decode cX7_step 101 = .ok (.iload_n 1, 1) := by decide +kernel
theorem dX7_step_102 : decode cX7_step 102 = .ok (.ifCond .ne 8, 3) := by decide +kernel
theorem dX7_step_105 : decode cX7_step 105 = .ok (.iload 5, 2) := by decide +kernel
theorem dX7_step_107 : decode cX7_step 107 = .ok (.ifCond .ne 13, 3) := by decide +kernel
theorem dX7_step_110 : decode cX7_step 110 = .ok (.iload_n 1, 1) := by decide +kernel
theorem dX7_step_111 : decode cX7_step 111 = .ok (.iconst 1, 1) := by decide +kernel
theorem dX7_step_112 : decode cX7_step 112 = .ok (.if_icmp .ne 18, 3) := by decide +kernel
theorem dX7_step_115 : decode cX7_step 115 = .ok (.iload 6, 2) := by decide +kernel
theorem dX7_step_117 : decode cX7_step 117 = .ok (.ifCond .eq 13, 3) := by decide +kernel
theorem dX7_step_120 : decode cX7_step 120 = .ok (.iload_n 1, 1) := by decide +kernel
theorem dX7_step_121 : decode cX7_step 121 = .ok (.ifCond .ne 7, 3) := by decide +kernel
theorem dX7_step_124 : decode cX7_step 124 = .ok (.iconst 1, 1) := by decide +kernel
theorem dX7_step_125 : decode cX7_step 125 = .ok (.goto 4, 3) := by decide +kernel
theorem dX7_step_128 : decode cX7_step 128 = .ok (.iconst 2, 1) := by decide +kernel
theorem dX7_step_129 : decode cX7_step 129 = .ok (.ireturn, 1) := by decide +kernel
theorem dX7_step_130 : decode cX7_step 130 = .ok (.iconst 0, 1) := by decide +kernel
theorem dX7_step_131 : decode cX7_step 131 = .ok (.istore 7, 2) := by decide +kernel
theorem dX7_step_133 : decode cX7_step 133 = .ok (.iload 7, 2) := by decide +kernel
theorem dX7_step_135 : decode cX7_step 135 = .ok (.sipush 400, 3) := by decide +kernel
theorem dX7_step_138 : decode cX7_step 138 = .ok (.if_icmp .ge 55, 3) := by decide +kernel
theorem dX7_step_141 : decode cX7_step 141 = .ok (.aload_n 0, 1) := by decide +kernel
theorem dX7_step_142 : decode cX7_step 142 = .ok (.aload_n 0, 1) := by decide +kernel
theorem dX7_step_143 : decode cX7_step 143 = .ok (.getfield 113, 3) := by decide +kernel
theorem dX7_step_146 : decode cX7_step 146 = .ok (.iload_n 2, 1) := by decide +kernel
theorem dX7_step_147 : decode cX7_step 147 = .ok (.iload_n 3, 1) := by decide +kernel
theorem dX7_step_148 : decode cX7_step 148 = .ok (.iload 7, 2) := by decide +kernel
theorem dX7_step_150 : decode cX7_step 150 = .ok (.invokevirtual 116, 3) := by decide +kernel
theorem dX7_step_153 : decode cX7_step 153 = .ok (.ifCond .eq 34, 3) := by decide +kernel
theorem dX7_step_156 : decode cX7_step 156 = .ok (.aload_n 0, 1) := by decide +kernel
theorem dX7_step_157 : decode cX7_step 157 = .ok (.getfield 7, 3) := by decide +kernel
theorem dX7_step_160 : decode cX7_step 160 = .ok (.iload 7, 2) := by decide +kernel
theorem dX7_step_162 : decode cX7_step 162 = .ok (.iaload, 1) := by decide +kernel
theorem dX7_step_163 : decode cX7_step 163 = .ok (.iload 4, 2) := by decide +kernel
theorem dX7_step_165 : decode cX7_step 165 = .ok (.if_icmp .le 22, 3) := by decide +kernel
theorem dX7_step_168 : decode cX7_step 168 = .ok (.aload_n 0, 1) := by decide +kernel
theorem dX7_step_169 : decode cX7_step 169 = .ok (.getfield 7, 3) := by decide +kernel
theorem dX7_step_172 : decode cX7_step 172 = .ok (.iload 7, 2) := by decide +kernel
theorem dX7_step_174 : decode cX7_step 174 = .ok (.iload 4, 2) := by decide +kernel
theorem dX7_step_176 : decode cX7_step 176 = .ok (.iastore, 1) := by decide +kernel
theorem dX7_step_177 : decode cX7_step 177 = .ok (.aload_n 0, 1) := by decide +kernel
theorem dX7_step_178 : decode cX7_step 178 = .ok (.getfield 38, 3) := by decide +kernel
theorem dX7_step_181 : decode cX7_step 181 = .ok (.iconst 5, 1) := by decide +kernel
theorem dX7_step_182 : decode cX7_step 182 = .ok (.dup2, 1) := by decide +kernel
theorem dX7_step_183 : decode cX7_step 183 = .ok (.iaload, 1) := by decide +kernel
theorem dX7_step_184 : decode cX7_step 184 = .ok (.iconst 1, 1) := by decide +kernel
theorem dX7_step_185 : decode cX7_step 185 = .ok (.iadd, 1) := by decide +kernel
theorem dX7_step_186 : decode cX7_step 186 = .ok (.iastore, 1) := by decide +kernel
theorem dX7_step_187 : decode cX7_step 187 = .ok (.iinc 7 1, 3) := by decide +kernel
theorem dX7_step_190 : decode cX7_step 190 = .ok (.goto (-57), 3) := by decide +kernel
theorem dX7_step_193 : decode cX7_step 193 = .ok (.aload_n 0, 1) := by decide +kernel
theorem dX7_step_194 : decode cX7_step 194 = .ok (.getfield 38, 3) := by decide +kernel
theorem dX7_step_197 : decode cX7_step 197 = .ok (.iconst 0, 1) := by decide +kernel
theorem dX7_step_198 : decode cX7_step 198 = .ok (.aload_n 0, 1) := by decide +kernel
theorem dX7_step_199 : decode cX7_step 199 = .ok (.getfield 38, 3) := by decide +kernel
theorem dX7_step_202 : decode cX7_step 202 = .ok (.iconst 0, 1) := by decide +kernel
theorem dX7_step_203 : decode cX7_step 203 = .ok (.iaload, 1) := by decide +kernel
theorem dX7_step_204 : decode cX7_step 204 = .ok (.iload_n 1, 1) := by decide +kernel
theorem dX7_step_205 : decode cX7_step 205 = .ok (.ifCond .ne 7, 3) := by decide +kernel
theorem dX7_step_208 : decode cX7_step 208 = .ok (.iconst 1, 1) := by decide +kernel
theorem dX7_step_209 : decode cX7_step 209 = .ok (.goto 12, 3) := by decide +kernel
theorem dX7_step_212 : decode cX7_step 212 = .ok (.aload_n 0, 1) := by decide +kernel
theorem dX7_step_213 : decode cX7_step 213 = .ok (.getfield 23, 3) := by decide +kernel
theorem dX7_step_216 : decode cX7_step 216 = .ok (.aload_n 0, 1) := by decide +kernel
theorem dX7_step_217 : decode cX7_step 217 = .ok (.getfield 113, 3) := by decide +kernel
theorem dX7_step_220 : decode cX7_step 220 = .ok (.iaload, 1) := by decide +kernel
theorem dX7_step_221 : decode cX7_step 221 = .ok (.iadd, 1) := by decide +kernel
theorem dX7_step_222 : decode cX7_step 222 = .ok (.iastore, 1) := by decide +kernel
theorem dX7_step_223 : decode cX7_step 223 = .ok (.iconst 0, 1) := by decide +kernel
theorem dX7_step_224 : decode cX7_step 224 = .ok (.ireturn, 1) := by decide +kernel
theorem dX7_go_0 : decode cX7_go 0 = .ok (.iconst 0, 1) := by decide +kernel
theorem dX7_go_1 : decode cX7_go 1 = .ok (.istore_n 2, 1) := by decide +kernel
theorem dX7_go_2 : decode cX7_go 2 = .ok (.iconst 0, 1) := by decide +kernel
theorem dX7_go_3 : decode cX7_go 3 = .ok (.istore_n 3, 1) := by decide +kernel
theorem dX7_go_4 : decode cX7_go 4 = .ok (.iload_n 3, 1) := by decide +kernel
theorem dX7_go_5 : decode cX7_go 5 = .ok (.iconst 3, 1) := by decide +kernel
theorem dX7_go_6 : decode cX7_go 6 = .ok (.if_icmp .ge 100, 3) := by decide +kernel
theorem dX7_go_9 : decode cX7_go 9 = .ok (.aload_n 0, 1) := by decide +kernel
theorem dX7_go_10 : decode cX7_go 10 = .ok (.getfield 47, 3) := by decide +kernel
theorem dX7_go_13 : decode cX7_go 13 = .ok (.iload_n 3, 1) := by decide +kernel
theorem dX7_go_14 : decode cX7_go 14 = .ok (.aload_n 0, 1) := by decide +kernel
theorem dX7_go_15 : decode cX7_go 15 = .ok (.getfield 35, 3) := by decide +kernel
theorem dX7_go_18 : decode cX7_go 18 = .ok (.iload_n 3, 1) := by decide +kernel
theorem dX7_go_19 : decode cX7_go 19 = .ok (.iaload, 1) := by decide +kernel
theorem dX7_go_20 : decode cX7_go 20 = .ok (.iastore, 1) := by decide +kernel
theorem dX7_go_21 : decode cX7_go 21 = .ok (.aload_n 0, 1) := by decide +kernel
theorem dX7_go_22 : decode cX7_go 22 = .ok (.getfield 29, 3) := by decide +kernel
theorem dX7_go_25 : decode cX7_go 25 = .ok (.iconst 5, 1) := by decide +kernel
theorem dX7_go_26 : decode cX7_go 26 = .ok (.iload_n 1, 1) := by decide +kernel
theorem dX7_go_27 : decode cX7_go 27 = .ok (.imul, 1) := by decide +kernel
theorem dX7_go_28 : decode cX7_go 28 = .ok (.iconst 1, 1) := by decide +kernel
theorem dX7_go_29 : decode cX7_go 29 = .ok (.iadd, 1) := by decide +kernel
theorem dX7_go_30 : decode cX7_go 30 = .ok (.iload_n 3, 1) := by decide +kernel
theorem dX7_go_31 : decode cX7_go 31 = .ok (.iadd, 1) := by decide +kernel
theorem dX7_go_32 : decode cX7_go 32 = .ok (.iaload, 1) := by decide +kernel
theorem dX7_go_33 : decode cX7_go 33 = .ok (.istore 4, 2) := by decide +kernel
theorem dX7_go_35 : decode cX7_go 35 = .ok (.aload_n 0, 1) := by decide +kernel
theorem dX7_go_36 : decode cX7_go 36 = .ok (.getfield 50, 3) := by decide +kernel
theorem dX7_go_39 : decode cX7_go 39 = .ok (.iload_n 3, 1) := by decide +kernel
theorem dX7_go_40 : decode cX7_go 40 = .ok (.iload 4, 2) := by decide +kernel
theorem dX7_go_42 : decode cX7_go 42 = .ok (.iconst (-1), 1) := by decide +kernel
theorem dX7_go_43 : decode cX7_go 43 = .ok (.if_icmp .ne 7, 3) := by decide +kernel
theorem dX7_go_46 : decode cX7_go 46 = .ok (.iconst 0, 1) := by decide +kernel
theorem dX7_go_47 : decode cX7_go 47 = .ok (.goto 12, 3) := by decide +kernel
theorem dX7_go_50 : decode cX7_go 50 = .ok (.iload 4, 2) := by decide +kernel
theorem dX7_go_52 : decode cX7_go 52 = .ok (.aload_n 0, 1) := by decide +kernel
theorem dX7_go_53 : decode cX7_go 53 = .ok (.getfield 35, 3) := by decide +kernel
theorem dX7_go_56 : decode cX7_go 56 = .ok (.iload_n 3, 1) := by decide +kernel
theorem dX7_go_57 : decode cX7_go 57 = .ok (.iaload, 1) := by decide +kernel
theorem dX7_go_58 : decode cX7_go 58 = .ok (.isub, 1) := by decide +kernel
theorem dX7_go_59 : decode cX7_go 59 = .ok (.iastore, 1) := by decide +kernel
theorem dX7_go_60 : decode cX7_go 60 = .ok (.aload_n 0, 1) := by decide +kernel
theorem dX7_go_61 : decode cX7_go 61 = .ok (.getfield 50, 3) := by decide +kernel
theorem dX7_go_64 : decode cX7_go 64 = .ok (.iload_n 3, 1) := by decide +kernel
theorem dX7_go_65 : decode cX7_go 65 = .ok (.iaload, 1) := by decide +kernel
theorem dX7_go_66 : decode cX7_go 66 = .ok (.ifCond .ge 13, 3) := by decide +kernel
theorem dX7_go_69 : decode cX7_go 69 = .ok (.aload_n 0, 1) := by decide +kernel
theorem dX7_go_70 : decode cX7_go 70 = .ok (.getfield 50, 3) := by decide +kernel
theorem dX7_go_73 : decode cX7_go 73 = .ok (.iload_n 3, 1) := by decide +kernel
theorem dX7_go_74 : decode cX7_go 74 = .ok (.iaload, 1) := by decide +kernel
theorem dX7_go_75 : decode cX7_go 75 = .ok (.ineg, 1) := by decide +kernel
theorem dX7_go_76 : decode cX7_go 76 = .ok (.goto 9, 3) := by decide +kernel
theorem dX7_go_79 : decode cX7_go 79 = .ok (.aload_n 0, 1) := by decide +kernel
theorem dX7_go_80 : decode cX7_go 80 = .ok (.getfield 50, 3) := by decide +kernel
theorem dX7_go_83 : decode cX7_go 83 = .ok (.iload_n 3, 1) := by decide +kernel
theorem dX7_go_84 : decode cX7_go 84 = .ok (.iaload, 1) := by decide +kernel
theorem dX7_go_85 : decode cX7_go 85 = .ok (.istore 5, 2) := by decide +kernel
theorem dX7_go_87 : decode cX7_go 87 = .ok (.iload 5, 2) := by decide +kernel
theorem dX7_go_89 : decode cX7_go 89 = .ok (.iload_n 2, 1) := by decide +kernel
theorem dX7_go_90 : decode cX7_go 90 = .ok (.if_icmp .le 8, 3) := by decide +kernel
theorem dX7_go_93 : decode cX7_go 93 = .ok (.iload 5, 2) := by decide +kernel
theorem dX7_go_95 : decode cX7_go 95 = .ok (.goto 4, 3) := by decide +kernel
theorem dX7_go_98 : decode cX7_go 98 = .ok (.iload_n 2, 1) := by decide +kernel
theorem dX7_go_99 : decode cX7_go 99 = .ok (.istore_n 2, 1) := by decide +kernel
theorem dX7_go_100 : decode cX7_go 100 = .ok (.iinc 3 1, 3) := by decide +kernel
theorem dX7_go_103 : decode cX7_go 103 = .ok (.goto (-99), 3) := by decide +kernel
theorem dX7_go_106 : decode cX7_go 106 = .ok (.iconst 0, 1) := by decide +kernel
theorem dX7_go_107 : decode cX7_go 107 = .ok (.istore_n 3, 1) := by decide +kernel
theorem dX7_go_108 : decode cX7_go 108 = .ok (.iconst 1, 1) := by decide +kernel
theorem dX7_go_109 : decode cX7_go 109 = .ok (.istore 4, 2) := by decide +kernel
theorem dX7_go_111 : decode cX7_go 111 = .ok (.iload 4, 2) := by decide +kernel
theorem dX7_go_113 : decode cX7_go 113 = .ok (.iload_n 2, 1) := by decide +kernel
theorem dX7_go_114 : decode cX7_go 114 = .ok (.if_icmp .gt 94, 3) := by decide +kernel
theorem dX7_go_117 : decode cX7_go 117 = .ok (.iload_n 3, 1) := by decide +kernel
theorem dX7_go_118 : decode cX7_go 118 = .ok (.ifCond .ne 90, 3) := by decide +kernel
theorem dX7_go_121 : decode cX7_go 121 = .ok (.iconst 0, 1) := by decide +kernel
theorem dX7_go_122 : decode cX7_go 122 = .ok (.istore 5, 2) := by decide +kernel
theorem dX7_go_124 : decode cX7_go 124 = .ok (.iload 5, 2) := by decide +kernel
theorem dX7_go_126 : decode cX7_go 126 = .ok (.iconst 3, 1) := by decide +kernel
theorem dX7_go_127 : decode cX7_go 127 = .ok (.if_icmp .ge 44, 3) := by decide +kernel
theorem dX7_go_130 : decode cX7_go 130 = .ok (.aload_n 0, 1) := by decide +kernel
theorem dX7_go_131 : decode cX7_go 131 = .ok (.getfield 35, 3) := by decide +kernel
theorem dX7_go_134 : decode cX7_go 134 = .ok (.iload 5, 2) := by decide +kernel
theorem dX7_go_136 : decode cX7_go 136 = .ok (.aload_n 0, 1) := by decide +kernel
theorem dX7_go_137 : decode cX7_go 137 = .ok (.getfield 47, 3) := by decide +kernel
theorem dX7_go_140 : decode cX7_go 140 = .ok (.iload 5, 2) := by decide +kernel
theorem dX7_go_142 : decode cX7_go 142 = .ok (.iaload, 1) := by decide +kernel
theorem dX7_go_143 : decode cX7_go 143 = .ok (.iconst 2, 1) := by decide +kernel
theorem dX7_go_144 : decode cX7_go 144 = .ok (.aload_n 0, 1) := by decide +kernel
theorem dX7_go_145 : decode cX7_go 145 = .ok (.getfield 50, 3) := by decide +kernel
theorem dX7_go_148 : decode cX7_go 148 = .ok (.iload 5, 2) := by decide +kernel
theorem dX7_go_150 : decode cX7_go 150 = .ok (.iaload, 1) := by decide +kernel
theorem dX7_go_151 : decode cX7_go 151 = .ok (.imul, 1) := by decide +kernel
theorem dX7_go_152 : decode cX7_go 152 = .ok (.iload 4, 2) := by decide +kernel
theorem dX7_go_154 : decode cX7_go 154 = .ok (.imul, 1) := by decide +kernel
theorem dX7_go_155 : decode cX7_go 155 = .ok (.iload_n 2, 1) := by decide +kernel
theorem dX7_go_156 : decode cX7_go 156 = .ok (.iadd, 1) := by decide +kernel
theorem dX7_go_157 : decode cX7_go 157 = .ok (.iconst 2, 1) := by decide +kernel
theorem dX7_go_158 : decode cX7_go 158 = .ok (.iload_n 2, 1) := by decide +kernel
theorem dX7_go_159 : decode cX7_go 159 = .ok (.imul, 1) := by decide +kernel
theorem dX7_go_160 : decode cX7_go 160 = .ok (.invokestatic 120, 3) := by decide +kernel
theorem dX7_go_163 : decode cX7_go 163 = .ok (.iadd, 1) := by decide +kernel
theorem dX7_go_164 : decode cX7_go 164 = .ok (.iastore, 1) := by decide +kernel
theorem dX7_go_165 : decode cX7_go 165 = .ok (.iinc 5 1, 3) := by decide +kernel
theorem dX7_go_168 : decode cX7_go 168 = .ok (.goto (-44), 3) := by decide +kernel
theorem dX7_go_171 : decode cX7_go 171 = .ok (.aload_n 0, 1) := by decide +kernel
theorem dX7_go_172 : decode cX7_go 172 = .ok (.aload_n 0, 1) := by decide +kernel
theorem dX7_go_173 : decode cX7_go 173 = .ok (.getfield 29, 3) := by decide +kernel
theorem dX7_go_176 : decode cX7_go 176 = .ok (.iconst 5, 1) := by decide +kernel
theorem dX7_go_177 : decode cX7_go 177 = .ok (.iload_n 1, 1) := by decide +kernel
theorem dX7_go_178 : decode cX7_go 178 = .ok (.imul, 1) := by decide +kernel
theorem dX7_go_179 : decode cX7_go 179 = .ok (.iaload, 1) := by decide +kernel
theorem dX7_go_180 : decode cX7_go 180 = .ok (.aload_n 0, 1) := by decide +kernel
theorem dX7_go_181 : decode cX7_go 181 = .ok (.getfield 35, 3) := by decide +kernel
theorem dX7_go_184 : decode cX7_go 184 = .ok (.iconst 0, 1) := by decide +kernel
theorem dX7_go_185 : decode cX7_go 185 = .ok (.iaload, 1) := by decide +kernel
theorem dX7_go_186 : decode cX7_go 186 = .ok (.aload_n 0, 1) := by decide +kernel
theorem dX7_go_187 : decode cX7_go 187 = .ok (.getfield 35, 3) := by decide +kernel
theorem dX7_go_190 : decode cX7_go 190 = .ok (.iconst 1, 1) := by decide +kernel
theorem dX7_go_191 : decode cX7_go 191 = .ok (.iaload, 1) := by decide +kernel
theorem dX7_go_192 : decode cX7_go 192 = .ok (.aload_n 0, 1) := by decide +kernel
theorem dX7_go_193 : decode cX7_go 193 = .ok (.getfield 35, 3) := by decide +kernel
theorem dX7_go_196 : decode cX7_go 196 = .ok (.iconst 2, 1) := by decide +kernel
theorem dX7_go_197 : decode cX7_go 197 = .ok (.iaload, 1) := by decide +kernel
theorem dX7_go_198 : decode cX7_go 198 = .ok (.invokevirtual 124, 3) := by decide +kernel
theorem dX7_go_201 : decode cX7_go 201 = .ok (.istore_n 3, 1) := by decide +kernel
theorem dX7_go_202 : decode cX7_go 202 = .ok (.iinc 4 1, 3) := by decide +kernel
theorem dX7_go_205 : decode cX7_go 205 = .ok (.goto (-94), 3) := by decide +kernel
theorem dX7_go_208 : decode cX7_go 208 = .ok (.iload_n 3, 1) := by decide +kernel
theorem dX7_go_209 : decode cX7_go 209 = .ok (.ireturn, 1) := by decide +kernel
theorem dX7_run_0 : decode cX7_run 0 = .ok (.aload_n 0, 1) := by decide +kernel
theorem dX7_run_1 : decode cX7_run 1 = .ok (.aload_n 0, 1) := by decide +kernel
theorem dX7_run_2 : decode cX7_run 2 = .ok (.getfield 106, 3) := by decide +kernel
theorem dX7_run_5 : decode cX7_run 5 = .ok (.ifCond .eq 7, 3) := by decide +kernel
theorem dX7_run_8 : decode cX7_run 8 = .ok (.iconst 0, 1) := by decide +kernel
theorem dX7_run_9 : decode cX7_run 9 = .ok (.goto 4, 3) := by decide +kernel
theorem dX7_run_12 : decode cX7_run 12 = .ok (.iconst 1, 1) := by decide +kernel
theorem dX7_run_13 : decode cX7_run 13 = .ok (.putfield 57, 3) := by decide +kernel
theorem dX7_run_16 : decode cX7_run 16 = .ok (.aload_n 0, 1) := by decide +kernel
theorem dX7_run_17 : decode cX7_run 17 = .ok (.getfield 57, 3) := by decide +kernel
theorem dX7_run_20 : decode cX7_run 20 = .ok (.ifCond .le 5, 3) := by decide +kernel
theorem dX7_run_23 : decode cX7_run 23 = .ok (.iconst 0, 1) := by decide +kernel
theorem dX7_run_24 : decode cX7_run 24 = .ok (.ireturn, 1) := by decide +kernel
theorem dX7_run_25 : decode cX7_run 25 = .ok (.aload_n 0, 1) := by decide +kernel
theorem dX7_run_26 : decode cX7_run 26 = .ok (.iconst 1, 1) := by decide +kernel
theorem dX7_run_27 : decode cX7_run 27 = .ok (.putfield 128, 3) := by decide +kernel
theorem dX7_run_30 : decode cX7_run 30 = .ok (.aload_n 0, 1) := by decide +kernel
theorem dX7_run_31 : decode cX7_run 31 = .ok (.getfield 35, 3) := by decide +kernel
theorem dX7_run_34 : decode cX7_run 34 = .ok (.iconst 0, 1) := by decide +kernel
theorem dX7_run_35 : decode cX7_run 35 = .ok (.iconst 0, 1) := by decide +kernel
theorem dX7_run_36 : decode cX7_run 36 = .ok (.iastore, 1) := by decide +kernel
theorem dX7_run_37 : decode cX7_run 37 = .ok (.aload_n 0, 1) := by decide +kernel
theorem dX7_run_38 : decode cX7_run 38 = .ok (.getfield 35, 3) := by decide +kernel
theorem dX7_run_41 : decode cX7_run 41 = .ok (.iconst 1, 1) := by decide +kernel
theorem dX7_run_42 : decode cX7_run 42 = .ok (.iconst 0, 1) := by decide +kernel
theorem dX7_run_43 : decode cX7_run 43 = .ok (.iastore, 1) := by decide +kernel
theorem dX7_run_44 : decode cX7_run 44 = .ok (.aload_n 0, 1) := by decide +kernel
theorem dX7_run_45 : decode cX7_run 45 = .ok (.getfield 35, 3) := by decide +kernel
theorem dX7_run_48 : decode cX7_run 48 = .ok (.iconst 2, 1) := by decide +kernel
theorem dX7_run_49 : decode cX7_run 49 = .ok (.bipush 100, 2) := by decide +kernel
theorem dX7_run_51 : decode cX7_run 51 = .ok (.iastore, 1) := by decide +kernel
theorem dX7_run_52 : decode cX7_run 52 = .ok (.aload_n 0, 1) := by decide +kernel
theorem dX7_run_53 : decode cX7_run 53 = .ok (.iconst 0, 1) := by decide +kernel
theorem dX7_run_54 : decode cX7_run 54 = .ok (.putfield 113, 3) := by decide +kernel
theorem dX7_run_57 : decode cX7_run 57 = .ok (.aload_n 0, 1) := by decide +kernel
theorem dX7_run_58 : decode cX7_run 58 = .ok (.getfield 38, 3) := by decide +kernel
theorem dX7_run_61 : decode cX7_run 61 = .ok (.iconst 0, 1) := by decide +kernel
theorem dX7_run_62 : decode cX7_run 62 = .ok (.iconst 0, 1) := by decide +kernel
theorem dX7_run_63 : decode cX7_run 63 = .ok (.iastore, 1) := by decide +kernel
theorem dX7_run_64 : decode cX7_run 64 = .ok (.aload_n 0, 1) := by decide +kernel
theorem dX7_run_65 : decode cX7_run 65 = .ok (.getfield 38, 3) := by decide +kernel
theorem dX7_run_68 : decode cX7_run 68 = .ok (.iconst 5, 1) := by decide +kernel
theorem dX7_run_69 : decode cX7_run 69 = .ok (.iconst 0, 1) := by decide +kernel
theorem dX7_run_70 : decode cX7_run 70 = .ok (.iastore, 1) := by decide +kernel
theorem dX7_run_71 : decode cX7_run 71 = .ok (.iconst 0, 1) := by decide +kernel
theorem dX7_run_72 : decode cX7_run 72 = .ok (.istore_n 1, 1) := by decide +kernel
theorem dX7_run_73 : decode cX7_run 73 = .ok (.iconst 0, 1) := by decide +kernel
theorem dX7_run_74 : decode cX7_run 74 = .ok (.istore_n 2, 1) := by decide +kernel
theorem dX7_run_75 : decode cX7_run 75 = .ok (.iload_n 2, 1) := by decide +kernel
theorem dX7_run_76 : decode cX7_run 76 = .ok (.aload_n 0, 1) := by decide +kernel
theorem dX7_run_77 : decode cX7_run 77 = .ok (.getfield 103, 3) := by decide +kernel
theorem dX7_run_80 : decode cX7_run 80 = .ok (.if_icmp .ge 72, 3) := by decide +kernel
theorem dX7_run_83 : decode cX7_run 83 = .ok (.iload_n 1, 1) := by decide +kernel
theorem dX7_run_84 : decode cX7_run 84 = .ok (.ifCond .ne 68, 3) := by decide +kernel
theorem dX7_run_87 : decode cX7_run 87 = .ok (.aload_n 0, 1) := by decide +kernel
theorem dX7_run_88 : decode cX7_run 88 = .ok (.getfield 29, 3) := by decide +kernel
theorem dX7_run_91 : decode cX7_run 91 = .ok (.iconst 5, 1) := by decide +kernel
theorem dX7_run_92 : decode cX7_run 92 = .ok (.iload_n 2, 1) := by decide +kernel
theorem dX7_run_93 : decode cX7_run 93 = .ok (.imul, 1) := by decide +kernel
theorem dX7_run_94 : decode cX7_run 94 = .ok (.iaload, 1) := by decide +kernel
theorem dX7_run_95 : decode cX7_run 95 = .ok (.iconst 2, 1) := by decide +kernel
theorem dX7_run_96 : decode cX7_run 96 = .ok (.if_icmp .ne 35, 3) := by decide +kernel
theorem dX7_run_99 : decode cX7_run 99 = .ok (.aload_n 0, 1) := by decide +kernel
theorem dX7_run_100 : decode cX7_run 100 = .ok (.aload_n 0, 1) := by decide +kernel
theorem dX7_run_101 : decode cX7_run 101 = .ok (.getfield 29, 3) := by decide +kernel
theorem dX7_run_104 : decode cX7_run 104 = .ok (.iconst 5, 1) := by decide +kernel
theorem dX7_run_105 : decode cX7_run 105 = .ok (.iload_n 2, 1) := by decide +kernel
theorem dX7_run_106 : decode cX7_run 106 = .ok (.imul, 1) := by decide +kernel
theorem dX7_run_107 : decode cX7_run 107 = .ok (.iconst 4, 1) := by decide +kernel
theorem dX7_run_108 : decode cX7_run 108 = .ok (.iadd, 1) := by decide +kernel
theorem dX7_run_109 : decode cX7_run 109 = .ok (.iaload, 1) := by decide +kernel
theorem dX7_run_110 : decode cX7_run 110 = .ok (.putfield 113, 3) := by decide +kernel
theorem dX7_run_113 : decode cX7_run 113 = .ok (.aload_n 0, 1) := by decide +kernel
theorem dX7_run_114 : decode cX7_run 114 = .ok (.getfield 38, 3) := by decide +kernel
theorem dX7_run_117 : decode cX7_run 117 = .ok (.iconst 0, 1) := by decide +kernel
theorem dX7_run_118 : decode cX7_run 118 = .ok (.aload_n 0, 1) := by decide +kernel
theorem dX7_run_119 : decode cX7_run 119 = .ok (.getfield 38, 3) := by decide +kernel
theorem dX7_run_122 : decode cX7_run 122 = .ok (.iconst 0, 1) := by decide +kernel
theorem dX7_run_123 : decode cX7_run 123 = .ok (.iaload, 1) := by decide +kernel
theorem dX7_run_124 : decode cX7_run 124 = .ok (.bipush 10, 2) := by decide +kernel
theorem dX7_run_126 : decode cX7_run 126 = .ok (.iadd, 1) := by decide +kernel
theorem dX7_run_127 : decode cX7_run 127 = .ok (.iastore, 1) := by decide +kernel
theorem dX7_run_128 : decode cX7_run 128 = .ok (.goto 9, 3) := by decide +kernel
theorem dX7_run_131 : decode cX7_run 131 = .ok (.aload_n 0, 1) := by decide +kernel
theorem dX7_run_132 : decode cX7_run 132 = .ok (.iload_n 2, 1) := by decide +kernel
theorem dX7_run_133 : decode cX7_run 133 = .ok (.invokevirtual 131, 3) := by decide +kernel
theorem dX7_run_136 : decode cX7_run 136 = .ok (.istore_n 1, 1) := by decide +kernel
theorem dX7_run_137 : decode cX7_run 137 = .ok (.iload_n 1, 1) := by decide +kernel
theorem dX7_run_138 : decode cX7_run 138 = .ok (.ifCond .ne 9, 3) := by decide +kernel
theorem dX7_run_141 : decode cX7_run 141 = .ok (.iload_n 2, 1) := by decide +kernel
theorem dX7_run_142 : decode cX7_run 142 = .ok (.iconst 1, 1) := by decide +kernel
theorem dX7_run_143 : decode cX7_run 143 = .ok (.iadd, 1) := by decide +kernel
theorem dX7_run_144 : decode cX7_run 144 = .ok (.goto 4, 3) := by decide +kernel
theorem dX7_run_147 : decode cX7_run 147 = .ok (.iload_n 2, 1) := by decide +kernel
theorem dX7_run_148 : decode cX7_run 148 = .ok (.istore_n 2, 1) := by decide +kernel
theorem dX7_run_149 : decode cX7_run 149 = .ok (.goto (-74), 3) := by decide +kernel
theorem dX7_run_152 : decode cX7_run 152 = .ok (.aload_n 0, 1) := by decide +kernel
theorem dX7_run_153 : decode cX7_run 153 = .ok (.getfield 38, 3) := by decide +kernel
theorem dX7_run_156 : decode cX7_run 156 = .ok (.iconst 1, 1) := by decide +kernel
theorem dX7_run_157 : decode cX7_run 157 = .ok (.iload_n 2, 1) := by decide +kernel
theorem dX7_run_158 : decode cX7_run 158 = .ok (.iastore, 1) := by decide +kernel
theorem dX7_run_159 : decode cX7_run 159 = .ok (.aload_n 0, 1) := by decide +kernel
theorem dX7_run_160 : decode cX7_run 160 = .ok (.getfield 38, 3) := by decide +kernel
theorem dX7_run_163 : decode cX7_run 163 = .ok (.iconst 2, 1) := by decide +kernel
theorem dX7_run_164 : decode cX7_run 164 = .ok (.aload_n 0, 1) := by decide +kernel
theorem dX7_run_165 : decode cX7_run 165 = .ok (.getfield 35, 3) := by decide +kernel
theorem dX7_run_168 : decode cX7_run 168 = .ok (.iconst 0, 1) := by decide +kernel
theorem dX7_run_169 : decode cX7_run 169 = .ok (.iaload, 1) := by decide +kernel
theorem dX7_run_170 : decode cX7_run 170 = .ok (.iastore, 1) := by decide +kernel
theorem dX7_run_171 : decode cX7_run 171 = .ok (.aload_n 0, 1) := by decide +kernel
theorem dX7_run_172 : decode cX7_run 172 = .ok (.getfield 38, 3) := by decide +kernel
theorem dX7_run_175 : decode cX7_run 175 = .ok (.iconst 3, 1) := by decide +kernel
theorem dX7_run_176 : decode cX7_run 176 = .ok (.aload_n 0, 1) := by decide +kernel
theorem dX7_run_177 : decode cX7_run 177 = .ok (.getfield 35, 3) := by decide +kernel
theorem dX7_run_180 : decode cX7_run 180 = .ok (.iconst 1, 1) := by decide +kernel
theorem dX7_run_181 : decode cX7_run 181 = .ok (.iaload, 1) := by decide +kernel
theorem dX7_run_182 : decode cX7_run 182 = .ok (.iastore, 1) := by decide +kernel
theorem dX7_run_183 : decode cX7_run 183 = .ok (.aload_n 0, 1) := by decide +kernel
theorem dX7_run_184 : decode cX7_run 184 = .ok (.getfield 38, 3) := by decide +kernel
theorem dX7_run_187 : decode cX7_run 187 = .ok (.iconst 4, 1) := by decide +kernel
theorem dX7_run_188 : decode cX7_run 188 = .ok (.aload_n 0, 1) := by decide +kernel
theorem dX7_run_189 : decode cX7_run 189 = .ok (.getfield 35, 3) := by decide +kernel
theorem dX7_run_192 : decode cX7_run 192 = .ok (.iconst 2, 1) := by decide +kernel
theorem dX7_run_193 : decode cX7_run 193 = .ok (.iaload, 1) := by decide +kernel
theorem dX7_run_194 : decode cX7_run 194 = .ok (.iastore, 1) := by decide +kernel
theorem dX7_run_195 : decode cX7_run 195 = .ok (.iload_n 1, 1) := by decide +kernel
theorem dX7_run_196 : decode cX7_run 196 = .ok (.ireturn, 1) := by decide +kernel
theorem dX7_about_0 : decode cX7_about 0 = .ok (.aload_n 0, 1) := by decide +kernel
theorem dX7_about_1 : decode cX7_about 1 = .ok (.iload_n 1, 1) := by decide +kernel
theorem dX7_about_2 : decode cX7_about 2 = .ok (.iconst 0, 1) := by decide +kernel
theorem dX7_about_3 : decode cX7_about 3 = .ok (.iconst 5, 1) := by decide +kernel
theorem dX7_about_4 : decode cX7_about 4 = .ok (.invokestatic 60, 3) := by decide +kernel
theorem dX7_about_7 : decode cX7_about 7 = .ok (.ifCond .ne 7, 3) := by decide +kernel
theorem dX7_about_10 : decode cX7_about 10 = .ok (.iconst 1, 1) := by decide +kernel
theorem dX7_about_11 : decode cX7_about 11 = .ok (.goto 15, 3) := by decide +kernel
theorem dX7_about_14 : decode cX7_about 14 = .ok (.aload_n 0, 1) := by decide +kernel
theorem dX7_about_15 : decode cX7_about 15 = .ok (.getfield 128, 3) := by decide +kernel
theorem dX7_about_18 : decode cX7_about 18 = .ok (.ifCond .eq 7, 3) := by decide +kernel
theorem dX7_about_21 : decode cX7_about 21 = .ok (.iconst 0, 1) := by decide +kernel
theorem dX7_about_22 : decode cX7_about 22 = .ok (.goto 4, 3) := by decide +kernel
theorem dX7_about_25 : decode cX7_about 25 = .ok (.iconst 2, 1) := by decide +kernel
theorem dX7_about_26 : decode cX7_about 26 = .ok (.putfield 57, 3) := by decide +kernel
theorem dX7_about_29 : decode cX7_about 29 = .ok (.aload_n 0, 1) := by decide +kernel
theorem dX7_about_30 : decode cX7_about 30 = .ok (.getfield 57, 3) := by decide +kernel
theorem dX7_about_33 : decode cX7_about 33 = .ok (.ifCond .le 7, 3) := by decide +kernel
theorem dX7_about_36 : decode cX7_about 36 = .ok (.iconst 0, 1) := by decide +kernel
theorem dX7_about_37 : decode cX7_about 37 = .ok (.goto 9, 3) := by decide +kernel
theorem dX7_about_40 : decode cX7_about 40 = .ok (.aload_n 0, 1) := by decide +kernel
theorem dX7_about_41 : decode cX7_about 41 = .ok (.getfield 38, 3) := by decide +kernel
theorem dX7_about_44 : decode cX7_about 44 = .ok (.iload_n 1, 1) := by decide +kernel
theorem dX7_about_45 : decode cX7_about 45 = .ok (.iaload, 1) := by decide +kernel
theorem dX7_about_46 : decode cX7_about 46 = .ok (.ireturn, 1) := by decide +kernel
theorem dX7_cell_0 : decode cX7_cell 0 = .ok (.aload_n 0, 1) := by decide +kernel
theorem dX7_cell_1 : decode cX7_cell 1 = .ok (.aload_n 0, 1) := by decide +kernel
theorem dX7_cell_2 : decode cX7_cell 2 = .ok (.iload_n 1, 1) := by decide +kernel
theorem dX7_cell_3 : decode cX7_cell 3 = .ok (.iload_n 2, 1) := by decide +kernel
theorem dX7_cell_4 : decode cX7_cell 4 = .ok (.invokevirtual 64, 3) := by decide +kernel
theorem dX7_cell_7 : decode cX7_cell 7 = .ok (.ifCond .eq 16, 3) := by decide +kernel
theorem dX7_cell_10 : decode cX7_cell 10 = .ok (.iload_n 3, 1) := by decide +kernel
theorem dX7_cell_11 : decode cX7_cell 11 = .ok (.iconst 0, 1) := by decide +kernel
theorem dX7_cell_12 : decode cX7_cell 12 = .ok (.iconst 2, 1) := by decide +kernel
theorem dX7_cell_13 : decode cX7_cell 13 = .ok (.invokestatic 60, 3) := by decide +kernel
theorem dX7_cell_16 : decode cX7_cell 16 = .ok (.ifCond .eq 7, 3) := by decide +kernel
theorem dX7_cell_19 : decode cX7_cell 19 = .ok (.iconst 0, 1) := by decide +kernel
theorem dX7_cell_20 : decode cX7_cell 20 = .ok (.goto 4, 3) := by decide +kernel
theorem dX7_cell_23 : decode cX7_cell 23 = .ok (.iconst 1, 1) := by decide +kernel
theorem dX7_cell_24 : decode cX7_cell 24 = .ok (.putfield 57, 3) := by decide +kernel
theorem dX7_cell_27 : decode cX7_cell 27 = .ok (.aload_n 0, 1) := by decide +kernel
theorem dX7_cell_28 : decode cX7_cell 28 = .ok (.getfield 57, 3) := by decide +kernel
theorem dX7_cell_31 : decode cX7_cell 31 = .ok (.ifCond .le 5, 3) := by decide +kernel
theorem dX7_cell_34 : decode cX7_cell 34 = .ok (.iconst 0, 1) := by decide +kernel
theorem dX7_cell_35 : decode cX7_cell 35 = .ok (.ireturn, 1) := by decide +kernel
theorem dX7_cell_36 : decode cX7_cell 36 = .ok (.bipush 20, 2) := by decide +kernel
theorem dX7_cell_38 : decode cX7_cell 38 = .ok (.iload_n 2, 1) := by decide +kernel
theorem dX7_cell_39 : decode cX7_cell 39 = .ok (.imul, 1) := by decide +kernel
theorem dX7_cell_40 : decode cX7_cell 40 = .ok (.iload_n 1, 1) := by decide +kernel
theorem dX7_cell_41 : decode cX7_cell 41 = .ok (.iadd, 1) := by decide +kernel
theorem dX7_cell_42 : decode cX7_cell 42 = .ok (.istore 4, 2) := by decide +kernel
theorem dX7_cell_44 : decode cX7_cell 44 = .ok (.iload_n 3, 1) := by decide +kernel
theorem dX7_cell_45 : decode cX7_cell 45 = .ok (.ifCond .ne 13, 3) := by decide +kernel
theorem dX7_cell_48 : decode cX7_cell 48 = .ok (.aload_n 0, 1) := by decide +kernel
theorem dX7_cell_49 : decode cX7_cell 49 = .ok (.getfield 7, 3) := by decide +kernel
theorem dX7_cell_52 : decode cX7_cell 52 = .ok (.iload 4, 2) := by decide +kernel
theorem dX7_cell_54 : decode cX7_cell 54 = .ok (.iaload, 1) := by decide +kernel
theorem dX7_cell_55 : decode cX7_cell 55 = .ok (.goto 33, 3) := by decide +kernel
theorem dX7_cell_58 : decode cX7_cell 58 = .ok (.iload_n 3, 1) := by decide +kernel
theorem dX7_cell_59 : decode cX7_cell 59 = .ok (.iconst 1, 1) := by decide +kernel
theorem dX7_cell_60 : decode cX7_cell 60 = .ok (.if_icmp .ne 13, 3) := by decide +kernel
theorem dX7_cell_63 : decode cX7_cell 63 = .ok (.aload_n 0, 1) := by decide +kernel
theorem dX7_cell_64 : decode cX7_cell 64 = .ok (.getfield 13, 3) := by decide +kernel
theorem dX7_cell_67 : decode cX7_cell 67 = .ok (.iload 4, 2) := by decide +kernel
theorem dX7_cell_69 : decode cX7_cell 69 = .ok (.iaload, 1) := by decide +kernel
theorem dX7_cell_70 : decode cX7_cell 70 = .ok (.goto 18, 3) := by decide +kernel
theorem dX7_cell_73 : decode cX7_cell 73 = .ok (.aload_n 0, 1) := by decide +kernel
theorem dX7_cell_74 : decode cX7_cell 74 = .ok (.getfield 16, 3) := by decide +kernel
theorem dX7_cell_77 : decode cX7_cell 77 = .ok (.iload 4, 2) := by decide +kernel
theorem dX7_cell_79 : decode cX7_cell 79 = .ok (.baload, 1) := by decide +kernel
theorem dX7_cell_80 : decode cX7_cell 80 = .ok (.ifCond .eq 7, 3) := by decide +kernel
theorem dX7_cell_83 : decode cX7_cell 83 = .ok (.iconst 1, 1) := by decide +kernel
theorem dX7_cell_84 : decode cX7_cell 84 = .ok (.goto 4, 3) := by decide +kernel
theorem dX7_cell_87 : decode cX7_cell 87 = .ok (.iconst 0, 1) := by decide +kernel
theorem dX7_cell_88 : decode cX7_cell 88 = .ok (.ireturn, 1) := by decide +kernel
theorem dX7_check_0 : decode cX7_check 0 = .ok (.aload_n 0, 1) := by decide +kernel
theorem dX7_check_1 : decode cX7_check 1 = .ok (.iload_n 1, 1) := by decide +kernel
theorem dX7_check_2 : decode cX7_check 2 = .ok (.iconst 0, 1) := by decide +kernel
theorem dX7_check_3 : decode cX7_check 3 = .ok (.iconst 3, 1) := by decide +kernel
theorem dX7_check_4 : decode cX7_check 4 = .ok (.invokestatic 60, 3) := by decide +kernel
theorem dX7_check_7 : decode cX7_check 7 = .ok (.ifCond .eq 7, 3) := by decide +kernel
theorem dX7_check_10 : decode cX7_check 10 = .ok (.iconst 0, 1) := by decide +kernel
theorem dX7_check_11 : decode cX7_check 11 = .ok (.goto 4, 3) := by decide +kernel
theorem dX7_check_14 : decode cX7_check 14 = .ok (.iconst 1, 1) := by decide +kernel
theorem dX7_check_15 : decode cX7_check 15 = .ok (.putfield 57, 3) := by decide +kernel
theorem dX7_check_18 : decode cX7_check 18 = .ok (.iconst 0, 1) := by decide +kernel
theorem dX7_check_19 : decode cX7_check 19 = .ok (.istore_n 2, 1) := by decide +kernel
theorem dX7_check_20 : decode cX7_check 20 = .ok (.iconst (-1), 1) := by decide +kernel
theorem dX7_check_21 : decode cX7_check 21 = .ok (.istore_n 3, 1) := by decide +kernel
theorem dX7_check_22 : decode cX7_check 22 = .ok (.aload_n 0, 1) := by decide +kernel
theorem dX7_check_23 : decode cX7_check 23 = .ok (.getfield 53, 3) := by decide +kernel
theorem dX7_check_26 : decode cX7_check 26 = .ok (.aload_n 0, 1) := by decide +kernel
theorem dX7_check_27 : decode cX7_check 27 = .ok (.getfield 53, 3) := by decide +kernel
theorem dX7_check_30 : decode cX7_check 30 = .ok (.imul, 1) := by decide +kernel
theorem dX7_check_31 : decode cX7_check 31 = .ok (.iconst 1, 1) := by decide +kernel
theorem dX7_check_32 : decode cX7_check 32 = .ok (.isub, 1) := by decide +kernel
theorem dX7_check_33 : decode cX7_check 33 = .ok (.istore 4, 2) := by decide +kernel
theorem dX7_check_35 : decode cX7_check 35 = .ok (.iload 4, 2) := by decide +kernel
theorem dX7_check_37 : decode cX7_check 37 = .ok (.ifCond .lt 116, 3) := by decide +kernel
theorem dX7_check_40 : decode cX7_check 40 = .ok (.aload_n 0, 1) := by decide +kernel
theorem dX7_check_41 : decode cX7_check 41 = .ok (.getfield 57, 3) := by decide +kernel
theorem dX7_check_44 : decode cX7_check 44 = .ok (.ifCond .ne 109, 3) := by decide +kernel
theorem dX7_check_47 : decode cX7_check 47 = .ok (.bipush 20, 2) := by decide +kernel
theorem dX7_check_49 : decode cX7_check 49 = .ok (.iload 4, 2) := by decide +kernel
theorem dX7_check_51 : decode cX7_check 51 = .ok (.aload_n 0, 1) := by decide +kernel
theorem dX7_check_52 : decode cX7_check 52 = .ok (.getfield 53, 3) := by decide +kernel
theorem dX7_check_55 : decode cX7_check 55 = .ok (.idiv, 1) := by decide +kernel
theorem dX7_check_56 : decode cX7_check 56 = .ok (.imul, 1) := by decide +kernel
theorem dX7_check_57 : decode cX7_check 57 = .ok (.iload 4, 2) := by decide +kernel
theorem dX7_check_59 : decode cX7_check 59 = .ok (.aload_n 0, 1) := by decide +kernel
theorem dX7_check_60 : decode cX7_check 60 = .ok (.getfield 53, 3) := by decide +kernel
theorem dX7_check_63 : decode cX7_check 63 = .ok (.irem, 1) := by decide +kernel
theorem dX7_check_64 : decode cX7_check 64 = .ok (.iadd, 1) := by decide +kernel
theorem dX7_check_65 : decode cX7_check 65 = .ok (.istore 5, 2) := by decide +kernel
theorem dX7_check_67 : decode cX7_check 67 = .ok (.iload_n 1, 1) := by decide +kernel
theorem dX7_check_68 : decode cX7_check 68 = .ok (.iconst 2, 1) := by decide +kernel
theorem dX7_check_69 : decode cX7_check 69 = .ok (.irem, 1) := by decide +kernel
theorem dX7_check_70 : decode cX7_check 70 = .ok (.ifCond .ne 28, 3) := by decide +kernel
theorem dX7_check_73 : decode cX7_check 73 = .ok (.aload_n 0, 1) := by decide +kernel
theorem dX7_check_74 : decode cX7_check 74 = .ok (.getfield 7, 3) := by decide +kernel
theorem dX7_check_77 : decode cX7_check 77 = .ok (.iload 5, 2) := by decide +kernel
theorem dX7_check_79 : decode cX7_check 79 = .ok (.iaload, 1) := by decide +kernel
theorem dX7_check_80 : decode cX7_check 80 = .ok (.aload_n 0, 1) := by decide +kernel
theorem dX7_check_81 : decode cX7_check 81 = .ok (.getfield 13, 3) := by decide +kernel
theorem dX7_check_84 : decode cX7_check 84 = .ok (.iload 5, 2) := by decide +kernel
theorem dX7_check_86 : decode cX7_check 86 = .ok (.iaload, 1) := by decide +kernel
theorem dX7_check_87 : decode cX7_check 87 = .ok (.if_icmp .le 7, 3) := by decide +kernel
theorem dX7_check_90 : decode cX7_check 90 = .ok (.iconst 1, 1) := by decide +kernel
theorem dX7_check_91 : decode cX7_check 91 = .ok (.goto 29, 3) := by decide +kernel
theorem dX7_check_94 : decode cX7_check 94 = .ok (.iconst 0, 1) := by decide +kernel
theorem dX7_check_95 : decode cX7_check 95 = .ok (.goto 25, 3) := by decide +kernel
theorem dX7_check_98 : decode cX7_check 98 = .ok (.aload_n 0, 1) := by decide +kernel
theorem dX7_check_99 : decode cX7_check 99 = .ok (.getfield 7, 3) := by decide +kernel
theorem dX7_check_102 : decode cX7_check 102 = .ok (.iload 5, 2) := by decide +kernel
theorem dX7_check_104 : decode cX7_check 104 = .ok (.iaload, 1) := by decide +kernel
theorem dX7_check_105 : decode cX7_check 105 = .ok (.aload_n 0, 1) := by decide +kernel
theorem dX7_check_106 : decode cX7_check 106 = .ok (.getfield 13, 3) := by decide +kernel
theorem dX7_check_109 : decode cX7_check 109 = .ok (.iload 5, 2) := by decide +kernel
theorem dX7_check_111 : decode cX7_check 111 = .ok (.iaload, 1) := by decide +kernel
theorem dX7_check_112 : decode cX7_check 112 = .ok (.if_icmp .ge 7, 3) := by decide +kernel
theorem dX7_check_115 : decode cX7_check 115 = .ok (.iconst 1, 1) := by decide +kernel
theorem dX7_check_116 : decode cX7_check 116 = .ok (.goto 4, 3) := by decide +kernel
theorem dX7_check_119 : decode cX7_check 119 = .ok (.iconst 0, 1) := by decide +kernel
theorem dX7_check_120 : decode cX7_check 120 = .ok (.istore 6, 2) := by decide +kernel
theorem dX7_check_122 : decode cX7_check 122 = .ok (.iload 6, 2) := by decide +kernel
theorem dX7_check_124 : decode cX7_check 124 = .ok (.ifCond .eq 9, 3) := by decide +kernel
theorem dX7_check_127 : decode cX7_check 127 = .ok (.iload_n 2, 1) := by decide +kernel
theorem dX7_check_128 : decode cX7_check 128 = .ok (.iconst 1, 1) := by decide +kernel
theorem dX7_check_129 : decode cX7_check 129 = .ok (.iadd, 1) := by decide +kernel
theorem dX7_check_130 : decode cX7_check 130 = .ok (.goto 4, 3) := by decide +kernel
theorem dX7_check_133 : decode cX7_check 133 = .ok (.iload_n 2, 1) := by decide +kernel
theorem dX7_check_134 : decode cX7_check 134 = .ok (.istore_n 2, 1) := by decide +kernel
theorem dX7_check_135 : decode cX7_check 135 = .ok (.iload 6, 2) := by decide +kernel
theorem dX7_check_137 : decode cX7_check 137 = .ok (.ifCond .eq 8, 3) := by decide +kernel
theorem dX7_check_140 : decode cX7_check 140 = .ok (.iload 4, 2) := by decide +kernel
theorem dX7_check_142 : decode cX7_check 142 = .ok (.goto 4, 3) := by decide +kernel
theorem dX7_check_145 : decode cX7_check 145 = .ok (.iload_n 3, 1) := by decide +kernel
theorem dX7_check_146 : decode cX7_check 146 = .ok (.istore_n 3, 1) := by decide +kernel
theorem dX7_check_147 : decode cX7_check 147 = .ok (.iinc 4 (-1), 3) := by decide +kernel
theorem dX7_check_150 : decode cX7_check 150 = .ok (.goto (-115), 3) := by decide +kernel
theorem dX7_check_153 : decode cX7_check 153 = .ok (.aload_n 0, 1) := by decide +kernel
theorem dX7_check_154 : decode cX7_check 154 = .ok (.getfield 57, 3) := by decide +kernel
theorem dX7_check_157 : decode cX7_check 157 = .ok (.ifCond .le 7, 3) := by decide +kernel
theorem dX7_check_160 : decode cX7_check 160 = .ok (.iconst 0, 1) := by decide +kernel
theorem dX7_check_161 : decode cX7_check 161 = .ok (.goto 13, 3) := by decide +kernel
theorem dX7_check_164 : decode cX7_check 164 = .ok (.iload_n 1, 1) := by decide +kernel
theorem dX7_check_165 : decode cX7_check 165 = .ok (.iconst 2, 1) := by decide +kernel
theorem dX7_check_166 : decode cX7_check 166 = .ok (.if_icmp .ge 7, 3) := by decide +kernel
theorem dX7_check_169 : decode cX7_check 169 = .ok (.iload_n 2, 1) := by decide +kernel
theorem dX7_check_170 : decode cX7_check 170 = .ok (.goto 4, 3) := by decide +kernel
theorem dX7_check_173 : decode cX7_check 173 = .ok (.iload_n 3, 1) := by decide +kernel
theorem dX7_check_174 : decode cX7_check 174 = .ok (.ireturn, 1) := by decide +kernel
theorem dX7_spares_0 : decode cX7_spares 0 = .ok (.aload_n 0, 1) := by decide +kernel
theorem dX7_spares_1 : decode cX7_spares 1 = .ok (.iload_n 1, 1) := by decide +kernel
theorem dX7_spares_2 : decode cX7_spares 2 = .ok (.iload_n 2, 1) := by decide +kernel
theorem dX7_spares_3 : decode cX7_spares 3 = .ok (.iload_n 3, 1) := by decide +kernel
theorem dX7_spares_4 : decode cX7_spares 4 = .ok (.iload 4, 2) := by decide +kernel
theorem dX7_spares_6 : decode cX7_spares 6 = .ok (.invokevirtual 116, 3) := by decide +kernel
theorem dX7_spares_9 : decode cX7_spares 9 = .ok (.istore 5, 2) := by decide +kernel
theorem dX7_spares_11 : decode cX7_spares 11 = .ok (.iconst 0, 1) := by decide +kernel
theorem dX7_spares_12 : decode cX7_spares 12 = .ok (.istore 6, 2) := by decide +kernel
theorem dX7_spares_14 : decode cX7_spares 14 = .ok (.iload 6, 2) := by decide +kernel
theorem dX7_spares_16 : decode cX7_spares 16 = .ok (.sipush 400, 3) := by decide +kernel
theorem dX7_spares_19 : decode cX7_spares 19 = .ok (.if_icmp .ge 60, 3) := by decide +kernel
theorem dX7_spares_22 : decode cX7_spares 22 = .ok (.iload 5, 2) := by decide +kernel
theorem dX7_spares_24 : decode cX7_spares 24 = .ok (.ifCond .eq 55, 3) := by decide +kernel
theorem dX7_spares_27 : decode cX7_spares 27 = .ok (.aload_n 0, 1) := by decide +kernel
theorem dX7_spares_28 : decode cX7_spares 28 = .ok (.iload_n 1, 1) := by decide +kernel
theorem dX7_spares_29 : decode cX7_spares 29 = .ok (.iload_n 2, 1) := by decide +kernel
theorem dX7_spares_30 : decode cX7_spares 30 = .ok (.iload_n 3, 1) := by decide +kernel
theorem dX7_spares_31 : decode cX7_spares 31 = .ok (.iload 6, 2) := by decide +kernel
theorem dX7_spares_33 : decode cX7_spares 33 = .ok (.invokevirtual 116, 3) := by decide +kernel
theorem dX7_spares_36 : decode cX7_spares 36 = .ok (.ifCond .eq 30, 3) := by decide +kernel
theorem dX7_spares_39 : decode cX7_spares 39 = .ok (.aload_n 0, 1) := by decide +kernel
theorem dX7_spares_40 : decode cX7_spares 40 = .ok (.getfield 13, 3) := by decide +kernel
theorem dX7_spares_43 : decode cX7_spares 43 = .ok (.iload 6, 2) := by decide +kernel
theorem dX7_spares_45 : decode cX7_spares 45 = .ok (.iaload, 1) := by decide +kernel
theorem dX7_spares_46 : decode cX7_spares 46 = .ok (.aload_n 0, 1) := by decide +kernel
theorem dX7_spares_47 : decode cX7_spares 47 = .ok (.getfield 13, 3) := by decide +kernel
theorem dX7_spares_50 : decode cX7_spares 50 = .ok (.iload 4, 2) := by decide +kernel
theorem dX7_spares_52 : decode cX7_spares 52 = .ok (.iaload, 1) := by decide +kernel
theorem dX7_spares_53 : decode cX7_spares 53 = .ok (.if_icmp .gt 17, 3) := by decide +kernel
theorem dX7_spares_56 : decode cX7_spares 56 = .ok (.aload_n 0, 1) := by decide +kernel
theorem dX7_spares_57 : decode cX7_spares 57 = .ok (.getfield 16, 3) := by decide +kernel
theorem dX7_spares_60 : decode cX7_spares 60 = .ok (.iload 6, 2) := by decide +kernel
theorem dX7_spares_62 : decode cX7_spares 62 = .ok (.baload, 1) := by decide +kernel
theorem dX7_spares_63 : decode cX7_spares 63 = .ok (.ifCond .ne 7, 3) := by decide +kernel
theorem dX7_spares_66 : decode cX7_spares 66 = .ok (.iconst 1, 1) := by decide +kernel
theorem dX7_spares_67 : decode cX7_spares 67 = .ok (.goto 4, 3) := by decide +kernel
theorem dX7_spares_70 : decode cX7_spares 70 = .ok (.iconst 0, 1) := by decide +kernel
theorem dX7_spares_71 : decode cX7_spares 71 = .ok (.istore 5, 2) := by decide +kernel
theorem dX7_spares_73 : decode cX7_spares 73 = .ok (.iinc 6 1, 3) := by decide +kernel
theorem dX7_spares_76 : decode cX7_spares 76 = .ok (.goto (-62), 3) := by decide +kernel
theorem dX7_spares_79 : decode cX7_spares 79 = .ok (.iload 5, 2) := by decide +kernel
theorem dX7_spares_81 : decode cX7_spares 81 = .ok (.ireturn, 1) := by decide +kernel
theorem dX7_reached_0 : decode cX7_reached 0 = .ok (.aload_n 0, 1) := by decide +kernel
theorem dX7_reached_1 : decode cX7_reached 1 = .ok (.iload_n 1, 1) := by decide +kernel
theorem dX7_reached_2 : decode cX7_reached 2 = .ok (.iconst 0, 1) := by decide +kernel
theorem dX7_reached_3 : decode cX7_reached 3 = .ok (.iconst 3, 1) := by decide +kernel
theorem dX7_reached_4 : decode cX7_reached 4 = .ok (.invokestatic 60, 3) := by decide +kernel
theorem dX7_reached_7 : decode cX7_reached 7 = .ok (.ifCond .eq 7, 3) := by decide +kernel
theorem dX7_reached_10 : decode cX7_reached 10 = .ok (.iconst 0, 1) := by decide +kernel
theorem dX7_reached_11 : decode cX7_reached 11 = .ok (.goto 4, 3) := by decide +kernel
theorem dX7_reached_14 : decode cX7_reached 14 = .ok (.iconst 1, 1) := by decide +kernel
theorem dX7_reached_15 : decode cX7_reached 15 = .ok (.putfield 57, 3) := by decide +kernel
theorem dX7_reached_18 : decode cX7_reached 18 = .ok (.iconst 0, 1) := by decide +kernel
theorem dX7_reached_19 : decode cX7_reached 19 = .ok (.istore_n 2, 1) := by decide +kernel
theorem dX7_reached_20 : decode cX7_reached 20 = .ok (.iconst 0, 1) := by decide +kernel
theorem dX7_reached_21 : decode cX7_reached 21 = .ok (.istore_n 3, 1) := by decide +kernel
theorem dX7_reached_22 : decode cX7_reached 22 = .ok (.iload_n 3, 1) := by decide +kernel
theorem dX7_reached_23 : decode cX7_reached 23 = .ok (.sipush 400, 3) := by decide +kernel
theorem dX7_reached_26 : decode cX7_reached 26 = .ok (.if_icmp .ge 124, 3) := by decide +kernel
theorem dX7_reached_29 : decode cX7_reached 29 = .ok (.aload_n 0, 1) := by decide +kernel
theorem dX7_reached_30 : decode cX7_reached 30 = .ok (.getfield 57, 3) := by decide +kernel
theorem dX7_reached_33 : decode cX7_reached 33 = .ok (.ifCond .ne 117, 3) := by decide +kernel
theorem dX7_reached_36 : decode cX7_reached 36 = .ok (.iconst 0, 1) := by decide +kernel
theorem dX7_reached_37 : decode cX7_reached 37 = .ok (.istore 4, 2) := by decide +kernel
theorem dX7_reached_39 : decode cX7_reached 39 = .ok (.aload_n 0, 1) := by decide +kernel
theorem dX7_reached_40 : decode cX7_reached 40 = .ok (.iload_n 3, 1) := by decide +kernel
theorem dX7_reached_41 : decode cX7_reached 41 = .ok (.bipush 20, 2) := by decide +kernel
theorem dX7_reached_43 : decode cX7_reached 43 = .ok (.irem, 1) := by decide +kernel
theorem dX7_reached_44 : decode cX7_reached 44 = .ok (.iload_n 3, 1) := by decide +kernel
theorem dX7_reached_45 : decode cX7_reached 45 = .ok (.bipush 20, 2) := by decide +kernel
theorem dX7_reached_47 : decode cX7_reached 47 = .ok (.idiv, 1) := by decide +kernel
theorem dX7_reached_48 : decode cX7_reached 48 = .ok (.invokevirtual 64, 3) := by decide +kernel
theorem dX7_reached_51 : decode cX7_reached 51 = .ok (.ifCond .eq 22, 3) := by decide +kernel
theorem dX7_reached_54 : decode cX7_reached 54 = .ok (.aload_n 0, 1) := by decide +kernel
theorem dX7_reached_55 : decode cX7_reached 55 = .ok (.getfield 7, 3) := by decide +kernel
theorem dX7_reached_58 : decode cX7_reached 58 = .ok (.iload_n 3, 1) := by decide +kernel
theorem dX7_reached_59 : decode cX7_reached 59 = .ok (.iaload, 1) := by decide +kernel
theorem dX7_reached_60 : decode cX7_reached 60 = .ok (.aload_n 0, 1) := by decide +kernel
theorem dX7_reached_61 : decode cX7_reached 61 = .ok (.getfield 13, 3) := by decide +kernel
theorem dX7_reached_64 : decode cX7_reached 64 = .ok (.iload_n 3, 1) := by decide +kernel
theorem dX7_reached_65 : decode cX7_reached 65 = .ok (.iaload, 1) := by decide +kernel
theorem dX7_reached_66 : decode cX7_reached 66 = .ok (.if_icmp .le 7, 3) := by decide +kernel
theorem dX7_reached_69 : decode cX7_reached 69 = .ok (.iconst 1, 1) := by decide +kernel
theorem dX7_reached_70 : decode cX7_reached 70 = .ok (.goto 4, 3) := by decide +kernel
theorem dX7_reached_73 : decode cX7_reached 73 = .ok (.iconst 0, 1) := by decide +kernel
theorem dX7_reached_74 : decode cX7_reached 74 = .ok (.istore 5, 2) := by decide +kernel
theorem dX7_reached_76 : decode cX7_reached 76 = .ok (.iconst 0, 1) := by decide +kernel
theorem dX7_reached_77 : decode cX7_reached 77 = .ok (.istore 6, 2) := by decide +kernel
theorem dX7_reached_79 : decode cX7_reached 79 = .ok (.iload 6, 2) := by decide +kernel
theorem dX7_reached_81 : decode cX7_reached 81 = .ok (.aload_n 0, 1) := by decide +kernel
theorem dX7_reached_82 : decode cX7_reached 82 = .ok (.getfield 53, 3) := by decide +kernel
theorem dX7_reached_85 : decode cX7_reached 85 = .ok (.aload_n 0, 1) := by decide +kernel
theorem dX7_reached_86 : decode cX7_reached 86 = .ok (.getfield 53, 3) := by decide +kernel
theorem dX7_reached_89 : decode cX7_reached 89 = .ok (.imul, 1) := by decide +kernel
theorem dX7_reached_90 : decode cX7_reached 90 = .ok (.if_icmp .ge 41, 3) := by decide +kernel
theorem dX7_reached_93 : decode cX7_reached 93 = .ok (.iload 5, 2) := by decide +kernel
theorem dX7_reached_95 : decode cX7_reached 95 = .ok (.ifCond .eq 36, 3) := by decide +kernel
theorem dX7_reached_98 : decode cX7_reached 98 = .ok (.iload 4, 2) := by decide +kernel
theorem dX7_reached_100 : decode cX7_reached 100 = .ok (.ifCond .ne 31, 3) := by decide +kernel
theorem dX7_reached_103 : decode cX7_reached 103 = .ok (.aload_n 0, 1) := by decide +kernel
theorem dX7_reached_104 : decode cX7_reached 104 = .ok (.iload_n 1, 1) := by decide +kernel
theorem dX7_reached_105 : decode cX7_reached 105 = .ok (.iload 6, 2) := by decide +kernel
theorem dX7_reached_107 : decode cX7_reached 107 = .ok (.aload_n 0, 1) := by decide +kernel
theorem dX7_reached_108 : decode cX7_reached 108 = .ok (.getfield 53, 3) := by decide +kernel
theorem dX7_reached_111 : decode cX7_reached 111 = .ok (.irem, 1) := by decide +kernel
theorem dX7_reached_112 : decode cX7_reached 112 = .ok (.iload 6, 2) := by decide +kernel
theorem dX7_reached_114 : decode cX7_reached 114 = .ok (.aload_n 0, 1) := by decide +kernel
theorem dX7_reached_115 : decode cX7_reached 115 = .ok (.getfield 53, 3) := by decide +kernel
theorem dX7_reached_118 : decode cX7_reached 118 = .ok (.idiv, 1) := by decide +kernel
theorem dX7_reached_119 : decode cX7_reached 119 = .ok (.iload_n 3, 1) := by decide +kernel
theorem dX7_reached_120 : decode cX7_reached 120 = .ok (.invokevirtual 134, 3) := by decide +kernel
theorem dX7_reached_123 : decode cX7_reached 123 = .ok (.istore 4, 2) := by decide +kernel
theorem dX7_reached_125 : decode cX7_reached 125 = .ok (.iinc 6 1, 3) := by decide +kernel
theorem dX7_reached_128 : decode cX7_reached 128 = .ok (.goto (-49), 3) := by decide +kernel
theorem dX7_reached_131 : decode cX7_reached 131 = .ok (.iload 4, 2) := by decide +kernel
theorem dX7_reached_133 : decode cX7_reached 133 = .ok (.ifCond .eq 9, 3) := by decide +kernel
theorem dX7_reached_136 : decode cX7_reached 136 = .ok (.iload_n 2, 1) := by decide +kernel
theorem dX7_reached_137 : decode cX7_reached 137 = .ok (.iconst 1, 1) := by decide +kernel
theorem dX7_reached_138 : decode cX7_reached 138 = .ok (.iadd, 1) := by decide +kernel
theorem dX7_reached_139 : decode cX7_reached 139 = .ok (.goto 4, 3) := by decide +kernel
theorem dX7_reached_142 : decode cX7_reached 142 = .ok (.iload_n 2, 1) := by decide +kernel
theorem dX7_reached_143 : decode cX7_reached 143 = .ok (.istore_n 2, 1) := by decide +kernel
theorem dX7_reached_144 : decode cX7_reached 144 = .ok (.iinc 3 1, 3) := by decide +kernel
theorem dX7_reached_147 : decode cX7_reached 147 = .ok (.goto (-125), 3) := by decide +kernel
theorem dX7_reached_150 : decode cX7_reached 150 = .ok (.iload_n 2, 1) := by decide +kernel
theorem dX7_reached_151 : decode cX7_reached 151 = .ok (.ireturn, 1) := by decide +kernel
theorem dX7_pieces_0 : decode cX7_pieces 0 = .ok (.aload_n 0, 1) := by decide +kernel
theorem dX7_pieces_1 : decode cX7_pieces 1 = .ok (.iconst 0, 1) := by decide +kernel
theorem dX7_pieces_2 : decode cX7_pieces 2 = .ok (.putfield 57, 3) := by decide +kernel
theorem dX7_pieces_5 : decode cX7_pieces 5 = .ok (.iconst 0, 1) := by decide +kernel
theorem dX7_pieces_6 : decode cX7_pieces 6 = .ok (.istore_n 1, 1) := by decide +kernel
theorem dX7_pieces_7 : decode cX7_pieces 7 = .ok (.iconst 0, 1) := by decide +kernel
theorem dX7_pieces_8 : decode cX7_pieces 8 = .ok (.istore_n 2, 1) := by decide +kernel
theorem dX7_pieces_9 : decode cX7_pieces 9 = .ok (.iload_n 2, 1) := by decide +kernel
theorem dX7_pieces_10 : decode cX7_pieces 10 = .ok (.sipush 400, 3) := by decide +kernel
theorem dX7_pieces_13 : decode cX7_pieces 13 = .ok (.if_icmp .ge 44, 3) := by decide +kernel
theorem dX7_pieces_16 : decode cX7_pieces 16 = .ok (.aload_n 0, 1) := by decide +kernel
theorem dX7_pieces_17 : decode cX7_pieces 17 = .ok (.getfield 44, 3) := by decide +kernel
theorem dX7_pieces_20 : decode cX7_pieces 20 = .ok (.iload_n 2, 1) := by decide +kernel
theorem dX7_pieces_21 : decode cX7_pieces 21 = .ok (.aload_n 0, 1) := by decide +kernel
theorem dX7_pieces_22 : decode cX7_pieces 22 = .ok (.iload_n 2, 1) := by decide +kernel
theorem dX7_pieces_23 : decode cX7_pieces 23 = .ok (.bipush 20, 2) := by decide +kernel
theorem dX7_pieces_25 : decode cX7_pieces 25 = .ok (.irem, 1) := by decide +kernel
theorem dX7_pieces_26 : decode cX7_pieces 26 = .ok (.iload_n 2, 1) := by decide +kernel
theorem dX7_pieces_27 : decode cX7_pieces 27 = .ok (.bipush 20, 2) := by decide +kernel
theorem dX7_pieces_29 : decode cX7_pieces 29 = .ok (.idiv, 1) := by decide +kernel
theorem dX7_pieces_30 : decode cX7_pieces 30 = .ok (.invokevirtual 64, 3) := by decide +kernel
theorem dX7_pieces_33 : decode cX7_pieces 33 = .ok (.ifCond .eq 12, 3) := by decide +kernel
theorem dX7_pieces_36 : decode cX7_pieces 36 = .ok (.aload_n 0, 1) := by decide +kernel
theorem dX7_pieces_37 : decode cX7_pieces 37 = .ok (.getfield 7, 3) := by decide +kernel
theorem dX7_pieces_40 : decode cX7_pieces 40 = .ok (.iload_n 2, 1) := by decide +kernel
theorem dX7_pieces_41 : decode cX7_pieces 41 = .ok (.iaload, 1) := by decide +kernel
theorem dX7_pieces_42 : decode cX7_pieces 42 = .ok (.ifCond .ne 7, 3) := by decide +kernel
theorem dX7_pieces_45 : decode cX7_pieces 45 = .ok (.iconst 1, 1) := by decide +kernel
theorem dX7_pieces_46 : decode cX7_pieces 46 = .ok (.goto 4, 3) := by decide +kernel
theorem dX7_pieces_49 : decode cX7_pieces 49 = .ok (.iconst 0, 1) := by decide +kernel
theorem dX7_pieces_50 : decode cX7_pieces 50 = .ok (.bastore, 1) := by decide +kernel
theorem dX7_pieces_51 : decode cX7_pieces 51 = .ok (.iinc 2 1, 3) := by decide +kernel
theorem dX7_pieces_54 : decode cX7_pieces 54 = .ok (.goto (-45), 3) := by decide +kernel
theorem dX7_pieces_57 : decode cX7_pieces 57 = .ok (.iconst 0, 1) := by decide +kernel
theorem dX7_pieces_58 : decode cX7_pieces 58 = .ok (.istore_n 2, 1) := by decide +kernel
theorem dX7_pieces_59 : decode cX7_pieces 59 = .ok (.iload_n 2, 1) := by decide +kernel
theorem dX7_pieces_60 : decode cX7_pieces 60 = .ok (.sipush 400, 3) := by decide +kernel
theorem dX7_pieces_63 : decode cX7_pieces 63 = .ok (.if_icmp .ge 26, 3) := by decide +kernel
theorem dX7_pieces_66 : decode cX7_pieces 66 = .ok (.aload_n 0, 1) := by decide +kernel
theorem dX7_pieces_67 : decode cX7_pieces 67 = .ok (.getfield 44, 3) := by decide +kernel
theorem dX7_pieces_70 : decode cX7_pieces 70 = .ok (.iload_n 2, 1) := by decide +kernel
theorem dX7_pieces_71 : decode cX7_pieces 71 = .ok (.baload, 1) := by decide +kernel
theorem dX7_pieces_72 : decode cX7_pieces 72 = .ok (.ifCond .ne 11, 3) := by decide +kernel
theorem dX7_pieces_75 : decode cX7_pieces 75 = .ok (.iinc 1 1, 3) := by decide +kernel
theorem dX7_pieces_78 : decode cX7_pieces 78 = .ok (.aload_n 0, 1) := by decide +kernel
theorem dX7_pieces_79 : decode cX7_pieces 79 = .ok (.iload_n 2, 1) := by decide +kernel
theorem dX7_pieces_80 : decode cX7_pieces 80 = .ok (.invokevirtual 137, 3) := by decide +kernel
theorem dX7_pieces_83 : decode cX7_pieces 83 = .ok (.iinc 2 1, 3) := by decide +kernel
theorem dX7_pieces_86 : decode cX7_pieces 86 = .ok (.goto (-27), 3) := by decide +kernel
theorem dX7_pieces_89 : decode cX7_pieces 89 = .ok (.iload_n 1, 1) := by decide +kernel
theorem dX7_pieces_90 : decode cX7_pieces 90 = .ok (.ireturn, 1) := by decide +kernel
theorem dX7_flood_0 : decode cX7_flood 0 = .ok (.iconst 1, 1) := by decide +kernel
theorem dX7_flood_1 : decode cX7_flood 1 = .ok (.istore_n 2, 1) := by decide +kernel
theorem dX7_flood_2 : decode cX7_flood 2 = .ok (.aload_n 0, 1) := by decide +kernel
theorem dX7_flood_3 : decode cX7_flood 3 = .ok (.getfield 41, 3) := by decide +kernel
theorem dX7_flood_6 : decode cX7_flood 6 = .ok (.iconst 0, 1) := by decide +kernel
theorem dX7_flood_7 : decode cX7_flood 7 = .ok (.iload_n 1, 1) := by decide +kernel
theorem dX7_flood_8 : decode cX7_flood 8 = .ok (.iastore, 1) := by decide +kernel
theorem dX7_flood_9 : decode cX7_flood 9 = .ok (.aload_n 0, 1) := by decide +kernel
theorem dX7_flood_10 : decode cX7_flood 10 = .ok (.getfield 44, 3) := by decide +kernel
theorem dX7_flood_13 : decode cX7_flood 13 = .ok (.iload_n 1, 1) := by decide +kernel
theorem dX7_flood_14 : decode cX7_flood 14 = .ok (.iconst 1, 1) := by decide +kernel
theorem dX7_flood_15 : decode cX7_flood 15 = .ok (.bastore, 1) := by decide +kernel
theorem dX7_flood_16 : decode cX7_flood 16 = .ok (.iload_n 2, 1) := by decide +kernel
theorem dX7_flood_17 : decode cX7_flood 17 = .ok (.ifCond .le 144, 3) := by decide +kernel
theorem dX7_flood_20 : decode cX7_flood 20 = .ok (.iinc 2 (-1), 3) := by decide +kernel
theorem dX7_flood_23 : decode cX7_flood 23 = .ok (.aload_n 0, 1) := by decide +kernel
theorem dX7_flood_24 : decode cX7_flood 24 = .ok (.getfield 41, 3) := by decide +kernel
theorem dX7_flood_27 : decode cX7_flood 27 = .ok (.iload_n 2, 1) := by decide +kernel
theorem dX7_flood_28 : decode cX7_flood 28 = .ok (.iaload, 1) := by decide +kernel
theorem dX7_flood_29 : decode cX7_flood 29 = .ok (.istore_n 3, 1) := by decide +kernel
theorem dX7_flood_30 : decode cX7_flood 30 = .ok (.iconst 0, 1) := by decide +kernel
theorem dX7_flood_31 : decode cX7_flood 31 = .ok (.istore 4, 2) := by decide +kernel
theorem dX7_flood_33 : decode cX7_flood 33 = .ok (.iload 4, 2) := by decide +kernel
theorem dX7_flood_35 : decode cX7_flood 35 = .ok (.iconst 4, 1) := by decide +kernel
theorem dX7_flood_36 : decode cX7_flood 36 = .ok (.if_icmp .ge 122, 3) := by decide +kernel
theorem dX7_flood_39 : decode cX7_flood 39 = .ok (.iload_n 3, 1) := by decide +kernel
theorem dX7_flood_40 : decode cX7_flood 40 = .ok (.bipush 20, 2) := by decide +kernel
theorem dX7_flood_42 : decode cX7_flood 42 = .ok (.irem, 1) := by decide +kernel
theorem dX7_flood_43 : decode cX7_flood 43 = .ok (.iload 4, 2) := by decide +kernel
theorem dX7_flood_45 : decode cX7_flood 45 = .ok (.ifCond .ne 7, 3) := by decide +kernel
theorem dX7_flood_48 : decode cX7_flood 48 = .ok (.iconst 1, 1) := by decide +kernel
theorem dX7_flood_49 : decode cX7_flood 49 = .ok (.goto 14, 3) := by decide +kernel
theorem dX7_flood_52 : decode cX7_flood 52 = .ok (.iload 4, 2) := by decide +kernel
theorem dX7_flood_54 : decode cX7_flood 54 = .ok (.iconst 1, 1) := by decide +kernel
theorem dX7_flood_55 : decode cX7_flood 55 = .ok (.if_icmp .ne 7, 3) := by decide +kernel
theorem dX7_flood_58 : decode cX7_flood 58 = .ok (.iconst (-1), 1) := by decide +kernel
theorem dX7_flood_59 : decode cX7_flood 59 = .ok (.goto 4, 3) := by decide +kernel
theorem dX7_flood_62 : decode cX7_flood 62 = .ok (.iconst 0, 1) := by decide +kernel
theorem dX7_flood_63 : decode cX7_flood 63 = .ok (.iadd, 1) := by decide +kernel
theorem dX7_flood_64 : decode cX7_flood 64 = .ok (.istore 5, 2) := by decide +kernel
theorem dX7_flood_66 : decode cX7_flood 66 = .ok (.iload_n 3, 1) := by decide +kernel
theorem dX7_flood_67 : decode cX7_flood 67 = .ok (.bipush 20, 2) := by decide +kernel
theorem dX7_flood_69 : decode cX7_flood 69 = .ok (.idiv, 1) := by decide +kernel
theorem dX7_flood_70 : decode cX7_flood 70 = .ok (.iload 4, 2) := by decide +kernel
theorem dX7_flood_72 : decode cX7_flood 72 = .ok (.iconst 2, 1) := by decide +kernel
theorem dX7_flood_73 : decode cX7_flood 73 = .ok (.if_icmp .ne 7, 3) := by decide +kernel
theorem dX7_flood_76 : decode cX7_flood 76 = .ok (.iconst 1, 1) := by decide +kernel
theorem dX7_flood_77 : decode cX7_flood 77 = .ok (.goto 14, 3) := by decide +kernel
theorem dX7_flood_80 : decode cX7_flood 80 = .ok (.iload 4, 2) := by decide +kernel
theorem dX7_flood_82 : decode cX7_flood 82 = .ok (.iconst 3, 1) := by decide +kernel
theorem dX7_flood_83 : decode cX7_flood 83 = .ok (.if_icmp .ne 7, 3) := by decide +kernel
theorem dX7_flood_86 : decode cX7_flood 86 = .ok (.iconst (-1), 1) := by decide +kernel
theorem dX7_flood_87 : decode cX7_flood 87 = .ok (.goto 4, 3) := by decide +kernel
theorem dX7_flood_90 : decode cX7_flood 90 = .ok (.iconst 0, 1) := by decide +kernel
theorem dX7_flood_91 : decode cX7_flood 91 = .ok (.iadd, 1) := by decide +kernel
theorem dX7_flood_92 : decode cX7_flood 92 = .ok (.istore 6, 2) := by decide +kernel
theorem dX7_flood_94 : decode cX7_flood 94 = .ok (.aload_n 0, 1) := by decide +kernel
theorem dX7_flood_95 : decode cX7_flood 95 = .ok (.iload 5, 2) := by decide +kernel
theorem dX7_flood_97 : decode cX7_flood 97 = .ok (.iload 6, 2) := by decide +kernel
theorem dX7_flood_99 : decode cX7_flood 99 = .ok (.invokevirtual 64, 3) := by decide +kernel
theorem dX7_flood_102 : decode cX7_flood 102 = .ok (.ifCond .eq 50, 3) := by decide +kernel
theorem dX7_flood_105 : decode cX7_flood 105 = .ok (.aload_n 0, 1) := by decide +kernel
theorem dX7_flood_106 : decode cX7_flood 106 = .ok (.getfield 44, 3) := by decide +kernel
theorem dX7_flood_109 : decode cX7_flood 109 = .ok (.bipush 20, 2) := by decide +kernel
theorem dX7_flood_111 : decode cX7_flood 111 = .ok (.iload 6, 2) := by decide +kernel
theorem dX7_flood_113 : decode cX7_flood 113 = .ok (.imul, 1) := by decide +kernel
theorem dX7_flood_114 : decode cX7_flood 114 = .ok (.iload 5, 2) := by decide +kernel
theorem dX7_flood_116 : decode cX7_flood 116 = .ok (.iadd, 1) := by decide +kernel
theorem dX7_flood_117 : decode cX7_flood 117 = .ok (.baload, 1) := by decide +kernel
theorem dX7_flood_118 : decode cX7_flood 118 = .ok (.ifCond .ne 34, 3) := by decide +kernel
theorem dX7_flood_121 : decode cX7_flood 121 = .ok (.aload_n 0, 1) := by decide +kernel
theorem dX7_flood_122 : decode cX7_flood 122 = .ok (.getfield 44, 3) := by decide +kernel
theorem dX7_flood_125 : decode cX7_flood 125 = .ok (.bipush 20, 2) := by decide +kernel
theorem dX7_flood_127 : decode cX7_flood 127 = .ok (.iload 6, 2) := by decide +kernel
theorem dX7_flood_129 : decode cX7_flood 129 = .ok (.imul, 1) := by decide +kernel
theorem dX7_flood_130 : decode cX7_flood 130 = .ok (.iload 5, 2) := by decide +kernel
theorem dX7_flood_132 : decode cX7_flood 132 = .ok (.iadd, 1) := by decide +kernel
theorem dX7_flood_133 : decode cX7_flood 133 = .ok (.iconst 1, 1) := by decide +kernel
theorem dX7_flood_134 : decode cX7_flood 134 = .ok (.bastore, 1) := by decide +kernel
theorem dX7_flood_135 : decode cX7_flood 135 = .ok (.aload_n 0, 1) := by decide +kernel
theorem dX7_flood_136 : decode cX7_flood 136 = .ok (.getfield 41, 3) := by decide +kernel
theorem dX7_flood_139 : decode cX7_flood 139 = .ok (.iload_n 2, 1) := by decide +kernel
theorem dX7_flood_140 : decode cX7_flood 140 = .ok (.bipush 20, 2) := by decide +kernel
theorem dX7_flood_142 : decode cX7_flood 142 = .ok (.iload 6, 2) := by decide +kernel
theorem dX7_flood_144 : decode cX7_flood 144 = .ok (.imul, 1) := by decide +kernel
theorem dX7_flood_145 : decode cX7_flood 145 = .ok (.iload 5, 2) := by decide +kernel
theorem dX7_flood_147 : decode cX7_flood 147 = .ok (.iadd, 1) := by decide +kernel
theorem dX7_flood_148 : decode cX7_flood 148 = .ok (.iastore, 1) := by decide +kernel
theorem dX7_flood_149 : decode cX7_flood 149 = .ok (.iinc 2 1, 3) := by decide +kernel
theorem dX7_flood_152 : decode cX7_flood 152 = .ok (.iinc 4 1, 3) := by decide +kernel
theorem dX7_flood_155 : decode cX7_flood 155 = .ok (.goto (-122), 3) := by decide +kernel
theorem dX7_flood_158 : decode cX7_flood 158 = .ok (.goto (-142), 3) := by decide +kernel
theorem dX7_flood_161 : decode cX7_flood 161 = .ok (.return_, 1) := by decide +kernel
theorem dX7_blank_0 : decode cX7_blank 0 = .ok (.aload_n 0, 1) := by decide +kernel
theorem dX7_blank_1 : decode cX7_blank 1 = .ok (.iconst 0, 1) := by decide +kernel
theorem dX7_blank_2 : decode cX7_blank 2 = .ok (.putfield 57, 3) := by decide +kernel
theorem dX7_blank_5 : decode cX7_blank 5 = .ok (.iconst 0, 1) := by decide +kernel
theorem dX7_blank_6 : decode cX7_blank 6 = .ok (.istore_n 1, 1) := by decide +kernel
theorem dX7_blank_7 : decode cX7_blank 7 = .ok (.iload_n 1, 1) := by decide +kernel
theorem dX7_blank_8 : decode cX7_blank 8 = .ok (.sipush 400, 3) := by decide +kernel
theorem dX7_blank_11 : decode cX7_blank 11 = .ok (.if_icmp .ge 17, 3) := by decide +kernel
theorem dX7_blank_14 : decode cX7_blank 14 = .ok (.aload_n 0, 1) := by decide +kernel
theorem dX7_blank_15 : decode cX7_blank 15 = .ok (.getfield 7, 3) := by decide +kernel
theorem dX7_blank_18 : decode cX7_blank 18 = .ok (.iload_n 1, 1) := by decide +kernel
theorem dX7_blank_19 : decode cX7_blank 19 = .ok (.bipush 100, 2) := by decide +kernel
theorem dX7_blank_21 : decode cX7_blank 21 = .ok (.iastore, 1) := by decide +kernel
theorem dX7_blank_22 : decode cX7_blank 22 = .ok (.iinc 1 1, 3) := by decide +kernel
theorem dX7_blank_25 : decode cX7_blank 25 = .ok (.goto (-18), 3) := by decide +kernel
theorem dX7_blank_28 : decode cX7_blank 28 = .ok (.return_, 1) := by decide +kernel
end
section
/-! The judgement V: 'from this symbolic state (program counter, named locals, stack, world) the method comes to its end', with the whole context in one tuple; and its rows. -/
theorem fp {α : Type} {c : Prop} [Decidable c] {a b r : α} (hc : c) (h : (if c then a else b) = r) : a = r := by
  rw [if_pos hc] at h; exact h
theorem fn {α : Type} {c : Prop} [Decidable c] {a b r : α} (hc : ¬ c) (h : (if c then a else b) = r) : b = r := by
  rw [if_neg hc] at h; exact h
theorem bp {α β : Type} {o : Option α} {k : α → Option β} {r : β} (h : o.bind k = some r) : ∃ v, o = some v ∧ k v = some r := by
  cases o with
  | none => cases h
  | some v => exact ⟨v, rfl, h⟩
def rk4 (a b c d : Nat) : Nat → Option Nat := fun j => match j with
  | 0 => some a
  | 1 => some b
  | 2 => some c
  | 3 => some d
  | _ => none
theorem fam4 {i : Nat} (h : i < 4) : i = 0 ∨ i = 1 ∨ i = 2 ∨ i = 3 := by omega
abbrev Ctx : Type _ := Program × Env × State × MethodId × Array Value × List Frame × Method × Code × (Nat → Prop) × (State → Prop)
/-- what a walk knows of its surroundings -/
def Kx (p : Program) (s : State) (m : MethodId) (ar : Array Value) (meth : Method) (c : Code) (A : Nat → Prop) (D : va_G) (cA : Nat → ClassId) (cc : ByteArray) (nL : Nat) (own : String) (ret : Option FieldType) : Prop :=
  p.tables.exec = Jvm.exec ∧ c.code = cc ∧ c.maxLocals = nL ∧ s.vm.findClass own = some m.cls ∧ (∀ w ∈ tblG, w.before ar s = true) ∧ meth.sig.returnType = ret ∧ meth.locks = false ∧ va_K D vwCl (tys cA) s ∧ ∀ q : Nat, s.heap.size ≤ q → A q
def V (κ : Ctx) (l : Launch) (D : va_G) (cA : Nat → ClassId) (R : Room) (cc : ByteArray) (nL : Nat) (own : String) (ret : Option FieldType) (k n : Nat) (pc : Nat) (lv : List (Nat × Value)) (stk : List Value) (ws : va_W) : Prop :=
  match κ with
  | (p, e, s, m, ar, below, meth, c, A, Q) => Kx p s m ar meth c A D cA cc nL own ret → ∀ (H : Heap) (locs : List Loc) (ls : Array Slot), lv_has ls nL lv → va_P D vwCl ws H → va_D A ws → va_S A s.heap H locs → W p l e R s m ar below meth c H locs k n Q (F0 m pc ls stk)
section VRows
variable {κ : Ctx} {l : Launch} {D : va_G} {cA : Nat → ClassId} {R : Room} {cc : ByteArray} {nL : Nat} {own : String} {ret : Option FieldType} {k n : Nat} {pc : Nat} {lv lv' : List (Nat × Value)} {stk rest : List Value} {ws : va_W}
theorem z_iconst {i : Int} {v : Int32} (hdg : decode cc pc = .ok (.iconst i, 1)) (hv : Int32.ofInt i = v) (h : V κ l D cA R cc nL own ret k n (pc + 1) lv (.int v :: stk) ws) : V κ l D cA R cc nL own ret k n pc lv stk ws := by
  obtain ⟨p, e, s, m, ar, below, meth, c, A, Q⟩ := κ
  intro K H locs ls hl hP hD hS
  exact lv_iconst K.1 K.2.1 hdg hv (h K H locs ls hl hP hD hS)
theorem z_bipush {i : Int} {v : Int32} (hdg : decode cc pc = .ok (.bipush i, 2)) (hv : (Int8.ofInt i).toInt32 = v) (h : V κ l D cA R cc nL own ret k n (pc + 2) lv (.int v :: stk) ws) : V κ l D cA R cc nL own ret k n pc lv stk ws := by
  obtain ⟨p, e, s, m, ar, below, meth, c, A, Q⟩ := κ
  intro K H locs ls hl hP hD hS
  exact lv_bipush K.1 K.2.1 hdg hv (h K H locs ls hl hP hD hS)
theorem z_sipush {i : Int} {v : Int32} (hdg : decode cc pc = .ok (.sipush i, 3)) (hv : (Int16.ofInt i).toInt32 = v) (h : V κ l D cA R cc nL own ret k n (pc + 3) lv (.int v :: stk) ws) : V κ l D cA R cc nL own ret k n pc lv stk ws := by
  obtain ⟨p, e, s, m, ar, below, meth, c, A, Q⟩ := κ
  intro K H locs ls hl hP hD hS
  exact lv_sipush K.1 K.2.1 hdg hv (h K H locs ls hl hP hD hS)
theorem z_iload_n (j : Nat) {i : Fin 4} {x : Int32} (hdg : decode cc pc = .ok (.iload_n i, 1)) (hj : lv[j]? = some ((i : Nat), .int x)) (h : V κ l D cA R cc nL own ret k n (pc + 1) lv (.int x :: stk) ws) : V κ l D cA R cc nL own ret k n pc lv stk ws := by
  obtain ⟨p, e, s, m, ar, below, meth, c, A, Q⟩ := κ
  intro K H locs ls hl hP hD hS
  exact lv_iload_n K.1 K.2.1 hdg rfl (lv_at hl j hj) (h K H locs ls hl hP hD hS)
theorem z_iload (j : Nat) {i : Nat} {x : Int32} (hdg : decode cc pc = .ok (.iload i, 2)) (hj : lv[j]? = some (i, .int x)) (h : V κ l D cA R cc nL own ret k n (pc + 2) lv (.int x :: stk) ws) : V κ l D cA R cc nL own ret k n pc lv stk ws := by
  obtain ⟨p, e, s, m, ar, below, meth, c, A, Q⟩ := κ
  intro K H locs ls hl hP hD hS
  exact lv_iload K.1 K.2.1 hdg (lv_at hl j hj) (h K H locs ls hl hP hD hS)
theorem z_aload_n (j : Nat) {i : Fin 4} {x : Nat} (hdg : decode cc pc = .ok (.aload_n i, 1)) (hj : lv[j]? = some ((i : Nat), .ref x)) (h : V κ l D cA R cc nL own ret k n (pc + 1) lv (.ref x :: stk) ws) : V κ l D cA R cc nL own ret k n pc lv stk ws := by
  obtain ⟨p, e, s, m, ar, below, meth, c, A, Q⟩ := κ
  intro K H locs ls hl hP hD hS
  exact lv_aload_n K.1 K.2.1 hdg rfl (lv_at hl j hj) (h K H locs ls hl hP hD hS)
theorem z_aload (j : Nat) {i : Nat} {x : Nat} (hdg : decode cc pc = .ok (.aload i, 2)) (hj : lv[j]? = some (i, .ref x)) (h : V κ l D cA R cc nL own ret k n (pc + 2) lv (.ref x :: stk) ws) : V κ l D cA R cc nL own ret k n pc lv stk ws := by
  obtain ⟨p, e, s, m, ar, below, meth, c, A, Q⟩ := κ
  intro K H locs ls hl hP hD hS
  exact lv_aload K.1 K.2.1 hdg (lv_at hl j hj) (h K H locs ls hl hP hD hS)
theorem z_istore_n {i : Fin 4} {x : Int32} (hdg : decode cc pc = .ok (.istore_n i, 1)) (hn : (i : Nat) < nL) (hl' : ((i : Nat), Value.int x) :: lv.filter (fun q => !(q.1 == (i : Nat)) && !(q.1 + 1 == (i : Nat) && q.2.category == 2)) = lv') (h : V κ l D cA R cc nL own ret k n (pc + 1) lv' stk ws) : V κ l D cA R cc nL own ret k n pc lv (.int x :: stk) ws := by
  obtain ⟨p, e, s, m, ar, below, meth, c, A, Q⟩ := κ
  intro K H locs ls hl hP hD hS
  exact lv_istore_n K.1 K.2.1 hdg rfl hl hn hl' (fun ls hl => h K H locs ls hl hP hD hS)
theorem z_istore {i : Nat} {x : Int32} (hdg : decode cc pc = .ok (.istore i, 2)) (hn : i < nL) (hl' : (i, Value.int x) :: lv.filter (fun q => !(q.1 == i) && !(q.1 + 1 == i && q.2.category == 2)) = lv') (h : V κ l D cA R cc nL own ret k n (pc + 2) lv' stk ws) : V κ l D cA R cc nL own ret k n pc lv (.int x :: stk) ws := by
  obtain ⟨p, e, s, m, ar, below, meth, c, A, Q⟩ := κ
  intro K H locs ls hl hP hD hS
  exact lv_istore K.1 K.2.1 hdg hl hn hl' (fun ls hl => h K H locs ls hl hP hD hS)
theorem z_astore_n {i : Fin 4} {x : Nat} (hdg : decode cc pc = .ok (.astore_n i, 1)) (hn : (i : Nat) < nL) (hl' : ((i : Nat), Value.ref x) :: lv.filter (fun q => !(q.1 == (i : Nat)) && !(q.1 + 1 == (i : Nat) && q.2.category == 2)) = lv') (h : V κ l D cA R cc nL own ret k n (pc + 1) lv' stk ws) : V κ l D cA R cc nL own ret k n pc lv (.ref x :: stk) ws := by
  obtain ⟨p, e, s, m, ar, below, meth, c, A, Q⟩ := κ
  intro K H locs ls hl hP hD hS
  exact lv_astore_n K.1 K.2.1 hdg rfl hl hn hl' (fun ls hl => h K H locs ls hl hP hD hS)
theorem z_astore {i : Nat} {x : Nat} (hdg : decode cc pc = .ok (.astore i, 2)) (hn : i < nL) (hl' : (i, Value.ref x) :: lv.filter (fun q => !(q.1 == i) && !(q.1 + 1 == i && q.2.category == 2)) = lv') (h : V κ l D cA R cc nL own ret k n (pc + 2) lv' stk ws) : V κ l D cA R cc nL own ret k n pc lv (.ref x :: stk) ws := by
  obtain ⟨p, e, s, m, ar, below, meth, c, A, Q⟩ := κ
  intro K H locs ls hl hP hD hS
  exact lv_astore K.1 K.2.1 hdg hl hn hl' (fun ls hl => h K H locs ls hl hP hD hS)
theorem z_iinc (j : Nat) {i : Nat} {c0 : Int} {x v : Int32} (hdg : decode cc pc = .ok (.iinc i c0, 3)) (hj : lv[j]? = some (i, .int x)) (hv : x + Int32.ofInt c0 = v) (hn : i < nL) (hl' : (i, Value.int v) :: lv.filter (fun q => !(q.1 == i) && !(q.1 + 1 == i && q.2.category == 2)) = lv') (h : V κ l D cA R cc nL own ret k n (pc + 3) lv' stk ws) : V κ l D cA R cc nL own ret k n pc lv stk ws := by
  obtain ⟨p, e, s, m, ar, below, meth, c, A, Q⟩ := κ
  intro K H locs ls hl hP hD hS
  exact lv_iinc K.1 K.2.1 hdg hl hj hv hn hl' (fun ls hl => h K H locs ls hl hP hD hS)
/-- the locals in another order, some forgotten -/
theorem z_lv (ks : List Nat) (hl' : lv_pick lv ks = lv') (h : V κ l D cA R cc nL own ret k n pc lv' stk ws) : V κ l D cA R cc nL own ret k n pc lv stk ws := by
  obtain ⟨p, e, s, m, ar, below, meth, c, A, Q⟩ := κ
  intro K H locs ls hl hP hD hS
  exact h K H locs ls (lv_sub hl ks hl') hP hD hS
theorem z_ws {ws' : va_W} (is : List Nat) (hn : va_nd is = true) (hs : is.map (fun i => ws[i]?) = ws'.map some) (h : V κ l D cA R cc nL own ret k n pc lv stk ws') : V κ l D cA R cc nL own ret k n pc lv stk ws := by
  obtain ⟨p, e, s, m, ar, below, meth, c, A, Q⟩ := κ
  intro K H locs ls hl hP hD hS
  refine h K H locs ls hl (hP.sub is ?_) (hD.sub is hn hs) hS
  have h1 : is.filterMap (fun i => ws[i]?) = (is.map (fun i => ws[i]?)).filterMap id := by rw [List.filterMap_map]; rfl
  rw [h1, hs, List.filterMap_map]
  simp
theorem z_wid {k' n' : Nat} (h1 : k ≤ k') (h2 : n ≤ n') (h : V κ l D cA R cc nL own ret k' n' pc lv stk ws) : V κ l D cA R cc nL own ret k n pc lv stk ws := by
  obtain ⟨p, e, s, m, ar, below, meth, c, A, Q⟩ := κ
  intro K H locs ls hl hP hD hS
  exact W.widen h1 h2 (h K H locs ls hl hP hD hS)
theorem z_iadd {x y : Int32} (hdg : decode cc pc = .ok (.iadd, 1)) (h : V κ l D cA R cc nL own ret k n (pc + 1) lv (.int (x + y) :: stk) ws) : V κ l D cA R cc nL own ret k n pc lv (.int y :: .int x :: stk) ws := by
  obtain ⟨p, e, s, m, ar, below, meth, c, A, Q⟩ := κ
  intro K H locs ls hl hP hD hS
  exact lv_iadd K.1 K.2.1 hdg (h K H locs ls hl hP hD hS)
theorem z_isub {x y : Int32} (hdg : decode cc pc = .ok (.isub, 1)) (h : V κ l D cA R cc nL own ret k n (pc + 1) lv (.int (x - y) :: stk) ws) : V κ l D cA R cc nL own ret k n pc lv (.int y :: .int x :: stk) ws := by
  obtain ⟨p, e, s, m, ar, below, meth, c, A, Q⟩ := κ
  intro K H locs ls hl hP hD hS
  exact lv_isub K.1 K.2.1 hdg (h K H locs ls hl hP hD hS)
theorem z_imul {x y : Int32} (hdg : decode cc pc = .ok (.imul, 1)) (h : V κ l D cA R cc nL own ret k n (pc + 1) lv (.int (x * y) :: stk) ws) : V κ l D cA R cc nL own ret k n pc lv (.int y :: .int x :: stk) ws := by
  obtain ⟨p, e, s, m, ar, below, meth, c, A, Q⟩ := κ
  intro K H locs ls hl hP hD hS
  exact lv_imul K.1 K.2.1 hdg (h K H locs ls hl hP hD hS)
theorem z_iand {x y : Int32} (hdg : decode cc pc = .ok (.iand, 1)) (h : V κ l D cA R cc nL own ret k n (pc + 1) lv (.int (x &&& y) :: stk) ws) : V κ l D cA R cc nL own ret k n pc lv (.int y :: .int x :: stk) ws := by
  obtain ⟨p, e, s, m, ar, below, meth, c, A, Q⟩ := κ
  intro K H locs ls hl hP hD hS
  exact lv_iand K.1 K.2.1 hdg (h K H locs ls hl hP hD hS)
theorem z_ior {x y : Int32} (hdg : decode cc pc = .ok (.ior, 1)) (h : V κ l D cA R cc nL own ret k n (pc + 1) lv (.int (x ||| y) :: stk) ws) : V κ l D cA R cc nL own ret k n pc lv (.int y :: .int x :: stk) ws := by
  obtain ⟨p, e, s, m, ar, below, meth, c, A, Q⟩ := κ
  intro K H locs ls hl hP hD hS
  exact lv_ior K.1 K.2.1 hdg (h K H locs ls hl hP hD hS)
theorem z_ixor {x y : Int32} (hdg : decode cc pc = .ok (.ixor, 1)) (h : V κ l D cA R cc nL own ret k n (pc + 1) lv (.int (x ^^^ y) :: stk) ws) : V κ l D cA R cc nL own ret k n pc lv (.int y :: .int x :: stk) ws := by
  obtain ⟨p, e, s, m, ar, below, meth, c, A, Q⟩ := κ
  intro K H locs ls hl hP hD hS
  exact lv_ixor K.1 K.2.1 hdg (h K H locs ls hl hP hD hS)
theorem z_ineg {x : Int32} (hdg : decode cc pc = .ok (.ineg, 1)) (h : V κ l D cA R cc nL own ret k n (pc + 1) lv (.int (-x) :: stk) ws) : V κ l D cA R cc nL own ret k n pc lv (.int x :: stk) ws := by
  obtain ⟨p, e, s, m, ar, below, meth, c, A, Q⟩ := κ
  intro K H locs ls hl hP hD hS
  exact lv_ineg K.1 K.2.1 hdg (h K H locs ls hl hP hD hS)
theorem z_idiv {α : Type} {x y : Int32} {a : Option α} {r : α} (hdg : decode cc pc = .ok (.idiv, 1)) (hf : (if y = 0 then none else a) = some r) (h : a = some r → V κ l D cA R cc nL own ret k n (pc + 1) lv (.int (x / y) :: stk) ws) : V κ l D cA R cc nL own ret k n pc lv (.int y :: .int x :: stk) ws := by
  obtain ⟨p, e, s, m, ar, below, meth, c, A, Q⟩ := κ
  intro K H locs ls hl hP hD hS
  by_cases hz : y = 0
  · rw [if_pos hz] at hf; cases hf
  · rw [if_neg hz] at hf
    exact lv_idiv K.1 K.2.1 hdg hz (h hf K H locs ls hl hP hD hS)
theorem z_irem {α : Type} {x y : Int32} {a : Option α} {r : α} (hdg : decode cc pc = .ok (.irem, 1)) (hf : (if y = 0 then none else a) = some r) (h : a = some r → V κ l D cA R cc nL own ret k n (pc + 1) lv (.int (x - x / y * y) :: stk) ws) : V κ l D cA R cc nL own ret k n pc lv (.int y :: .int x :: stk) ws := by
  obtain ⟨p, e, s, m, ar, below, meth, c, A, Q⟩ := κ
  intro K H locs ls hl hP hD hS
  by_cases hz : y = 0
  · rw [if_pos hz] at hf; cases hf
  · rw [if_neg hz] at hf
    exact lv_irem K.1 K.2.1 hdg hz (h hf K H locs ls hl hP hD hS)
theorem z_i2l {x : Int32} (hdg : decode cc pc = .ok (.i2l, 1)) (h : V κ l D cA R cc nL own ret k n (pc + 1) lv (.long x.toInt64 :: stk) ws) : V κ l D cA R cc nL own ret k n pc lv (.int x :: stk) ws := by
  obtain ⟨p, e, s, m, ar, below, meth, c, A, Q⟩ := κ
  intro K H locs ls hl hP hD hS
  exact lv_i2l K.1 K.2.1 hdg rfl (h K H locs ls hl hP hD hS)
theorem z_dup {v : Value} (hdg : decode cc pc = .ok (.dup, 1)) (hv : v.category = 1) (h : V κ l D cA R cc nL own ret k n (pc + 1) lv (v :: v :: stk) ws) : V κ l D cA R cc nL own ret k n pc lv (v :: stk) ws := by
  obtain ⟨p, e, s, m, ar, below, meth, c, A, Q⟩ := κ
  intro K H locs ls hl hP hD hS
  exact lv_dup K.1 K.2.1 hdg hv (h K H locs ls hl hP hD hS)
theorem z_pop {v : Value} (hdg : decode cc pc = .ok (.pop, 1)) (hv : v.category = 1) (h : V κ l D cA R cc nL own ret k n (pc + 1) lv stk ws) : V κ l D cA R cc nL own ret k n pc lv (v :: stk) ws := by
  obtain ⟨p, e, s, m, ar, below, meth, c, A, Q⟩ := κ
  intro K H locs ls hl hP hD hS
  exact lv_pop K.1 K.2.1 hdg hv (h K H locs ls hl hP hD hS)
theorem z_dup_x1 {v w : Value} (hdg : decode cc pc = .ok (.dup_x1, 1)) (hv : v.category = 1) (hw : w.category = 1) (h : V κ l D cA R cc nL own ret k n (pc + 1) lv (v :: w :: v :: stk) ws) : V κ l D cA R cc nL own ret k n pc lv (v :: w :: stk) ws := by
  obtain ⟨p, e, s, m, ar, below, meth, c, A, Q⟩ := κ
  intro K H locs ls hl hP hD hS
  exact lv_dup_x1 K.1 K.2.1 hdg hv hw (h K H locs ls hl hP hD hS)
theorem z_dup2 {v w : Value} (hdg : decode cc pc = .ok (.dup2, 1)) (hv : v.category = 1) (hw : w.category = 1) (h : V κ l D cA R cc nL own ret k n (pc + 1) lv (v :: w :: v :: w :: stk) ws) : V κ l D cA R cc nL own ret k n pc lv (v :: w :: stk) ws := by
  obtain ⟨p, e, s, m, ar, below, meth, c, A, Q⟩ := κ
  intro K H locs ls hl hP hD hS
  exact lv_dup2_11 K.1 K.2.1 hdg hv hw (h K H locs ls hl hP hD hS)
theorem z_goto {off : Int} {tgt : Nat} (hdg : decode cc pc = .ok (.goto off, 3)) (ht : (pc : Int) + off = (tgt : Int)) (h : V κ l D cA R cc nL own ret k n tgt lv stk ws) : V κ l D cA R cc nL own ret k n pc lv stk ws := by
  obtain ⟨p, e, s, m, ar, below, meth, c, A, Q⟩ := κ
  intro K H locs ls hl hP hD hS
  exact lv_goto K.1 K.2.1 hdg ht (h K H locs ls hl hP hD hS)
theorem y_if_eq {x : Int32} {off : Int} {tgt : Nat} (hdg : decode cc pc = .ok (.ifCond .eq off, 3)) (ht : (pc : Int) + off = (tgt : Int)) (kt : x = 0 → V κ l D cA R cc nL own ret k n tgt lv stk ws) (kf : ¬ x = 0 → V κ l D cA R cc nL own ret k n (pc + 3) lv stk ws) : V κ l D cA R cc nL own ret k n pc lv (.int x :: stk) ws := by
  obtain ⟨p, e, s, m, ar, below, meth, c, A, Q⟩ := κ
  intro K H locs ls hl hP hD hS
  exact lv_if_eq K.1 K.2.1 hdg ht (fun hc => kt hc K H locs ls hl hP hD hS) (fun hc => kf hc K H locs ls hl hP hD hS)
theorem z_if_eq {α : Type} {x : Int32} {a b r : α} {off : Int} {tgt : Nat} (hdg : decode cc pc = .ok (.ifCond .eq off, 3)) (ht : (pc : Int) + off = (tgt : Int)) (hf : (if x = 0 then a else b) = r) (kt : a = r → V κ l D cA R cc nL own ret k n tgt lv stk ws) (kf : b = r → V κ l D cA R cc nL own ret k n (pc + 3) lv stk ws) : V κ l D cA R cc nL own ret k n pc lv (.int x :: stk) ws :=
  y_if_eq hdg ht (fun hc => kt (fp hc hf)) (fun hc => kf (fn hc hf))
theorem y_if_ne {x : Int32} {off : Int} {tgt : Nat} (hdg : decode cc pc = .ok (.ifCond .ne off, 3)) (ht : (pc : Int) + off = (tgt : Int)) (kt : ¬ x = 0 → V κ l D cA R cc nL own ret k n tgt lv stk ws) (kf : x = 0 → V κ l D cA R cc nL own ret k n (pc + 3) lv stk ws) : V κ l D cA R cc nL own ret k n pc lv (.int x :: stk) ws := by
  obtain ⟨p, e, s, m, ar, below, meth, c, A, Q⟩ := κ
  intro K H locs ls hl hP hD hS
  exact lv_if_ne K.1 K.2.1 hdg ht (fun hc => kt hc K H locs ls hl hP hD hS) (fun hc => kf hc K H locs ls hl hP hD hS)
theorem z_if_ne {α : Type} {x : Int32} {a b r : α} {off : Int} {tgt : Nat} (hdg : decode cc pc = .ok (.ifCond .ne off, 3)) (ht : (pc : Int) + off = (tgt : Int)) (hf : (if x = 0 then a else b) = r) (kt : b = r → V κ l D cA R cc nL own ret k n tgt lv stk ws) (kf : a = r → V κ l D cA R cc nL own ret k n (pc + 3) lv stk ws) : V κ l D cA R cc nL own ret k n pc lv (.int x :: stk) ws :=
  y_if_ne hdg ht (fun hc => kt (fn hc hf)) (fun hc => kf (fp hc hf))
theorem y_if_lt {x : Int32} {off : Int} {tgt : Nat} (hdg : decode cc pc = .ok (.ifCond .lt off, 3)) (ht : (pc : Int) + off = (tgt : Int)) (kt : x < 0 → V κ l D cA R cc nL own ret k n tgt lv stk ws) (kf : ¬ x < 0 → V κ l D cA R cc nL own ret k n (pc + 3) lv stk ws) : V κ l D cA R cc nL own ret k n pc lv (.int x :: stk) ws := by
  obtain ⟨p, e, s, m, ar, below, meth, c, A, Q⟩ := κ
  intro K H locs ls hl hP hD hS
  exact lv_if_lt K.1 K.2.1 hdg ht (fun hc => kt hc K H locs ls hl hP hD hS) (fun hc => kf hc K H locs ls hl hP hD hS)
theorem z_if_lt {α : Type} {x : Int32} {a b r : α} {off : Int} {tgt : Nat} (hdg : decode cc pc = .ok (.ifCond .lt off, 3)) (ht : (pc : Int) + off = (tgt : Int)) (hf : (if x < 0 then a else b) = r) (kt : a = r → V κ l D cA R cc nL own ret k n tgt lv stk ws) (kf : b = r → V κ l D cA R cc nL own ret k n (pc + 3) lv stk ws) : V κ l D cA R cc nL own ret k n pc lv (.int x :: stk) ws :=
  y_if_lt hdg ht (fun hc => kt (fp hc hf)) (fun hc => kf (fn hc hf))
theorem y_if_ge {x : Int32} {off : Int} {tgt : Nat} (hdg : decode cc pc = .ok (.ifCond .ge off, 3)) (ht : (pc : Int) + off = (tgt : Int)) (kt : 0 ≤ x → V κ l D cA R cc nL own ret k n tgt lv stk ws) (kf : ¬ 0 ≤ x → V κ l D cA R cc nL own ret k n (pc + 3) lv stk ws) : V κ l D cA R cc nL own ret k n pc lv (.int x :: stk) ws := by
  obtain ⟨p, e, s, m, ar, below, meth, c, A, Q⟩ := κ
  intro K H locs ls hl hP hD hS
  exact lv_if_ge K.1 K.2.1 hdg ht (fun hc => kt hc K H locs ls hl hP hD hS) (fun hc => kf hc K H locs ls hl hP hD hS)
theorem z_if_ge {α : Type} {x : Int32} {a b r : α} {off : Int} {tgt : Nat} (hdg : decode cc pc = .ok (.ifCond .ge off, 3)) (ht : (pc : Int) + off = (tgt : Int)) (hf : (if 0 ≤ x then a else b) = r) (kt : a = r → V κ l D cA R cc nL own ret k n tgt lv stk ws) (kf : b = r → V κ l D cA R cc nL own ret k n (pc + 3) lv stk ws) : V κ l D cA R cc nL own ret k n pc lv (.int x :: stk) ws :=
  y_if_ge hdg ht (fun hc => kt (fp hc hf)) (fun hc => kf (fn hc hf))
theorem y_if_gt {x : Int32} {off : Int} {tgt : Nat} (hdg : decode cc pc = .ok (.ifCond .gt off, 3)) (ht : (pc : Int) + off = (tgt : Int)) (kt : 0 < x → V κ l D cA R cc nL own ret k n tgt lv stk ws) (kf : ¬ 0 < x → V κ l D cA R cc nL own ret k n (pc + 3) lv stk ws) : V κ l D cA R cc nL own ret k n pc lv (.int x :: stk) ws := by
  obtain ⟨p, e, s, m, ar, below, meth, c, A, Q⟩ := κ
  intro K H locs ls hl hP hD hS
  exact lv_if_gt K.1 K.2.1 hdg ht (fun hc => kt hc K H locs ls hl hP hD hS) (fun hc => kf hc K H locs ls hl hP hD hS)
theorem z_if_gt {α : Type} {x : Int32} {a b r : α} {off : Int} {tgt : Nat} (hdg : decode cc pc = .ok (.ifCond .gt off, 3)) (ht : (pc : Int) + off = (tgt : Int)) (hf : (if 0 < x then a else b) = r) (kt : a = r → V κ l D cA R cc nL own ret k n tgt lv stk ws) (kf : b = r → V κ l D cA R cc nL own ret k n (pc + 3) lv stk ws) : V κ l D cA R cc nL own ret k n pc lv (.int x :: stk) ws :=
  y_if_gt hdg ht (fun hc => kt (fp hc hf)) (fun hc => kf (fn hc hf))
theorem y_if_le {x : Int32} {off : Int} {tgt : Nat} (hdg : decode cc pc = .ok (.ifCond .le off, 3)) (ht : (pc : Int) + off = (tgt : Int)) (kt : x ≤ 0 → V κ l D cA R cc nL own ret k n tgt lv stk ws) (kf : ¬ x ≤ 0 → V κ l D cA R cc nL own ret k n (pc + 3) lv stk ws) : V κ l D cA R cc nL own ret k n pc lv (.int x :: stk) ws := by
  obtain ⟨p, e, s, m, ar, below, meth, c, A, Q⟩ := κ
  intro K H locs ls hl hP hD hS
  exact lv_if_le K.1 K.2.1 hdg ht (fun hc => kt hc K H locs ls hl hP hD hS) (fun hc => kf hc K H locs ls hl hP hD hS)
theorem z_if_le {α : Type} {x : Int32} {a b r : α} {off : Int} {tgt : Nat} (hdg : decode cc pc = .ok (.ifCond .le off, 3)) (ht : (pc : Int) + off = (tgt : Int)) (hf : (if x ≤ 0 then a else b) = r) (kt : a = r → V κ l D cA R cc nL own ret k n tgt lv stk ws) (kf : b = r → V κ l D cA R cc nL own ret k n (pc + 3) lv stk ws) : V κ l D cA R cc nL own ret k n pc lv (.int x :: stk) ws :=
  y_if_le hdg ht (fun hc => kt (fp hc hf)) (fun hc => kf (fn hc hf))
theorem y_icmp_eq {x y : Int32} {off : Int} {tgt : Nat} (hdg : decode cc pc = .ok (.if_icmp .eq off, 3)) (ht : (pc : Int) + off = (tgt : Int)) (kt : x = y → V κ l D cA R cc nL own ret k n tgt lv stk ws) (kf : ¬ x = y → V κ l D cA R cc nL own ret k n (pc + 3) lv stk ws) : V κ l D cA R cc nL own ret k n pc lv (.int y :: .int x :: stk) ws := by
  obtain ⟨p, e, s, m, ar, below, meth, c, A, Q⟩ := κ
  intro K H locs ls hl hP hD hS
  exact lv_icmp_eq K.1 K.2.1 hdg ht (fun hc => kt hc K H locs ls hl hP hD hS) (fun hc => kf hc K H locs ls hl hP hD hS)
theorem z_icmp_eq {α : Type} {x y : Int32} {a b r : α} {off : Int} {tgt : Nat} (hdg : decode cc pc = .ok (.if_icmp .eq off, 3)) (ht : (pc : Int) + off = (tgt : Int)) (hf : (if x = y then a else b) = r) (kt : a = r → V κ l D cA R cc nL own ret k n tgt lv stk ws) (kf : b = r → V κ l D cA R cc nL own ret k n (pc + 3) lv stk ws) : V κ l D cA R cc nL own ret k n pc lv (.int y :: .int x :: stk) ws :=
  y_icmp_eq hdg ht (fun hc => kt (fp hc hf)) (fun hc => kf (fn hc hf))
theorem y_icmp_ne {x y : Int32} {off : Int} {tgt : Nat} (hdg : decode cc pc = .ok (.if_icmp .ne off, 3)) (ht : (pc : Int) + off = (tgt : Int)) (kt : ¬ x = y → V κ l D cA R cc nL own ret k n tgt lv stk ws) (kf : x = y → V κ l D cA R cc nL own ret k n (pc + 3) lv stk ws) : V κ l D cA R cc nL own ret k n pc lv (.int y :: .int x :: stk) ws := by
  obtain ⟨p, e, s, m, ar, below, meth, c, A, Q⟩ := κ
  intro K H locs ls hl hP hD hS
  exact lv_icmp_ne K.1 K.2.1 hdg ht (fun hc => kt hc K H locs ls hl hP hD hS) (fun hc => kf hc K H locs ls hl hP hD hS)
theorem z_icmp_ne {α : Type} {x y : Int32} {a b r : α} {off : Int} {tgt : Nat} (hdg : decode cc pc = .ok (.if_icmp .ne off, 3)) (ht : (pc : Int) + off = (tgt : Int)) (hf : (if x = y then a else b) = r) (kt : b = r → V κ l D cA R cc nL own ret k n tgt lv stk ws) (kf : a = r → V κ l D cA R cc nL own ret k n (pc + 3) lv stk ws) : V κ l D cA R cc nL own ret k n pc lv (.int y :: .int x :: stk) ws :=
  y_icmp_ne hdg ht (fun hc => kt (fn hc hf)) (fun hc => kf (fp hc hf))
theorem y_icmp_lt {x y : Int32} {off : Int} {tgt : Nat} (hdg : decode cc pc = .ok (.if_icmp .lt off, 3)) (ht : (pc : Int) + off = (tgt : Int)) (kt : x < y → V κ l D cA R cc nL own ret k n tgt lv stk ws) (kf : ¬ x < y → V κ l D cA R cc nL own ret k n (pc + 3) lv stk ws) : V κ l D cA R cc nL own ret k n pc lv (.int y :: .int x :: stk) ws := by
  obtain ⟨p, e, s, m, ar, below, meth, c, A, Q⟩ := κ
  intro K H locs ls hl hP hD hS
  exact lv_icmp_lt K.1 K.2.1 hdg ht (fun hc => kt hc K H locs ls hl hP hD hS) (fun hc => kf hc K H locs ls hl hP hD hS)
theorem z_icmp_lt {α : Type} {x y : Int32} {a b r : α} {off : Int} {tgt : Nat} (hdg : decode cc pc = .ok (.if_icmp .lt off, 3)) (ht : (pc : Int) + off = (tgt : Int)) (hf : (if x < y then a else b) = r) (kt : a = r → V κ l D cA R cc nL own ret k n tgt lv stk ws) (kf : b = r → V κ l D cA R cc nL own ret k n (pc + 3) lv stk ws) : V κ l D cA R cc nL own ret k n pc lv (.int y :: .int x :: stk) ws :=
  y_icmp_lt hdg ht (fun hc => kt (fp hc hf)) (fun hc => kf (fn hc hf))
theorem y_icmp_ge {x y : Int32} {off : Int} {tgt : Nat} (hdg : decode cc pc = .ok (.if_icmp .ge off, 3)) (ht : (pc : Int) + off = (tgt : Int)) (kt : y ≤ x → V κ l D cA R cc nL own ret k n tgt lv stk ws) (kf : ¬ y ≤ x → V κ l D cA R cc nL own ret k n (pc + 3) lv stk ws) : V κ l D cA R cc nL own ret k n pc lv (.int y :: .int x :: stk) ws := by
  obtain ⟨p, e, s, m, ar, below, meth, c, A, Q⟩ := κ
  intro K H locs ls hl hP hD hS
  exact lv_icmp_ge K.1 K.2.1 hdg ht (fun hc => kt hc K H locs ls hl hP hD hS) (fun hc => kf hc K H locs ls hl hP hD hS)
theorem z_icmp_ge {α : Type} {x y : Int32} {a b r : α} {off : Int} {tgt : Nat} (hdg : decode cc pc = .ok (.if_icmp .ge off, 3)) (ht : (pc : Int) + off = (tgt : Int)) (hf : (if y ≤ x then a else b) = r) (kt : a = r → V κ l D cA R cc nL own ret k n tgt lv stk ws) (kf : b = r → V κ l D cA R cc nL own ret k n (pc + 3) lv stk ws) : V κ l D cA R cc nL own ret k n pc lv (.int y :: .int x :: stk) ws :=
  y_icmp_ge hdg ht (fun hc => kt (fp hc hf)) (fun hc => kf (fn hc hf))
theorem y_icmp_gt {x y : Int32} {off : Int} {tgt : Nat} (hdg : decode cc pc = .ok (.if_icmp .gt off, 3)) (ht : (pc : Int) + off = (tgt : Int)) (kt : y < x → V κ l D cA R cc nL own ret k n tgt lv stk ws) (kf : ¬ y < x → V κ l D cA R cc nL own ret k n (pc + 3) lv stk ws) : V κ l D cA R cc nL own ret k n pc lv (.int y :: .int x :: stk) ws := by
  obtain ⟨p, e, s, m, ar, below, meth, c, A, Q⟩ := κ
  intro K H locs ls hl hP hD hS
  exact lv_icmp_gt K.1 K.2.1 hdg ht (fun hc => kt hc K H locs ls hl hP hD hS) (fun hc => kf hc K H locs ls hl hP hD hS)
theorem z_icmp_gt {α : Type} {x y : Int32} {a b r : α} {off : Int} {tgt : Nat} (hdg : decode cc pc = .ok (.if_icmp .gt off, 3)) (ht : (pc : Int) + off = (tgt : Int)) (hf : (if y < x then a else b) = r) (kt : a = r → V κ l D cA R cc nL own ret k n tgt lv stk ws) (kf : b = r → V κ l D cA R cc nL own ret k n (pc + 3) lv stk ws) : V κ l D cA R cc nL own ret k n pc lv (.int y :: .int x :: stk) ws :=
  y_icmp_gt hdg ht (fun hc => kt (fp hc hf)) (fun hc => kf (fn hc hf))
theorem y_icmp_le {x y : Int32} {off : Int} {tgt : Nat} (hdg : decode cc pc = .ok (.if_icmp .le off, 3)) (ht : (pc : Int) + off = (tgt : Int)) (kt : x ≤ y → V κ l D cA R cc nL own ret k n tgt lv stk ws) (kf : ¬ x ≤ y → V κ l D cA R cc nL own ret k n (pc + 3) lv stk ws) : V κ l D cA R cc nL own ret k n pc lv (.int y :: .int x :: stk) ws := by
  obtain ⟨p, e, s, m, ar, below, meth, c, A, Q⟩ := κ
  intro K H locs ls hl hP hD hS
  exact lv_icmp_le K.1 K.2.1 hdg ht (fun hc => kt hc K H locs ls hl hP hD hS) (fun hc => kf hc K H locs ls hl hP hD hS)
theorem z_icmp_le {α : Type} {x y : Int32} {a b r : α} {off : Int} {tgt : Nat} (hdg : decode cc pc = .ok (.if_icmp .le off, 3)) (ht : (pc : Int) + off = (tgt : Int)) (hf : (if x ≤ y then a else b) = r) (kt : a = r → V κ l D cA R cc nL own ret k n tgt lv stk ws) (kf : b = r → V κ l D cA R cc nL own ret k n (pc + 3) lv stk ws) : V κ l D cA R cc nL own ret k n pc lv (.int y :: .int x :: stk) ws :=
  y_icmp_le hdg ht (fun hc => kt (fp hc hf)) (fun hc => kf (fn hc hf))
theorem z_iaload {α : Type} (q t : Nat) {ad : Nat} {cL : ClassId} {N : Nat} {f : Nat → Int32} {i : Int32} {a : Option α} {r : α} (he : ws[q]? = some (ad, .inl (cL, N, .inl f))) (ht : (tys cA)[t]? = some (cL, .int)) (hdg : decode cc pc = .ok (.iaload, 1)) (hf : (if i < 0 ∨ N ≤ i.toNatClampNeg then none else a) = some r) (h : a = some r → V κ l D cA R cc nL own ret k n (pc + 1) lv (.int (f i.toNatClampNeg) :: stk) ws) : V κ l D cA R cc nL own ret k n pc lv (.int i :: .ref ad :: stk) ws := by
  obtain ⟨p, e, s, m, ar, below, meth, c, A, Q⟩ := κ
  intro K H locs ls hl hP hD hS
  by_cases hz : i < 0 ∨ N ≤ i.toNatClampNeg
  · rw [if_pos hz] at hf; cases hf
  · rw [if_neg hz] at hf
    exact va_iald K.1 K.2.1 K.2.2.2.2.2.2.2.1 hP q t he ht hz hdg (h hf K H locs ls hl hP hD hS)
theorem z_zaload {α : Type} (q t : Nat) {ad : Nat} {cL : ClassId} {N : Nat} {f : Nat → Int32} {i : Int32} {a : Option α} {r : α} (he : ws[q]? = some (ad, .inl (cL, N, .inl f))) (ht : (tys cA)[t]? = some (cL, .boolean)) (hdg : decode cc pc = .ok (.baload, 1)) (hf : (if i < 0 ∨ N ≤ i.toNatClampNeg then none else a) = some r) (h : a = some r → V κ l D cA R cc nL own ret k n (pc + 1) lv (.int (f i.toNatClampNeg) :: stk) ws) : V κ l D cA R cc nL own ret k n pc lv (.int i :: .ref ad :: stk) ws := by
  obtain ⟨p, e, s, m, ar, below, meth, c, A, Q⟩ := κ
  intro K H locs ls hl hP hD hS
  by_cases hz : i < 0 ∨ N ≤ i.toNatClampNeg
  · rw [if_pos hz] at hf; cases hf
  · rw [if_neg hz] at hf
    exact va_zald K.1 K.2.1 K.2.2.2.2.2.2.2.1 hP q t he ht hz hdg (h hf K H locs ls hl hP hD hS)
theorem z_caload {α : Type} (q t : Nat) {ad : Nat} {cL : ClassId} {N : Nat} {f : Nat → Int32} {i : Int32} {a : Option α} {r : α} (he : ws[q]? = some (ad, .inl (cL, N, .inl f))) (ht : (tys cA)[t]? = some (cL, .char)) (hdg : decode cc pc = .ok (.caload, 1)) (hf : (if i < 0 ∨ N ≤ i.toNatClampNeg then none else a) = some r) (h : a = some r → V κ l D cA R cc nL own ret k n (pc + 1) lv (.int (f i.toNatClampNeg) :: stk) ws) : V κ l D cA R cc nL own ret k n pc lv (.int i :: .ref ad :: stk) ws := by
  obtain ⟨p, e, s, m, ar, below, meth, c, A, Q⟩ := κ
  intro K H locs ls hl hP hD hS
  by_cases hz : i < 0 ∨ N ≤ i.toNatClampNeg
  · rw [if_pos hz] at hf; cases hf
  · rw [if_neg hz] at hf
    exact va_cald K.1 K.2.1 K.2.2.2.2.2.2.2.1 hP q t he ht hz hdg (h hf K H locs ls hl hP hD hS)
theorem z_laload {α : Type} (q t : Nat) {ad : Nat} {cL : ClassId} {N : Nat} {f : Nat → Int64} {i : Int32} {a : Option α} {r : α} (he : ws[q]? = some (ad, .inl (cL, N, .inr (.inl f)))) (ht : (tys cA)[t]? = some (cL, .long)) (hdg : decode cc pc = .ok (.laload, 1)) (hf : (if i < 0 ∨ N ≤ i.toNatClampNeg then none else a) = some r) (h : a = some r → V κ l D cA R cc nL own ret k n (pc + 1) lv (.long (f i.toNatClampNeg) :: stk) ws) : V κ l D cA R cc nL own ret k n pc lv (.int i :: .ref ad :: stk) ws := by
  obtain ⟨p, e, s, m, ar, below, meth, c, A, Q⟩ := κ
  intro K H locs ls hl hP hD hS
  by_cases hz : i < 0 ∨ N ≤ i.toNatClampNeg
  · rw [if_pos hz] at hf; cases hf
  · rw [if_neg hz] at hf
    exact va_lald K.1 K.2.1 K.2.2.2.2.2.2.2.1 hP q t he ht hz hdg (h hf K H locs ls hl hP hD hS)
theorem z_iastore {α : Type} (q t : Nat) {ad : Nat} {cL : ClassId} {N : Nat} {f : Nat → Int32} {i : Int32} {x : Int32} {a : Option α} {r : α} {ws' : va_W} (he : ws[q]? = some (ad, .inl (cL, N, .inl f))) (ht : (tys cA)[t]? = some (cL, .int)) (hdg : decode cc pc = .ok (.iastore, 1)) (hw : ws.set q (ad, .inl (cL, N, .inl (upd f i.toNatClampNeg x))) = ws') (hf : (if i < 0 ∨ N ≤ i.toNatClampNeg then none else a) = some r) (h : a = some r → V κ l D cA R cc nL own ret k n (pc + 1) lv stk ws') : V κ l D cA R cc nL own ret k n pc lv (.int x :: .int i :: .ref ad :: stk) ws := by
  obtain ⟨p, e, s, m, ar, below, meth, c, A, Q⟩ := κ
  intro K H locs ls hl hP hD hS
  subst hw
  by_cases hz : i < 0 ∨ N ≤ i.toNatClampNeg
  · rw [if_pos hz] at hf; cases hf
  · rw [if_neg hz] at hf
    exact va_iast K.1 K.2.1 K.2.2.2.2.2.2.2.1 hP hD hS q t he ht hz hdg (fun H locs hP hD hS => h hf K H locs ls hl hP hD hS)
theorem z_zastore {α : Type} (q t : Nat) {ad : Nat} {cL : ClassId} {N : Nat} {f : Nat → Int32} {i : Int32} {x : Int32} {a : Option α} {r : α} {ws' : va_W} (he : ws[q]? = some (ad, .inl (cL, N, .inl f))) (ht : (tys cA)[t]? = some (cL, .boolean)) (hdg : decode cc pc = .ok (.bastore, 1)) (hw : ws.set q (ad, .inl (cL, N, .inl (upd f i.toNatClampNeg (vp_nar .boolean x)))) = ws') (hf : (if i < 0 ∨ N ≤ i.toNatClampNeg then none else a) = some r) (h : a = some r → V κ l D cA R cc nL own ret k n (pc + 1) lv stk ws') : V κ l D cA R cc nL own ret k n pc lv (.int x :: .int i :: .ref ad :: stk) ws := by
  obtain ⟨p, e, s, m, ar, below, meth, c, A, Q⟩ := κ
  intro K H locs ls hl hP hD hS
  subst hw
  by_cases hz : i < 0 ∨ N ≤ i.toNatClampNeg
  · rw [if_pos hz] at hf; cases hf
  · rw [if_neg hz] at hf
    exact va_zast K.1 K.2.1 K.2.2.2.2.2.2.2.1 hP hD hS q t he ht hz hdg (fun H locs hP hD hS => h hf K H locs ls hl hP hD hS)
theorem z_castore {α : Type} (q t : Nat) {ad : Nat} {cL : ClassId} {N : Nat} {f : Nat → Int32} {i : Int32} {x : Int32} {a : Option α} {r : α} {ws' : va_W} (he : ws[q]? = some (ad, .inl (cL, N, .inl f))) (ht : (tys cA)[t]? = some (cL, .char)) (hdg : decode cc pc = .ok (.castore, 1)) (hw : ws.set q (ad, .inl (cL, N, .inl (upd f i.toNatClampNeg (vp_nar .char x)))) = ws') (hf : (if i < 0 ∨ N ≤ i.toNatClampNeg then none else a) = some r) (h : a = some r → V κ l D cA R cc nL own ret k n (pc + 1) lv stk ws') : V κ l D cA R cc nL own ret k n pc lv (.int x :: .int i :: .ref ad :: stk) ws := by
  obtain ⟨p, e, s, m, ar, below, meth, c, A, Q⟩ := κ
  intro K H locs ls hl hP hD hS
  subst hw
  by_cases hz : i < 0 ∨ N ≤ i.toNatClampNeg
  · rw [if_pos hz] at hf; cases hf
  · rw [if_neg hz] at hf
    exact va_cast K.1 K.2.1 K.2.2.2.2.2.2.2.1 hP hD hS q t he ht hz hdg (fun H locs hP hD hS => h hf K H locs ls hl hP hD hS)
theorem z_lastore {α : Type} (q t : Nat) {ad : Nat} {cL : ClassId} {N : Nat} {f : Nat → Int64} {i : Int32} {x : Int64} {a : Option α} {r : α} {ws' : va_W} (he : ws[q]? = some (ad, .inl (cL, N, .inr (.inl f)))) (ht : (tys cA)[t]? = some (cL, .long)) (hdg : decode cc pc = .ok (.lastore, 1)) (hw : ws.set q (ad, .inl (cL, N, .inr (.inl (vp_updL f i.toNatClampNeg x)))) = ws') (hf : (if i < 0 ∨ N ≤ i.toNatClampNeg then none else a) = some r) (h : a = some r → V κ l D cA R cc nL own ret k n (pc + 1) lv stk ws') : V κ l D cA R cc nL own ret k n pc lv (.long x :: .int i :: .ref ad :: stk) ws := by
  obtain ⟨p, e, s, m, ar, below, meth, c, A, Q⟩ := κ
  intro K H locs ls hl hP hD hS
  subst hw
  by_cases hz : i < 0 ∨ N ≤ i.toNatClampNeg
  · rw [if_pos hz] at hf; cases hf
  · rw [if_neg hz] at hf
    exact va_last K.1 K.2.1 K.2.2.2.2.2.2.2.1 hP hD hS q t he ht hz hdg (fun H locs hP hD hS => h hf K H locs ls hl hP hD hS)
theorem z_aaload {α : Type} (q t : Nat) {ad : Nat} {cL : ClassId} {N : Nat} {C : String} {f : Nat → Option Nat} {i : Int32} {a : Option α} {r : α} (he : ws[q]? = some (ad, .inl (cL, N, .inr (.inr (.inr (.inr f)))))) (ht : (tys cA)[t]? = some (cL, .object C)) (hdg : decode cc pc = .ok (.aaload, 1)) (hf : (if i < 0 ∨ N ≤ i.toNatClampNeg then none else a) = some r) (h : a = some r → i.toNatClampNeg < N → V κ l D cA R cc nL own ret k n (pc + 1) lv (va_rf (f i.toNatClampNeg) :: stk) ws) : V κ l D cA R cc nL own ret k n pc lv (.int i :: .ref ad :: stk) ws := by
  obtain ⟨p, e, s, m, ar, below, meth, c, A, Q⟩ := κ
  intro K H locs ls hl hP hD hS
  by_cases hz : i < 0 ∨ N ≤ i.toNatClampNeg
  · rw [if_pos hz] at hf; cases hf
  · rw [if_neg hz] at hf
    exact va_aldq K.1 K.2.1 K.2.2.2.2.2.2.2.1 hP q t he ht hz hdg (h hf (Nat.not_le.mp fun z => hz (Or.inr z)) K H locs ls hl hP hD hS)
theorem z_alen (q t : Nat) {ad : Nat} {cL : ClassId} {x : vp_A} {ty : FieldType} {v : Int32} (he : ws[q]? = some (ad, .inl (cL, x))) (ht : (tys cA)[t]? = some (cL, ty)) (hv : Int32.ofNat x.1 = v) (hdg : decode cc pc = .ok (.arraylength, 1)) (h : V κ l D cA R cc nL own ret k n (pc + 1) lv (.int v :: stk) ws) : V κ l D cA R cc nL own ret k n pc lv (.ref ad :: stk) ws := by
  obtain ⟨p, e, s, m, ar, below, meth, c, A, Q⟩ := κ
  intro K H locs ls hl hP hD hS
  exact va_alen K.1 K.2.1 K.2.2.2.2.2.2.2.1 hP q t he ht hv hdg (h K H locs ls hl hP hD hS)
theorem z_get (q j : Nat) {ad idx ci N : Nat} {C : String} {T : u_T} {fs : List Value} {v : Value} (he : ws[q]? = some (ad, .inr (ci, fs))) (hc : vwCl[ci]? = some (C, T, N)) (hin : ∀ w ∈ u_ws C T N, w ∈ tblG) (hk : j < N) (hlink : Cond.fieldLink own idx (T j).1 (T j).2.1 (T j).2.2.1 ∈ tblG) (hv : fs[j]? = some v) (hdg : decode cc pc = .ok (.getfield idx, 3)) (h : V κ l D cA R cc nL own ret k n (pc + 3) lv (v :: stk) ws) : V κ l D cA R cc nL own ret k n pc lv (.ref ad :: stk) ws := by
  obtain ⟨p, e, s, m, ar, below, meth, c, A, Q⟩ := κ
  intro K H locs ls hl hP hD hS
  exact va_get K.1 K.2.1 K.2.2.2.2.1 hin K.2.2.2.1 K.2.2.2.2.2.2.2.1 hP q he hc j hk (K.2.2.2.2.1 _ hlink) (fun _ h9 => h9) hv hdg (h K H locs ls hl hP hD hS)
theorem z_put (q j : Nat) {ad idx ci N : Nat} {C : String} {T : u_T} {fs : List Value} {v : Value} {ty : FieldType} {ws' : va_W} (he : ws[q]? = some (ad, .inr (ci, fs))) (hc : vwCl[ci]? = some (C, T, N)) (hin : ∀ w ∈ u_ws C T N, w ∈ tblG) (ty0 : Nat → FieldType) (hty : ∀ a, a < N → parseFieldDescriptor (T a).2.2.1 = some (ty0 a)) (hnm : ∀ a, a < N → ∀ b, b < N → a ≠ b → (T a).2.1 ≠ (T b).2.1) (hk : j < N) (hlink : Cond.fieldLink own idx (T j).1 (T j).2.1 (T j).2.2.1 ∈ tblG) (hfin : (T j).2.2.2 = false) (hd : ty0 j = ty) (hn : narrow ty v = v) (hfit : fits ty v = true) (hl0 : j < fs.length) (hdg : decode cc pc = .ok (.putfield idx, 3)) (hw : ws.set q (ad, .inr (ci, fs.set j v)) = ws') (h : V κ l D cA R cc nL own ret k n (pc + 3) lv stk ws') : V κ l D cA R cc nL own ret k n pc lv (v :: .ref ad :: stk) ws := by
  obtain ⟨p, e, s, m, ar, below, meth, c, A, Q⟩ := κ
  intro K H locs ls hl hP hD hS
  subst hw; subst hd
  exact va_put K.1 K.2.1 K.2.2.2.2.1 hin ty0 hty hnm K.2.2.2.1 K.2.2.2.2.2.2.2.1 hP hD hS q he hc j hk (K.2.2.2.2.1 _ hlink) (fun _ h9 => h9) hfin (hty j hk) hn hfit hl0 hdg (fun H locs hP hD hS => h K H locs ls hl hP hD hS)
theorem z_mmax {idx : Nat} {x y : Int32} (hlink : Cond.methodLink own idx Lib.Math.max.name ∈ tblG) (hst : Cond.static Lib.Math.max.name ∈ tblG) (hini : Cond.initialized "java/lang/Math" ∈ tblG) (hcode : Cond.code Lib.Math.max.name Lib.Math.max.code 2 (some .int) ∈ tblG) (hfr : 1 ≤ R.frames) (hlo : (stk.map fun v => v.category).sum + 13 ≤ R.locals) (hk : k ≤ R.cells) (hn : n ≤ R.slots) (hdg : decode cc pc = .ok (.invokestatic idx, 3)) (h : V κ l D cA R cc nL own ret k n (pc + 3) lv (.int (if x < y then y else x) :: stk) ws) : V κ l D cA R cc nL own ret k n pc lv (.int y :: .int x :: stk) ws := by
  obtain ⟨p, e, s, m, ar, below, meth, c, A, Q⟩ := κ
  intro K H locs ls hl hP hD hS
  exact va_mmax K.1 K.2.1 (K.2.2.1.trans hl.1.symm) K.2.2.2.1 (K.2.2.2.2.1 _ hlink) (K.2.2.2.2.1 _ hst) (K.2.2.2.2.1 _ hini) (K.2.2.2.2.1 _ hcode) hfr hlo hk hn hdg (h K H locs ls hl hP hD hS)
theorem z_mmin {idx : Nat} {x y : Int32} (hlink : Cond.methodLink own idx Lib.Math.min.name ∈ tblG) (hst : Cond.static Lib.Math.min.name ∈ tblG) (hini : Cond.initialized "java/lang/Math" ∈ tblG) (hcode : Cond.code Lib.Math.min.name Lib.Math.min.code 2 (some .int) ∈ tblG) (hfr : 1 ≤ R.frames) (hlo : (stk.map fun v => v.category).sum + 13 ≤ R.locals) (hk : k ≤ R.cells) (hn : n ≤ R.slots) (hdg : decode cc pc = .ok (.invokestatic idx, 3)) (h : V κ l D cA R cc nL own ret k n (pc + 3) lv (.int (if y < x then y else x) :: stk) ws) : V κ l D cA R cc nL own ret k n pc lv (.int y :: .int x :: stk) ws := by
  obtain ⟨p, e, s, m, ar, below, meth, c, A, Q⟩ := κ
  intro K H locs ls hl hP hD hS
  exact va_mmin K.1 K.2.1 (K.2.2.1.trans hl.1.symm) K.2.2.2.1 (K.2.2.2.2.1 _ hlink) (K.2.2.2.2.1 _ hst) (K.2.2.2.2.1 _ hini) (K.2.2.2.2.1 _ hcode) hfr hlo hk hn hdg (h K H locs ls hl hP hD hS)
theorem z_mabs {idx : Nat} {x : Int32} (hlink : Cond.methodLink own idx Lib.Math.abs.name ∈ tblG) (hst : Cond.static Lib.Math.abs.name ∈ tblG) (hini : Cond.initialized "java/lang/Math" ∈ tblG) (hcode : Cond.code Lib.Math.abs.name Lib.Math.abs.code 1 (some .int) ∈ tblG) (hfr : 1 ≤ R.frames) (hlo : (stk.map fun v => v.category).sum + 13 ≤ R.locals) (hk : k ≤ R.cells) (hn : n ≤ R.slots) (hdg : decode cc pc = .ok (.invokestatic idx, 3)) (h : V κ l D cA R cc nL own ret k n (pc + 3) lv (.int (if 0 ≤ x then x else 0 - x) :: stk) ws) : V κ l D cA R cc nL own ret k n pc lv (.int x :: stk) ws := by
  obtain ⟨p, e, s, m, ar, below, meth, c, A, Q⟩ := κ
  intro K H locs ls hl hP hD hS
  exact va_mabs K.1 K.2.1 (K.2.2.1.trans hl.1.symm) K.2.2.2.1 (K.2.2.2.2.1 _ hlink) (K.2.2.2.2.1 _ hst) (K.2.2.2.2.1 _ hini) (K.2.2.2.2.1 _ hcode) hfr hlo hk hn hdg (h K H locs ls hl hP hD hS)
theorem z_stk {stk' : List Value} (hs : stk = stk') (h : V κ l D cA R cc nL own ret k n pc lv stk' ws) : V κ l D cA R cc nL own ret k n pc lv stk ws := by
  subst hs; exact h
theorem y_lookup {dflt : Int} {ps : Array (Int × Int)} {len : Nat} {x : Int32} {off : Int} {tgt : Nat} (hdg : decode cc pc = .ok (.lookupswitch dflt ps, len)) (hp : (ps.toList.zip (ps.toList.drop 1)).all (fun (a, next) => a.1 < next.1) = true) (ho : Op.lookupswitch.offset ps.toList dflt x.toInt = off) (ht : (pc : Int) + off = (tgt : Int)) (h : V κ l D cA R cc nL own ret k n tgt lv stk ws) : V κ l D cA R cc nL own ret k n pc lv (.int x :: stk) ws := by
  obtain ⟨p, e, s, m, ar, below, meth, c, A, Q⟩ := κ
  intro K H locs ls hl hP hD hS
  exact lv_lookup K.1 K.2.1 hdg hp ho ht (h K H locs ls hl hP hD hS)
theorem y_tabOut {dflt lo hi : Int} {offs : Array Int} {len : Nat} {x : Int32} {tgt : Nat} (hdg : decode cc pc = .ok (.tableswitch dflt lo hi offs, len)) (hx : x.toInt < lo ∨ hi < x.toInt) (ht : (pc : Int) + dflt = (tgt : Int)) (h : V κ l D cA R cc nL own ret k n tgt lv stk ws) : V κ l D cA R cc nL own ret k n pc lv (.int x :: stk) ws := by
  obtain ⟨p, e, s, m, ar, below, meth, c, A, Q⟩ := κ
  intro K H locs ls hl hP hD hS
  exact lv_tableOut K.1 K.2.1 hdg hx ht (h K H locs ls hl hP hD hS)
theorem y_tabIn {dflt lo hi : Int} {offs : Array Int} {len : Nat} {x : Int32} {off : Int} {tgt : Nat} (hdg : decode cc pc = .ok (.tableswitch dflt lo hi offs, len)) (h1 : ¬ x.toInt < lo) (h2 : ¬ hi < x.toInt) (ho : offs[(x.toInt - lo).toNat]? = some off) (ht : (pc : Int) + off = (tgt : Int)) (h : V κ l D cA R cc nL own ret k n tgt lv stk ws) : V κ l D cA R cc nL own ret k n pc lv (.int x :: stk) ws := by
  obtain ⟨p, e, s, m, ar, below, meth, c, A, Q⟩ := κ
  intro K H locs ls hl hP hD hS
  exact lv_tableIn K.1 K.2.1 hdg h1 h2 ho ht (h K H locs ls hl hP hD hS)
end VRows
/-! contracts: the world before, the arguments, the answer, the world behind; and how a call uses one -/
def EnI (κ : Ctx) (D : va_G) (cA : Nat → ClassId) (r : Int32) (ws1 : va_W) : Prop :=
  match κ with
  | (_, _, s, _, ar, below, _, _, A, Q) => Q = MQ below (va_Qi (fun (x : Int32) (_ : Unit) => x = r) (fun _ t => va_P D vwCl ws1 t.heap ∧ va_K D vwCl (tys cA) t ∧ va_D A ws1) A) ar s 0 0 A
def EnV (κ : Ctx) (D : va_G) (cA : Nat → ClassId) (ws1 : va_W) : Prop :=
  match κ with
  | (_, _, s, _, ar, below, _, _, A, Q) => Q = MQ below (va_Qv (fun (_ : Unit) => True) (fun _ t => va_P D vwCl ws1 t.heap ∧ va_K D vwCl (tys cA) t ∧ va_D A ws1) A) ar s 0 0 A
def CtI (l : Launch) (y : MethodName) (w : List Cond) (rm : Room) (D : va_G) (cA : Nat → ClassId) (ws0 : va_W) (as : List Value) (r : Int32) (ws1 : va_W) : Prop :=
  ∀ sz : Nat, Met l y w rm (va_Pc as (fun U => U.heap.size = sz ∧ va_P D vwCl ws0 U.heap ∧ va_K D vwCl (tys cA) U ∧ va_D (fun _ => True) ws0)) (va_Qi (fun (x : Int32) (_ : Unit) => x = r) (fun _ t => va_P D vwCl ws1 t.heap ∧ va_K D vwCl (tys cA) t ∧ va_D (va_A ws0 sz) ws1) (va_A ws0 sz)) 0 0 (va_A ws0 sz)
def CtV (l : Launch) (y : MethodName) (w : List Cond) (rm : Room) (D : va_G) (cA : Nat → ClassId) (ws0 : va_W) (as : List Value) (ws1 : va_W) : Prop :=
  ∀ sz : Nat, Met l y w rm (va_Pc as (fun U => U.heap.size = sz ∧ va_P D vwCl ws0 U.heap ∧ va_K D vwCl (tys cA) U ∧ va_D (fun _ => True) ws0)) (va_Qv (fun (_ : Unit) => True) (fun _ t => va_P D vwCl ws1 t.heap ∧ va_K D vwCl (tys cA) t ∧ va_D (va_A ws0 sz) ws1) (va_A ws0 sz)) 0 0 (va_A ws0 sz)
theorem CtI.start {l : Launch} {y : MethodName} {rm : Room} {D : va_G} {cA : Nat → ClassId} {ws0 ws1 : va_W} {as : List Value} {r : Int32} {cc : ByteArray} {maxL : Nat} {ty : FieldType} {lv : List (Nat × Value)}
    (hy : plainName y.cls = true) (hlen : (lg_sl as).length ≤ maxL) (hlv : lv_args 0 as = lv)
    (body : ∀ κ : Ctx, EnI κ D cA r ws1 → V κ l D cA rm cc maxL y.cls (some ty) 0 0 0 lv [] ws0) : CtI l y (Cond.code y cc maxL (some ty) :: tblG) rm D cA ws0 as r ws1 := by
  intro sz
  refine Met.ofW (cc := cc) (maxL := maxL) (ret := some ty) hy rfl ?_
  intro p e s m args below meth c s₁ B hml hv
  obtain ⟨rfl, hsz, hP, hK, hD0⟩ := hv
  subst hsz
  have hl := lv_entry as (n := maxL) hlen
  rw [hlv] at hl
  rw [lg_entry_eq]
  have hts := atoms_spec (ws := Cond.code y cc maxL (some ty) :: tblG) B.pre
  exact body (p, e, s, m, as.toArray, below, meth, c, va_A ws0 s.heap.size, _) rfl ⟨B.exec, B.bytes, hml, findClass_of_methodNamed B.named, fun w hw => hts w (List.mem_cons_of_mem _ hw), B.returns, B.notSynchronized, hK, fun q h => Or.inr h⟩ s.heap [] _ hl hP hD0.self va_S.rf
theorem CtI.startF {l : Launch} {y : MethodName} {rm : Room} {D : va_G} {cA : Nat → ClassId} {ws0 ws1 : va_W} {as : List Value} {r : Int32} {cc : ByteArray} {maxL : Nat} {ty : FieldType} {lv : List (Nat × Value)}
    (hy : plainFor y = true) (hlen : (lg_sl as).length ≤ maxL) (hlv : lv_args 0 as = lv)
    (body : ∀ κ : Ctx, EnI κ D cA r ws1 → V κ l D cA rm cc maxL y.cls (some ty) 0 0 0 lv [] ws0) : CtI l y (Cond.code y cc maxL (some ty) :: tblG) rm D cA ws0 as r ws1 := by
  intro sz
  refine va_MetF (cc := cc) (maxL := maxL) (ret := some ty) hy rfl ?_
  intro p e s m args below meth c s₁ B hml hv
  obtain ⟨rfl, hsz, hP, hK, hD0⟩ := hv
  subst hsz
  have hl := lv_entry as (n := maxL) hlen
  rw [hlv] at hl
  rw [lg_entry_eq]
  have hts := atoms_spec (ws := Cond.code y cc maxL (some ty) :: tblG) B.pre
  exact body (p, e, s, m, as.toArray, below, meth, c, va_A ws0 s.heap.size, _) rfl ⟨B.exec, B.bytes, hml, findClass_of_methodNamed B.named, fun w hw => hts w (List.mem_cons_of_mem _ hw), B.returns, B.notSynchronized, hK, fun q h => Or.inr h⟩ s.heap [] _ hl hP hD0.self va_S.rf
theorem CtV.start {l : Launch} {y : MethodName} {rm : Room} {D : va_G} {cA : Nat → ClassId} {ws0 ws1 : va_W} {as : List Value} {cc : ByteArray} {maxL : Nat} {lv : List (Nat × Value)}
    (hy : plainName y.cls = true) (hlen : (lg_sl as).length ≤ maxL) (hlv : lv_args 0 as = lv)
    (body : ∀ κ : Ctx, EnV κ D cA ws1 → V κ l D cA rm cc maxL y.cls none 0 0 0 lv [] ws0) : CtV l y (Cond.code y cc maxL none :: tblG) rm D cA ws0 as ws1 := by
  intro sz
  refine Met.ofW (cc := cc) (maxL := maxL) (ret := none) hy rfl ?_
  intro p e s m args below meth c s₁ B hml hv
  obtain ⟨rfl, hsz, hP, hK, hD0⟩ := hv
  subst hsz
  have hl := lv_entry as (n := maxL) hlen
  rw [hlv] at hl
  rw [lg_entry_eq]
  have hts := atoms_spec (ws := Cond.code y cc maxL none :: tblG) B.pre
  exact body (p, e, s, m, as.toArray, below, meth, c, va_A ws0 s.heap.size, _) rfl ⟨B.exec, B.bytes, hml, findClass_of_methodNamed B.named, fun w hw => hts w (List.mem_cons_of_mem _ hw), B.returns, B.notSynchronized, hK, fun q h => Or.inr h⟩ s.heap [] _ hl hP hD0.self va_S.rf
/-! the callee's cells put back into the caller's world -/
def pickc (i : Nat) : List Nat → va_W → Option (Nat × va_E)
  | j :: is, c :: cs => match Nat.beq j i with
    | true => some c
    | false => pickc i is cs
  | _, _ => none
def putw (k : Nat) (is : List Nat) (cs : va_W) : va_W → va_W
  | [] => []
  | c :: ws => (match pickc k is cs with
    | some d => d
    | none => c) :: putw (k + 1) is cs ws
def putc (ws : va_W) (is : List Nat) (cs : va_W) : va_W := putw 0 is cs ws
theorem pickc_not : ∀ (is : List Nat) (cs : va_W) (i : Nat), i ∉ is → pickc i is cs = none
  | [], _, _, _ => rfl
  | j :: is, [], i, _ => rfl
  | j :: is, c :: cs, i, h => by
    have hb : Nat.beq j i = false := by
      cases hq : Nat.beq j i with
      | false => rfl
      | true => exact absurd (by rw [Nat.eq_of_beq_eq_true hq]; exact List.mem_cons_self) h
    show (match Nat.beq j i with | true => some c | false => pickc i is cs) = none
    rw [hb]
    exact pickc_not is cs i (fun q => h (List.mem_cons_of_mem _ q))
theorem pickc_in : ∀ (is : List Nat) (cs : va_W) (j i : Nat), va_nd is = true → is.length ≤ cs.length → is[j]? = some i → pickc i is cs = cs[j]?
  | [], _, j, i, _, _, h => by cases j <;> cases h
  | a :: is, [], j, i, _, hl, _ => absurd hl (Nat.not_succ_le_zero _)
  | a :: is, c :: cs, j, i, hn, hl, h => by
    have hn' : a ∉ is ∧ va_nd is = true := by simpa [va_nd] using hn
    cases j with
    | zero =>
      cases h
      show (match Nat.beq a a with | true => some c | false => pickc a is cs) = some c
      rw [Nat.beq_refl]
    | succ j =>
      have hb : Nat.beq a i = false := by
        cases hq : Nat.beq a i with
        | false => rfl
        | true => exact absurd (by rw [Nat.eq_of_beq_eq_true hq]; exact List.mem_of_getElem? h) hn'.1
      show (match Nat.beq a i with | true => some c | false => pickc i is cs) = cs[j]?
      rw [hb]
      exact pickc_in is cs j i hn'.2 (Nat.le_of_succ_le_succ hl) h
theorem putw_get : ∀ (ws : va_W) (k : Nat) (is : List Nat) (cs : va_W) (i : Nat), (putw k is cs ws)[i]? = (ws[i]?).map (fun c => (pickc (k + i) is cs).getD c)
  | [], k, is, cs, i => by cases i <;> rfl
  | c :: ws, k, is, cs, 0 => by
    show some _ = some _
    rw [Nat.add_zero]
    cases pickc k is cs <;> rfl
  | c :: ws, k, is, cs, i + 1 => by
    show (putw (k + 1) is cs ws)[i]? = _
    rw [putw_get ws (k + 1) is cs i, show k + 1 + i = k + (i + 1) by omega]
    rfl
theorem putc_not (is : List Nat) (cs ws : va_W) (i : Nat) (h : i ∉ is) : (putc ws is cs)[i]? = ws[i]? := by
  unfold putc
  rw [putw_get, Nat.zero_add, pickc_not is cs i h]
  cases ws[i]? <;> rfl
theorem putc_in (is : List Nat) (cs ws : va_W) (j i : Nat) (hn : va_nd is = true) (hl : is.length ≤ cs.length) (hb : ∀ a ∈ is, a < ws.length) (h : is[j]? = some i) : (putc ws is cs)[i]? = cs[j]? := by
  unfold putc
  have hj : j < cs.length := Nat.lt_of_lt_of_le (List.getElem?_eq_some_iff.mp h).1 hl
  have hi : i < ws.length := hb i (List.mem_of_getElem? h)
  rw [putw_get, Nat.zero_add, pickc_in is cs j i hn hl h, List.getElem?_eq_getElem hi, List.getElem?_eq_getElem hj]
  rfl
theorem put_join {A0 : Nat → Prop} {D : va_G} {cl : List vw_C} {ws wc w1 : va_W} {H H1 : Heap} (hP : va_P D cl ws H) (hD : va_D A0 ws) (is : List Nat) (hC : is.map (fun i => ws[i]?) = wc.map some) (hn : va_nd is = true) (hlen : wc.length = w1.length)
    (hk : ∀ q : Nat, q < H.size → ¬ va_A wc H.size q → H1[q]? = H[q]?) (hF : ∀ q, va_A wc H.size q → A0 q) (hP1 : va_P D cl w1 H1) (hD1 : va_D (va_A wc H.size) w1) : va_P D cl (putc ws is w1) H1 ∧ va_D A0 (putc ws is w1) := by
  have hl1 : is.length = wc.length := by simpa using congrArg List.length hC
  have hl : is.length = w1.length := hl1.trans hlen
  have at' : ∀ (k : Nat) (q : Nat × va_E), wc[k]? = some q → ∃ i, is[k]? = some i ∧ ws[i]? = some q := by
    intro k q hq
    have h1 : (is.map (fun i => ws[i]?))[k]? = some (some q) := by rw [hC, List.getElem?_map, hq]; rfl
    rw [List.getElem?_map] at h1
    cases hi : is[k]? with
    | none => rw [hi] at h1; cases h1
    | some i => rw [hi] at h1; exact ⟨i, rfl, Option.some.inj h1⟩
  have hb : ∀ a ∈ is, a < ws.length := by
    intro a ha
    obtain ⟨k, hk'⟩ := List.getElem?_of_mem ha
    have hkl : k < wc.length := by rw [← hl1]; exact (List.getElem?_eq_some_iff.mp hk').1
    obtain ⟨i, h1, h2⟩ := at' k wc[k] (List.getElem?_eq_getElem hkl)
    rw [hk'] at h1; cases h1
    exact (List.getElem?_eq_some_iff.mp h2).1
  have key : ∀ (i : Nat) (q : Nat × va_E), (putc ws is w1)[i]? = some q → (∃ j : Nat, is[j]? = some i ∧ w1[j]? = some q) ∨ (i ∉ is ∧ ws[i]? = some q) := by
    intro i q hq
    by_cases hi : i ∈ is
    · obtain ⟨j, hj⟩ := List.getElem?_of_mem hi
      rw [putc_in is w1 ws j i hn (Nat.le_of_eq hl) hb hj] at hq
      exact Or.inl ⟨j, hj, hq⟩
    · rw [putc_not is w1 ws i hi] at hq
      exact Or.inr ⟨hi, hq⟩
  have apart : ∀ (i : Nat) (q : Nat × va_E), i ∉ is → ws[i]? = some q → q.1 < H.size ∧ ¬ va_A wc H.size q.1 := by
    intro i q hi hq
    have hl' := (hP i q hq).lt
    refine ⟨hl', fun h => ?_⟩
    rcases h with ⟨k2, e, h⟩ | h
    · obtain ⟨j, h3, h4⟩ := at' k2 (q.1, e) h
      have hij := hD.1 i j q (q.1, e) hq h4 rfl
      subst hij
      exact hi (List.mem_of_getElem? h3)
    · omega
  refine ⟨fun i q hq => ?_, fun i j p q hp hq hpq => ?_, fun i q hq => ?_⟩
  · rcases key i q hq with ⟨j, -, h2⟩ | ⟨h1, h2⟩
    · exact hP1 j q h2
    · obtain ⟨g1, g2⟩ := apart i q h1 h2
      exact (hP i q h2).kept (hk q.1 g1 g2)
  · rcases key i p hp with ⟨a, h1, h2⟩ | ⟨h1, h2⟩ <;> rcases key j q hq with ⟨b, h3, h4⟩ | ⟨h3, h4⟩
    · have := hD1.1 a b p q h2 h4 hpq
      subst this
      exact Option.some.inj (h1.symm.trans h3)
    · exact absurd (by rw [← hpq]; exact hD1.2 a p h2) (apart j q h3 h4).2
    · exact absurd (by rw [hpq]; exact hD1.2 b q h4) (apart i p h1 h2).2
    · exact hD.1 i j p q h2 h4 hpq
  · rcases key i q hq with ⟨j, -, h2⟩ | ⟨h1, h2⟩
    · exact hF q.1 (hD1.2 j q h2)
    · exact hD.2 i q h2
theorem sub_map {ws ws' : va_W} (is : List Nat) (hs : is.map (fun i => ws[i]?) = ws'.map some) : is.filterMap (fun i => ws[i]?) = ws' := by
  have h1 : is.filterMap (fun i => ws[i]?) = (is.map (fun i => ws[i]?)).filterMap id := by rw [List.filterMap_map]; rfl
  rw [h1, hs, List.filterMap_map]
  simp
/-- what a call of an own method needs of the tables -/
def InV (own : String) (idx : Nat) (y : MethodName) (bytes : ByteArray) (mL : Nat) (rt : Option FieldType) (na : Nat) : Prop :=
  Cond.methodLink own idx y ∈ tblG ∧ Cond.instanceMethod y ∈ tblG ∧ Cond.selects y.cls y y ∈ tblG ∧ Cond.initialized y.cls ∈ tblG ∧ Cond.code y bytes mL rt ∈ tblG ∧ (y.cls ≠ "java/lang/invoke/MethodHandle" ∧ y.cls ≠ "java/lang/invoke/VarHandle" ∧ (parseMethodDescriptor y.desc).map (fun d => d.parameters.length) = some na)
def InS (own : String) (idx : Nat) (y : MethodName) (bytes : ByteArray) (mL : Nat) (rt : Option FieldType) (na : Nat) : Prop :=
  Cond.methodLink own idx y ∈ tblG ∧ Cond.static y ∈ tblG ∧ Cond.initialized y.cls ∈ tblG ∧ Cond.code y bytes mL rt ∈ tblG ∧ (y.cls ≠ "java/lang/invoke/MethodHandle" ∧ y.cls ≠ "java/lang/invoke/VarHandle" ∧ (parseMethodDescriptor y.desc).map (fun d => d.parameters.length) = some na)
theorem good_cons {b : Cond} (hb : b ∈ tblG) : GoodIn tblG (b :: tblG) := by
  intro w hw
  rcases List.mem_cons.mp hw with rfl | h
  · exact ⟨hb, tblG_good _ hb⟩
  · exact ⟨h, tblG_good _ h⟩
section VCalls
variable {κ : Ctx} {l : Launch} {D : va_G} {cA : Nat → ClassId} {R : Room} {cc : ByteArray} {nL : Nat} {own : String} {ret : Option FieldType} {k n : Nat} {pc : Nat} {lv : List (Nat × Value)} {stk rest : List Value} {ws : va_W}
theorem z_iret {v : Int32} (hE : EnI κ D cA v ws) (hdg : decode cc pc = .ok (.ireturn, 1)) : V κ l D cA R cc nL own (some .int) 0 0 pc lv [.int v] ws := by
  obtain ⟨p, e, s, m, ar, below, meth, c, A, Q⟩ := κ
  intro K H locs ls hl hP hD hS
  have hE : Q = _ := hE
  subst hE
  exact W.iret (v := v) K.1 K.2.1 K.2.2.2.2.2.1 (fun t ht hW => ⟨⟨v, (), rfl, rfl, by rw [ht]; exact hP, va_K.moved hW.alike K.2.2.2.2.2.2.2.1, hD⟩, hS.F ht⟩) hS.2.2 hdg K.2.2.2.2.2.2.1
theorem z_zret {α : Type} {v : Int32} {a : Option α} {r : α} (hdg : decode cc pc = .ok (.ireturn, 1)) (hf : (if v = 0 ∨ v = 1 then a else none) = some r) (hE : a = some r → EnI κ D cA v ws) : V κ l D cA R cc nL own (some .boolean) 0 0 pc lv [.int v] ws := by
  by_cases hz : v = 0 ∨ v = 1
  · rw [if_pos hz] at hf
    have hE := hE hf
    obtain ⟨p, e, s, m, ar, below, meth, c, A, Q⟩ := κ
    intro K H locs ls hl hP hD hS
    have hE : Q = _ := hE
    subst hE
    exact W.zret (v := v) K.1 K.2.1 K.2.2.2.2.2.1 (by rcases hz with rfl | rfl <;> rfl) (fun t ht hW => ⟨⟨v, (), rfl, rfl, by rw [ht]; exact hP, va_K.moved hW.alike K.2.2.2.2.2.2.2.1, hD⟩, hS.F ht⟩) hS.2.2 hdg K.2.2.2.2.2.2.1
  · rw [if_neg hz] at hf; cases hf
theorem z_zretL {v : Int32} (hz : v = 0 ∨ v = 1) (hE : EnI κ D cA v ws) (hdg : decode cc pc = .ok (.ireturn, 1)) : V κ l D cA R cc nL own (some .boolean) 0 0 pc lv [.int v] ws :=
  z_zret (α := Unit) (a := some ()) (r := ()) hdg (if_pos hz) (fun _ => hE)
theorem z_vret (hE : EnV κ D cA ws) (hdg : decode cc pc = .ok (.return_, 1)) : V κ l D cA R cc nL own none 0 0 pc lv [] ws := by
  obtain ⟨p, e, s, m, ar, below, meth, c, A, Q⟩ := κ
  intro K H locs ls hl hP hD hS
  have hE : Q = _ := hE
  subst hE
  exact W.vret K.1 K.2.1 K.2.2.2.2.2.1 (fun t ht hW => ⟨⟨(), rfl, trivial, by rw [ht]; exact hP, va_K.moved hW.alike K.2.2.2.2.2.2.2.1, hD⟩, hS.F ht⟩) hS.2.2 hdg K.2.2.2.2.2.2.1
variable {y : MethodName} {bytes : ByteArray} {mL na idx : Nat} {rt : Option FieldType} {rm : Room} {ws0 ws1 ws' : va_W} {As : List Value} {b : Nat} {r : Int32}
theorem z_calliV (hM : CtI l y (Cond.code y bytes mL rt :: tblG) rm D cA ws0 (.ref b :: As) r ws1) (hI : InV own idx y bytes mL rt na) (hrc : rm.cells = 0 ∧ rm.slots = 0) (hR : rm.frames + 1 ≤ R.frames ∧ 8 + (mL + 11) + rm.locals ≤ R.locals) (hna : As.length = na) (hkn : k ≤ R.cells ∧ n ≤ R.slots)
    {ci N : Nat} {T : u_T} {fs : List Value} (hrv : ws0[0]? = some (b, .inr (ci, fs))) (hci : vwCl[ci]? = some (y.cls, T, N)) (isC : List Nat) (hC : isC.map (fun i => ws[i]?) = ws0.map some) (hnd : va_nd isC = true) (hle : ws0.length = ws1.length) (hw : putc ws isC ws1 = ws') (hstk : stk = As.reverse ++ .ref b :: rest) (hrm : (rest.map fun v => v.category).sum ≤ 8) (hdg : decode cc pc = .ok (.invokevirtual idx, 3))
    (h : V κ l D cA R cc nL own ret k n (pc + 3) lv (.int r :: rest) ws') : V κ l D cA R cc nL own ret k n pc lv stk ws := by
  obtain ⟨p, e, s, m, ar, below, meth, c, A, Q⟩ := κ
  intro K H locs ls hl hP hD hS
  obtain ⟨hx, hb, hml, hown, htg, hr, hlocks, hK, hA⟩ := id K
  subst hw; subst hstk
  have hPc := hP.sub (ws' := ws0) isC (sub_map isC hC)
  have hDc := hD.sub (ws' := ws0) isC hnd hC
  have hFc := va_free (wc := ws0) hD hS hA isC hC
  refine va_calli (va_runV (As := As) (rest := rest) ⟨hx, hb, hml, hown, htg⟩ (hM H.size) ⟨callB_of na htg (good_cons hI.2.2.2.2.1) rfl hrc.1 hrc.2 (htg _ hI.2.2.2.1) (htg _ hI.1) hI.2.2.2.2.2 hR, htg _ hI.2.1, htg _ hI.2.2.1⟩ ⟨fun a U g mk q => by obtain ⟨q0, q1, qP, qK, qD⟩ := q; exact ⟨q0, q1, qP, va_K.moved (u := U) (U := U.calling g mk a) (Vm.Alike.refl U.vm) qK, qD⟩, va_recv hK hPc hci hrv, fun U hU hW => ⟨rfl, by rw [hU], by rw [hU]; exact hPc, va_K.moved hW.alike hK, hDc.weaken (fun _ _ _ _ => trivial)⟩⟩ rfl hna hl.1 rfl (lv_room hrm) hdg ⟨by simpa using hkn.1, by simpa using hkn.2⟩) hS (fun q _ h => hFc q h) hFc (fun r1 u t H1 locs ht hvm hw hB hz1 hk1 hS => ?_)
  obtain ⟨hP1, hK1, hD1⟩ := hB
  rw [ht] at hP1
  obtain ⟨hP, hD⟩ := put_join hP hD isC hC hnd hle hk1 hFc hP1 hD1
  subst hw
  exact h K H1 locs ls hl hP hD hS
theorem z_callvV (hM : CtV l y (Cond.code y bytes mL none :: tblG) rm D cA ws0 (.ref b :: As) ws1) (hI : InV own idx y bytes mL none na) (hrc : rm.cells = 0 ∧ rm.slots = 0) (hR : rm.frames + 1 ≤ R.frames ∧ 8 + (mL + 11) + rm.locals ≤ R.locals) (hna : As.length = na) (hkn : k ≤ R.cells ∧ n ≤ R.slots)
    {ci N : Nat} {T : u_T} {fs : List Value} (hrv : ws0[0]? = some (b, .inr (ci, fs))) (hci : vwCl[ci]? = some (y.cls, T, N)) (isC : List Nat) (hC : isC.map (fun i => ws[i]?) = ws0.map some) (hnd : va_nd isC = true) (hle : ws0.length = ws1.length) (hw : putc ws isC ws1 = ws') (hstk : stk = As.reverse ++ .ref b :: rest) (hrm : (rest.map fun v => v.category).sum ≤ 8) (hdg : decode cc pc = .ok (.invokevirtual idx, 3))
    (h : V κ l D cA R cc nL own ret k n (pc + 3) lv rest ws') : V κ l D cA R cc nL own ret k n pc lv stk ws := by
  obtain ⟨p, e, s, m, ar, below, meth, c, A, Q⟩ := κ
  intro K H locs ls hl hP hD hS
  obtain ⟨hx, hb, hml, hown, htg, hr, hlocks, hK, hA⟩ := id K
  subst hw; subst hstk
  have hPc := hP.sub (ws' := ws0) isC (sub_map isC hC)
  have hDc := hD.sub (ws' := ws0) isC hnd hC
  have hFc := va_free (wc := ws0) hD hS hA isC hC
  refine va_callv (va_runV (As := As) (rest := rest) ⟨hx, hb, hml, hown, htg⟩ (hM H.size) ⟨callB_of na htg (good_cons hI.2.2.2.2.1) rfl hrc.1 hrc.2 (htg _ hI.2.2.2.1) (htg _ hI.1) hI.2.2.2.2.2 hR, htg _ hI.2.1, htg _ hI.2.2.1⟩ ⟨fun a U g mk q => by obtain ⟨q0, q1, qP, qK, qD⟩ := q; exact ⟨q0, q1, qP, va_K.moved (u := U) (U := U.calling g mk a) (Vm.Alike.refl U.vm) qK, qD⟩, va_recv hK hPc hci hrv, fun U hU hW => ⟨rfl, by rw [hU], by rw [hU]; exact hPc, va_K.moved hW.alike hK, hDc.weaken (fun _ _ _ _ => trivial)⟩⟩ rfl hna hl.1 rfl (lv_room hrm) hdg ⟨by simpa using hkn.1, by simpa using hkn.2⟩) hS (fun q _ h => hFc q h) hFc (fun u t H1 locs ht hvm hw hB hz1 hk1 hS => ?_)
  obtain ⟨hP1, hK1, hD1⟩ := hB
  rw [ht] at hP1
  obtain ⟨hP, hD⟩ := put_join hP hD isC hC hnd hle hk1 hFc hP1 hD1
  exact h K H1 locs ls hl hP hD hS
theorem z_calliS (hM : CtI l y (Cond.code y bytes mL rt :: tblG) rm D cA ws0 As r ws1) (hI : InS own idx y bytes mL rt na) (hrc : rm.cells = 0 ∧ rm.slots = 0) (hR : rm.frames + 1 ≤ R.frames ∧ 8 + (mL + 11) + rm.locals ≤ R.locals) (hna : As.length = na) (hkn : k ≤ R.cells ∧ n ≤ R.slots)
    (isC : List Nat) (hC : isC.map (fun i => ws[i]?) = ws0.map some) (hnd : va_nd isC = true) (hle : ws0.length = ws1.length) (hw : putc ws isC ws1 = ws') (hstk : stk = As.reverse ++ rest) (hrm : (rest.map fun v => v.category).sum ≤ 8) (hdg : decode cc pc = .ok (.invokestatic idx, 3))
    (h : V κ l D cA R cc nL own ret k n (pc + 3) lv (.int r :: rest) ws') : V κ l D cA R cc nL own ret k n pc lv stk ws := by
  obtain ⟨p, e, s, m, ar, below, meth, c, A, Q⟩ := κ
  intro K H locs ls hl hP hD hS
  obtain ⟨hx, hb, hml, hown, htg, hr, hlocks, hK, hA⟩ := id K
  subst hw; subst hstk
  have hPc := hP.sub (ws' := ws0) isC (sub_map isC hC)
  have hDc := hD.sub (ws' := ws0) isC hnd hC
  have hFc := va_free (wc := ws0) hD hS hA isC hC
  refine va_calli (va_runS (As := As) (rest := rest) ⟨hx, hb, hml, hown, htg⟩ (hM H.size) ⟨callB_of na htg (good_cons hI.2.2.2.1) rfl hrc.1 hrc.2 (htg _ hI.2.2.1) (htg _ hI.1) hI.2.2.2.2 hR, htg _ hI.2.1⟩ ⟨fun a U g mk q => by obtain ⟨q0, q1, qP, qK, qD⟩ := q; exact ⟨q0, q1, qP, va_K.moved (u := U) (U := U.calling g mk a) (Vm.Alike.refl U.vm) qK, qD⟩, fun U hU hW => ⟨rfl, by rw [hU], by rw [hU]; exact hPc, va_K.moved hW.alike hK, hDc.weaken (fun _ _ _ _ => trivial)⟩⟩ rfl hna hl.1 rfl (lv_room hrm) hdg ⟨by simpa using hkn.1, by simpa using hkn.2⟩) hS (fun q _ h => hFc q h) hFc (fun r1 u t H1 locs ht hvm hw hB hz1 hk1 hS => ?_)
  obtain ⟨hP1, hK1, hD1⟩ := hB
  rw [ht] at hP1
  obtain ⟨hP, hD⟩ := put_join hP hD isC hC hnd hle hk1 hFc hP1 hD1
  subst hw
  exact h K H1 locs ls hl hP hD hS
end VCalls
end
section
theorem flX0_9 : Cond.fieldLink RX0 9 "RouterPaths$Grid" "side" "I" ∈ tblG := List.mem_filter.mpr ⟨List.mem_of_getElem? (i := 71) (by decide +kernel), rfl⟩
theorem flX0_22 : Cond.fieldLink RX0 22 "RouterPaths$Grid" "targets" "[I" ∈ tblG := List.mem_filter.mpr ⟨List.mem_of_getElem? (i := 76) (by decide +kernel), rfl⟩
theorem mlX0_38 : Cond.methodLink RX0 38 yX0_placeOf ∈ tblG := List.mem_filter.mpr ⟨List.mem_of_getElem? (i := 462) (by decide +kernel), rfl⟩
theorem imX0_placeOf : Cond.instanceMethod yX0_placeOf ∈ tblG := List.mem_filter.mpr ⟨List.mem_of_getElem? (i := 337) (by decide +kernel), rfl⟩
theorem seX0_placeOf : Cond.selects RX0 yX0_placeOf yX0_placeOf ∈ tblG := List.mem_filter.mpr ⟨List.mem_of_getElem? (i := 338) (by decide +kernel), rfl⟩
theorem iniX0 : Cond.initialized RX0 ∈ tblG := List.mem_filter.mpr ⟨List.mem_of_getElem? (i := 38) (by decide +kernel), rfl⟩
set_option maxRecDepth 100000 in
theorem cdX0_placeOf : Cond.code yX0_placeOf cX0_placeOf 3 (some .int) ∈ tblG := List.mem_filter.mpr ⟨List.mem_of_getElem? (i := 339) (rfl), rfl⟩
theorem ivX0_38 : InV RX0 38 yX0_placeOf cX0_placeOf 3 (some .int) 2 := ⟨mlX0_38, imX0_placeOf, seX0_placeOf, iniX0, cdX0_placeOf, by decide +kernel⟩
theorem flX0_25 : Cond.fieldLink RX0 25 "RouterPaths$Grid" "kept" "[Z" ∈ tblG := List.mem_filter.mpr ⟨List.mem_of_getElem? (i := 78) (by decide +kernel), rfl⟩
theorem flX0_15 : Cond.fieldLink RX0 15 "RouterPaths$Grid" "cells" "I" ∈ tblG := List.mem_filter.mpr ⟨List.mem_of_getElem? (i := 72) (by decide +kernel), rfl⟩
theorem flX0_18 : Cond.fieldLink RX0 18 "RouterPaths$Grid" "heights" "[I" ∈ tblG := List.mem_filter.mpr ⟨List.mem_of_getElem? (i := 73) (by decide +kernel), rfl⟩
theorem mlX0_42 : Cond.methodLink RX0 42 yX0_isOff ∈ tblG := List.mem_filter.mpr ⟨List.mem_of_getElem? (i := 601) (by decide +kernel), rfl⟩
theorem imX0_isOff : Cond.instanceMethod yX0_isOff ∈ tblG := List.mem_filter.mpr ⟨List.mem_of_getElem? (i := 603) (by decide +kernel), rfl⟩
theorem seX0_isOff : Cond.selects RX0 yX0_isOff yX0_isOff ∈ tblG := List.mem_filter.mpr ⟨List.mem_of_getElem? (i := 18) (by decide +kernel), rfl⟩
set_option maxRecDepth 100000 in
theorem cdX0_isOff : Cond.code yX0_isOff cX0_isOff 3 (some .boolean) ∈ tblG := List.mem_filter.mpr ⟨List.mem_of_getElem? (i := 604) (rfl), rfl⟩
theorem ivX0_42 : InV RX0 42 yX0_isOff cX0_isOff 3 (some .boolean) 2 := ⟨mlX0_42, imX0_isOff, seX0_isOff, iniX0, cdX0_isOff, by decide +kernel⟩
theorem flX0_35 : Cond.fieldLink RX0 35 "RouterPaths$Grid" "discSize" "I" ∈ tblG := List.mem_filter.mpr ⟨List.mem_of_getElem? (i := 82) (by decide +kernel), rfl⟩
theorem flX0_46 : Cond.fieldLink RX0 46 "RouterPaths$Tool" "radius" "I" ∈ tblG := List.mem_filter.mpr ⟨List.mem_of_getElem? (i := 110) (by decide +kernel), rfl⟩
theorem mlX0_51 : Cond.methodLink RX0 51 Lib.Math.min.name ∈ tblG := List.mem_filter.mpr ⟨List.mem_of_getElem? (i := 547) (by decide +kernel), rfl⟩
theorem mst_min : Cond.static Lib.Math.min.name ∈ tblG := List.mem_filter.mpr ⟨List.mem_of_getElem? (i := 60) (by decide +kernel), rfl⟩
theorem mini : Cond.initialized "java/lang/Math" ∈ tblG := List.mem_filter.mpr ⟨List.mem_of_getElem? (i := 37) (by decide +kernel), rfl⟩
set_option maxRecDepth 100000 in
theorem mcd_min : Cond.code Lib.Math.min.name Lib.Math.min.code 2 (some .int) ∈ tblG := List.mem_filter.mpr ⟨List.mem_of_getElem? (i := 61) (rfl), rfl⟩
theorem mlX0_56 : Cond.methodLink RX0 56 Lib.Math.max.name ∈ tblG := List.mem_filter.mpr ⟨List.mem_of_getElem? (i := 548) (by decide +kernel), rfl⟩
theorem mst_max : Cond.static Lib.Math.max.name ∈ tblG := List.mem_filter.mpr ⟨List.mem_of_getElem? (i := 63) (by decide +kernel), rfl⟩
set_option maxRecDepth 100000 in
theorem mcd_max : Cond.code Lib.Math.max.name Lib.Math.max.code 2 (some .int) ∈ tblG := List.mem_filter.mpr ⟨List.mem_of_getElem? (i := 64) (rfl), rfl⟩
theorem flX0_59 : Cond.fieldLink RX0 59 "RouterPaths$Tool" "halfWidths" "[I" ∈ tblG := List.mem_filter.mpr ⟨List.mem_of_getElem? (i := 114) (by decide +kernel), rfl⟩
theorem mlX0_62 : Cond.methodLink RX0 62 Lib.Math.abs.name ∈ tblG := List.mem_filter.mpr ⟨List.mem_of_getElem? (i := 549) (by decide +kernel), rfl⟩
theorem mst_abs : Cond.static Lib.Math.abs.name ∈ tblG := List.mem_filter.mpr ⟨List.mem_of_getElem? (i := 534) (by decide +kernel), rfl⟩
set_option maxRecDepth 100000 in
theorem mcd_abs : Cond.code Lib.Math.abs.name Lib.Math.abs.code 1 (some .int) ∈ tblG := List.mem_filter.mpr ⟨List.mem_of_getElem? (i := 535) (rfl), rfl⟩
theorem flX0_32 : Cond.fieldLink RX0 32 "RouterPaths$Grid" "disc" "[I" ∈ tblG := List.mem_filter.mpr ⟨List.mem_of_getElem? (i := 81) (by decide +kernel), rfl⟩
theorem flX0_29 : Cond.fieldLink RX0 29 "RouterPaths$Grid" "marks" "[Z" ∈ tblG := List.mem_filter.mpr ⟨List.mem_of_getElem? (i := 80) (by decide +kernel), rfl⟩
theorem mlX0_66 : Cond.methodLink RX0 66 yX0_layDisc ∈ tblG := List.mem_filter.mpr ⟨List.mem_of_getElem? (i := 620) (by decide +kernel), rfl⟩
theorem imX0_layDisc : Cond.instanceMethod yX0_layDisc ∈ tblG := List.mem_filter.mpr ⟨List.mem_of_getElem? (i := 544) (by decide +kernel), rfl⟩
theorem seX0_layDisc : Cond.selects RX0 yX0_layDisc yX0_layDisc ∈ tblG := List.mem_filter.mpr ⟨List.mem_of_getElem? (i := 545) (by decide +kernel), rfl⟩
set_option maxRecDepth 100000 in
theorem cdX0_layDisc : Cond.code yX0_layDisc cX0_layDisc 9 none ∈ tblG := List.mem_filter.mpr ⟨List.mem_of_getElem? (i := 546) (rfl), rfl⟩
theorem ivX0_66 : InV RX0 66 yX0_layDisc cX0_layDisc 9 none 3 := ⟨mlX0_66, imX0_layDisc, seX0_layDisc, iniX0, cdX0_layDisc, by decide +kernel⟩
theorem mlX0_70 : Cond.methodLink RX0 70 yX0_discHasKept ∈ tblG := List.mem_filter.mpr ⟨List.mem_of_getElem? (i := 621) (by decide +kernel), rfl⟩
theorem imX0_discHasKept : Cond.instanceMethod yX0_discHasKept ∈ tblG := List.mem_filter.mpr ⟨List.mem_of_getElem? (i := 623) (by decide +kernel), rfl⟩
theorem seX0_discHasKept : Cond.selects RX0 yX0_discHasKept yX0_discHasKept ∈ tblG := List.mem_filter.mpr ⟨List.mem_of_getElem? (i := 19) (by decide +kernel), rfl⟩
set_option maxRecDepth 100000 in
theorem cdX0_discHasKept : Cond.code yX0_discHasKept cX0_discHasKept 2 (some .boolean) ∈ tblG := List.mem_filter.mpr ⟨List.mem_of_getElem? (i := 624) (rfl), rfl⟩
theorem ivX0_70 : InV RX0 70 yX0_discHasKept cX0_discHasKept 2 (some .boolean) 0 := ⟨mlX0_70, imX0_discHasKept, seX0_discHasKept, iniX0, cdX0_discHasKept, by decide +kernel⟩
theorem mlX0_74 : Cond.methodLink RX0 74 yX0_highestTargetInDisc ∈ tblG := List.mem_filter.mpr ⟨List.mem_of_getElem? (i := 625) (by decide +kernel), rfl⟩
theorem imX0_highestTargetInDisc : Cond.instanceMethod yX0_highestTargetInDisc ∈ tblG := List.mem_filter.mpr ⟨List.mem_of_getElem? (i := 627) (by decide +kernel), rfl⟩
theorem seX0_highestTargetInDisc : Cond.selects RX0 yX0_highestTargetInDisc yX0_highestTargetInDisc ∈ tblG := List.mem_filter.mpr ⟨List.mem_of_getElem? (i := 20) (by decide +kernel), rfl⟩
set_option maxRecDepth 100000 in
theorem cdX0_highestTargetInDisc : Cond.code yX0_highestTargetInDisc cX0_highestTargetInDisc 3 (some .int) ∈ tblG := List.mem_filter.mpr ⟨List.mem_of_getElem? (i := 628) (rfl), rfl⟩
theorem ivX0_74 : InV RX0 74 yX0_highestTargetInDisc cX0_highestTargetInDisc 3 (some .int) 0 := ⟨mlX0_74, imX0_highestTargetInDisc, seX0_highestTargetInDisc, iniX0, cdX0_highestTargetInDisc, by decide +kernel⟩
theorem mlX0_78 : Cond.methodLink RX0 78 yX0_markReached ∈ tblG := List.mem_filter.mpr ⟨List.mem_of_getElem? (i := 629) (by decide +kernel), rfl⟩
theorem imX0_markReached : Cond.instanceMethod yX0_markReached ∈ tblG := List.mem_filter.mpr ⟨List.mem_of_getElem? (i := 631) (by decide +kernel), rfl⟩
theorem seX0_markReached : Cond.selects RX0 yX0_markReached yX0_markReached ∈ tblG := List.mem_filter.mpr ⟨List.mem_of_getElem? (i := 21) (by decide +kernel), rfl⟩
set_option maxRecDepth 100000 in
theorem cdX0_markReached : Cond.code yX0_markReached cX0_markReached 5 (some .int) ∈ tblG := List.mem_filter.mpr ⟨List.mem_of_getElem? (i := 632) (rfl), rfl⟩
theorem ivX0_78 : InV RX0 78 yX0_markReached cX0_markReached 5 (some .int) 1 := ⟨mlX0_78, imX0_markReached, seX0_markReached, iniX0, cdX0_markReached, by decide +kernel⟩
theorem flX5_9 : Cond.fieldLink RX5 9 "RouterPaths$Tool" "radius" "I" ∈ tblG := List.mem_filter.mpr ⟨List.mem_of_getElem? (i := 109) (by decide +kernel), rfl⟩
theorem flX5_15 : Cond.fieldLink RX5 15 "RouterPaths$Tool" "feed" "I" ∈ tblG := List.mem_filter.mpr ⟨List.mem_of_getElem? (i := 111) (by decide +kernel), rfl⟩
theorem flX5_18 : Cond.fieldLink RX5 18 "RouterPaths$Tool" "halfWidths" "[I" ∈ tblG := List.mem_filter.mpr ⟨List.mem_of_getElem? (i := 113) (by decide +kernel), rfl⟩
theorem mlX5_22 : Cond.methodLink RX5 22 yX5_halfWidthAt ∈ tblG := List.mem_filter.mpr ⟨List.mem_of_getElem? (i := 491) (by decide +kernel), rfl⟩
theorem stX5_halfWidthAt : Cond.static yX5_halfWidthAt ∈ tblG := List.mem_filter.mpr ⟨List.mem_of_getElem? (i := 492) (by decide +kernel), rfl⟩
theorem iniX5 : Cond.initialized RX5 ∈ tblG := List.mem_filter.mpr ⟨List.mem_of_getElem? (i := 39) (by decide +kernel), rfl⟩
set_option maxRecDepth 100000 in
theorem cdX5_halfWidthAt : Cond.code yX5_halfWidthAt cX5_halfWidthAt 4 (some .int) ∈ tblG := List.mem_filter.mpr ⟨List.mem_of_getElem? (i := 493) (rfl), rfl⟩
theorem ivX5_22 : InS RX5 22 yX5_halfWidthAt cX5_halfWidthAt 4 (some .int) 2 := ⟨mlX5_22, stX5_halfWidthAt, iniX5, cdX5_halfWidthAt, by decide +kernel⟩
theorem flX3_9 : Cond.fieldLink RX3 9 "RouterPaths$Program" "count" "I" ∈ tblG := List.mem_filter.mpr ⟨List.mem_of_getElem? (i := 214) (by decide +kernel), rfl⟩
theorem flX3_15 : Cond.fieldLink RX3 15 "RouterPaths$Program" "letters" "[C" ∈ tblG := List.mem_filter.mpr ⟨List.mem_of_getElem? (i := 218) (by decide +kernel), rfl⟩
theorem flX3_19 : Cond.fieldLink RX3 19 "RouterPaths$Program" "digits" "[I" ∈ tblG := List.mem_filter.mpr ⟨List.mem_of_getElem? (i := 220) (by decide +kernel), rfl⟩
theorem flX3_23 : Cond.fieldLink RX3 23 "RouterPaths$Program" "xs" "[I" ∈ tblG := List.mem_filter.mpr ⟨List.mem_of_getElem? (i := 222) (by decide +kernel), rfl⟩
theorem flX3_26 : Cond.fieldLink RX3 26 "RouterPaths$Program" "ys" "[I" ∈ tblG := List.mem_filter.mpr ⟨List.mem_of_getElem? (i := 224) (by decide +kernel), rfl⟩
theorem flX3_29 : Cond.fieldLink RX3 29 "RouterPaths$Program" "zs" "[I" ∈ tblG := List.mem_filter.mpr ⟨List.mem_of_getElem? (i := 226) (by decide +kernel), rfl⟩
theorem mlX2_38 : Cond.methodLink RX2 38 yX0_holds ∈ tblG := List.mem_filter.mpr ⟨List.mem_of_getElem? (i := 332) (by decide +kernel), rfl⟩
theorem imX0_holds : Cond.instanceMethod yX0_holds ∈ tblG := List.mem_filter.mpr ⟨List.mem_of_getElem? (i := 333) (by decide +kernel), rfl⟩
theorem seX0_holds : Cond.selects RX0 yX0_holds yX0_holds ∈ tblG := List.mem_filter.mpr ⟨List.mem_of_getElem? (i := 334) (by decide +kernel), rfl⟩
set_option maxRecDepth 100000 in
theorem cdX0_holds : Cond.code yX0_holds cX0_holds 3 (some .boolean) ∈ tblG := List.mem_filter.mpr ⟨List.mem_of_getElem? (i := 335) (rfl), rfl⟩
theorem ivX2_38 : InV RX2 38 yX0_holds cX0_holds 3 (some .boolean) 2 := ⟨mlX2_38, imX0_holds, seX0_holds, iniX0, cdX0_holds, by decide +kernel⟩
theorem flX2_27 : Cond.fieldLink RX2 27 "RouterPaths$PieceCounter" "queued" "I" ∈ tblG := List.mem_filter.mpr ⟨List.mem_of_getElem? (i := 194) (by decide +kernel), rfl⟩
theorem flX2_13 : Cond.fieldLink RX2 13 "RouterPaths$PieceCounter" "cells" "I" ∈ tblG := List.mem_filter.mpr ⟨List.mem_of_getElem? (i := 190) (by decide +kernel), rfl⟩
theorem mlX2_44 : Cond.methodLink RX2 44 yX0_placeOf ∈ tblG := List.mem_filter.mpr ⟨List.mem_of_getElem? (i := 336) (by decide +kernel), rfl⟩
theorem ivX2_44 : InV RX2 44 yX0_placeOf cX0_placeOf 3 (some .int) 2 := ⟨mlX2_44, imX0_placeOf, seX0_placeOf, iniX0, cdX0_placeOf, by decide +kernel⟩
theorem flX2_16 : Cond.fieldLink RX2 16 "RouterPaths$PieceCounter" "taken" "[Z" ∈ tblG := List.mem_filter.mpr ⟨List.mem_of_getElem? (i := 191) (by decide +kernel), rfl⟩
theorem flX2_48 : Cond.fieldLink RX2 48 "RouterPaths$Grid" "heights" "[I" ∈ tblG := List.mem_filter.mpr ⟨List.mem_of_getElem? (i := 74) (by decide +kernel), rfl⟩
theorem flX2_20 : Cond.fieldLink RX2 20 "RouterPaths$PieceCounter" "queueX" "[I" ∈ tblG := List.mem_filter.mpr ⟨List.mem_of_getElem? (i := 192) (by decide +kernel), rfl⟩
theorem flX2_24 : Cond.fieldLink RX2 24 "RouterPaths$PieceCounter" "queueY" "[I" ∈ tblG := List.mem_filter.mpr ⟨List.mem_of_getElem? (i := 193) (by decide +kernel), rfl⟩
theorem mlX2_30 : Cond.methodLink RX2 30 yX2_take ∈ tblG := List.mem_filter.mpr ⟨List.mem_of_getElem? (i := 328) (by decide +kernel), rfl⟩
theorem imX2_take : Cond.instanceMethod yX2_take ∈ tblG := List.mem_filter.mpr ⟨List.mem_of_getElem? (i := 330) (by decide +kernel), rfl⟩
theorem seX2_take : Cond.selects RX2 yX2_take yX2_take ∈ tblG := List.mem_filter.mpr ⟨List.mem_of_getElem? (i := 9) (by decide +kernel), rfl⟩
theorem iniX2 : Cond.initialized RX2 ∈ tblG := List.mem_filter.mpr ⟨List.mem_of_getElem? (i := 42) (by decide +kernel), rfl⟩
set_option maxRecDepth 100000 in
theorem cdX2_take : Cond.code yX2_take cX2_take 5 none ∈ tblG := List.mem_filter.mpr ⟨List.mem_of_getElem? (i := 331) (rfl), rfl⟩
theorem ivX2_30 : InV RX2 30 yX2_take cX2_take 5 none 3 := ⟨mlX2_30, imX2_take, seX2_take, iniX2, cdX2_take, by decide +kernel⟩
theorem flX2_7 : Cond.fieldLink RX2 7 "RouterPaths$PieceCounter" "side" "I" ∈ tblG := List.mem_filter.mpr ⟨List.mem_of_getElem? (i := 189) (by decide +kernel), rfl⟩
theorem mlX2_34 : Cond.methodLink RX2 34 yX2_spread ∈ tblG := List.mem_filter.mpr ⟨List.mem_of_getElem? (i := 340) (by decide +kernel), rfl⟩
theorem imX2_spread : Cond.instanceMethod yX2_spread ∈ tblG := List.mem_filter.mpr ⟨List.mem_of_getElem? (i := 342) (by decide +kernel), rfl⟩
theorem seX2_spread : Cond.selects RX2 yX2_spread yX2_spread ∈ tblG := List.mem_filter.mpr ⟨List.mem_of_getElem? (i := 10) (by decide +kernel), rfl⟩
set_option maxRecDepth 100000 in
theorem cdX2_spread : Cond.code yX2_spread cX2_spread 6 none ∈ tblG := List.mem_filter.mpr ⟨List.mem_of_getElem? (i := 343) (rfl), rfl⟩
theorem ivX2_34 : InV RX2 34 yX2_spread cX2_spread 6 none 2 := ⟨mlX2_34, imX2_spread, seX2_spread, iniX2, cdX2_spread, by decide +kernel⟩
theorem flX4_19 : Cond.fieldLink RX4 19 "RouterPaths$Reader" "length" "I" ∈ tblG := List.mem_filter.mpr ⟨List.mem_of_getElem? (i := 130) (by decide +kernel), rfl⟩
theorem flX4_15 : Cond.fieldLink RX4 15 "RouterPaths$Reader" "text" "[I" ∈ tblG := List.mem_filter.mpr ⟨List.mem_of_getElem? (i := 129) (by decide +kernel), rfl⟩
theorem flX4_22 : Cond.fieldLink RX4 22 "RouterPaths$Reader" "place" "I" ∈ tblG := List.mem_filter.mpr ⟨List.mem_of_getElem? (i := 131) (by decide +kernel), rfl⟩
theorem mlX4_40 : Cond.methodLink RX4 40 yX4_here ∈ tblG := List.mem_filter.mpr ⟨List.mem_of_getElem? (i := 292) (by decide +kernel), rfl⟩
theorem imX4_here : Cond.instanceMethod yX4_here ∈ tblG := List.mem_filter.mpr ⟨List.mem_of_getElem? (i := 294) (by decide +kernel), rfl⟩
theorem seX4_here : Cond.selects RX4 yX4_here yX4_here ∈ tblG := List.mem_filter.mpr ⟨List.mem_of_getElem? (i := 3) (by decide +kernel), rfl⟩
theorem iniX4 : Cond.initialized RX4 ∈ tblG := List.mem_filter.mpr ⟨List.mem_of_getElem? (i := 40) (by decide +kernel), rfl⟩
set_option maxRecDepth 100000 in
theorem cdX4_here : Cond.code yX4_here cX4_here 1 (some .int) ∈ tblG := List.mem_filter.mpr ⟨List.mem_of_getElem? (i := 295) (rfl), rfl⟩
theorem ivX4_40 : InV RX4 40 yX4_here cX4_here 1 (some .int) 0 := ⟨mlX4_40, imX4_here, seX4_here, iniX4, cdX4_here, by decide +kernel⟩
theorem mlX4_37 : Cond.methodLink RX4 37 yX4_skipSpaces ∈ tblG := List.mem_filter.mpr ⟨List.mem_of_getElem? (i := 288) (by decide +kernel), rfl⟩
theorem imX4_skipSpaces : Cond.instanceMethod yX4_skipSpaces ∈ tblG := List.mem_filter.mpr ⟨List.mem_of_getElem? (i := 290) (by decide +kernel), rfl⟩
theorem seX4_skipSpaces : Cond.selects RX4 yX4_skipSpaces yX4_skipSpaces ∈ tblG := List.mem_filter.mpr ⟨List.mem_of_getElem? (i := 2) (by decide +kernel), rfl⟩
set_option maxRecDepth 100000 in
theorem cdX4_skipSpaces : Cond.code yX4_skipSpaces cX4_skipSpaces 1 none ∈ tblG := List.mem_filter.mpr ⟨List.mem_of_getElem? (i := 291) (rfl), rfl⟩
theorem ivX4_37 : InV RX4 37 yX4_skipSpaces cX4_skipSpaces 1 none 0 := ⟨mlX4_37, imX4_skipSpaces, seX4_skipSpaces, iniX4, cdX4_skipSpaces, by decide +kernel⟩
theorem mlX4_50 : Cond.methodLink RX4 50 yX4_takeDigit ∈ tblG := List.mem_filter.mpr ⟨List.mem_of_getElem? (i := 300) (by decide +kernel), rfl⟩
theorem imX4_takeDigit : Cond.instanceMethod yX4_takeDigit ∈ tblG := List.mem_filter.mpr ⟨List.mem_of_getElem? (i := 302) (by decide +kernel), rfl⟩
theorem seX4_takeDigit : Cond.selects RX4 yX4_takeDigit yX4_takeDigit ∈ tblG := List.mem_filter.mpr ⟨List.mem_of_getElem? (i := 5) (by decide +kernel), rfl⟩
set_option maxRecDepth 100000 in
theorem cdX4_takeDigit : Cond.code yX4_takeDigit cX4_takeDigit 3 (some .int) ∈ tblG := List.mem_filter.mpr ⟨List.mem_of_getElem? (i := 303) (rfl), rfl⟩
theorem ivX4_50 : InV RX4 50 yX4_takeDigit cX4_takeDigit 3 (some .int) 1 := ⟨mlX4_50, imX4_takeDigit, seX4_takeDigit, iniX4, cdX4_takeDigit, by decide +kernel⟩
theorem mlX4_54 : Cond.methodLink RX4 54 yX4_takeEnd ∈ tblG := List.mem_filter.mpr ⟨List.mem_of_getElem? (i := 304) (by decide +kernel), rfl⟩
theorem imX4_takeEnd : Cond.instanceMethod yX4_takeEnd ∈ tblG := List.mem_filter.mpr ⟨List.mem_of_getElem? (i := 306) (by decide +kernel), rfl⟩
theorem seX4_takeEnd : Cond.selects RX4 yX4_takeEnd yX4_takeEnd ∈ tblG := List.mem_filter.mpr ⟨List.mem_of_getElem? (i := 6) (by decide +kernel), rfl⟩
set_option maxRecDepth 100000 in
theorem cdX4_takeEnd : Cond.code yX4_takeEnd cX4_takeEnd 1 (some .boolean) ∈ tblG := List.mem_filter.mpr ⟨List.mem_of_getElem? (i := 307) (rfl), rfl⟩
theorem ivX4_54 : InV RX4 54 yX4_takeEnd cX4_takeEnd 1 (some .boolean) 0 := ⟨mlX4_54, imX4_takeEnd, seX4_takeEnd, iniX4, cdX4_takeEnd, by decide +kernel⟩
theorem mlX4_58 : Cond.methodLink RX4 58 yX3_add ∈ tblG := List.mem_filter.mpr ⟨List.mem_of_getElem? (i := 308) (by decide +kernel), rfl⟩
theorem imX3_add : Cond.instanceMethod yX3_add ∈ tblG := List.mem_filter.mpr ⟨List.mem_of_getElem? (i := 309) (by decide +kernel), rfl⟩
theorem seX3_add : Cond.selects RX3 yX3_add yX3_add ∈ tblG := List.mem_filter.mpr ⟨List.mem_of_getElem? (i := 310) (by decide +kernel), rfl⟩
theorem iniX3 : Cond.initialized RX3 ∈ tblG := List.mem_filter.mpr ⟨List.mem_of_getElem? (i := 43) (by decide +kernel), rfl⟩
set_option maxRecDepth 100000 in
theorem cdX3_add : Cond.code yX3_add cX3_add 6 none ∈ tblG := List.mem_filter.mpr ⟨List.mem_of_getElem? (i := 311) (rfl), rfl⟩
theorem ivX4_58 : InV RX4 58 yX3_add cX3_add 6 none 5 := ⟨mlX4_58, imX3_add, seX3_add, iniX3, cdX3_add, by decide +kernel⟩
theorem flX4_9 : Cond.fieldLink RX4 9 "RouterPaths$Reader" "side" "I" ∈ tblG := List.mem_filter.mpr ⟨List.mem_of_getElem? (i := 128) (by decide +kernel), rfl⟩
theorem mlX4_62 : Cond.methodLink RX4 62 yX4_takeNumber ∈ tblG := List.mem_filter.mpr ⟨List.mem_of_getElem? (i := 316) (by decide +kernel), rfl⟩
theorem imX4_takeNumber : Cond.instanceMethod yX4_takeNumber ∈ tblG := List.mem_filter.mpr ⟨List.mem_of_getElem? (i := 318) (by decide +kernel), rfl⟩
theorem seX4_takeNumber : Cond.selects RX4 yX4_takeNumber yX4_takeNumber ∈ tblG := List.mem_filter.mpr ⟨List.mem_of_getElem? (i := 8) (by decide +kernel), rfl⟩
set_option maxRecDepth 100000 in
theorem cdX4_takeNumber : Cond.code yX4_takeNumber cX4_takeNumber 6 (some .int) ∈ tblG := List.mem_filter.mpr ⟨List.mem_of_getElem? (i := 319) (rfl), rfl⟩
theorem ivX4_62 : InV RX4 62 yX4_takeNumber cX4_takeNumber 6 (some .int) 2 := ⟨mlX4_62, imX4_takeNumber, seX4_takeNumber, iniX4, cdX4_takeNumber, by decide +kernel⟩
theorem mlX4_47 : Cond.methodLink RX4 47 yX4_takeMove ∈ tblG := List.mem_filter.mpr ⟨List.mem_of_getElem? (i := 312) (by decide +kernel), rfl⟩
theorem imX4_takeMove : Cond.instanceMethod yX4_takeMove ∈ tblG := List.mem_filter.mpr ⟨List.mem_of_getElem? (i := 314) (by decide +kernel), rfl⟩
theorem seX4_takeMove : Cond.selects RX4 yX4_takeMove yX4_takeMove ∈ tblG := List.mem_filter.mpr ⟨List.mem_of_getElem? (i := 7) (by decide +kernel), rfl⟩
set_option maxRecDepth 100000 in
theorem cdX4_takeMove : Cond.code yX4_takeMove cX4_takeMove 7 (some .boolean) ∈ tblG := List.mem_filter.mpr ⟨List.mem_of_getElem? (i := 315) (rfl), rfl⟩
theorem ivX4_47 : InV RX4 47 yX4_takeMove cX4_takeMove 7 (some .boolean) 1 := ⟨mlX4_47, imX4_takeMove, seX4_takeMove, iniX4, cdX4_takeMove, by decide +kernel⟩
theorem mlX4_44 : Cond.methodLink RX4 44 yX4_takeChange ∈ tblG := List.mem_filter.mpr ⟨List.mem_of_getElem? (i := 296) (by decide +kernel), rfl⟩
theorem imX4_takeChange : Cond.instanceMethod yX4_takeChange ∈ tblG := List.mem_filter.mpr ⟨List.mem_of_getElem? (i := 298) (by decide +kernel), rfl⟩
theorem seX4_takeChange : Cond.selects RX4 yX4_takeChange yX4_takeChange ∈ tblG := List.mem_filter.mpr ⟨List.mem_of_getElem? (i := 4) (by decide +kernel), rfl⟩
set_option maxRecDepth 100000 in
theorem cdX4_takeChange : Cond.code yX4_takeChange cX4_takeChange 3 (some .boolean) ∈ tblG := List.mem_filter.mpr ⟨List.mem_of_getElem? (i := 299) (rfl), rfl⟩
theorem ivX4_44 : InV RX4 44 yX4_takeChange cX4_takeChange 3 (some .boolean) 1 := ⟨mlX4_44, imX4_takeChange, seX4_takeChange, iniX4, cdX4_takeChange, by decide +kernel⟩
theorem mlX4_25 : Cond.methodLink RX4 25 yX3_clear ∈ tblG := List.mem_filter.mpr ⟨List.mem_of_getElem? (i := 280) (by decide +kernel), rfl⟩
theorem imX3_clear : Cond.instanceMethod yX3_clear ∈ tblG := List.mem_filter.mpr ⟨List.mem_of_getElem? (i := 281) (by decide +kernel), rfl⟩
theorem seX3_clear : Cond.selects RX3 yX3_clear yX3_clear ∈ tblG := List.mem_filter.mpr ⟨List.mem_of_getElem? (i := 282) (by decide +kernel), rfl⟩
set_option maxRecDepth 100000 in
theorem cdX3_clear : Cond.code yX3_clear cX3_clear 1 none ∈ tblG := List.mem_filter.mpr ⟨List.mem_of_getElem? (i := 283) (rfl), rfl⟩
theorem ivX4_25 : InV RX4 25 yX3_clear cX3_clear 1 none 0 := ⟨mlX4_25, imX3_clear, seX3_clear, iniX3, cdX3_clear, by decide +kernel⟩
theorem mlX4_30 : Cond.methodLink RX4 30 yX4_takeStatement ∈ tblG := List.mem_filter.mpr ⟨List.mem_of_getElem? (i := 284) (by decide +kernel), rfl⟩
theorem imX4_takeStatement : Cond.instanceMethod yX4_takeStatement ∈ tblG := List.mem_filter.mpr ⟨List.mem_of_getElem? (i := 286) (by decide +kernel), rfl⟩
theorem seX4_takeStatement : Cond.selects RX4 yX4_takeStatement yX4_takeStatement ∈ tblG := List.mem_filter.mpr ⟨List.mem_of_getElem? (i := 1) (by decide +kernel), rfl⟩
set_option maxRecDepth 100000 in
theorem cdX4_takeStatement : Cond.code yX4_takeStatement cX4_takeStatement 2 (some .boolean) ∈ tblG := List.mem_filter.mpr ⟨List.mem_of_getElem? (i := 287) (rfl), rfl⟩
theorem ivX4_30 : InV RX4 30 yX4_takeStatement cX4_takeStatement 2 (some .boolean) 1 := ⟨mlX4_30, imX4_takeStatement, seX4_takeStatement, iniX4, cdX4_takeStatement, by decide +kernel⟩
theorem flX4_34 : Cond.fieldLink RX4 34 "RouterPaths$Program" "count" "I" ∈ tblG := List.mem_filter.mpr ⟨List.mem_of_getElem? (i := 216) (by decide +kernel), rfl⟩
theorem flX1_18 : Cond.fieldLink RX1 18 "RouterPaths$Machine" "time" "I" ∈ tblG := List.mem_filter.mpr ⟨List.mem_of_getElem? (i := 153) (by decide +kernel), rfl⟩
theorem flX1_22 : Cond.fieldLink RX1 22 "RouterPaths$Machine" "ended" "I" ∈ tblG := List.mem_filter.mpr ⟨List.mem_of_getElem? (i := 155) (by decide +kernel), rfl⟩
theorem flX1_25 : Cond.fieldLink RX1 25 "RouterPaths$Machine" "x" "I" ∈ tblG := List.mem_filter.mpr ⟨List.mem_of_getElem? (i := 157) (by decide +kernel), rfl⟩
theorem flX1_28 : Cond.fieldLink RX1 28 "RouterPaths$Machine" "y" "I" ∈ tblG := List.mem_filter.mpr ⟨List.mem_of_getElem? (i := 159) (by decide +kernel), rfl⟩
theorem flX1_31 : Cond.fieldLink RX1 31 "RouterPaths$Machine" "z" "I" ∈ tblG := List.mem_filter.mpr ⟨List.mem_of_getElem? (i := 161) (by decide +kernel), rfl⟩
theorem flX1_34 : Cond.fieldLink RX1 34 "RouterPaths$Machine" "cut" "I" ∈ tblG := List.mem_filter.mpr ⟨List.mem_of_getElem? (i := 163) (by decide +kernel), rfl⟩
theorem flX1_37 : Cond.fieldLink RX1 37 "RouterPaths$Machine" "held" "I" ∈ tblG := List.mem_filter.mpr ⟨List.mem_of_getElem? (i := 165) (by decide +kernel), rfl⟩
theorem mlX1_101 : Cond.methodLink RX1 101 yJm_floorDiv ∈ tblG := List.mem_filter.mpr ⟨List.mem_of_getElem? (i := 540) (by decide +kernel), rfl⟩
theorem stJm_floorDiv : Cond.static yJm_floorDiv ∈ tblG := List.mem_filter.mpr ⟨List.mem_of_getElem? (i := 541) (by decide +kernel), rfl⟩
theorem iniJm : Cond.initialized RJm ∈ tblG := List.mem_filter.mpr ⟨List.mem_of_getElem? (i := 37) (by decide +kernel), rfl⟩
set_option maxRecDepth 100000 in
theorem cdJm_floorDiv : Cond.code yJm_floorDiv cJm_floorDiv 3 (some .int) ∈ tblG := List.mem_filter.mpr ⟨List.mem_of_getElem? (i := 542) (rfl), rfl⟩
theorem ivX1_101 : InS RX1 101 yJm_floorDiv cJm_floorDiv 3 (some .int) 2 := ⟨mlX1_101, stJm_floorDiv, iniJm, cdJm_floorDiv, by decide +kernel⟩
theorem mlX1_104 : Cond.methodLink RX1 104 yX0_discHasKeptAbove ∈ tblG := List.mem_filter.mpr ⟨List.mem_of_getElem? (i := 554) (by decide +kernel), rfl⟩
theorem imX0_discHasKeptAbove : Cond.instanceMethod yX0_discHasKeptAbove ∈ tblG := List.mem_filter.mpr ⟨List.mem_of_getElem? (i := 555) (by decide +kernel), rfl⟩
theorem seX0_discHasKeptAbove : Cond.selects RX0 yX0_discHasKeptAbove yX0_discHasKeptAbove ∈ tblG := List.mem_filter.mpr ⟨List.mem_of_getElem? (i := 556) (by decide +kernel), rfl⟩
set_option maxRecDepth 100000 in
theorem cdX0_discHasKeptAbove : Cond.code yX0_discHasKeptAbove cX0_discHasKeptAbove 3 (some .boolean) ∈ tblG := List.mem_filter.mpr ⟨List.mem_of_getElem? (i := 557) (rfl), rfl⟩
theorem ivX1_104 : InV RX1 104 yX0_discHasKeptAbove cX0_discHasKeptAbove 3 (some .boolean) 1 := ⟨mlX1_104, imX0_discHasKeptAbove, seX0_discHasKeptAbove, iniX0, cdX0_discHasKeptAbove, by decide +kernel⟩
theorem mlX1_108 : Cond.methodLink RX1 108 yX0_lowerDisc ∈ tblG := List.mem_filter.mpr ⟨List.mem_of_getElem? (i := 558) (by decide +kernel), rfl⟩
theorem imX0_lowerDisc : Cond.instanceMethod yX0_lowerDisc ∈ tblG := List.mem_filter.mpr ⟨List.mem_of_getElem? (i := 559) (by decide +kernel), rfl⟩
theorem seX0_lowerDisc : Cond.selects RX0 yX0_lowerDisc yX0_lowerDisc ∈ tblG := List.mem_filter.mpr ⟨List.mem_of_getElem? (i := 560) (by decide +kernel), rfl⟩
set_option maxRecDepth 100000 in
theorem cdX0_lowerDisc : Cond.code yX0_lowerDisc cX0_lowerDisc 4 (some .int) ∈ tblG := List.mem_filter.mpr ⟨List.mem_of_getElem? (i := 561) (rfl), rfl⟩
theorem ivX1_108 : InV RX1 108 yX0_lowerDisc cX0_lowerDisc 4 (some .int) 1 := ⟨mlX1_108, imX0_lowerDisc, seX0_lowerDisc, iniX0, cdX0_lowerDisc, by decide +kernel⟩
theorem flX1_111 : Cond.fieldLink RX1 111 "RouterPaths$Tool" "feed" "I" ∈ tblG := List.mem_filter.mpr ⟨List.mem_of_getElem? (i := 112) (by decide +kernel), rfl⟩
theorem mlX1_116 : Cond.methodLink RX1 116 yX0_discRisesAbove ∈ tblG := List.mem_filter.mpr ⟨List.mem_of_getElem? (i := 566) (by decide +kernel), rfl⟩
theorem imX0_discRisesAbove : Cond.instanceMethod yX0_discRisesAbove ∈ tblG := List.mem_filter.mpr ⟨List.mem_of_getElem? (i := 567) (by decide +kernel), rfl⟩
theorem seX0_discRisesAbove : Cond.selects RX0 yX0_discRisesAbove yX0_discRisesAbove ∈ tblG := List.mem_filter.mpr ⟨List.mem_of_getElem? (i := 568) (by decide +kernel), rfl⟩
set_option maxRecDepth 100000 in
theorem cdX0_discRisesAbove : Cond.code yX0_discRisesAbove cX0_discRisesAbove 3 (some .boolean) ∈ tblG := List.mem_filter.mpr ⟨List.mem_of_getElem? (i := 569) (rfl), rfl⟩
theorem ivX1_116 : InV RX1 116 yX0_discRisesAbove cX0_discRisesAbove 3 (some .boolean) 1 := ⟨mlX1_116, imX0_discRisesAbove, seX0_discRisesAbove, iniX0, cdX0_discRisesAbove, by decide +kernel⟩
theorem mlX1_74 : Cond.methodLink RX1 74 Lib.Math.abs.name ∈ tblG := List.mem_filter.mpr ⟨List.mem_of_getElem? (i := 533) (by decide +kernel), rfl⟩
theorem mlX1_80 : Cond.methodLink RX1 80 Lib.Math.max.name ∈ tblG := List.mem_filter.mpr ⟨List.mem_of_getElem? (i := 536) (by decide +kernel), rfl⟩
theorem mlX1_83 : Cond.methodLink RX1 83 yX1_along ∈ tblG := List.mem_filter.mpr ⟨List.mem_of_getElem? (i := 537) (by decide +kernel), rfl⟩
theorem stX1_along : Cond.static yX1_along ∈ tblG := List.mem_filter.mpr ⟨List.mem_of_getElem? (i := 538) (by decide +kernel), rfl⟩
theorem iniX1 : Cond.initialized RX1 ∈ tblG := List.mem_filter.mpr ⟨List.mem_of_getElem? (i := 41) (by decide +kernel), rfl⟩
set_option maxRecDepth 100000 in
theorem cdX1_along : Cond.code yX1_along cX1_along 4 (some .int) ∈ tblG := List.mem_filter.mpr ⟨List.mem_of_getElem? (i := 539) (rfl), rfl⟩
theorem ivX1_83 : InS RX1 83 yX1_along cX1_along 4 (some .int) 4 := ⟨mlX1_83, stX1_along, iniX1, cdX1_along, by decide +kernel⟩
theorem mlX1_87 : Cond.methodLink RX1 87 yX0_layDisc ∈ tblG := List.mem_filter.mpr ⟨List.mem_of_getElem? (i := 543) (by decide +kernel), rfl⟩
theorem ivX1_87 : InV RX1 87 yX0_layDisc cX0_layDisc 9 none 3 := ⟨mlX1_87, imX0_layDisc, seX0_layDisc, iniX0, cdX0_layDisc, by decide +kernel⟩
theorem mlX1_97 : Cond.methodLink RX1 97 yX1_passHere ∈ tblG := List.mem_filter.mpr ⟨List.mem_of_getElem? (i := 562) (by decide +kernel), rfl⟩
theorem imX1_passHere : Cond.instanceMethod yX1_passHere ∈ tblG := List.mem_filter.mpr ⟨List.mem_of_getElem? (i := 564) (by decide +kernel), rfl⟩
theorem seX1_passHere : Cond.selects RX1 yX1_passHere yX1_passHere ∈ tblG := List.mem_filter.mpr ⟨List.mem_of_getElem? (i := 17) (by decide +kernel), rfl⟩
set_option maxRecDepth 100000 in
theorem cdX1_passHere : Cond.code yX1_passHere cX1_passHere 2 (some .int) ∈ tblG := List.mem_filter.mpr ⟨List.mem_of_getElem? (i := 565) (rfl), rfl⟩
theorem ivX1_97 : InV RX1 97 yX1_passHere cX1_passHere 2 (some .int) 1 := ⟨mlX1_97, imX1_passHere, seX1_passHere, iniX1, cdX1_passHere, by decide +kernel⟩
theorem mlX1_93 : Cond.methodLink RX1 93 yX1_cutHere ∈ tblG := List.mem_filter.mpr ⟨List.mem_of_getElem? (i := 550) (by decide +kernel), rfl⟩
theorem imX1_cutHere : Cond.instanceMethod yX1_cutHere ∈ tblG := List.mem_filter.mpr ⟨List.mem_of_getElem? (i := 552) (by decide +kernel), rfl⟩
theorem seX1_cutHere : Cond.selects RX1 yX1_cutHere yX1_cutHere ∈ tblG := List.mem_filter.mpr ⟨List.mem_of_getElem? (i := 16) (by decide +kernel), rfl⟩
set_option maxRecDepth 100000 in
theorem cdX1_cutHere : Cond.code yX1_cutHere cX1_cutHere 3 (some .int) ∈ tblG := List.mem_filter.mpr ⟨List.mem_of_getElem? (i := 553) (rfl), rfl⟩
theorem ivX1_93 : InV RX1 93 yX1_cutHere cX1_cutHere 3 (some .int) 2 := ⟨mlX1_93, imX1_cutHere, seX1_cutHere, iniX1, cdX1_cutHere, by decide +kernel⟩
theorem flX1_49 : Cond.fieldLink RX1 49 "RouterPaths$Program" "letters" "[C" ∈ tblG := List.mem_filter.mpr ⟨List.mem_of_getElem? (i := 219) (by decide +kernel), rfl⟩
theorem flX1_57 : Cond.fieldLink RX1 57 "RouterPaths$Program" "xs" "[I" ∈ tblG := List.mem_filter.mpr ⟨List.mem_of_getElem? (i := 223) (by decide +kernel), rfl⟩
theorem mlX1_60 : Cond.methodLink RX1 60 yX1_difference ∈ tblG := List.mem_filter.mpr ⟨List.mem_of_getElem? (i := 526) (by decide +kernel), rfl⟩
theorem stX1_difference : Cond.static yX1_difference ∈ tblG := List.mem_filter.mpr ⟨List.mem_of_getElem? (i := 527) (by decide +kernel), rfl⟩
set_option maxRecDepth 100000 in
theorem cdX1_difference : Cond.code yX1_difference cX1_difference 2 (some .int) ∈ tblG := List.mem_filter.mpr ⟨List.mem_of_getElem? (i := 528) (rfl), rfl⟩
theorem ivX1_60 : InS RX1 60 yX1_difference cX1_difference 2 (some .int) 2 := ⟨mlX1_60, stX1_difference, iniX1, cdX1_difference, by decide +kernel⟩
theorem flX1_64 : Cond.fieldLink RX1 64 "RouterPaths$Program" "ys" "[I" ∈ tblG := List.mem_filter.mpr ⟨List.mem_of_getElem? (i := 225) (by decide +kernel), rfl⟩
theorem flX1_67 : Cond.fieldLink RX1 67 "RouterPaths$Program" "zs" "[I" ∈ tblG := List.mem_filter.mpr ⟨List.mem_of_getElem? (i := 227) (by decide +kernel), rfl⟩
theorem flX1_53 : Cond.fieldLink RX1 53 "RouterPaths$Program" "digits" "[I" ∈ tblG := List.mem_filter.mpr ⟨List.mem_of_getElem? (i := 221) (by decide +kernel), rfl⟩
theorem mlX1_70 : Cond.methodLink RX1 70 yX1_travel ∈ tblG := List.mem_filter.mpr ⟨List.mem_of_getElem? (i := 529) (by decide +kernel), rfl⟩
theorem imX1_travel : Cond.instanceMethod yX1_travel ∈ tblG := List.mem_filter.mpr ⟨List.mem_of_getElem? (i := 531) (by decide +kernel), rfl⟩
theorem seX1_travel : Cond.selects RX1 yX1_travel yX1_travel ∈ tblG := List.mem_filter.mpr ⟨List.mem_of_getElem? (i := 15) (by decide +kernel), rfl⟩
set_option maxRecDepth 100000 in
theorem cdX1_travel : Cond.code yX1_travel cX1_travel 13 (some .int) ∈ tblG := List.mem_filter.mpr ⟨List.mem_of_getElem? (i := 532) (rfl), rfl⟩
theorem ivX1_70 : InV RX1 70 yX1_travel cX1_travel 13 (some .int) 6 := ⟨mlX1_70, imX1_travel, seX1_travel, iniX1, cdX1_travel, by decide +kernel⟩
theorem mlX1_15 : Cond.methodLink RX1 15 yX1_startAnew ∈ tblG := List.mem_filter.mpr ⟨List.mem_of_getElem? (i := 147) (by decide +kernel), rfl⟩
theorem imX1_startAnew : Cond.instanceMethod yX1_startAnew ∈ tblG := List.mem_filter.mpr ⟨List.mem_of_getElem? (i := 149) (by decide +kernel), rfl⟩
theorem seX1_startAnew : Cond.selects RX1 yX1_startAnew yX1_startAnew ∈ tblG := List.mem_filter.mpr ⟨List.mem_of_getElem? (i := 0) (by decide +kernel), rfl⟩
set_option maxRecDepth 100000 in
theorem cdX1_startAnew : Cond.code yX1_startAnew cX1_startAnew 1 none ∈ tblG := List.mem_filter.mpr ⟨List.mem_of_getElem? (i := 150) (rfl), rfl⟩
theorem ivX1_15 : InV RX1 15 yX1_startAnew cX1_startAnew 1 none 0 := ⟨mlX1_15, imX1_startAnew, seX1_startAnew, iniX1, cdX1_startAnew, by decide +kernel⟩
theorem flX1_9 : Cond.fieldLink RX1 9 "RouterPaths$Machine" "hasRun" "Z" ∈ tblG := List.mem_filter.mpr ⟨List.mem_of_getElem? (i := 151) (by decide +kernel), rfl⟩
theorem flX1_40 : Cond.fieldLink RX1 40 "RouterPaths$Program" "count" "I" ∈ tblG := List.mem_filter.mpr ⟨List.mem_of_getElem? (i := 215) (by decide +kernel), rfl⟩
theorem mlX1_45 : Cond.methodLink RX1 45 yX1_obey ∈ tblG := List.mem_filter.mpr ⟨List.mem_of_getElem? (i := 522) (by decide +kernel), rfl⟩
theorem imX1_obey : Cond.instanceMethod yX1_obey ∈ tblG := List.mem_filter.mpr ⟨List.mem_of_getElem? (i := 524) (by decide +kernel), rfl⟩
theorem seX1_obey : Cond.selects RX1 yX1_obey yX1_obey ∈ tblG := List.mem_filter.mpr ⟨List.mem_of_getElem? (i := 14) (by decide +kernel), rfl⟩
set_option maxRecDepth 100000 in
theorem cdX1_obey : Cond.code yX1_obey cX1_obey 8 (some .int) ∈ tblG := List.mem_filter.mpr ⟨List.mem_of_getElem? (i := 525) (rfl), rfl⟩
theorem ivX1_45 : InV RX1 45 yX1_obey cX1_obey 8 (some .int) 4 := ⟨mlX1_45, imX1_obey, seX1_obey, iniX1, cdX1_obey, by decide +kernel⟩
theorem flX6_37 : Cond.fieldLink RX6 37 "RouterPaths" "reader" "LRouterPaths$Reader;" ∈ tblG := List.mem_filter.mpr ⟨List.mem_of_getElem? (i := 244) (by decide +kernel), rfl⟩
theorem mlX6_95 : Cond.methodLink RX6 95 yX4_append ∈ tblG := List.mem_filter.mpr ⟨List.mem_of_getElem? (i := 268) (by decide +kernel), rfl⟩
theorem imX4_append : Cond.instanceMethod yX4_append ∈ tblG := List.mem_filter.mpr ⟨List.mem_of_getElem? (i := 269) (by decide +kernel), rfl⟩
theorem seX4_append : Cond.selects RX4 yX4_append yX4_append ∈ tblG := List.mem_filter.mpr ⟨List.mem_of_getElem? (i := 270) (by decide +kernel), rfl⟩
set_option maxRecDepth 100000 in
theorem cdX4_append : Cond.code yX4_append cX4_append 2 (some .boolean) ∈ tblG := List.mem_filter.mpr ⟨List.mem_of_getElem? (i := 271) (rfl), rfl⟩
theorem ivX6_95 : InV RX6 95 yX4_append cX4_append 2 (some .boolean) 1 := ⟨mlX6_95, imX4_append, seX4_append, iniX4, cdX4_append, by decide +kernel⟩
theorem flX6_62 : Cond.fieldLink RX6 62 "RouterPaths" "draft" "LRouterPaths$Program;" ∈ tblG := List.mem_filter.mpr ⟨List.mem_of_getElem? (i := 248) (by decide +kernel), rfl⟩
theorem mlX6_99 : Cond.methodLink RX6 99 yX4_parse ∈ tblG := List.mem_filter.mpr ⟨List.mem_of_getElem? (i := 276) (by decide +kernel), rfl⟩
theorem imX4_parse : Cond.instanceMethod yX4_parse ∈ tblG := List.mem_filter.mpr ⟨List.mem_of_getElem? (i := 277) (by decide +kernel), rfl⟩
theorem seX4_parse : Cond.selects RX4 yX4_parse yX4_parse ∈ tblG := List.mem_filter.mpr ⟨List.mem_of_getElem? (i := 278) (by decide +kernel), rfl⟩
set_option maxRecDepth 100000 in
theorem cdX4_parse : Cond.code yX4_parse cX4_parse 4 (some .int) ∈ tblG := List.mem_filter.mpr ⟨List.mem_of_getElem? (i := 279) (rfl), rfl⟩
theorem ivX6_99 : InV RX6 99 yX4_parse cX4_parse 4 (some .int) 1 := ⟨mlX6_99, imX4_parse, seX4_parse, iniX4, cdX4_parse, by decide +kernel⟩
theorem flX6_58 : Cond.fieldLink RX6 58 "RouterPaths" "program" "LRouterPaths$Program;" ∈ tblG := List.mem_filter.mpr ⟨List.mem_of_getElem? (i := 247) (by decide +kernel), rfl⟩
theorem flX6_51 : Cond.fieldLink RX6 51 "RouterPaths" "pieceCounter" "LRouterPaths$PieceCounter;" ∈ tblG := List.mem_filter.mpr ⟨List.mem_of_getElem? (i := 246) (by decide +kernel), rfl⟩
theorem flX6_23 : Cond.fieldLink RX6 23 "RouterPaths" "grid" "LRouterPaths$Grid;" ∈ tblG := List.mem_filter.mpr ⟨List.mem_of_getElem? (i := 242) (by decide +kernel), rfl⟩
theorem mlX6_171 : Cond.methodLink RX6 171 yX2_count ∈ tblG := List.mem_filter.mpr ⟨List.mem_of_getElem? (i := 324) (by decide +kernel), rfl⟩
theorem imX2_count : Cond.instanceMethod yX2_count ∈ tblG := List.mem_filter.mpr ⟨List.mem_of_getElem? (i := 325) (by decide +kernel), rfl⟩
theorem seX2_count : Cond.selects RX2 yX2_count yX2_count ∈ tblG := List.mem_filter.mpr ⟨List.mem_of_getElem? (i := 326) (by decide +kernel), rfl⟩
set_option maxRecDepth 100000 in
theorem cdX2_count : Cond.code yX2_count cX2_count 6 (some .int) ∈ tblG := List.mem_filter.mpr ⟨List.mem_of_getElem? (i := 327) (rfl), rfl⟩
theorem ivX6_171 : InV RX6 171 yX2_count cX2_count 6 (some .int) 1 := ⟨mlX6_171, imX2_count, seX2_count, iniX2, cdX2_count, by decide +kernel⟩
theorem mlX6_174 : Cond.methodLink RX6 174 yX0_fillUp ∈ tblG := List.mem_filter.mpr ⟨List.mem_of_getElem? (i := 348) (by decide +kernel), rfl⟩
theorem imX0_fillUp : Cond.instanceMethod yX0_fillUp ∈ tblG := List.mem_filter.mpr ⟨List.mem_of_getElem? (i := 349) (by decide +kernel), rfl⟩
theorem seX0_fillUp : Cond.selects RX0 yX0_fillUp yX0_fillUp ∈ tblG := List.mem_filter.mpr ⟨List.mem_of_getElem? (i := 350) (by decide +kernel), rfl⟩
set_option maxRecDepth 100000 in
theorem cdX0_fillUp : Cond.code yX0_fillUp cX0_fillUp 2 none ∈ tblG := List.mem_filter.mpr ⟨List.mem_of_getElem? (i := 351) (rfl), rfl⟩
theorem ivX6_174 : InV RX6 174 yX0_fillUp cX0_fillUp 2 none 0 := ⟨mlX6_174, imX0_fillUp, seX0_fillUp, iniX0, cdX0_fillUp, by decide +kernel⟩
theorem flX7_57 : Cond.fieldLink RX7 57 "RouterPathsModel" "thrown" "I" ∈ tblG := List.mem_filter.mpr ⟨List.mem_of_getElem? (i := 639) (by decide +kernel), rfl⟩
theorem flX7_53 : Cond.fieldLink RX7 53 "RouterPathsModel" "side" "I" ∈ tblG := List.mem_filter.mpr ⟨List.mem_of_getElem? (i := 640) (by decide +kernel), rfl⟩
theorem mlX7_60 : Cond.methodLink RX7 60 yX7_isIn ∈ tblG := List.mem_filter.mpr ⟨List.mem_of_getElem? (i := 717) (by decide +kernel), rfl⟩
theorem stX7_isIn : Cond.static yX7_isIn ∈ tblG := List.mem_filter.mpr ⟨List.mem_of_getElem? (i := 718) (by decide +kernel), rfl⟩
theorem iniX7 : Cond.initialized RX7 ∈ tblG := List.mem_filter.mpr ⟨List.mem_of_getElem? (i := 44) (by decide +kernel), rfl⟩
set_option maxRecDepth 100000 in
theorem cdX7_isIn : Cond.code yX7_isIn cX7_isIn 3 (some .boolean) ∈ tblG := List.mem_filter.mpr ⟨List.mem_of_getElem? (i := 719) (rfl), rfl⟩
theorem ivX7_60 : InS RX7 60 yX7_isIn cX7_isIn 3 (some .boolean) 3 := ⟨mlX7_60, stX7_isIn, iniX7, cdX7_isIn, by decide +kernel⟩
theorem mlX7_64 : Cond.methodLink RX7 64 yX7_isCell ∈ tblG := List.mem_filter.mpr ⟨List.mem_of_getElem? (i := 724) (by decide +kernel), rfl⟩
theorem imX7_isCell : Cond.instanceMethod yX7_isCell ∈ tblG := List.mem_filter.mpr ⟨List.mem_of_getElem? (i := 726) (by decide +kernel), rfl⟩
theorem seX7_isCell : Cond.selects RX7 yX7_isCell yX7_isCell ∈ tblG := List.mem_filter.mpr ⟨List.mem_of_getElem? (i := 23) (by decide +kernel), rfl⟩
set_option maxRecDepth 100000 in
theorem cdX7_isCell : Cond.code yX7_isCell cX7_isCell 3 (some .boolean) ∈ tblG := List.mem_filter.mpr ⟨List.mem_of_getElem? (i := 727) (rfl), rfl⟩
theorem ivX7_64 : InV RX7 64 yX7_isCell cX7_isCell 3 (some .boolean) 2 := ⟨mlX7_64, imX7_isCell, seX7_isCell, iniX7, cdX7_isCell, by decide +kernel⟩
theorem mlX7_68 : Cond.methodLink RX7 68 yX7_spanFault ∈ tblG := List.mem_filter.mpr ⟨List.mem_of_getElem? (i := 720) (by decide +kernel), rfl⟩
theorem imX7_spanFault : Cond.instanceMethod yX7_spanFault ∈ tblG := List.mem_filter.mpr ⟨List.mem_of_getElem? (i := 722) (by decide +kernel), rfl⟩
theorem seX7_spanFault : Cond.selects RX7 yX7_spanFault yX7_spanFault ∈ tblG := List.mem_filter.mpr ⟨List.mem_of_getElem? (i := 22) (by decide +kernel), rfl⟩
set_option maxRecDepth 100000 in
theorem cdX7_spanFault : Cond.code yX7_spanFault cX7_spanFault 6 (some .int) ∈ tblG := List.mem_filter.mpr ⟨List.mem_of_getElem? (i := 723) (rfl), rfl⟩
theorem ivX7_68 : InV RX7 68 yX7_spanFault cX7_spanFault 6 (some .int) 5 := ⟨mlX7_68, imX7_spanFault, seX7_spanFault, iniX7, cdX7_spanFault, by decide +kernel⟩
theorem flX7_13 : Cond.fieldLink RX7 13 "RouterPathsModel" "targets" "[I" ∈ tblG := List.mem_filter.mpr ⟨List.mem_of_getElem? (i := 642) (by decide +kernel), rfl⟩
theorem flX7_16 : Cond.fieldLink RX7 16 "RouterPathsModel" "kept" "[Z" ∈ tblG := List.mem_filter.mpr ⟨List.mem_of_getElem? (i := 643) (by decide +kernel), rfl⟩
theorem flX7_20 : Cond.fieldLink RX7 20 "RouterPathsModel" "radius" "[I" ∈ tblG := List.mem_filter.mpr ⟨List.mem_of_getElem? (i := 644) (by decide +kernel), rfl⟩
theorem flX7_23 : Cond.fieldLink RX7 23 "RouterPathsModel" "feeds" "[I" ∈ tblG := List.mem_filter.mpr ⟨List.mem_of_getElem? (i := 645) (by decide +kernel), rfl⟩
theorem flX7_26 : Cond.fieldLink RX7 26 "RouterPathsModel" "text" "[I" ∈ tblG := List.mem_filter.mpr ⟨List.mem_of_getElem? (i := 646) (by decide +kernel), rfl⟩
theorem flX7_72 : Cond.fieldLink RX7 72 "RouterPathsModel" "size" "I" ∈ tblG := List.mem_filter.mpr ⟨List.mem_of_getElem? (i := 647) (by decide +kernel), rfl⟩
theorem flX7_75 : Cond.fieldLink RX7 75 "RouterPathsModel" "at" "I" ∈ tblG := List.mem_filter.mpr ⟨List.mem_of_getElem? (i := 648) (by decide +kernel), rfl⟩
theorem flX7_78 : Cond.fieldLink RX7 78 "RouterPathsModel" "fault" "I" ∈ tblG := List.mem_filter.mpr ⟨List.mem_of_getElem? (i := 649) (by decide +kernel), rfl⟩
theorem mlX7_81 : Cond.methodLink RX7 81 yX7_now ∈ tblG := List.mem_filter.mpr ⟨List.mem_of_getElem? (i := 748) (by decide +kernel), rfl⟩
theorem imX7_now : Cond.instanceMethod yX7_now ∈ tblG := List.mem_filter.mpr ⟨List.mem_of_getElem? (i := 750) (by decide +kernel), rfl⟩
theorem seX7_now : Cond.selects RX7 yX7_now yX7_now ∈ tblG := List.mem_filter.mpr ⟨List.mem_of_getElem? (i := 25) (by decide +kernel), rfl⟩
set_option maxRecDepth 100000 in
theorem cdX7_now : Cond.code yX7_now cX7_now 1 (some .int) ∈ tblG := List.mem_filter.mpr ⟨List.mem_of_getElem? (i := 751) (rfl), rfl⟩
theorem ivX7_81 : InV RX7 81 yX7_now cX7_now 1 (some .int) 0 := ⟨mlX7_81, imX7_now, seX7_now, iniX7, cdX7_now, by decide +kernel⟩
theorem mlX7_85 : Cond.methodLink RX7 85 yX7_must ∈ tblG := List.mem_filter.mpr ⟨List.mem_of_getElem? (i := 756) (by decide +kernel), rfl⟩
theorem imX7_must : Cond.instanceMethod yX7_must ∈ tblG := List.mem_filter.mpr ⟨List.mem_of_getElem? (i := 758) (by decide +kernel), rfl⟩
theorem seX7_must : Cond.selects RX7 yX7_must yX7_must ∈ tblG := List.mem_filter.mpr ⟨List.mem_of_getElem? (i := 27) (by decide +kernel), rfl⟩
set_option maxRecDepth 100000 in
theorem cdX7_must : Cond.code yX7_must cX7_must 2 none ∈ tblG := List.mem_filter.mpr ⟨List.mem_of_getElem? (i := 759) (rfl), rfl⟩
theorem ivX7_85 : InV RX7 85 yX7_must cX7_must 2 none 1 := ⟨mlX7_85, imX7_must, seX7_must, iniX7, cdX7_must, by decide +kernel⟩
theorem mlX7_89 : Cond.methodLink RX7 89 yX7_digit ∈ tblG := List.mem_filter.mpr ⟨List.mem_of_getElem? (i := 760) (by decide +kernel), rfl⟩
theorem imX7_digit : Cond.instanceMethod yX7_digit ∈ tblG := List.mem_filter.mpr ⟨List.mem_of_getElem? (i := 762) (by decide +kernel), rfl⟩
theorem seX7_digit : Cond.selects RX7 yX7_digit yX7_digit ∈ tblG := List.mem_filter.mpr ⟨List.mem_of_getElem? (i := 28) (by decide +kernel), rfl⟩
set_option maxRecDepth 100000 in
theorem cdX7_digit : Cond.code yX7_digit cX7_digit 3 (some .int) ∈ tblG := List.mem_filter.mpr ⟨List.mem_of_getElem? (i := 763) (rfl), rfl⟩
theorem ivX7_89 : InV RX7 89 yX7_digit cX7_digit 3 (some .int) 1 := ⟨mlX7_89, imX7_digit, seX7_digit, iniX7, cdX7_digit, by decide +kernel⟩
theorem flX7_32 : Cond.fieldLink RX7 32 "RouterPathsModel" "draft" "[I" ∈ tblG := List.mem_filter.mpr ⟨List.mem_of_getElem? (i := 651) (by decide +kernel), rfl⟩
theorem mlX7_93 : Cond.methodLink RX7 93 yX7_spaces ∈ tblG := List.mem_filter.mpr ⟨List.mem_of_getElem? (i := 744) (by decide +kernel), rfl⟩
theorem imX7_spaces : Cond.instanceMethod yX7_spaces ∈ tblG := List.mem_filter.mpr ⟨List.mem_of_getElem? (i := 746) (by decide +kernel), rfl⟩
theorem seX7_spaces : Cond.selects RX7 yX7_spaces yX7_spaces ∈ tblG := List.mem_filter.mpr ⟨List.mem_of_getElem? (i := 24) (by decide +kernel), rfl⟩
set_option maxRecDepth 100000 in
theorem cdX7_spaces : Cond.code yX7_spaces cX7_spaces 1 none ∈ tblG := List.mem_filter.mpr ⟨List.mem_of_getElem? (i := 747) (rfl), rfl⟩
theorem ivX7_93 : InV RX7 93 yX7_spaces cX7_spaces 1 none 0 := ⟨mlX7_93, imX7_spaces, seX7_spaces, iniX7, cdX7_spaces, by decide +kernel⟩
theorem mlX7_96 : Cond.methodLink RX7 96 yX7_number ∈ tblG := List.mem_filter.mpr ⟨List.mem_of_getElem? (i := 764) (by decide +kernel), rfl⟩
theorem imX7_number : Cond.instanceMethod yX7_number ∈ tblG := List.mem_filter.mpr ⟨List.mem_of_getElem? (i := 766) (by decide +kernel), rfl⟩
theorem seX7_number : Cond.selects RX7 yX7_number yX7_number ∈ tblG := List.mem_filter.mpr ⟨List.mem_of_getElem? (i := 29) (by decide +kernel), rfl⟩
set_option maxRecDepth 100000 in
theorem cdX7_number : Cond.code yX7_number cX7_number 5 (some .int) ∈ tblG := List.mem_filter.mpr ⟨List.mem_of_getElem? (i := 767) (rfl), rfl⟩
theorem ivX7_96 : InV RX7 96 yX7_number cX7_number 5 (some .int) 1 := ⟨mlX7_96, imX7_number, seX7_number, iniX7, cdX7_number, by decide +kernel⟩
theorem flX7_103 : Cond.fieldLink RX7 103 "RouterPathsModel" "statements" "I" ∈ tblG := List.mem_filter.mpr ⟨List.mem_of_getElem? (i := 652) (by decide +kernel), rfl⟩
theorem flX7_106 : Cond.fieldLink RX7 106 "RouterPathsModel" "hasProgram" "Z" ∈ tblG := List.mem_filter.mpr ⟨List.mem_of_getElem? (i := 653) (by decide +kernel), rfl⟩
theorem flX7_29 : Cond.fieldLink RX7 29 "RouterPathsModel" "program" "[I" ∈ tblG := List.mem_filter.mpr ⟨List.mem_of_getElem? (i := 650) (by decide +kernel), rfl⟩
theorem mlX7_99 : Cond.methodLink RX7 99 yX7_statement ∈ tblG := List.mem_filter.mpr ⟨List.mem_of_getElem? (i := 752) (by decide +kernel), rfl⟩
theorem imX7_statement : Cond.instanceMethod yX7_statement ∈ tblG := List.mem_filter.mpr ⟨List.mem_of_getElem? (i := 754) (by decide +kernel), rfl⟩
theorem seX7_statement : Cond.selects RX7 yX7_statement yX7_statement ∈ tblG := List.mem_filter.mpr ⟨List.mem_of_getElem? (i := 26) (by decide +kernel), rfl⟩
set_option maxRecDepth 100000 in
theorem cdX7_statement : Cond.code yX7_statement cX7_statement 6 none ∈ tblG := List.mem_filter.mpr ⟨List.mem_of_getElem? (i := 755) (rfl), rfl⟩
theorem ivX7_99 : InV RX7 99 yX7_statement cX7_statement 6 none 1 := ⟨mlX7_99, imX7_statement, seX7_statement, iniX7, cdX7_statement, by decide +kernel⟩
theorem mlX7_110 : Cond.methodLink RX7 110 yX7_isNear ∈ tblG := List.mem_filter.mpr ⟨List.mem_of_getElem? (i := 787) (by decide +kernel), rfl⟩
theorem stX7_isNear : Cond.static yX7_isNear ∈ tblG := List.mem_filter.mpr ⟨List.mem_of_getElem? (i := 788) (by decide +kernel), rfl⟩
set_option maxRecDepth 100000 in
theorem cdX7_isNear : Cond.code yX7_isNear cX7_isNear 3 (some .boolean) ∈ tblG := List.mem_filter.mpr ⟨List.mem_of_getElem? (i := 789) (rfl), rfl⟩
theorem ivX7_110 : InS RX7 110 yX7_isNear cX7_isNear 3 (some .boolean) 3 := ⟨mlX7_110, stX7_isNear, iniX7, cdX7_isNear, by decide +kernel⟩
theorem flX7_38 : Cond.fieldLink RX7 38 "RouterPathsModel" "about" "[I" ∈ tblG := List.mem_filter.mpr ⟨List.mem_of_getElem? (i := 657) (by decide +kernel), rfl⟩
theorem flX7_113 : Cond.fieldLink RX7 113 "RouterPathsModel" "tool" "I" ∈ tblG := List.mem_filter.mpr ⟨List.mem_of_getElem? (i := 656) (by decide +kernel), rfl⟩
theorem mlX7_116 : Cond.methodLink RX7 116 yX7_isInDisc ∈ tblG := List.mem_filter.mpr ⟨List.mem_of_getElem? (i := 783) (by decide +kernel), rfl⟩
theorem imX7_isInDisc : Cond.instanceMethod yX7_isInDisc ∈ tblG := List.mem_filter.mpr ⟨List.mem_of_getElem? (i := 785) (by decide +kernel), rfl⟩
theorem seX7_isInDisc : Cond.selects RX7 yX7_isInDisc yX7_isInDisc ∈ tblG := List.mem_filter.mpr ⟨List.mem_of_getElem? (i := 32) (by decide +kernel), rfl⟩
set_option maxRecDepth 100000 in
theorem cdX7_isInDisc : Cond.code yX7_isInDisc cX7_isInDisc 5 (some .boolean) ∈ tblG := List.mem_filter.mpr ⟨List.mem_of_getElem? (i := 786) (rfl), rfl⟩
theorem ivX7_116 : InV RX7 116 yX7_isInDisc cX7_isInDisc 5 (some .boolean) 4 := ⟨mlX7_116, imX7_isInDisc, seX7_isInDisc, iniX7, cdX7_isInDisc, by decide +kernel⟩
theorem flX7_7 : Cond.fieldLink RX7 7 "RouterPathsModel" "heights" "[I" ∈ tblG := List.mem_filter.mpr ⟨List.mem_of_getElem? (i := 641) (by decide +kernel), rfl⟩
theorem flX7_35 : Cond.fieldLink RX7 35 "RouterPathsModel" "where" "[I" ∈ tblG := List.mem_filter.mpr ⟨List.mem_of_getElem? (i := 655) (by decide +kernel), rfl⟩
theorem mlX7_124 : Cond.methodLink RX7 124 yX7_step ∈ tblG := List.mem_filter.mpr ⟨List.mem_of_getElem? (i := 779) (by decide +kernel), rfl⟩
theorem imX7_step : Cond.instanceMethod yX7_step ∈ tblG := List.mem_filter.mpr ⟨List.mem_of_getElem? (i := 781) (by decide +kernel), rfl⟩
theorem seX7_step : Cond.selects RX7 yX7_step yX7_step ∈ tblG := List.mem_filter.mpr ⟨List.mem_of_getElem? (i := 31) (by decide +kernel), rfl⟩
set_option maxRecDepth 100000 in
theorem cdX7_step : Cond.code yX7_step cX7_step 9 (some .int) ∈ tblG := List.mem_filter.mpr ⟨List.mem_of_getElem? (i := 782) (rfl), rfl⟩
theorem ivX7_124 : InV RX7 124 yX7_step cX7_step 9 (some .int) 4 := ⟨mlX7_124, imX7_step, seX7_step, iniX7, cdX7_step, by decide +kernel⟩
theorem flX7_47 : Cond.fieldLink RX7 47 "RouterPathsModel" "begin" "[I" ∈ tblG := List.mem_filter.mpr ⟨List.mem_of_getElem? (i := 660) (by decide +kernel), rfl⟩
theorem flX7_50 : Cond.fieldLink RX7 50 "RouterPathsModel" "gap" "[I" ∈ tblG := List.mem_filter.mpr ⟨List.mem_of_getElem? (i := 661) (by decide +kernel), rfl⟩
theorem mlX7_120 : Cond.methodLink RX7 120 yX7_floor ∈ tblG := List.mem_filter.mpr ⟨List.mem_of_getElem? (i := 776) (by decide +kernel), rfl⟩
theorem stX7_floor : Cond.static yX7_floor ∈ tblG := List.mem_filter.mpr ⟨List.mem_of_getElem? (i := 777) (by decide +kernel), rfl⟩
set_option maxRecDepth 100000 in
theorem cdX7_floor : Cond.code yX7_floor cX7_floor 3 (some .int) ∈ tblG := List.mem_filter.mpr ⟨List.mem_of_getElem? (i := 778) (rfl), rfl⟩
theorem ivX7_120 : InS RX7 120 yX7_floor cX7_floor 3 (some .int) 2 := ⟨mlX7_120, stX7_floor, iniX7, cdX7_floor, by decide +kernel⟩
theorem flX7_128 : Cond.fieldLink RX7 128 "RouterPathsModel" "hasRun" "Z" ∈ tblG := List.mem_filter.mpr ⟨List.mem_of_getElem? (i := 654) (by decide +kernel), rfl⟩
theorem mlX7_131 : Cond.methodLink RX7 131 yX7_go ∈ tblG := List.mem_filter.mpr ⟨List.mem_of_getElem? (i := 772) (by decide +kernel), rfl⟩
theorem imX7_go : Cond.instanceMethod yX7_go ∈ tblG := List.mem_filter.mpr ⟨List.mem_of_getElem? (i := 774) (by decide +kernel), rfl⟩
theorem seX7_go : Cond.selects RX7 yX7_go yX7_go ∈ tblG := List.mem_filter.mpr ⟨List.mem_of_getElem? (i := 30) (by decide +kernel), rfl⟩
set_option maxRecDepth 100000 in
theorem cdX7_go : Cond.code yX7_go cX7_go 6 (some .int) ∈ tblG := List.mem_filter.mpr ⟨List.mem_of_getElem? (i := 775) (rfl), rfl⟩
theorem ivX7_131 : InV RX7 131 yX7_go cX7_go 6 (some .int) 1 := ⟨mlX7_131, imX7_go, seX7_go, iniX7, cdX7_go, by decide +kernel⟩
theorem mlX7_134 : Cond.methodLink RX7 134 yX7_spares ∈ tblG := List.mem_filter.mpr ⟨List.mem_of_getElem? (i := 806) (by decide +kernel), rfl⟩
theorem imX7_spares : Cond.instanceMethod yX7_spares ∈ tblG := List.mem_filter.mpr ⟨List.mem_of_getElem? (i := 808) (by decide +kernel), rfl⟩
theorem seX7_spares : Cond.selects RX7 yX7_spares yX7_spares ∈ tblG := List.mem_filter.mpr ⟨List.mem_of_getElem? (i := 33) (by decide +kernel), rfl⟩
set_option maxRecDepth 100000 in
theorem cdX7_spares : Cond.code yX7_spares cX7_spares 7 (some .boolean) ∈ tblG := List.mem_filter.mpr ⟨List.mem_of_getElem? (i := 809) (rfl), rfl⟩
theorem ivX7_134 : InV RX7 134 yX7_spares cX7_spares 7 (some .boolean) 4 := ⟨mlX7_134, imX7_spares, seX7_spares, iniX7, cdX7_spares, by decide +kernel⟩
theorem flX7_41 : Cond.fieldLink RX7 41 "RouterPathsModel" "stack" "[I" ∈ tblG := List.mem_filter.mpr ⟨List.mem_of_getElem? (i := 658) (by decide +kernel), rfl⟩
theorem flX7_44 : Cond.fieldLink RX7 44 "RouterPathsModel" "seen" "[Z" ∈ tblG := List.mem_filter.mpr ⟨List.mem_of_getElem? (i := 659) (by decide +kernel), rfl⟩
theorem mlX7_137 : Cond.methodLink RX7 137 yX7_flood ∈ tblG := List.mem_filter.mpr ⟨List.mem_of_getElem? (i := 814) (by decide +kernel), rfl⟩
theorem imX7_flood : Cond.instanceMethod yX7_flood ∈ tblG := List.mem_filter.mpr ⟨List.mem_of_getElem? (i := 816) (by decide +kernel), rfl⟩
theorem seX7_flood : Cond.selects RX7 yX7_flood yX7_flood ∈ tblG := List.mem_filter.mpr ⟨List.mem_of_getElem? (i := 34) (by decide +kernel), rfl⟩
set_option maxRecDepth 100000 in
theorem cdX7_flood : Cond.code yX7_flood cX7_flood 7 none ∈ tblG := List.mem_filter.mpr ⟨List.mem_of_getElem? (i := 817) (rfl), rfl⟩
theorem ivX7_137 : InV RX7 137 yX7_flood cX7_flood 7 none 1 := ⟨mlX7_137, imX7_flood, seX7_flood, iniX7, cdX7_flood, by decide +kernel⟩
end
section
abbrev RJm_floorDiv : Type := Int32
abbrev rmJm_floorDiv : Room := { frames := 0, cells := 0, slots := 0, locals := 0 }
abbrev wsJm_floorDiv (cA : Nat → ClassId)   : va_W := []
def fJm_floorDiv (N : Nat) (a0 : Int32) (a1 : Int32)  : Option RJm_floorDiv :=
  (if a1 = 0 then none else (if 0 ≤ (a0 ^^^ a1) then some (a0 / a1) else (if ((a0 / a1) * a1) = a0 then some (a0 / a1) else some ((a0 / a1) - 1))))
set_option maxHeartbeats 4000000 in
set_option maxRecDepth 100000 in
theorem kJm_floorDiv (l : Launch) (D : va_G) (cA : Nat → ClassId)   (a0 : Int32) (a1 : Int32) (N : Nat) (res : RJm_floorDiv) (hf0 : fJm_floorDiv N a0 a1 = some res) : CtI l yJm_floorDiv (Cond.code yJm_floorDiv cJm_floorDiv 3 (some .int) :: tblG) rmJm_floorDiv D cA (wsJm_floorDiv cA ) [.int a0, .int a1] res (wsJm_floorDiv cA ) := by
  refine CtI.startF (lv := [(0, .int a0), (1, .int a1)]) (by decide +kernel) (Nat.le_of_ble_eq_true rfl) rfl (fun κ hE => ?_)
  rw [fJm_floorDiv] at hf0
  refine z_iload_n 0 (pc := 0) dJm_floorDiv_0 rfl ?_
  refine z_iload_n 1 (pc := 1) dJm_floorDiv_1 rfl ?_
  refine z_idiv (pc := 2) dJm_floorDiv_2 hf0 (fun hf0 => ?_)
  refine z_istore_n (pc := 3) (lv' := [(2, .int (a0 / a1)), (0, .int a0), (1, .int a1)]) dJm_floorDiv_3 (by decide) rfl ?_
  refine z_iload_n 1 (pc := 4) dJm_floorDiv_4 rfl ?_
  refine z_iload_n 2 (pc := 5) dJm_floorDiv_5 rfl ?_
  refine z_ixor (pc := 6) dJm_floorDiv_6 ?_
  refine z_if_ge (pc := 7) (tgt := 21) dJm_floorDiv_7 (by decide) hf0 (fun hf0 => ?_) (fun hf0 => ?_)
  · refine z_iload_n 0 (pc := 21) dJm_floorDiv_21 rfl ?_
    obtain rfl := Option.some.inj hf0
    exact z_iret hE dJm_floorDiv_22
  · refine z_iload_n 0 (pc := 10) dJm_floorDiv_10 rfl ?_
    refine z_iload_n 2 (pc := 11) dJm_floorDiv_11 rfl ?_
    refine z_imul (pc := 12) dJm_floorDiv_12 ?_
    refine z_iload_n 1 (pc := 13) dJm_floorDiv_13 rfl ?_
    refine z_icmp_eq (pc := 14) (tgt := 21) dJm_floorDiv_14 (by decide) hf0 (fun hf0 => ?_) (fun hf0 => ?_)
    · refine z_iload_n 0 (pc := 21) dJm_floorDiv_21 rfl ?_
      obtain rfl := Option.some.inj hf0
      exact z_iret hE dJm_floorDiv_22
    · refine z_iload_n 0 (pc := 17) dJm_floorDiv_17 rfl ?_
      refine z_iconst (pc := 18) (v := 1) dJm_floorDiv_18 (by decide) ?_
      refine z_isub (pc := 19) dJm_floorDiv_19 ?_
      obtain rfl := Option.some.inj hf0
      exact z_iret hE dJm_floorDiv_20
end
section
abbrev RX0_holds : Type := Int32
abbrev rmX0_holds : Room := { frames := 0, cells := 0, slots := 0, locals := 0 }
abbrev wsX0_holds (cA : Nat → ClassId) (h_o : Nat) (o_side : Int32) (o_cells : Int32) (o_heights : Value) (o_targets : Value) (o_kept : Value) (o_marks : Value) (o_disc : Value) (o_discSize : Int32) : va_W := [(h_o, .inr (0, [.int o_side, .int o_cells, o_heights, o_targets, o_kept, o_marks, o_disc, .int o_discSize]))]
def fX0_holds (N : Nat) (a1 : Int32) (a2 : Int32) (o_side : Int32) : Option RX0_holds :=
  (if a1 < 0 then some 0 else (if o_side ≤ a1 then some 0 else (if a2 < 0 then some 0 else (if o_side ≤ a2 then some 0 else some 1))))
set_option maxHeartbeats 4000000 in
set_option maxRecDepth 100000 in
theorem kX0_holds (l : Launch) (D : va_G) (cA : Nat → ClassId) (h_o : Nat) (o_side : Int32) (o_cells : Int32) (o_heights : Value) (o_targets : Value) (o_kept : Value) (o_marks : Value) (o_disc : Value) (o_discSize : Int32) (a1 : Int32) (a2 : Int32) (N : Nat) (res : RX0_holds) (hf0 : fX0_holds N a1 a2 o_side = some res) : CtI l yX0_holds (Cond.code yX0_holds cX0_holds 3 (some .boolean) :: tblG) rmX0_holds D cA (wsX0_holds cA h_o o_side o_cells o_heights o_targets o_kept o_marks o_disc o_discSize) [.ref h_o, .int a1, .int a2] res (wsX0_holds cA h_o o_side o_cells o_heights o_targets o_kept o_marks o_disc o_discSize) := by
  refine CtI.start (lv := [(0, .ref h_o), (1, .int a1), (2, .int a2)]) (by decide) (Nat.le_of_ble_eq_true rfl) rfl (fun κ hE => ?_)
  rw [fX0_holds] at hf0
  refine z_iload_n 1 (pc := 0) dX0_holds_0 rfl ?_
  refine z_if_lt (pc := 1) (tgt := 28) dX0_holds_1 (by decide) hf0 (fun hf0 => ?_) (fun hf0 => ?_)
  · refine z_iconst (pc := 28) (v := 0) dX0_holds_28 (by decide) ?_
    obtain rfl := Option.some.inj hf0
    exact z_zretL (by decide) hE dX0_holds_29
  · refine z_iload_n 1 (pc := 4) dX0_holds_4 rfl ?_
    refine z_aload_n 0 (pc := 5) dX0_holds_5 rfl ?_
    refine z_get 0 0 (pc := 6) (v := .int o_side) rfl rfl inX0 (by decide) flX0_9 rfl dX0_holds_6 ?_
    refine z_icmp_ge (pc := 9) (tgt := 28) dX0_holds_9 (by decide) hf0 (fun hf0 => ?_) (fun hf0 => ?_)
    · refine z_iconst (pc := 28) (v := 0) dX0_holds_28 (by decide) ?_
      obtain rfl := Option.some.inj hf0
      exact z_zretL (by decide) hE dX0_holds_29
    · refine z_iload_n 2 (pc := 12) dX0_holds_12 rfl ?_
      refine z_if_lt (pc := 13) (tgt := 28) dX0_holds_13 (by decide) hf0 (fun hf0 => ?_) (fun hf0 => ?_)
      · refine z_iconst (pc := 28) (v := 0) dX0_holds_28 (by decide) ?_
        obtain rfl := Option.some.inj hf0
        exact z_zretL (by decide) hE dX0_holds_29
      · refine z_iload_n 2 (pc := 16) dX0_holds_16 rfl ?_
        refine z_aload_n 0 (pc := 17) dX0_holds_17 rfl ?_
        refine z_get 0 0 (pc := 18) (v := .int o_side) rfl rfl inX0 (by decide) flX0_9 rfl dX0_holds_18 ?_
        refine z_icmp_ge (pc := 21) (tgt := 28) dX0_holds_21 (by decide) hf0 (fun hf0 => ?_) (fun hf0 => ?_)
        · refine z_iconst (pc := 28) (v := 0) dX0_holds_28 (by decide) ?_
          obtain rfl := Option.some.inj hf0
          exact z_zretL (by decide) hE dX0_holds_29
        · refine z_iconst (pc := 24) (v := 1) dX0_holds_24 (by decide) ?_
          refine z_goto (pc := 25) (tgt := 29) dX0_holds_25 (by decide) ?_
          obtain rfl := Option.some.inj hf0
          exact z_zretL (by decide) hE dX0_holds_29

abbrev RX0_placeOf : Type := Int32
abbrev rmX0_placeOf : Room := { frames := 0, cells := 0, slots := 0, locals := 0 }
abbrev wsX0_placeOf (cA : Nat → ClassId) (h_o : Nat) (o_side : Int32) (o_cells : Int32) (o_heights : Value) (o_targets : Value) (o_kept : Value) (o_marks : Value) (o_disc : Value) (o_discSize : Int32) : va_W := [(h_o, .inr (0, [.int o_side, .int o_cells, o_heights, o_targets, o_kept, o_marks, o_disc, .int o_discSize]))]
def fX0_placeOf (N : Nat) (a1 : Int32) (a2 : Int32) (o_side : Int32) : Option RX0_placeOf :=
  some ((o_side * a2) + a1)
set_option maxHeartbeats 4000000 in
set_option maxRecDepth 100000 in
theorem kX0_placeOf (l : Launch) (D : va_G) (cA : Nat → ClassId) (h_o : Nat) (o_side : Int32) (o_cells : Int32) (o_heights : Value) (o_targets : Value) (o_kept : Value) (o_marks : Value) (o_disc : Value) (o_discSize : Int32) (a1 : Int32) (a2 : Int32) (N : Nat) (res : RX0_placeOf) (hf0 : fX0_placeOf N a1 a2 o_side = some res) : CtI l yX0_placeOf (Cond.code yX0_placeOf cX0_placeOf 3 (some .int) :: tblG) rmX0_placeOf D cA (wsX0_placeOf cA h_o o_side o_cells o_heights o_targets o_kept o_marks o_disc o_discSize) [.ref h_o, .int a1, .int a2] res (wsX0_placeOf cA h_o o_side o_cells o_heights o_targets o_kept o_marks o_disc o_discSize) := by
  refine CtI.start (lv := [(0, .ref h_o), (1, .int a1), (2, .int a2)]) (by decide) (Nat.le_of_ble_eq_true rfl) rfl (fun κ hE => ?_)
  rw [fX0_placeOf] at hf0
  refine z_aload_n 0 (pc := 0) dX0_placeOf_0 rfl ?_
  refine z_get 0 0 (pc := 1) (v := .int o_side) rfl rfl inX0 (by decide) flX0_9 rfl dX0_placeOf_1 ?_
  refine z_iload_n 2 (pc := 4) dX0_placeOf_4 rfl ?_
  refine z_imul (pc := 5) dX0_placeOf_5 ?_
  refine z_iload_n 1 (pc := 6) dX0_placeOf_6 rfl ?_
  refine z_iadd (pc := 7) dX0_placeOf_7 ?_
  obtain rfl := Option.some.inj hf0
  exact z_iret hE dX0_placeOf_8

abbrev RX0_aimBlock : Type := (Nat → Int32)
abbrev rmX0_aimBlock : Room := { frames := 1, cells := 0, slots := 0, locals := 22 }
abbrev wsX0_aimBlock (cA : Nat → ClassId) (h_o : Nat) (h_o_targets : Nat) (o_side : Int32) (o_cells : Int32) (o_heights : Value) (o_kept : Value) (o_marks : Value) (o_disc : Value) (o_discSize : Int32) (o_targets_n : Nat) (o_targets : Nat → Int32) : va_W := [(h_o, .inr (0, [.int o_side, .int o_cells, o_heights, .ref h_o_targets, o_kept, o_marks, o_disc, .int o_discSize])), (h_o_targets, .inl (cA 0, o_targets_n, .inl o_targets))]
def LX0_aimBlock_13 (a3 : Int32) (N : Nat) (x6_3 : Int32) (o_side : Int32) (o_targets_n : Nat) (a5 : Int32) : Nat → Int32 → (Nat → Int32) → Option (Int32 × (Nat → Int32))
  | 0, _, _ => none
  | n + 1, x7_13, o_targets_13 => (if a3 < x7_13 then some (x7_13, o_targets_13) else ((fX0_placeOf N x7_13 x6_3 o_side).bind fun r3 => (if r3 < 0 ∨ o_targets_n ≤ r3.toNatClampNeg then none else LX0_aimBlock_13 a3 N x6_3 o_side o_targets_n a5 n (x7_13 + 1) (upd o_targets_13 r3.toNatClampNeg a5))))
def LX0_aimBlock_3 (a4 : Int32) (a3 : Int32) (N : Nat) (o_side : Int32) (o_targets_n : Nat) (a5 : Int32) (a1 : Int32) : Nat → Int32 → (Nat → Int32) → Option (Int32 × (Nat → Int32))
  | 0, _, _ => none
  | n + 1, x6_3, o_targets_3 => (if a4 < x6_3 then some (x6_3, o_targets_3) else ((LX0_aimBlock_13 a3 N x6_3 o_side o_targets_n a5 N a1 o_targets_3).bind fun r2 => LX0_aimBlock_3 a4 a3 N o_side o_targets_n a5 a1 n (x6_3 + 1) r2.2))
def fX0_aimBlock (N : Nat) (a1 : Int32) (a2 : Int32) (a3 : Int32) (a4 : Int32) (a5 : Int32) (o_side : Int32) (o_targets_n : Nat) (o_targets : Nat → Int32) : Option RX0_aimBlock :=
  ((LX0_aimBlock_3 a4 a3 N o_side o_targets_n a5 a1 N a2 o_targets).bind fun r1 => some r1.2)
set_option maxHeartbeats 4000000 in
set_option maxRecDepth 100000 in
theorem kX0_aimBlock (l : Launch) (D : va_G) (cA : Nat → ClassId) (h_o : Nat) (h_o_targets : Nat) (o_side : Int32) (o_cells : Int32) (o_heights : Value) (o_kept : Value) (o_marks : Value) (o_disc : Value) (o_discSize : Int32) (o_targets_n : Nat) (o_targets : Nat → Int32) (a1 : Int32) (a2 : Int32) (a3 : Int32) (a4 : Int32) (a5 : Int32) (N : Nat) (res : RX0_aimBlock) (hf0 : fX0_aimBlock N a1 a2 a3 a4 a5 o_side o_targets_n o_targets = some res) : CtV l yX0_aimBlock (Cond.code yX0_aimBlock cX0_aimBlock 8 (none) :: tblG) rmX0_aimBlock D cA (wsX0_aimBlock cA h_o h_o_targets o_side o_cells o_heights o_kept o_marks o_disc o_discSize o_targets_n o_targets) [.ref h_o, .int a1, .int a2, .int a3, .int a4, .int a5] (wsX0_aimBlock cA h_o h_o_targets o_side o_cells o_heights o_kept o_marks o_disc o_discSize o_targets_n res) := by
  refine CtV.start (lv := [(0, .ref h_o), (1, .int a1), (2, .int a2), (3, .int a3), (4, .int a4), (5, .int a5)]) (by decide) (Nat.le_of_ble_eq_true rfl) rfl (fun κ hE => ?_)
  rw [fX0_aimBlock] at hf0
  refine z_iload_n 2 (pc := 0) dX0_aimBlock_0 rfl ?_
  refine z_istore (pc := 1) (lv' := [(6, .int a2), (0, .ref h_o), (1, .int a1), (2, .int a2), (3, .int a3), (4, .int a4), (5, .int a5)]) dX0_aimBlock_1 (by decide) rfl ?_
  obtain ⟨y3, hf0_3, hf0⟩ := bp hf0
  have lp3 : ∀ (n : Nat) (x6_3 : Int32) (o_targets_3 : Nat → Int32), LX0_aimBlock_3 a4 a3 N o_side o_targets_n a5 a1 n x6_3 o_targets_3 = some y3 → V κ l D cA rmX0_aimBlock cX0_aimBlock 8 RX0 (none) 0 0 3 [(0, .ref h_o), (1, .int a1), (2, .int a2), (3, .int a3), (4, .int a4), (5, .int a5), (6, .int x6_3)] [] (wsX0_aimBlock cA h_o h_o_targets o_side o_cells o_heights o_kept o_marks o_disc o_discSize o_targets_n o_targets_3) := by
    intro n
    induction n with
    | zero => intro x6_3 o_targets_3 hf0_3; rw [LX0_aimBlock_3] at hf0_3; cases hf0_3
    | succ n3 ih3 =>
      intro x6_3 o_targets_3 hf0_3
      rw [LX0_aimBlock_3] at hf0_3
      refine z_iload 6 (pc := 3) dX0_aimBlock_3 rfl ?_
      refine z_iload 4 (pc := 5) dX0_aimBlock_5 rfl ?_
      refine z_icmp_gt (pc := 7) (tgt := 46) dX0_aimBlock_7 (by decide) hf0_3 (fun hf0_3 => ?_) (fun hf0_3 => ?_)
      · obtain rfl := Option.some.inj hf0_3
        obtain rfl := Option.some.inj hf0
        exact z_vret hE dX0_aimBlock_46
      · refine z_iload_n 1 (pc := 10) dX0_aimBlock_10 rfl ?_
        refine z_istore (pc := 11) (lv' := [(7, .int a1), (0, .ref h_o), (1, .int a1), (2, .int a2), (3, .int a3), (4, .int a4), (5, .int a5), (6, .int x6_3)]) dX0_aimBlock_11 (by decide) rfl ?_
        obtain ⟨y13, hf0_3_13, hf0_3⟩ := bp hf0_3
        have lp13 : ∀ (n : Nat) (x7_13 : Int32) (o_targets_13 : Nat → Int32), LX0_aimBlock_13 a3 N x6_3 o_side o_targets_n a5 n x7_13 o_targets_13 = some y13 → V κ l D cA rmX0_aimBlock cX0_aimBlock 8 RX0 (none) 0 0 13 [(0, .ref h_o), (1, .int a1), (2, .int a2), (3, .int a3), (4, .int a4), (5, .int a5), (6, .int x6_3), (7, .int x7_13)] [] (wsX0_aimBlock cA h_o h_o_targets o_side o_cells o_heights o_kept o_marks o_disc o_discSize o_targets_n o_targets_13) := by
          intro n
          induction n with
          | zero => intro x7_13 o_targets_13 hf0_3_13; rw [LX0_aimBlock_13] at hf0_3_13; cases hf0_3_13
          | succ n13 ih13 =>
            intro x7_13 o_targets_13 hf0_3_13
            rw [LX0_aimBlock_13] at hf0_3_13
            refine z_iload 7 (pc := 13) dX0_aimBlock_13 rfl ?_
            refine z_iload_n 3 (pc := 15) dX0_aimBlock_15 rfl ?_
            refine z_icmp_gt (pc := 16) (tgt := 40) dX0_aimBlock_16 (by decide) hf0_3_13 (fun hf0_3_13 => ?_) (fun hf0_3_13 => ?_)
            · obtain rfl := Option.some.inj hf0_3_13
              refine z_iinc 6 (pc := 40) (v := x6_3 + 1) (lv' := [(6, .int (x6_3 + 1)), (0, .ref h_o), (1, .int a1), (2, .int a2), (3, .int a3), (4, .int a4), (5, .int a5), (7, .int x7_13)]) dX0_aimBlock_40 rfl rfl (by decide) rfl ?_
              refine z_goto (pc := 43) (tgt := 3) dX0_aimBlock_43 (by decide) ?_
              exact z_lv [1, 2, 3, 4, 5, 6, 0] rfl (ih3 (x6_3 + 1) o_targets_13 hf0_3)
            · refine z_aload_n 0 (pc := 19) dX0_aimBlock_19 rfl ?_
              refine z_get 0 3 (pc := 20) (v := .ref h_o_targets) rfl rfl inX0 (by decide) flX0_22 rfl dX0_aimBlock_20 ?_
              refine z_aload_n 0 (pc := 23) dX0_aimBlock_23 rfl ?_
              refine z_iload 7 (pc := 24) dX0_aimBlock_24 rfl ?_
              refine z_iload 6 (pc := 26) dX0_aimBlock_26 rfl ?_
              obtain ⟨r3, er3, hf0_3_13⟩ := bp hf0_3_13
              refine z_calliV (pc := 28) (As := [.int x7_13, .int x6_3]) (rest := [.ref h_o_targets]) (ws' := (wsX0_aimBlock cA h_o h_o_targets o_side o_cells o_heights o_kept o_marks o_disc o_discSize o_targets_n o_targets_13)) (kX0_placeOf l D cA h_o o_side o_cells o_heights (.ref h_o_targets) o_kept o_marks o_disc o_discSize x7_13 x6_3 N r3 er3) ivX0_38 ⟨rfl, rfl⟩ ⟨by decide, by decide⟩ rfl ⟨Nat.zero_le _, Nat.zero_le _⟩ rfl rfl [0] rfl (by decide) rfl rfl rfl (Nat.le_of_ble_eq_true rfl) dX0_aimBlock_28 ?_
              refine z_iload 5 (pc := 31) dX0_aimBlock_31 rfl ?_
              refine z_iastore 1 0 (pc := 33) (ws' := (wsX0_aimBlock cA h_o h_o_targets o_side o_cells o_heights o_kept o_marks o_disc o_discSize o_targets_n (upd o_targets_13 r3.toNatClampNeg a5))) rfl rfl dX0_aimBlock_33 rfl hf0_3_13 (fun hf0_3_13 => ?_)
              refine z_iinc 7 (pc := 34) (v := x7_13 + 1) (lv' := [(7, .int (x7_13 + 1)), (0, .ref h_o), (1, .int a1), (2, .int a2), (3, .int a3), (4, .int a4), (5, .int a5), (6, .int x6_3)]) dX0_aimBlock_34 rfl rfl (by decide) rfl ?_
              refine z_goto (pc := 37) (tgt := 13) dX0_aimBlock_37 (by decide) ?_
              exact z_lv [1, 2, 3, 4, 5, 6, 7, 0] rfl (ih13 (x7_13 + 1) (upd o_targets_13 r3.toNatClampNeg a5) hf0_3_13)
        exact z_lv [1, 2, 3, 4, 5, 6, 7, 0] rfl (lp13 N a1 o_targets_3 hf0_3_13)
  exact z_lv [1, 2, 3, 4, 5, 6, 0] rfl (lp3 N a2 o_targets hf0_3)

abbrev RX0_guardBlock : Type := (Nat → Int32)
abbrev rmX0_guardBlock : Room := { frames := 1, cells := 0, slots := 0, locals := 22 }
abbrev wsX0_guardBlock (cA : Nat → ClassId) (h_o : Nat) (h_o_kept : Nat) (o_side : Int32) (o_cells : Int32) (o_heights : Value) (o_targets : Value) (o_marks : Value) (o_disc : Value) (o_discSize : Int32) (o_kept_n : Nat) (o_kept : Nat → Int32) : va_W := [(h_o, .inr (0, [.int o_side, .int o_cells, o_heights, o_targets, .ref h_o_kept, o_marks, o_disc, .int o_discSize])), (h_o_kept, .inl (cA 1, o_kept_n, .inl o_kept))]
def LX0_guardBlock_13 (a3 : Int32) (N : Nat) (x6_3 : Int32) (o_side : Int32) (o_kept_n : Nat) (a5 : Int32) : Nat → Int32 → (Nat → Int32) → Option (Int32 × (Nat → Int32))
  | 0, _, _ => none
  | n + 1, x7_13, o_kept_13 => (if a3 < x7_13 then some (x7_13, o_kept_13) else ((fX0_placeOf N x7_13 x6_3 o_side).bind fun r3 => (if r3 < 0 ∨ o_kept_n ≤ r3.toNatClampNeg then none else LX0_guardBlock_13 a3 N x6_3 o_side o_kept_n a5 n (x7_13 + 1) (upd o_kept_13 r3.toNatClampNeg (vp_nar .boolean a5)))))
def LX0_guardBlock_3 (a4 : Int32) (a3 : Int32) (N : Nat) (o_side : Int32) (o_kept_n : Nat) (a5 : Int32) (a1 : Int32) : Nat → Int32 → (Nat → Int32) → Option (Int32 × (Nat → Int32))
  | 0, _, _ => none
  | n + 1, x6_3, o_kept_3 => (if a4 < x6_3 then some (x6_3, o_kept_3) else ((LX0_guardBlock_13 a3 N x6_3 o_side o_kept_n a5 N a1 o_kept_3).bind fun r2 => LX0_guardBlock_3 a4 a3 N o_side o_kept_n a5 a1 n (x6_3 + 1) r2.2))
def fX0_guardBlock (N : Nat) (a1 : Int32) (a2 : Int32) (a3 : Int32) (a4 : Int32) (a5 : Int32) (o_side : Int32) (o_kept_n : Nat) (o_kept : Nat → Int32) : Option RX0_guardBlock :=
  ((LX0_guardBlock_3 a4 a3 N o_side o_kept_n a5 a1 N a2 o_kept).bind fun r1 => some r1.2)
set_option maxHeartbeats 4000000 in
set_option maxRecDepth 100000 in
theorem kX0_guardBlock (l : Launch) (D : va_G) (cA : Nat → ClassId) (h_o : Nat) (h_o_kept : Nat) (o_side : Int32) (o_cells : Int32) (o_heights : Value) (o_targets : Value) (o_marks : Value) (o_disc : Value) (o_discSize : Int32) (o_kept_n : Nat) (o_kept : Nat → Int32) (a1 : Int32) (a2 : Int32) (a3 : Int32) (a4 : Int32) (a5 : Int32) (N : Nat) (res : RX0_guardBlock) (hf0 : fX0_guardBlock N a1 a2 a3 a4 a5 o_side o_kept_n o_kept = some res) : CtV l yX0_guardBlock (Cond.code yX0_guardBlock cX0_guardBlock 8 (none) :: tblG) rmX0_guardBlock D cA (wsX0_guardBlock cA h_o h_o_kept o_side o_cells o_heights o_targets o_marks o_disc o_discSize o_kept_n o_kept) [.ref h_o, .int a1, .int a2, .int a3, .int a4, .int a5] (wsX0_guardBlock cA h_o h_o_kept o_side o_cells o_heights o_targets o_marks o_disc o_discSize o_kept_n res) := by
  refine CtV.start (lv := [(0, .ref h_o), (1, .int a1), (2, .int a2), (3, .int a3), (4, .int a4), (5, .int a5)]) (by decide) (Nat.le_of_ble_eq_true rfl) rfl (fun κ hE => ?_)
  rw [fX0_guardBlock] at hf0
  refine z_iload_n 2 (pc := 0) dX0_guardBlock_0 rfl ?_
  refine z_istore (pc := 1) (lv' := [(6, .int a2), (0, .ref h_o), (1, .int a1), (2, .int a2), (3, .int a3), (4, .int a4), (5, .int a5)]) dX0_guardBlock_1 (by decide) rfl ?_
  obtain ⟨y3, hf0_3, hf0⟩ := bp hf0
  have lp3 : ∀ (n : Nat) (x6_3 : Int32) (o_kept_3 : Nat → Int32), LX0_guardBlock_3 a4 a3 N o_side o_kept_n a5 a1 n x6_3 o_kept_3 = some y3 → V κ l D cA rmX0_guardBlock cX0_guardBlock 8 RX0 (none) 0 0 3 [(0, .ref h_o), (1, .int a1), (2, .int a2), (3, .int a3), (4, .int a4), (5, .int a5), (6, .int x6_3)] [] (wsX0_guardBlock cA h_o h_o_kept o_side o_cells o_heights o_targets o_marks o_disc o_discSize o_kept_n o_kept_3) := by
    intro n
    induction n with
    | zero => intro x6_3 o_kept_3 hf0_3; rw [LX0_guardBlock_3] at hf0_3; cases hf0_3
    | succ n3 ih3 =>
      intro x6_3 o_kept_3 hf0_3
      rw [LX0_guardBlock_3] at hf0_3
      refine z_iload 6 (pc := 3) dX0_guardBlock_3 rfl ?_
      refine z_iload 4 (pc := 5) dX0_guardBlock_5 rfl ?_
      refine z_icmp_gt (pc := 7) (tgt := 46) dX0_guardBlock_7 (by decide) hf0_3 (fun hf0_3 => ?_) (fun hf0_3 => ?_)
      · obtain rfl := Option.some.inj hf0_3
        obtain rfl := Option.some.inj hf0
        exact z_vret hE dX0_guardBlock_46
      · refine z_iload_n 1 (pc := 10) dX0_guardBlock_10 rfl ?_
        refine z_istore (pc := 11) (lv' := [(7, .int a1), (0, .ref h_o), (1, .int a1), (2, .int a2), (3, .int a3), (4, .int a4), (5, .int a5), (6, .int x6_3)]) dX0_guardBlock_11 (by decide) rfl ?_
        obtain ⟨y13, hf0_3_13, hf0_3⟩ := bp hf0_3
        have lp13 : ∀ (n : Nat) (x7_13 : Int32) (o_kept_13 : Nat → Int32), LX0_guardBlock_13 a3 N x6_3 o_side o_kept_n a5 n x7_13 o_kept_13 = some y13 → V κ l D cA rmX0_guardBlock cX0_guardBlock 8 RX0 (none) 0 0 13 [(0, .ref h_o), (1, .int a1), (2, .int a2), (3, .int a3), (4, .int a4), (5, .int a5), (6, .int x6_3), (7, .int x7_13)] [] (wsX0_guardBlock cA h_o h_o_kept o_side o_cells o_heights o_targets o_marks o_disc o_discSize o_kept_n o_kept_13) := by
          intro n
          induction n with
          | zero => intro x7_13 o_kept_13 hf0_3_13; rw [LX0_guardBlock_13] at hf0_3_13; cases hf0_3_13
          | succ n13 ih13 =>
            intro x7_13 o_kept_13 hf0_3_13
            rw [LX0_guardBlock_13] at hf0_3_13
            refine z_iload 7 (pc := 13) dX0_guardBlock_13 rfl ?_
            refine z_iload_n 3 (pc := 15) dX0_guardBlock_15 rfl ?_
            refine z_icmp_gt (pc := 16) (tgt := 40) dX0_guardBlock_16 (by decide) hf0_3_13 (fun hf0_3_13 => ?_) (fun hf0_3_13 => ?_)
            · obtain rfl := Option.some.inj hf0_3_13
              refine z_iinc 6 (pc := 40) (v := x6_3 + 1) (lv' := [(6, .int (x6_3 + 1)), (0, .ref h_o), (1, .int a1), (2, .int a2), (3, .int a3), (4, .int a4), (5, .int a5), (7, .int x7_13)]) dX0_guardBlock_40 rfl rfl (by decide) rfl ?_
              refine z_goto (pc := 43) (tgt := 3) dX0_guardBlock_43 (by decide) ?_
              exact z_lv [1, 2, 3, 4, 5, 6, 0] rfl (ih3 (x6_3 + 1) o_kept_13 hf0_3)
            · refine z_aload_n 0 (pc := 19) dX0_guardBlock_19 rfl ?_
              refine z_get 0 4 (pc := 20) (v := .ref h_o_kept) rfl rfl inX0 (by decide) flX0_25 rfl dX0_guardBlock_20 ?_
              refine z_aload_n 0 (pc := 23) dX0_guardBlock_23 rfl ?_
              refine z_iload 7 (pc := 24) dX0_guardBlock_24 rfl ?_
              refine z_iload 6 (pc := 26) dX0_guardBlock_26 rfl ?_
              obtain ⟨r3, er3, hf0_3_13⟩ := bp hf0_3_13
              refine z_calliV (pc := 28) (As := [.int x7_13, .int x6_3]) (rest := [.ref h_o_kept]) (ws' := (wsX0_guardBlock cA h_o h_o_kept o_side o_cells o_heights o_targets o_marks o_disc o_discSize o_kept_n o_kept_13)) (kX0_placeOf l D cA h_o o_side o_cells o_heights o_targets (.ref h_o_kept) o_marks o_disc o_discSize x7_13 x6_3 N r3 er3) ivX0_38 ⟨rfl, rfl⟩ ⟨by decide, by decide⟩ rfl ⟨Nat.zero_le _, Nat.zero_le _⟩ rfl rfl [0] rfl (by decide) rfl rfl rfl (Nat.le_of_ble_eq_true rfl) dX0_guardBlock_28 ?_
              refine z_iload 5 (pc := 31) dX0_guardBlock_31 rfl ?_
              refine z_zastore 1 1 (pc := 33) (ws' := (wsX0_guardBlock cA h_o h_o_kept o_side o_cells o_heights o_targets o_marks o_disc o_discSize o_kept_n (upd o_kept_13 r3.toNatClampNeg (vp_nar .boolean a5)))) rfl rfl dX0_guardBlock_33 rfl hf0_3_13 (fun hf0_3_13 => ?_)
              refine z_iinc 7 (pc := 34) (v := x7_13 + 1) (lv' := [(7, .int (x7_13 + 1)), (0, .ref h_o), (1, .int a1), (2, .int a2), (3, .int a3), (4, .int a4), (5, .int a5), (6, .int x6_3)]) dX0_guardBlock_34 rfl rfl (by decide) rfl ?_
              refine z_goto (pc := 37) (tgt := 13) dX0_guardBlock_37 (by decide) ?_
              exact z_lv [1, 2, 3, 4, 5, 6, 7, 0] rfl (ih13 (x7_13 + 1) (upd o_kept_13 r3.toNatClampNeg (vp_nar .boolean a5)) hf0_3_13)
        exact z_lv [1, 2, 3, 4, 5, 6, 7, 0] rfl (lp13 N a1 o_kept_3 hf0_3_13)
  exact z_lv [1, 2, 3, 4, 5, 6, 0] rfl (lp3 N a2 o_kept hf0_3)

abbrev RX0_fillUp : Type := (Nat → Int32)
abbrev rmX0_fillUp : Room := { frames := 0, cells := 0, slots := 0, locals := 0 }
abbrev wsX0_fillUp (cA : Nat → ClassId) (h_o : Nat) (h_o_heights : Nat) (o_side : Int32) (o_cells : Int32) (o_targets : Value) (o_kept : Value) (o_marks : Value) (o_disc : Value) (o_discSize : Int32) (o_heights_n : Nat) (o_heights : Nat → Int32) : va_W := [(h_o, .inr (0, [.int o_side, .int o_cells, .ref h_o_heights, o_targets, o_kept, o_marks, o_disc, .int o_discSize])), (h_o_heights, .inl (cA 0, o_heights_n, .inl o_heights))]
def LX0_fillUp_2 (o_cells : Int32) (o_heights_n : Nat) : Nat → Int32 → (Nat → Int32) → Option (Int32 × (Nat → Int32))
  | 0, _, _ => none
  | n + 1, x1_2, o_heights_2 => (if o_cells ≤ x1_2 then some (x1_2, o_heights_2) else (if x1_2 < 0 ∨ o_heights_n ≤ x1_2.toNatClampNeg then none else LX0_fillUp_2 o_cells o_heights_n n (x1_2 + 1) (upd o_heights_2 x1_2.toNatClampNeg 100)))
def fX0_fillUp (N : Nat)  (o_cells : Int32) (o_heights_n : Nat) (o_heights : Nat → Int32) : Option RX0_fillUp :=
  ((LX0_fillUp_2 o_cells o_heights_n N 0 o_heights).bind fun r1 => some r1.2)
set_option maxHeartbeats 4000000 in
set_option maxRecDepth 100000 in
theorem kX0_fillUp (l : Launch) (D : va_G) (cA : Nat → ClassId) (h_o : Nat) (h_o_heights : Nat) (o_side : Int32) (o_cells : Int32) (o_targets : Value) (o_kept : Value) (o_marks : Value) (o_disc : Value) (o_discSize : Int32) (o_heights_n : Nat) (o_heights : Nat → Int32)  (N : Nat) (res : RX0_fillUp) (hf0 : fX0_fillUp N o_cells o_heights_n o_heights = some res) : CtV l yX0_fillUp (Cond.code yX0_fillUp cX0_fillUp 2 (none) :: tblG) rmX0_fillUp D cA (wsX0_fillUp cA h_o h_o_heights o_side o_cells o_targets o_kept o_marks o_disc o_discSize o_heights_n o_heights) [.ref h_o] (wsX0_fillUp cA h_o h_o_heights o_side o_cells o_targets o_kept o_marks o_disc o_discSize o_heights_n res) := by
  refine CtV.start (lv := [(0, .ref h_o)]) (by decide) (Nat.le_of_ble_eq_true rfl) rfl (fun κ hE => ?_)
  rw [fX0_fillUp] at hf0
  refine z_iconst (pc := 0) (v := 0) dX0_fillUp_0 (by decide) ?_
  refine z_istore_n (pc := 1) (lv' := [(1, .int 0), (0, .ref h_o)]) dX0_fillUp_1 (by decide) rfl ?_
  obtain ⟨y2, hf0_2, hf0⟩ := bp hf0
  have lp2 : ∀ (n : Nat) (x1_2 : Int32) (o_heights_2 : Nat → Int32), LX0_fillUp_2 o_cells o_heights_n n x1_2 o_heights_2 = some y2 → V κ l D cA rmX0_fillUp cX0_fillUp 2 RX0 (none) 0 0 2 [(0, .ref h_o), (1, .int x1_2)] [] (wsX0_fillUp cA h_o h_o_heights o_side o_cells o_targets o_kept o_marks o_disc o_discSize o_heights_n o_heights_2) := by
    intro n
    induction n with
    | zero => intro x1_2 o_heights_2 hf0_2; rw [LX0_fillUp_2] at hf0_2; cases hf0_2
    | succ n2 ih2 =>
      intro x1_2 o_heights_2 hf0_2
      rw [LX0_fillUp_2] at hf0_2
      refine z_iload_n 1 (pc := 2) dX0_fillUp_2 rfl ?_
      refine z_aload_n 0 (pc := 3) dX0_fillUp_3 rfl ?_
      refine z_get 0 1 (pc := 4) (v := .int o_cells) rfl rfl inX0 (by decide) flX0_15 rfl dX0_fillUp_4 ?_
      refine z_icmp_ge (pc := 7) (tgt := 24) dX0_fillUp_7 (by decide) hf0_2 (fun hf0_2 => ?_) (fun hf0_2 => ?_)
      · obtain rfl := Option.some.inj hf0_2
        obtain rfl := Option.some.inj hf0
        exact z_vret hE dX0_fillUp_24
      · refine z_aload_n 0 (pc := 10) dX0_fillUp_10 rfl ?_
        refine z_get 0 2 (pc := 11) (v := .ref h_o_heights) rfl rfl inX0 (by decide) flX0_18 rfl dX0_fillUp_11 ?_
        refine z_iload_n 1 (pc := 14) dX0_fillUp_14 rfl ?_
        refine z_bipush (pc := 15) (v := 100) dX0_fillUp_15 (by decide) ?_
        refine z_iastore 1 0 (pc := 17) (ws' := (wsX0_fillUp cA h_o h_o_heights o_side o_cells o_targets o_kept o_marks o_disc o_discSize o_heights_n (upd o_heights_2 x1_2.toNatClampNeg 100))) rfl rfl dX0_fillUp_17 rfl hf0_2 (fun hf0_2 => ?_)
        refine z_iinc 1 (pc := 18) (v := x1_2 + 1) (lv' := [(1, .int (x1_2 + 1)), (0, .ref h_o)]) dX0_fillUp_18 rfl rfl (by decide) rfl ?_
        refine z_goto (pc := 21) (tgt := 2) dX0_fillUp_21 (by decide) ?_
        exact z_lv [1, 0] rfl (ih2 (x1_2 + 1) (upd o_heights_2 x1_2.toNatClampNeg 100) hf0_2)
  exact z_lv [1, 0] rfl (lp2 N 0 o_heights hf0_2)

abbrev RX0_isOff : Type := Int32
abbrev rmX0_isOff : Room := { frames := 0, cells := 0, slots := 0, locals := 0 }
abbrev wsX0_isOff (cA : Nat → ClassId) (h_o : Nat) (h_o_heights : Nat) (h_o_targets : Nat) (o_side : Int32) (o_cells : Int32) (o_kept : Value) (o_marks : Value) (o_disc : Value) (o_discSize : Int32) (o_heights_n : Nat) (o_heights : Nat → Int32) (o_targets_n : Nat) (o_targets : Nat → Int32) : va_W := [(h_o, .inr (0, [.int o_side, .int o_cells, .ref h_o_heights, .ref h_o_targets, o_kept, o_marks, o_disc, .int o_discSize])), (h_o_heights, .inl (cA 0, o_heights_n, .inl o_heights)), (h_o_targets, .inl (cA 0, o_targets_n, .inl o_targets))]
def fX0_isOff (N : Nat) (a1 : Int32) (a2 : Int32) (o_heights_n : Nat) (o_heights : Nat → Int32) (o_targets_n : Nat) (o_targets : Nat → Int32) : Option RX0_isOff :=
  (if a2 = 0 then (if a1 < 0 ∨ o_heights_n ≤ a1.toNatClampNeg then none else (if a1 < 0 ∨ o_targets_n ≤ a1.toNatClampNeg then none else (if (o_targets a1.toNatClampNeg) ≤ (o_heights a1.toNatClampNeg) then some 0 else some 1))) else (if a1 < 0 ∨ o_heights_n ≤ a1.toNatClampNeg then none else (if a1 < 0 ∨ o_targets_n ≤ a1.toNatClampNeg then none else (if (o_heights a1.toNatClampNeg) ≤ (o_targets a1.toNatClampNeg) then some 0 else some 1))))
set_option maxHeartbeats 4000000 in
set_option maxRecDepth 100000 in
theorem kX0_isOff (l : Launch) (D : va_G) (cA : Nat → ClassId) (h_o : Nat) (h_o_heights : Nat) (h_o_targets : Nat) (o_side : Int32) (o_cells : Int32) (o_kept : Value) (o_marks : Value) (o_disc : Value) (o_discSize : Int32) (o_heights_n : Nat) (o_heights : Nat → Int32) (o_targets_n : Nat) (o_targets : Nat → Int32) (a1 : Int32) (a2 : Int32) (N : Nat) (res : RX0_isOff) (hf0 : fX0_isOff N a1 a2 o_heights_n o_heights o_targets_n o_targets = some res) : CtI l yX0_isOff (Cond.code yX0_isOff cX0_isOff 3 (some .boolean) :: tblG) rmX0_isOff D cA (wsX0_isOff cA h_o h_o_heights h_o_targets o_side o_cells o_kept o_marks o_disc o_discSize o_heights_n o_heights o_targets_n o_targets) [.ref h_o, .int a1, .int a2] res (wsX0_isOff cA h_o h_o_heights h_o_targets o_side o_cells o_kept o_marks o_disc o_discSize o_heights_n o_heights o_targets_n o_targets) := by
  refine CtI.start (lv := [(0, .ref h_o), (1, .int a1), (2, .int a2)]) (by decide) (Nat.le_of_ble_eq_true rfl) rfl (fun κ hE => ?_)
  rw [fX0_isOff] at hf0
  refine z_iload_n 2 (pc := 0) dX0_isOff_0 rfl ?_
  refine z_if_eq (pc := 1) (tgt := 27) dX0_isOff_1 (by decide) hf0 (fun hf0 => ?_) (fun hf0 => ?_)
  · refine z_aload_n 0 (pc := 27) dX0_isOff_27 rfl ?_
    refine z_get 0 2 (pc := 28) (v := .ref h_o_heights) rfl rfl inX0 (by decide) flX0_18 rfl dX0_isOff_28 ?_
    refine z_iload_n 1 (pc := 31) dX0_isOff_31 rfl ?_
    refine z_iaload 1 0 (pc := 32) rfl rfl dX0_isOff_32 hf0 (fun hf0 => ?_)
    refine z_aload_n 0 (pc := 33) dX0_isOff_33 rfl ?_
    refine z_get 0 3 (pc := 34) (v := .ref h_o_targets) rfl rfl inX0 (by decide) flX0_22 rfl dX0_isOff_34 ?_
    refine z_iload_n 1 (pc := 37) dX0_isOff_37 rfl ?_
    refine z_iaload 2 0 (pc := 38) rfl rfl dX0_isOff_38 hf0 (fun hf0 => ?_)
    refine z_icmp_ge (pc := 39) (tgt := 46) dX0_isOff_39 (by decide) hf0 (fun hf0 => ?_) (fun hf0 => ?_)
    · refine z_iconst (pc := 46) (v := 0) dX0_isOff_46 (by decide) ?_
      obtain rfl := Option.some.inj hf0
      exact z_zretL (by decide) hE dX0_isOff_47
    · refine z_iconst (pc := 42) (v := 1) dX0_isOff_42 (by decide) ?_
      refine z_goto (pc := 43) (tgt := 47) dX0_isOff_43 (by decide) ?_
      obtain rfl := Option.some.inj hf0
      exact z_zretL (by decide) hE dX0_isOff_47
  · refine z_aload_n 0 (pc := 4) dX0_isOff_4 rfl ?_
    refine z_get 0 2 (pc := 5) (v := .ref h_o_heights) rfl rfl inX0 (by decide) flX0_18 rfl dX0_isOff_5 ?_
    refine z_iload_n 1 (pc := 8) dX0_isOff_8 rfl ?_
    refine z_iaload 1 0 (pc := 9) rfl rfl dX0_isOff_9 hf0 (fun hf0 => ?_)
    refine z_aload_n 0 (pc := 10) dX0_isOff_10 rfl ?_
    refine z_get 0 3 (pc := 11) (v := .ref h_o_targets) rfl rfl inX0 (by decide) flX0_22 rfl dX0_isOff_11 ?_
    refine z_iload_n 1 (pc := 14) dX0_isOff_14 rfl ?_
    refine z_iaload 2 0 (pc := 15) rfl rfl dX0_isOff_15 hf0 (fun hf0 => ?_)
    refine z_icmp_le (pc := 16) (tgt := 23) dX0_isOff_16 (by decide) hf0 (fun hf0 => ?_) (fun hf0 => ?_)
    · refine z_iconst (pc := 23) (v := 0) dX0_isOff_23 (by decide) ?_
      refine z_goto (pc := 24) (tgt := 47) dX0_isOff_24 (by decide) ?_
      obtain rfl := Option.some.inj hf0
      exact z_zretL (by decide) hE dX0_isOff_47
    · refine z_iconst (pc := 19) (v := 1) dX0_isOff_19 (by decide) ?_
      refine z_goto (pc := 20) (tgt := 47) dX0_isOff_20 (by decide) ?_
      obtain rfl := Option.some.inj hf0
      exact z_zretL (by decide) hE dX0_isOff_47

abbrev RX0_countOff : Type := Int32
abbrev rmX0_countOff : Room := { frames := 1, cells := 0, slots := 0, locals := 22 }
abbrev wsX0_countOff (cA : Nat → ClassId) (h_o : Nat) (h_o_heights : Nat) (h_o_targets : Nat) (o_side : Int32) (o_cells : Int32) (o_kept : Value) (o_marks : Value) (o_disc : Value) (o_discSize : Int32) (o_heights_n : Nat) (o_heights : Nat → Int32) (o_targets_n : Nat) (o_targets : Nat → Int32) : va_W := [(h_o, .inr (0, [.int o_side, .int o_cells, .ref h_o_heights, .ref h_o_targets, o_kept, o_marks, o_disc, .int o_discSize])), (h_o_heights, .inl (cA 0, o_heights_n, .inl o_heights)), (h_o_targets, .inl (cA 0, o_targets_n, .inl o_targets))]
def LX0_countOff_4 (o_cells : Int32) (N : Nat) (a1 : Int32) (o_heights_n : Nat) (o_heights : Nat → Int32) (o_targets_n : Nat) (o_targets : Nat → Int32) : Nat → Int32 → Int32 → Option (Int32 × Int32)
  | 0, _, _ => none
  | n + 1, x2_4, x3_4 => (if o_cells ≤ x3_4 then some (x2_4, x3_4) else ((fX0_isOff N x3_4 a1 o_heights_n o_heights o_targets_n o_targets).bind fun r2 => (if r2 = 0 then LX0_countOff_4 o_cells N a1 o_heights_n o_heights o_targets_n o_targets n x2_4 (x3_4 + 1) else LX0_countOff_4 o_cells N a1 o_heights_n o_heights o_targets_n o_targets n (x2_4 + 1) (x3_4 + 1))))
def fX0_countOff (N : Nat) (a1 : Int32) (o_cells : Int32) (o_heights_n : Nat) (o_heights : Nat → Int32) (o_targets_n : Nat) (o_targets : Nat → Int32) : Option RX0_countOff :=
  ((LX0_countOff_4 o_cells N a1 o_heights_n o_heights o_targets_n o_targets N 0 0).bind fun r1 => some r1.1)
set_option maxHeartbeats 4000000 in
set_option maxRecDepth 100000 in
theorem kX0_countOff (l : Launch) (D : va_G) (cA : Nat → ClassId) (h_o : Nat) (h_o_heights : Nat) (h_o_targets : Nat) (o_side : Int32) (o_cells : Int32) (o_kept : Value) (o_marks : Value) (o_disc : Value) (o_discSize : Int32) (o_heights_n : Nat) (o_heights : Nat → Int32) (o_targets_n : Nat) (o_targets : Nat → Int32) (a1 : Int32) (N : Nat) (res : RX0_countOff) (hf0 : fX0_countOff N a1 o_cells o_heights_n o_heights o_targets_n o_targets = some res) : CtI l yX0_countOff (Cond.code yX0_countOff cX0_countOff 4 (some .int) :: tblG) rmX0_countOff D cA (wsX0_countOff cA h_o h_o_heights h_o_targets o_side o_cells o_kept o_marks o_disc o_discSize o_heights_n o_heights o_targets_n o_targets) [.ref h_o, .int a1] res (wsX0_countOff cA h_o h_o_heights h_o_targets o_side o_cells o_kept o_marks o_disc o_discSize o_heights_n o_heights o_targets_n o_targets) := by
  refine CtI.start (lv := [(0, .ref h_o), (1, .int a1)]) (by decide) (Nat.le_of_ble_eq_true rfl) rfl (fun κ hE => ?_)
  rw [fX0_countOff] at hf0
  refine z_iconst (pc := 0) (v := 0) dX0_countOff_0 (by decide) ?_
  refine z_istore_n (pc := 1) (lv' := [(2, .int 0), (0, .ref h_o), (1, .int a1)]) dX0_countOff_1 (by decide) rfl ?_
  refine z_iconst (pc := 2) (v := 0) dX0_countOff_2 (by decide) ?_
  refine z_istore_n (pc := 3) (lv' := [(3, .int 0), (2, .int 0), (0, .ref h_o), (1, .int a1)]) dX0_countOff_3 (by decide) rfl ?_
  obtain ⟨y4, hf0_4, hf0⟩ := bp hf0
  have lp4 : ∀ (n : Nat) (x2_4 : Int32) (x3_4 : Int32), LX0_countOff_4 o_cells N a1 o_heights_n o_heights o_targets_n o_targets n x2_4 x3_4 = some y4 → V κ l D cA rmX0_countOff cX0_countOff 4 RX0 (some .int) 0 0 4 [(0, .ref h_o), (1, .int a1), (2, .int x2_4), (3, .int x3_4)] [] (wsX0_countOff cA h_o h_o_heights h_o_targets o_side o_cells o_kept o_marks o_disc o_discSize o_heights_n o_heights o_targets_n o_targets) := by
    intro n
    induction n with
    | zero => intro x2_4 x3_4 hf0_4; rw [LX0_countOff_4] at hf0_4; cases hf0_4
    | succ n4 ih4 =>
      intro x2_4 x3_4 hf0_4
      rw [LX0_countOff_4] at hf0_4
      refine z_iload_n 3 (pc := 4) dX0_countOff_4 rfl ?_
      refine z_aload_n 0 (pc := 5) dX0_countOff_5 rfl ?_
      refine z_get 0 1 (pc := 6) (v := .int o_cells) rfl rfl inX0 (by decide) flX0_15 rfl dX0_countOff_6 ?_
      refine z_icmp_ge (pc := 9) (tgt := 30) dX0_countOff_9 (by decide) hf0_4 (fun hf0_4 => ?_) (fun hf0_4 => ?_)
      · obtain rfl := Option.some.inj hf0_4
        refine z_iload_n 2 (pc := 30) dX0_countOff_30 rfl ?_
        obtain rfl := Option.some.inj hf0
        exact z_iret hE dX0_countOff_31
      · refine z_aload_n 0 (pc := 12) dX0_countOff_12 rfl ?_
        refine z_iload_n 3 (pc := 13) dX0_countOff_13 rfl ?_
        refine z_iload_n 1 (pc := 14) dX0_countOff_14 rfl ?_
        obtain ⟨r2, er2, hf0_4⟩ := bp hf0_4
        refine z_calliV (pc := 15) (As := [.int x3_4, .int a1]) (rest := []) (ws' := (wsX0_countOff cA h_o h_o_heights h_o_targets o_side o_cells o_kept o_marks o_disc o_discSize o_heights_n o_heights o_targets_n o_targets)) (kX0_isOff l D cA h_o h_o_heights h_o_targets o_side o_cells o_kept o_marks o_disc o_discSize o_heights_n o_heights o_targets_n o_targets x3_4 a1 N r2 er2) ivX0_42 ⟨rfl, rfl⟩ ⟨by decide, by decide⟩ rfl ⟨Nat.zero_le _, Nat.zero_le _⟩ rfl rfl [0, 1, 2] rfl (by decide) rfl rfl rfl (Nat.le_of_ble_eq_true rfl) dX0_countOff_15 ?_
        refine z_if_eq (pc := 18) (tgt := 24) dX0_countOff_18 (by decide) hf0_4 (fun hf0_4 => ?_) (fun hf0_4 => ?_)
        · refine z_iinc 3 (pc := 24) (v := x3_4 + 1) (lv' := [(3, .int (x3_4 + 1)), (0, .ref h_o), (1, .int a1), (2, .int x2_4)]) dX0_countOff_24 rfl rfl (by decide) rfl ?_
          refine z_goto (pc := 27) (tgt := 4) dX0_countOff_27 (by decide) ?_
          exact z_lv [1, 2, 3, 0] rfl (ih4 x2_4 (x3_4 + 1) hf0_4)
        · refine z_iinc 2 (pc := 21) (v := x2_4 + 1) (lv' := [(2, .int (x2_4 + 1)), (0, .ref h_o), (1, .int a1), (3, .int x3_4)]) dX0_countOff_21 rfl rfl (by decide) rfl ?_
          refine z_iinc 3 (pc := 24) (v := x3_4 + 1) (lv' := [(3, .int (x3_4 + 1)), (2, .int (x2_4 + 1)), (0, .ref h_o), (1, .int a1)]) dX0_countOff_24 rfl rfl (by decide) rfl ?_
          refine z_goto (pc := 27) (tgt := 4) dX0_countOff_27 (by decide) ?_
          exact z_lv [2, 3, 1, 0] rfl (ih4 (x2_4 + 1) (x3_4 + 1) hf0_4)
  exact z_lv [2, 3, 1, 0] rfl (lp4 N 0 0 hf0_4)

abbrev RX0_firstOff : Type := Int32
abbrev rmX0_firstOff : Room := { frames := 1, cells := 0, slots := 0, locals := 22 }
abbrev wsX0_firstOff (cA : Nat → ClassId) (h_o : Nat) (h_o_heights : Nat) (h_o_targets : Nat) (o_side : Int32) (o_cells : Int32) (o_kept : Value) (o_marks : Value) (o_disc : Value) (o_discSize : Int32) (o_heights_n : Nat) (o_heights : Nat → Int32) (o_targets_n : Nat) (o_targets : Nat → Int32) : va_W := [(h_o, .inr (0, [.int o_side, .int o_cells, .ref h_o_heights, .ref h_o_targets, o_kept, o_marks, o_disc, .int o_discSize])), (h_o_heights, .inl (cA 0, o_heights_n, .inl o_heights)), (h_o_targets, .inl (cA 0, o_targets_n, .inl o_targets))]
def LX0_firstOff_2 (o_cells : Int32) (N : Nat) (a1 : Int32) (o_heights_n : Nat) (o_heights : Nat → Int32) (o_targets_n : Nat) (o_targets : Nat → Int32) : Nat → Int32 → Option (RX0_firstOff)
  | 0, _ => none
  | n + 1, x2_2 => (if o_cells ≤ x2_2 then some (-1) else ((fX0_isOff N x2_2 a1 o_heights_n o_heights o_targets_n o_targets).bind fun r1 => (if r1 = 0 then LX0_firstOff_2 o_cells N a1 o_heights_n o_heights o_targets_n o_targets n (x2_2 + 1) else some x2_2)))
def fX0_firstOff (N : Nat) (a1 : Int32) (o_cells : Int32) (o_heights_n : Nat) (o_heights : Nat → Int32) (o_targets_n : Nat) (o_targets : Nat → Int32) : Option RX0_firstOff :=
  LX0_firstOff_2 o_cells N a1 o_heights_n o_heights o_targets_n o_targets N 0
set_option maxHeartbeats 4000000 in
set_option maxRecDepth 100000 in
theorem kX0_firstOff (l : Launch) (D : va_G) (cA : Nat → ClassId) (h_o : Nat) (h_o_heights : Nat) (h_o_targets : Nat) (o_side : Int32) (o_cells : Int32) (o_kept : Value) (o_marks : Value) (o_disc : Value) (o_discSize : Int32) (o_heights_n : Nat) (o_heights : Nat → Int32) (o_targets_n : Nat) (o_targets : Nat → Int32) (a1 : Int32) (N : Nat) (res : RX0_firstOff) (hf0 : fX0_firstOff N a1 o_cells o_heights_n o_heights o_targets_n o_targets = some res) : CtI l yX0_firstOff (Cond.code yX0_firstOff cX0_firstOff 3 (some .int) :: tblG) rmX0_firstOff D cA (wsX0_firstOff cA h_o h_o_heights h_o_targets o_side o_cells o_kept o_marks o_disc o_discSize o_heights_n o_heights o_targets_n o_targets) [.ref h_o, .int a1] res (wsX0_firstOff cA h_o h_o_heights h_o_targets o_side o_cells o_kept o_marks o_disc o_discSize o_heights_n o_heights o_targets_n o_targets) := by
  refine CtI.start (lv := [(0, .ref h_o), (1, .int a1)]) (by decide) (Nat.le_of_ble_eq_true rfl) rfl (fun κ hE => ?_)
  rw [fX0_firstOff] at hf0
  refine z_iconst (pc := 0) (v := 0) dX0_firstOff_0 (by decide) ?_
  refine z_istore_n (pc := 1) (lv' := [(2, .int 0), (0, .ref h_o), (1, .int a1)]) dX0_firstOff_1 (by decide) rfl ?_
  have lp2 : ∀ (n : Nat) (x2_2 : Int32), LX0_firstOff_2 o_cells N a1 o_heights_n o_heights o_targets_n o_targets n x2_2 = some res → V κ l D cA rmX0_firstOff cX0_firstOff 3 RX0 (some .int) 0 0 2 [(0, .ref h_o), (1, .int a1), (2, .int x2_2)] [] (wsX0_firstOff cA h_o h_o_heights h_o_targets o_side o_cells o_kept o_marks o_disc o_discSize o_heights_n o_heights o_targets_n o_targets) := by
    intro n
    induction n with
    | zero => intro x2_2 hf0; rw [LX0_firstOff_2] at hf0; cases hf0
    | succ n2 ih2 =>
      intro x2_2 hf0
      rw [LX0_firstOff_2] at hf0
      refine z_iload_n 2 (pc := 2) dX0_firstOff_2 rfl ?_
      refine z_aload_n 0 (pc := 3) dX0_firstOff_3 rfl ?_
      refine z_get 0 1 (pc := 4) (v := .int o_cells) rfl rfl inX0 (by decide) flX0_15 rfl dX0_firstOff_4 ?_
      refine z_icmp_ge (pc := 7) (tgt := 27) dX0_firstOff_7 (by decide) hf0 (fun hf0 => ?_) (fun hf0 => ?_)
      · refine z_iconst (pc := 27) (v := (-1)) dX0_firstOff_27 (by decide) ?_
        obtain rfl := Option.some.inj hf0
        exact z_iret hE dX0_firstOff_28
      · refine z_aload_n 0 (pc := 10) dX0_firstOff_10 rfl ?_
        refine z_iload_n 2 (pc := 11) dX0_firstOff_11 rfl ?_
        refine z_iload_n 1 (pc := 12) dX0_firstOff_12 rfl ?_
        obtain ⟨r1, er1, hf0⟩ := bp hf0
        refine z_calliV (pc := 13) (As := [.int x2_2, .int a1]) (rest := []) (ws' := (wsX0_firstOff cA h_o h_o_heights h_o_targets o_side o_cells o_kept o_marks o_disc o_discSize o_heights_n o_heights o_targets_n o_targets)) (kX0_isOff l D cA h_o h_o_heights h_o_targets o_side o_cells o_kept o_marks o_disc o_discSize o_heights_n o_heights o_targets_n o_targets x2_2 a1 N r1 er1) ivX0_42 ⟨rfl, rfl⟩ ⟨by decide, by decide⟩ rfl ⟨Nat.zero_le _, Nat.zero_le _⟩ rfl rfl [0, 1, 2] rfl (by decide) rfl rfl rfl (Nat.le_of_ble_eq_true rfl) dX0_firstOff_13 ?_
        refine z_if_eq (pc := 16) (tgt := 21) dX0_firstOff_16 (by decide) hf0 (fun hf0 => ?_) (fun hf0 => ?_)
        · refine z_iinc 2 (pc := 21) (v := x2_2 + 1) (lv' := [(2, .int (x2_2 + 1)), (0, .ref h_o), (1, .int a1)]) dX0_firstOff_21 rfl rfl (by decide) rfl ?_
          refine z_goto (pc := 24) (tgt := 2) dX0_firstOff_24 (by decide) ?_
          exact z_lv [1, 2, 0] rfl (ih2 (x2_2 + 1) hf0)
        · refine z_iload_n 2 (pc := 19) dX0_firstOff_19 rfl ?_
          obtain rfl := Option.some.inj hf0
          exact z_iret hE dX0_firstOff_20
  exact z_lv [1, 2, 0] rfl (lp2 N 0 hf0)

abbrev RX0_layDisc : Type := Int32 × (Nat → Int32)
abbrev rmX0_layDisc : Room := { frames := 1, cells := 0, slots := 0, locals := 22 }
abbrev wsX0_layDisc (cA : Nat → ClassId) (h_o : Nat) (h_p1 : Nat) (h_p1_halfWidths : Nat) (h_o_disc : Nat) (o_side : Int32) (o_cells : Int32) (o_heights : Value) (o_targets : Value) (o_kept : Value) (o_marks : Value) (o_discSize : Int32) (p1_radius : Int32) (p1_feed : Int32) (p1_halfWidths_n : Nat) (p1_halfWidths : Nat → Int32) (o_disc_n : Nat) (o_disc : Nat → Int32) : va_W := [(h_o, .inr (0, [.int o_side, .int o_cells, o_heights, o_targets, o_kept, o_marks, .ref h_o_disc, .int o_discSize])), (h_p1, .inr (5, [.int p1_radius, .int p1_feed, .ref h_p1_halfWidths])), (h_p1_halfWidths, .inl (cA 0, p1_halfWidths_n, .inl p1_halfWidths)), (h_o_disc, .inl (cA 0, o_disc_n, .inl o_disc))]
def LX0_layDisc_80 (k3 : Int32) (N : Nat) (x5_34 : Int32) (o_side : Int32) (o_disc_n : Nat) : Nat → Int32 → (Nat → Int32) → Int32 → Option (Int32 × (Nat → Int32) × Int32)
  | 0, _, _, _ => none
  | n + 1, x8_80, o_disc_80, o_discSize_80 => (if k3 < x8_80 then some (x8_80, o_disc_80, o_discSize_80) else ((fX0_placeOf N x8_80 x5_34 o_side).bind fun r6 => (if o_discSize_80 < 0 ∨ o_disc_n ≤ o_discSize_80.toNatClampNeg then none else LX0_layDisc_80 k3 N x5_34 o_side o_disc_n n (x8_80 + 1) (upd o_disc_80 o_discSize_80.toNatClampNeg r6) (o_discSize_80 + 1))))
def LX0_layDisc_34 (k1 : Int32) (a3 : Int32) (p1_halfWidths_n : Nat) (a2 : Int32) (p1_halfWidths : Nat → Int32) (o_side : Int32) (N : Nat) (o_disc_n : Nat) : Nat → Int32 → (Nat → Int32) → Int32 → Option (Int32 × (Nat → Int32) × Int32)
  | 0, _, _, _ => none
  | n + 1, x5_34, o_disc_34, o_discSize_34 => (if k1 < x5_34 then some (x5_34, o_disc_34, o_discSize_34) else (if (if 0 ≤ (x5_34 - a3) then (x5_34 - a3) else 0 - (x5_34 - a3)) < 0 ∨ p1_halfWidths_n ≤ (if 0 ≤ (x5_34 - a3) then (x5_34 - a3) else 0 - (x5_34 - a3)).toNatClampNeg then none else ((LX0_layDisc_80 (if (a2 + (p1_halfWidths (if 0 ≤ (x5_34 - a3) then (x5_34 - a3) else 0 - (x5_34 - a3)).toNatClampNeg)) < (o_side - 1) then (a2 + (p1_halfWidths (if 0 ≤ (x5_34 - a3) then (x5_34 - a3) else 0 - (x5_34 - a3)).toNatClampNeg)) else (o_side - 1)) N x5_34 o_side o_disc_n N (if 0 < (a2 - (p1_halfWidths (if 0 ≤ (x5_34 - a3) then (x5_34 - a3) else 0 - (x5_34 - a3)).toNatClampNeg)) then (a2 - (p1_halfWidths (if 0 ≤ (x5_34 - a3) then (x5_34 - a3) else 0 - (x5_34 - a3)).toNatClampNeg)) else 0) o_disc_34 o_discSize_34).bind fun r5 => LX0_layDisc_34 k1 a3 p1_halfWidths_n a2 p1_halfWidths o_side N o_disc_n n (x5_34 + 1) r5.2.1 r5.2.2)))
def fX0_layDisc (N : Nat) (a2 : Int32) (a3 : Int32) (o_side : Int32) (o_discSize : Int32) (p1_radius : Int32) (p1_halfWidths_n : Nat) (p1_halfWidths : Nat → Int32) (o_disc_n : Nat) (o_disc : Nat → Int32) : Option RX0_layDisc :=
  ((LX0_layDisc_34 (if (a3 + p1_radius) < (o_side - 1) then (a3 + p1_radius) else (o_side - 1)) a3 p1_halfWidths_n a2 p1_halfWidths o_side N o_disc_n N (if 0 < (a3 - p1_radius) then (a3 - p1_radius) else 0) o_disc 0).bind fun r2 => some (r2.2.2, r2.2.1))
set_option maxHeartbeats 4000000 in
set_option maxRecDepth 100000 in
theorem kX0_layDisc (l : Launch) (D : va_G) (cA : Nat → ClassId) (h_o : Nat) (h_p1 : Nat) (h_p1_halfWidths : Nat) (h_o_disc : Nat) (o_side : Int32) (o_cells : Int32) (o_heights : Value) (o_targets : Value) (o_kept : Value) (o_marks : Value) (o_discSize : Int32) (p1_radius : Int32) (p1_feed : Int32) (p1_halfWidths_n : Nat) (p1_halfWidths : Nat → Int32) (o_disc_n : Nat) (o_disc : Nat → Int32) (a2 : Int32) (a3 : Int32) (N : Nat) (res : RX0_layDisc) (hf0 : fX0_layDisc N a2 a3 o_side o_discSize p1_radius p1_halfWidths_n p1_halfWidths o_disc_n o_disc = some res) : CtV l yX0_layDisc (Cond.code yX0_layDisc cX0_layDisc 9 (none) :: tblG) rmX0_layDisc D cA (wsX0_layDisc cA h_o h_p1 h_p1_halfWidths h_o_disc o_side o_cells o_heights o_targets o_kept o_marks o_discSize p1_radius p1_feed p1_halfWidths_n p1_halfWidths o_disc_n o_disc) [.ref h_o, .ref h_p1, .int a2, .int a3] (wsX0_layDisc cA h_o h_p1 h_p1_halfWidths h_o_disc o_side o_cells o_heights o_targets o_kept o_marks res.1 p1_radius p1_feed p1_halfWidths_n p1_halfWidths o_disc_n res.2) := by
  refine CtV.start (lv := [(0, .ref h_o), (1, .ref h_p1), (2, .int a2), (3, .int a3)]) (by decide) (Nat.le_of_ble_eq_true rfl) rfl (fun κ hE => ?_)
  rw [fX0_layDisc] at hf0
  refine z_aload_n 0 (pc := 0) dX0_layDisc_0 rfl ?_
  refine z_iconst (pc := 1) (v := 0) dX0_layDisc_1 (by decide) ?_
  refine z_put 0 7 (pc := 2) (ws' := (wsX0_layDisc cA h_o h_p1 h_p1_halfWidths h_o_disc o_side o_cells o_heights o_targets o_kept o_marks 0 p1_radius p1_feed p1_halfWidths_n p1_halfWidths o_disc_n o_disc)) rfl rfl inX0 tyX0 tyX0_ok nmX0 (by decide) flX0_35 rfl rfl rfl rfl (Nat.le_of_ble_eq_true rfl) dX0_layDisc_2 rfl ?_
  refine z_aload_n 0 (pc := 5) dX0_layDisc_5 rfl ?_
  refine z_get 0 0 (pc := 6) (v := .int o_side) rfl rfl inX0 (by decide) flX0_9 rfl dX0_layDisc_6 ?_
  refine z_iconst (pc := 9) (v := 1) dX0_layDisc_9 (by decide) ?_
  refine z_isub (pc := 10) dX0_layDisc_10 ?_
  refine z_iload_n 3 (pc := 11) dX0_layDisc_11 rfl ?_
  refine z_aload_n 1 (pc := 12) dX0_layDisc_12 rfl ?_
  refine z_get 1 0 (pc := 13) (v := .int p1_radius) rfl rfl inX5 (by decide) flX0_46 rfl dX0_layDisc_13 ?_
  refine z_iadd (pc := 16) dX0_layDisc_16 ?_
  refine z_mmin (pc := 17) mlX0_51 mst_min mini mcd_min (by decide) (Nat.le_of_ble_eq_true rfl) (Nat.zero_le _) (Nat.zero_le _) dX0_layDisc_17 ?_
  refine z_istore (pc := 20) (lv' := [(4, .int (if (a3 + p1_radius) < (o_side - 1) then (a3 + p1_radius) else (o_side - 1))), (0, .ref h_o), (1, .ref h_p1), (2, .int a2), (3, .int a3)]) dX0_layDisc_20 (by decide) rfl ?_
  refine z_iconst (pc := 22) (v := 0) dX0_layDisc_22 (by decide) ?_
  refine z_iload_n 4 (pc := 23) dX0_layDisc_23 rfl ?_
  refine z_aload_n 2 (pc := 24) dX0_layDisc_24 rfl ?_
  refine z_get 1 0 (pc := 25) (v := .int p1_radius) rfl rfl inX5 (by decide) flX0_46 rfl dX0_layDisc_25 ?_
  refine z_isub (pc := 28) dX0_layDisc_28 ?_
  refine z_mmax (pc := 29) mlX0_56 mst_max mini mcd_max (by decide) (Nat.le_of_ble_eq_true rfl) (Nat.zero_le _) (Nat.zero_le _) dX0_layDisc_29 ?_
  refine z_istore (pc := 32) (lv' := [(5, .int (if 0 < (a3 - p1_radius) then (a3 - p1_radius) else 0)), (4, .int (if (a3 + p1_radius) < (o_side - 1) then (a3 + p1_radius) else (o_side - 1))), (0, .ref h_o), (1, .ref h_p1), (2, .int a2), (3, .int a3)]) dX0_layDisc_32 (by decide) rfl ?_
  obtain ⟨y34, hf0_34, hf0⟩ := bp hf0
  have lp34 : ∀ (n : Nat) (x5_34 : Int32) (o_disc_34 : Nat → Int32) (o_discSize_34 : Int32), LX0_layDisc_34 (if (a3 + p1_radius) < (o_side - 1) then (a3 + p1_radius) else (o_side - 1)) a3 p1_halfWidths_n a2 p1_halfWidths o_side N o_disc_n n x5_34 o_disc_34 o_discSize_34 = some y34 → V κ l D cA rmX0_layDisc cX0_layDisc 9 RX0 (none) 0 0 34 [(4, .int (if (a3 + p1_radius) < (o_side - 1) then (a3 + p1_radius) else (o_side - 1))), (0, .ref h_o), (1, .ref h_p1), (2, .int a2), (3, .int a3), (5, .int x5_34)] [] (wsX0_layDisc cA h_o h_p1 h_p1_halfWidths h_o_disc o_side o_cells o_heights o_targets o_kept o_marks o_discSize_34 p1_radius p1_feed p1_halfWidths_n p1_halfWidths o_disc_n o_disc_34) := by
    intro n
    induction n with
    | zero => intro x5_34 o_disc_34 o_discSize_34 hf0_34; rw [LX0_layDisc_34] at hf0_34; cases hf0_34
    | succ n34 ih34 =>
      intro x5_34 o_disc_34 o_discSize_34 hf0_34
      rw [LX0_layDisc_34] at hf0_34
      refine z_iload 5 (pc := 34) dX0_layDisc_34 rfl ?_
      refine z_iload 0 (pc := 36) dX0_layDisc_36 rfl ?_
      refine z_icmp_gt (pc := 38) (tgt := 126) dX0_layDisc_38 (by decide) hf0_34 (fun hf0_34 => ?_) (fun hf0_34 => ?_)
      · obtain rfl := Option.some.inj hf0_34
        obtain rfl := Option.some.inj hf0
        exact z_vret hE dX0_layDisc_126
      · refine z_aload_n 2 (pc := 41) dX0_layDisc_41 rfl ?_
        refine z_get 1 2 (pc := 42) (v := .ref h_p1_halfWidths) rfl rfl inX5 (by decide) flX0_59 rfl dX0_layDisc_42 ?_
        refine z_iload 5 (pc := 45) dX0_layDisc_45 rfl ?_
        refine z_iload_n 4 (pc := 47) dX0_layDisc_47 rfl ?_
        refine z_isub (pc := 48) dX0_layDisc_48 ?_
        refine z_mabs (pc := 49) mlX0_62 mst_abs mini mcd_abs (by decide) (Nat.le_of_ble_eq_true rfl) (Nat.zero_le _) (Nat.zero_le _) dX0_layDisc_49 ?_
        refine z_iaload 2 0 (pc := 52) rfl rfl dX0_layDisc_52 hf0_34 (fun hf0_34 => ?_)
        refine z_istore (pc := 53) (lv' := [(6, .int (p1_halfWidths (if 0 ≤ (x5_34 - a3) then (x5_34 - a3) else 0 - (x5_34 - a3)).toNatClampNeg)), (4, .int (if (a3 + p1_radius) < (o_side - 1) then (a3 + p1_radius) else (o_side - 1))), (0, .ref h_o), (1, .ref h_p1), (2, .int a2), (3, .int a3), (5, .int x5_34)]) dX0_layDisc_53 (by decide) rfl ?_
        refine z_aload_n 2 (pc := 55) dX0_layDisc_55 rfl ?_
        refine z_get 0 0 (pc := 56) (v := .int o_side) rfl rfl inX0 (by decide) flX0_9 rfl dX0_layDisc_56 ?_
        refine z_iconst (pc := 59) (v := 1) dX0_layDisc_59 (by decide) ?_
        refine z_isub (pc := 60) dX0_layDisc_60 ?_
        refine z_iload_n 4 (pc := 61) dX0_layDisc_61 rfl ?_
        refine z_iload 0 (pc := 62) dX0_layDisc_62 rfl ?_
        refine z_iadd (pc := 64) dX0_layDisc_64 ?_
        refine z_mmin (pc := 65) mlX0_51 mst_min mini mcd_min (by decide) (Nat.le_of_ble_eq_true rfl) (Nat.zero_le _) (Nat.zero_le _) dX0_layDisc_65 ?_
        refine z_istore (pc := 68) (lv' := [(7, .int (if (a2 + (p1_halfWidths (if 0 ≤ (x5_34 - a3) then (x5_34 - a3) else 0 - (x5_34 - a3)).toNatClampNeg)) < (o_side - 1) then (a2 + (p1_halfWidths (if 0 ≤ (x5_34 - a3) then (x5_34 - a3) else 0 - (x5_34 - a3)).toNatClampNeg)) else (o_side - 1))), (6, .int (p1_halfWidths (if 0 ≤ (x5_34 - a3) then (x5_34 - a3) else 0 - (x5_34 - a3)).toNatClampNeg)), (4, .int (if (a3 + p1_radius) < (o_side - 1) then (a3 + p1_radius) else (o_side - 1))), (0, .ref h_o), (1, .ref h_p1), (2, .int a2), (3, .int a3), (5, .int x5_34)]) dX0_layDisc_68 (by decide) rfl ?_
        refine z_iconst (pc := 70) (v := 0) dX0_layDisc_70 (by decide) ?_
        refine z_iload_n 5 (pc := 71) dX0_layDisc_71 rfl ?_
        refine z_iload 1 (pc := 72) dX0_layDisc_72 rfl ?_
        refine z_isub (pc := 74) dX0_layDisc_74 ?_
        refine z_mmax (pc := 75) mlX0_56 mst_max mini mcd_max (by decide) (Nat.le_of_ble_eq_true rfl) (Nat.zero_le _) (Nat.zero_le _) dX0_layDisc_75 ?_
        refine z_istore (pc := 78) (lv' := [(8, .int (if 0 < (a2 - (p1_halfWidths (if 0 ≤ (x5_34 - a3) then (x5_34 - a3) else 0 - (x5_34 - a3)).toNatClampNeg)) then (a2 - (p1_halfWidths (if 0 ≤ (x5_34 - a3) then (x5_34 - a3) else 0 - (x5_34 - a3)).toNatClampNeg)) else 0)), (7, .int (if (a2 + (p1_halfWidths (if 0 ≤ (x5_34 - a3) then (x5_34 - a3) else 0 - (x5_34 - a3)).toNatClampNeg)) < (o_side - 1) then (a2 + (p1_halfWidths (if 0 ≤ (x5_34 - a3) then (x5_34 - a3) else 0 - (x5_34 - a3)).toNatClampNeg)) else (o_side - 1))), (6, .int (p1_halfWidths (if 0 ≤ (x5_34 - a3) then (x5_34 - a3) else 0 - (x5_34 - a3)).toNatClampNeg)), (4, .int (if (a3 + p1_radius) < (o_side - 1) then (a3 + p1_radius) else (o_side - 1))), (0, .ref h_o), (1, .ref h_p1), (2, .int a2), (3, .int a3), (5, .int x5_34)]) dX0_layDisc_78 (by decide) rfl ?_
        obtain ⟨y80, hf0_34_80, hf0_34⟩ := bp hf0_34
        have lp80 : ∀ (n : Nat) (x8_80 : Int32) (o_disc_80 : Nat → Int32) (o_discSize_80 : Int32), LX0_layDisc_80 (if (a2 + (p1_halfWidths (if 0 ≤ (x5_34 - a3) then (x5_34 - a3) else 0 - (x5_34 - a3)).toNatClampNeg)) < (o_side - 1) then (a2 + (p1_halfWidths (if 0 ≤ (x5_34 - a3) then (x5_34 - a3) else 0 - (x5_34 - a3)).toNatClampNeg)) else (o_side - 1)) N x5_34 o_side o_disc_n n x8_80 o_disc_80 o_discSize_80 = some y80 → V κ l D cA rmX0_layDisc cX0_layDisc 9 RX0 (none) 0 0 80 [(7, .int (if (a2 + (p1_halfWidths (if 0 ≤ (x5_34 - a3) then (x5_34 - a3) else 0 - (x5_34 - a3)).toNatClampNeg)) < (o_side - 1) then (a2 + (p1_halfWidths (if 0 ≤ (x5_34 - a3) then (x5_34 - a3) else 0 - (x5_34 - a3)).toNatClampNeg)) else (o_side - 1))), (6, .int (p1_halfWidths (if 0 ≤ (x5_34 - a3) then (x5_34 - a3) else 0 - (x5_34 - a3)).toNatClampNeg)), (4, .int (if (a3 + p1_radius) < (o_side - 1) then (a3 + p1_radius) else (o_side - 1))), (0, .ref h_o), (1, .ref h_p1), (2, .int a2), (3, .int a3), (5, .int x5_34), (8, .int x8_80)] [] (wsX0_layDisc cA h_o h_p1 h_p1_halfWidths h_o_disc o_side o_cells o_heights o_targets o_kept o_marks o_discSize_80 p1_radius p1_feed p1_halfWidths_n p1_halfWidths o_disc_n o_disc_80) := by
          intro n
          induction n with
          | zero => intro x8_80 o_disc_80 o_discSize_80 hf0_34_80; rw [LX0_layDisc_80] at hf0_34_80; cases hf0_34_80
          | succ n80 ih80 =>
            intro x8_80 o_disc_80 o_discSize_80 hf0_34_80
            rw [LX0_layDisc_80] at hf0_34_80
            refine z_iload 8 (pc := 80) dX0_layDisc_80 rfl ?_
            refine z_iload 0 (pc := 82) dX0_layDisc_82 rfl ?_
            refine z_icmp_gt (pc := 84) (tgt := 120) dX0_layDisc_84 (by decide) hf0_34_80 (fun hf0_34_80 => ?_) (fun hf0_34_80 => ?_)
            · obtain rfl := Option.some.inj hf0_34_80
              refine z_iinc 7 (pc := 120) (v := x5_34 + 1) (lv' := [(5, .int (x5_34 + 1)), (7, .int (if (a2 + (p1_halfWidths (if 0 ≤ (x5_34 - a3) then (x5_34 - a3) else 0 - (x5_34 - a3)).toNatClampNeg)) < (o_side - 1) then (a2 + (p1_halfWidths (if 0 ≤ (x5_34 - a3) then (x5_34 - a3) else 0 - (x5_34 - a3)).toNatClampNeg)) else (o_side - 1))), (6, .int (p1_halfWidths (if 0 ≤ (x5_34 - a3) then (x5_34 - a3) else 0 - (x5_34 - a3)).toNatClampNeg)), (4, .int (if (a3 + p1_radius) < (o_side - 1) then (a3 + p1_radius) else (o_side - 1))), (0, .ref h_o), (1, .ref h_p1), (2, .int a2), (3, .int a3), (8, .int x8_80)]) dX0_layDisc_120 rfl rfl (by decide) rfl ?_
              refine z_goto (pc := 123) (tgt := 34) dX0_layDisc_123 (by decide) ?_
              exact z_lv [3, 4, 5, 6, 7, 0] rfl (ih34 (x5_34 + 1) o_disc_80 o_discSize_80 hf0_34)
            · refine z_aload_n 3 (pc := 87) dX0_layDisc_87 rfl ?_
              refine z_get 0 6 (pc := 88) (v := .ref h_o_disc) rfl rfl inX0 (by decide) flX0_32 rfl dX0_layDisc_88 ?_
              refine z_aload_n 3 (pc := 91) dX0_layDisc_91 rfl ?_
              refine z_get 0 7 (pc := 92) (v := .int o_discSize_80) rfl rfl inX0 (by decide) flX0_35 rfl dX0_layDisc_92 ?_
              refine z_aload_n 3 (pc := 95) dX0_layDisc_95 rfl ?_
              refine z_iload 8 (pc := 96) dX0_layDisc_96 rfl ?_
              refine z_iload 7 (pc := 98) dX0_layDisc_98 rfl ?_
              obtain ⟨r6, er6, hf0_34_80⟩ := bp hf0_34_80
              refine z_calliV (pc := 100) (As := [.int x8_80, .int x5_34]) (rest := [.int o_discSize_80, .ref h_o_disc]) (ws' := (wsX0_layDisc cA h_o h_p1 h_p1_halfWidths h_o_disc o_side o_cells o_heights o_targets o_kept o_marks o_discSize_80 p1_radius p1_feed p1_halfWidths_n p1_halfWidths o_disc_n o_disc_80)) (kX0_placeOf l D cA h_o o_side o_cells o_heights o_targets o_kept o_marks (.ref h_o_disc) o_discSize_80 x8_80 x5_34 N r6 er6) ivX0_38 ⟨rfl, rfl⟩ ⟨by decide, by decide⟩ rfl ⟨Nat.zero_le _, Nat.zero_le _⟩ rfl rfl [0] rfl (by decide) rfl rfl rfl (Nat.le_of_ble_eq_true rfl) dX0_layDisc_100 ?_
              refine z_iastore 3 0 (pc := 103) (ws' := (wsX0_layDisc cA h_o h_p1 h_p1_halfWidths h_o_disc o_side o_cells o_heights o_targets o_kept o_marks o_discSize_80 p1_radius p1_feed p1_halfWidths_n p1_halfWidths o_disc_n (upd o_disc_80 o_discSize_80.toNatClampNeg r6))) rfl rfl dX0_layDisc_103 rfl hf0_34_80 (fun hf0_34_80 => ?_)
              refine z_aload_n 3 (pc := 104) dX0_layDisc_104 rfl ?_
              refine z_dup (pc := 105) dX0_layDisc_105 rfl ?_
              refine z_get 0 7 (pc := 106) (v := .int o_discSize_80) rfl rfl inX0 (by decide) flX0_35 rfl dX0_layDisc_106 ?_
              refine z_iconst (pc := 109) (v := 1) dX0_layDisc_109 (by decide) ?_
              refine z_iadd (pc := 110) dX0_layDisc_110 ?_
              refine z_put 0 7 (pc := 111) (ws' := (wsX0_layDisc cA h_o h_p1 h_p1_halfWidths h_o_disc o_side o_cells o_heights o_targets o_kept o_marks (o_discSize_80 + 1) p1_radius p1_feed p1_halfWidths_n p1_halfWidths o_disc_n (upd o_disc_80 o_discSize_80.toNatClampNeg r6))) rfl rfl inX0 tyX0 tyX0_ok nmX0 (by decide) flX0_35 rfl rfl rfl rfl (Nat.le_of_ble_eq_true rfl) dX0_layDisc_111 rfl ?_
              refine z_iinc 8 (pc := 114) (v := x8_80 + 1) (lv' := [(8, .int (x8_80 + 1)), (7, .int (if (a2 + (p1_halfWidths (if 0 ≤ (x5_34 - a3) then (x5_34 - a3) else 0 - (x5_34 - a3)).toNatClampNeg)) < (o_side - 1) then (a2 + (p1_halfWidths (if 0 ≤ (x5_34 - a3) then (x5_34 - a3) else 0 - (x5_34 - a3)).toNatClampNeg)) else (o_side - 1))), (6, .int (p1_halfWidths (if 0 ≤ (x5_34 - a3) then (x5_34 - a3) else 0 - (x5_34 - a3)).toNatClampNeg)), (4, .int (if (a3 + p1_radius) < (o_side - 1) then (a3 + p1_radius) else (o_side - 1))), (0, .ref h_o), (1, .ref h_p1), (2, .int a2), (3, .int a3), (5, .int x5_34)]) dX0_layDisc_114 rfl rfl (by decide) rfl ?_
              refine z_goto (pc := 117) (tgt := 80) dX0_layDisc_117 (by decide) ?_
              exact z_lv [1, 2, 3, 4, 5, 6, 7, 8, 0] rfl (ih80 (x8_80 + 1) (upd o_disc_80 o_discSize_80.toNatClampNeg r6) (o_discSize_80 + 1) hf0_34_80)
        exact z_lv [1, 2, 3, 4, 5, 6, 7, 8, 0] rfl (lp80 N (if 0 < (a2 - (p1_halfWidths (if 0 ≤ (x5_34 - a3) then (x5_34 - a3) else 0 - (x5_34 - a3)).toNatClampNeg)) then (a2 - (p1_halfWidths (if 0 ≤ (x5_34 - a3) then (x5_34 - a3) else 0 - (x5_34 - a3)).toNatClampNeg)) else 0) o_disc_34 o_discSize_34 hf0_34_80)
  exact z_lv [1, 2, 3, 4, 5, 0] rfl (lp34 N (if 0 < (a3 - p1_radius) then (a3 - p1_radius) else 0) o_disc 0 hf0_34)

abbrev RX0_discRisesAbove : Type := Int32
abbrev rmX0_discRisesAbove : Room := { frames := 0, cells := 0, slots := 0, locals := 0 }
abbrev wsX0_discRisesAbove (cA : Nat → ClassId) (h_o : Nat) (h_o_heights : Nat) (h_o_disc : Nat) (o_side : Int32) (o_cells : Int32) (o_targets : Value) (o_kept : Value) (o_marks : Value) (o_discSize : Int32) (o_heights_n : Nat) (o_heights : Nat → Int32) (o_disc_n : Nat) (o_disc : Nat → Int32) : va_W := [(h_o, .inr (0, [.int o_side, .int o_cells, .ref h_o_heights, o_targets, o_kept, o_marks, .ref h_o_disc, .int o_discSize])), (h_o_heights, .inl (cA 0, o_heights_n, .inl o_heights)), (h_o_disc, .inl (cA 0, o_disc_n, .inl o_disc))]
def LX0_discRisesAbove_2 (o_discSize : Int32) (o_disc_n : Nat) (o_disc : Nat → Int32) (o_heights_n : Nat) (o_heights : Nat → Int32) (a1 : Int32) : Nat → Int32 → Option (RX0_discRisesAbove)
  | 0, _ => none
  | n + 1, x2_2 => (if o_discSize ≤ x2_2 then some 0 else (if x2_2 < 0 ∨ o_disc_n ≤ x2_2.toNatClampNeg then none else (if (o_disc x2_2.toNatClampNeg) < 0 ∨ o_heights_n ≤ (o_disc x2_2.toNatClampNeg).toNatClampNeg then none else (if (o_heights (o_disc x2_2.toNatClampNeg).toNatClampNeg) ≤ a1 then LX0_discRisesAbove_2 o_discSize o_disc_n o_disc o_heights_n o_heights a1 n (x2_2 + 1) else some 1))))
def fX0_discRisesAbove (N : Nat) (a1 : Int32) (o_discSize : Int32) (o_heights_n : Nat) (o_heights : Nat → Int32) (o_disc_n : Nat) (o_disc : Nat → Int32) : Option RX0_discRisesAbove :=
  LX0_discRisesAbove_2 o_discSize o_disc_n o_disc o_heights_n o_heights a1 N 0
set_option maxHeartbeats 4000000 in
set_option maxRecDepth 100000 in
theorem kX0_discRisesAbove (l : Launch) (D : va_G) (cA : Nat → ClassId) (h_o : Nat) (h_o_heights : Nat) (h_o_disc : Nat) (o_side : Int32) (o_cells : Int32) (o_targets : Value) (o_kept : Value) (o_marks : Value) (o_discSize : Int32) (o_heights_n : Nat) (o_heights : Nat → Int32) (o_disc_n : Nat) (o_disc : Nat → Int32) (a1 : Int32) (N : Nat) (res : RX0_discRisesAbove) (hf0 : fX0_discRisesAbove N a1 o_discSize o_heights_n o_heights o_disc_n o_disc = some res) : CtI l yX0_discRisesAbove (Cond.code yX0_discRisesAbove cX0_discRisesAbove 3 (some .boolean) :: tblG) rmX0_discRisesAbove D cA (wsX0_discRisesAbove cA h_o h_o_heights h_o_disc o_side o_cells o_targets o_kept o_marks o_discSize o_heights_n o_heights o_disc_n o_disc) [.ref h_o, .int a1] res (wsX0_discRisesAbove cA h_o h_o_heights h_o_disc o_side o_cells o_targets o_kept o_marks o_discSize o_heights_n o_heights o_disc_n o_disc) := by
  refine CtI.start (lv := [(0, .ref h_o), (1, .int a1)]) (by decide) (Nat.le_of_ble_eq_true rfl) rfl (fun κ hE => ?_)
  rw [fX0_discRisesAbove] at hf0
  refine z_iconst (pc := 0) (v := 0) dX0_discRisesAbove_0 (by decide) ?_
  refine z_istore_n (pc := 1) (lv' := [(2, .int 0), (0, .ref h_o), (1, .int a1)]) dX0_discRisesAbove_1 (by decide) rfl ?_
  have lp2 : ∀ (n : Nat) (x2_2 : Int32), LX0_discRisesAbove_2 o_discSize o_disc_n o_disc o_heights_n o_heights a1 n x2_2 = some res → V κ l D cA rmX0_discRisesAbove cX0_discRisesAbove 3 RX0 (some .boolean) 0 0 2 [(0, .ref h_o), (1, .int a1), (2, .int x2_2)] [] (wsX0_discRisesAbove cA h_o h_o_heights h_o_disc o_side o_cells o_targets o_kept o_marks o_discSize o_heights_n o_heights o_disc_n o_disc) := by
    intro n
    induction n with
    | zero => intro x2_2 hf0; rw [LX0_discRisesAbove_2] at hf0; cases hf0
    | succ n2 ih2 =>
      intro x2_2 hf0
      rw [LX0_discRisesAbove_2] at hf0
      refine z_iload_n 2 (pc := 2) dX0_discRisesAbove_2 rfl ?_
      refine z_aload_n 0 (pc := 3) dX0_discRisesAbove_3 rfl ?_
      refine z_get 0 7 (pc := 4) (v := .int o_discSize) rfl rfl inX0 (by decide) flX0_35 rfl dX0_discRisesAbove_4 ?_
      refine z_icmp_ge (pc := 7) (tgt := 33) dX0_discRisesAbove_7 (by decide) hf0 (fun hf0 => ?_) (fun hf0 => ?_)
      · refine z_iconst (pc := 33) (v := 0) dX0_discRisesAbove_33 (by decide) ?_
        obtain rfl := Option.some.inj hf0
        exact z_zretL (by decide) hE dX0_discRisesAbove_34
      · refine z_aload_n 0 (pc := 10) dX0_discRisesAbove_10 rfl ?_
        refine z_get 0 2 (pc := 11) (v := .ref h_o_heights) rfl rfl inX0 (by decide) flX0_18 rfl dX0_discRisesAbove_11 ?_
        refine z_aload_n 0 (pc := 14) dX0_discRisesAbove_14 rfl ?_
        refine z_get 0 6 (pc := 15) (v := .ref h_o_disc) rfl rfl inX0 (by decide) flX0_32 rfl dX0_discRisesAbove_15 ?_
        refine z_iload_n 2 (pc := 18) dX0_discRisesAbove_18 rfl ?_
        refine z_iaload 2 0 (pc := 19) rfl rfl dX0_discRisesAbove_19 hf0 (fun hf0 => ?_)
        refine z_iaload 1 0 (pc := 20) rfl rfl dX0_discRisesAbove_20 hf0 (fun hf0 => ?_)
        refine z_iload_n 1 (pc := 21) dX0_discRisesAbove_21 rfl ?_
        refine z_icmp_le (pc := 22) (tgt := 27) dX0_discRisesAbove_22 (by decide) hf0 (fun hf0 => ?_) (fun hf0 => ?_)
        · refine z_iinc 2 (pc := 27) (v := x2_2 + 1) (lv' := [(2, .int (x2_2 + 1)), (0, .ref h_o), (1, .int a1)]) dX0_discRisesAbove_27 rfl rfl (by decide) rfl ?_
          refine z_goto (pc := 30) (tgt := 2) dX0_discRisesAbove_30 (by decide) ?_
          exact z_lv [1, 2, 0] rfl (ih2 (x2_2 + 1) hf0)
        · refine z_iconst (pc := 25) (v := 1) dX0_discRisesAbove_25 (by decide) ?_
          obtain rfl := Option.some.inj hf0
          exact z_zretL (by decide) hE dX0_discRisesAbove_26
  exact z_lv [1, 2, 0] rfl (lp2 N 0 hf0)

abbrev RX0_discHasKeptAbove : Type := Int32
abbrev rmX0_discHasKeptAbove : Room := { frames := 0, cells := 0, slots := 0, locals := 0 }
abbrev wsX0_discHasKeptAbove (cA : Nat → ClassId) (h_o : Nat) (h_o_kept : Nat) (h_o_disc : Nat) (h_o_heights : Nat) (o_side : Int32) (o_cells : Int32) (o_targets : Value) (o_marks : Value) (o_discSize : Int32) (o_kept_n : Nat) (o_kept : Nat → Int32) (o_disc_n : Nat) (o_disc : Nat → Int32) (o_heights_n : Nat) (o_heights : Nat → Int32) : va_W := [(h_o, .inr (0, [.int o_side, .int o_cells, .ref h_o_heights, o_targets, .ref h_o_kept, o_marks, .ref h_o_disc, .int o_discSize])), (h_o_kept, .inl (cA 1, o_kept_n, .inl o_kept)), (h_o_disc, .inl (cA 0, o_disc_n, .inl o_disc)), (h_o_heights, .inl (cA 0, o_heights_n, .inl o_heights))]
def LX0_discHasKeptAbove_2 (o_discSize : Int32) (o_disc_n : Nat) (o_disc : Nat → Int32) (o_kept_n : Nat) (o_kept : Nat → Int32) (o_heights_n : Nat) (o_heights : Nat → Int32) (a1 : Int32) : Nat → Int32 → Option (RX0_discHasKeptAbove)
  | 0, _ => none
  | n + 1, x2_2 => (if o_discSize ≤ x2_2 then some 0 else (if x2_2 < 0 ∨ o_disc_n ≤ x2_2.toNatClampNeg then none else (if (o_disc x2_2.toNatClampNeg) < 0 ∨ o_kept_n ≤ (o_disc x2_2.toNatClampNeg).toNatClampNeg then none else (if (o_kept (o_disc x2_2.toNatClampNeg).toNatClampNeg) = 0 then LX0_discHasKeptAbove_2 o_discSize o_disc_n o_disc o_kept_n o_kept o_heights_n o_heights a1 n (x2_2 + 1) else (if x2_2 < 0 ∨ o_disc_n ≤ x2_2.toNatClampNeg then none else (if (o_disc x2_2.toNatClampNeg) < 0 ∨ o_heights_n ≤ (o_disc x2_2.toNatClampNeg).toNatClampNeg then none else (if (o_heights (o_disc x2_2.toNatClampNeg).toNatClampNeg) ≤ a1 then LX0_discHasKeptAbove_2 o_discSize o_disc_n o_disc o_kept_n o_kept o_heights_n o_heights a1 n (x2_2 + 1) else some 1)))))))
def fX0_discHasKeptAbove (N : Nat) (a1 : Int32) (o_discSize : Int32) (o_kept_n : Nat) (o_kept : Nat → Int32) (o_disc_n : Nat) (o_disc : Nat → Int32) (o_heights_n : Nat) (o_heights : Nat → Int32) : Option RX0_discHasKeptAbove :=
  LX0_discHasKeptAbove_2 o_discSize o_disc_n o_disc o_kept_n o_kept o_heights_n o_heights a1 N 0
set_option maxHeartbeats 4000000 in
set_option maxRecDepth 100000 in
theorem kX0_discHasKeptAbove (l : Launch) (D : va_G) (cA : Nat → ClassId) (h_o : Nat) (h_o_kept : Nat) (h_o_disc : Nat) (h_o_heights : Nat) (o_side : Int32) (o_cells : Int32) (o_targets : Value) (o_marks : Value) (o_discSize : Int32) (o_kept_n : Nat) (o_kept : Nat → Int32) (o_disc_n : Nat) (o_disc : Nat → Int32) (o_heights_n : Nat) (o_heights : Nat → Int32) (a1 : Int32) (N : Nat) (res : RX0_discHasKeptAbove) (hf0 : fX0_discHasKeptAbove N a1 o_discSize o_kept_n o_kept o_disc_n o_disc o_heights_n o_heights = some res) : CtI l yX0_discHasKeptAbove (Cond.code yX0_discHasKeptAbove cX0_discHasKeptAbove 3 (some .boolean) :: tblG) rmX0_discHasKeptAbove D cA (wsX0_discHasKeptAbove cA h_o h_o_kept h_o_disc h_o_heights o_side o_cells o_targets o_marks o_discSize o_kept_n o_kept o_disc_n o_disc o_heights_n o_heights) [.ref h_o, .int a1] res (wsX0_discHasKeptAbove cA h_o h_o_kept h_o_disc h_o_heights o_side o_cells o_targets o_marks o_discSize o_kept_n o_kept o_disc_n o_disc o_heights_n o_heights) := by
  refine CtI.start (lv := [(0, .ref h_o), (1, .int a1)]) (by decide) (Nat.le_of_ble_eq_true rfl) rfl (fun κ hE => ?_)
  rw [fX0_discHasKeptAbove] at hf0
  refine z_iconst (pc := 0) (v := 0) dX0_discHasKeptAbove_0 (by decide) ?_
  refine z_istore_n (pc := 1) (lv' := [(2, .int 0), (0, .ref h_o), (1, .int a1)]) dX0_discHasKeptAbove_1 (by decide) rfl ?_
  have lp2 : ∀ (n : Nat) (x2_2 : Int32), LX0_discHasKeptAbove_2 o_discSize o_disc_n o_disc o_kept_n o_kept o_heights_n o_heights a1 n x2_2 = some res → V κ l D cA rmX0_discHasKeptAbove cX0_discHasKeptAbove 3 RX0 (some .boolean) 0 0 2 [(0, .ref h_o), (1, .int a1), (2, .int x2_2)] [] (wsX0_discHasKeptAbove cA h_o h_o_kept h_o_disc h_o_heights o_side o_cells o_targets o_marks o_discSize o_kept_n o_kept o_disc_n o_disc o_heights_n o_heights) := by
    intro n
    induction n with
    | zero => intro x2_2 hf0; rw [LX0_discHasKeptAbove_2] at hf0; cases hf0
    | succ n2 ih2 =>
      intro x2_2 hf0
      rw [LX0_discHasKeptAbove_2] at hf0
      refine z_iload_n 2 (pc := 2) dX0_discHasKeptAbove_2 rfl ?_
      refine z_aload_n 0 (pc := 3) dX0_discHasKeptAbove_3 rfl ?_
      refine z_get 0 7 (pc := 4) (v := .int o_discSize) rfl rfl inX0 (by decide) flX0_35 rfl dX0_discHasKeptAbove_4 ?_
      refine z_icmp_ge (pc := 7) (tgt := 47) dX0_discHasKeptAbove_7 (by decide) hf0 (fun hf0 => ?_) (fun hf0 => ?_)
      · refine z_iconst (pc := 47) (v := 0) dX0_discHasKeptAbove_47 (by decide) ?_
        obtain rfl := Option.some.inj hf0
        exact z_zretL (by decide) hE dX0_discHasKeptAbove_48
      · refine z_aload_n 0 (pc := 10) dX0_discHasKeptAbove_10 rfl ?_
        refine z_get 0 4 (pc := 11) (v := .ref h_o_kept) rfl rfl inX0 (by decide) flX0_25 rfl dX0_discHasKeptAbove_11 ?_
        refine z_aload_n 0 (pc := 14) dX0_discHasKeptAbove_14 rfl ?_
        refine z_get 0 6 (pc := 15) (v := .ref h_o_disc) rfl rfl inX0 (by decide) flX0_32 rfl dX0_discHasKeptAbove_15 ?_
        refine z_iload_n 2 (pc := 18) dX0_discHasKeptAbove_18 rfl ?_
        refine z_iaload 2 0 (pc := 19) rfl rfl dX0_discHasKeptAbove_19 hf0 (fun hf0 => ?_)
        refine z_zaload 1 1 (pc := 20) rfl rfl dX0_discHasKeptAbove_20 hf0 (fun hf0 => ?_)
        refine z_if_eq (pc := 21) (tgt := 41) dX0_discHasKeptAbove_21 (by decide) hf0 (fun hf0 => ?_) (fun hf0 => ?_)
        · refine z_iinc 2 (pc := 41) (v := x2_2 + 1) (lv' := [(2, .int (x2_2 + 1)), (0, .ref h_o), (1, .int a1)]) dX0_discHasKeptAbove_41 rfl rfl (by decide) rfl ?_
          refine z_goto (pc := 44) (tgt := 2) dX0_discHasKeptAbove_44 (by decide) ?_
          exact z_lv [1, 2, 0] rfl (ih2 (x2_2 + 1) hf0)
        · refine z_aload_n 0 (pc := 24) dX0_discHasKeptAbove_24 rfl ?_
          refine z_get 0 2 (pc := 25) (v := .ref h_o_heights) rfl rfl inX0 (by decide) flX0_18 rfl dX0_discHasKeptAbove_25 ?_
          refine z_aload_n 0 (pc := 28) dX0_discHasKeptAbove_28 rfl ?_
          refine z_get 0 6 (pc := 29) (v := .ref h_o_disc) rfl rfl inX0 (by decide) flX0_32 rfl dX0_discHasKeptAbove_29 ?_
          refine z_iload_n 2 (pc := 32) dX0_discHasKeptAbove_32 rfl ?_
          refine z_iaload 2 0 (pc := 33) rfl rfl dX0_discHasKeptAbove_33 hf0 (fun hf0 => ?_)
          refine z_iaload 3 0 (pc := 34) rfl rfl dX0_discHasKeptAbove_34 hf0 (fun hf0 => ?_)
          refine z_iload_n 1 (pc := 35) dX0_discHasKeptAbove_35 rfl ?_
          refine z_icmp_le (pc := 36) (tgt := 41) dX0_discHasKeptAbove_36 (by decide) hf0 (fun hf0 => ?_) (fun hf0 => ?_)
          · refine z_iinc 2 (pc := 41) (v := x2_2 + 1) (lv' := [(2, .int (x2_2 + 1)), (0, .ref h_o), (1, .int a1)]) dX0_discHasKeptAbove_41 rfl rfl (by decide) rfl ?_
            refine z_goto (pc := 44) (tgt := 2) dX0_discHasKeptAbove_44 (by decide) ?_
            exact z_lv [1, 2, 0] rfl (ih2 (x2_2 + 1) hf0)
          · refine z_iconst (pc := 39) (v := 1) dX0_discHasKeptAbove_39 (by decide) ?_
            obtain rfl := Option.some.inj hf0
            exact z_zretL (by decide) hE dX0_discHasKeptAbove_40
  exact z_lv [1, 2, 0] rfl (lp2 N 0 hf0)

abbrev RX0_lowerDisc : Type := Int32 × (Nat → Int32)
abbrev rmX0_lowerDisc : Room := { frames := 0, cells := 0, slots := 0, locals := 0 }
abbrev wsX0_lowerDisc (cA : Nat → ClassId) (h_o : Nat) (h_o_heights : Nat) (h_o_disc : Nat) (o_side : Int32) (o_cells : Int32) (o_targets : Value) (o_kept : Value) (o_marks : Value) (o_discSize : Int32) (o_heights_n : Nat) (o_heights : Nat → Int32) (o_disc_n : Nat) (o_disc : Nat → Int32) : va_W := [(h_o, .inr (0, [.int o_side, .int o_cells, .ref h_o_heights, o_targets, o_kept, o_marks, .ref h_o_disc, .int o_discSize])), (h_o_heights, .inl (cA 0, o_heights_n, .inl o_heights)), (h_o_disc, .inl (cA 0, o_disc_n, .inl o_disc))]
def LX0_lowerDisc_4 (o_discSize : Int32) (o_disc_n : Nat) (o_disc : Nat → Int32) (o_heights_n : Nat) (a1 : Int32) : Nat → Int32 → Int32 → (Nat → Int32) → Option (Int32 × Int32 × (Nat → Int32))
  | 0, _, _, _ => none
  | n + 1, x2_4, x3_4, o_heights_4 => (if o_discSize ≤ x3_4 then some (x2_4, x3_4, o_heights_4) else (if x3_4 < 0 ∨ o_disc_n ≤ x3_4.toNatClampNeg then none else (if (o_disc x3_4.toNatClampNeg) < 0 ∨ o_heights_n ≤ (o_disc x3_4.toNatClampNeg).toNatClampNeg then none else (if (o_heights_4 (o_disc x3_4.toNatClampNeg).toNatClampNeg) ≤ a1 then LX0_lowerDisc_4 o_discSize o_disc_n o_disc o_heights_n a1 n x2_4 (x3_4 + 1) o_heights_4 else (if x3_4 < 0 ∨ o_disc_n ≤ x3_4.toNatClampNeg then none else (if (o_disc x3_4.toNatClampNeg) < 0 ∨ o_heights_n ≤ (o_disc x3_4.toNatClampNeg).toNatClampNeg then none else LX0_lowerDisc_4 o_discSize o_disc_n o_disc o_heights_n a1 n (x2_4 + 1) (x3_4 + 1) (upd o_heights_4 (o_disc x3_4.toNatClampNeg).toNatClampNeg a1)))))))
def fX0_lowerDisc (N : Nat) (a1 : Int32) (o_discSize : Int32) (o_heights_n : Nat) (o_heights : Nat → Int32) (o_disc_n : Nat) (o_disc : Nat → Int32) : Option RX0_lowerDisc :=
  ((LX0_lowerDisc_4 o_discSize o_disc_n o_disc o_heights_n a1 N 0 0 o_heights).bind fun r1 => some (r1.1, r1.2.2))
set_option maxHeartbeats 4000000 in
set_option maxRecDepth 100000 in
theorem kX0_lowerDisc (l : Launch) (D : va_G) (cA : Nat → ClassId) (h_o : Nat) (h_o_heights : Nat) (h_o_disc : Nat) (o_side : Int32) (o_cells : Int32) (o_targets : Value) (o_kept : Value) (o_marks : Value) (o_discSize : Int32) (o_heights_n : Nat) (o_heights : Nat → Int32) (o_disc_n : Nat) (o_disc : Nat → Int32) (a1 : Int32) (N : Nat) (res : RX0_lowerDisc) (hf0 : fX0_lowerDisc N a1 o_discSize o_heights_n o_heights o_disc_n o_disc = some res) : CtI l yX0_lowerDisc (Cond.code yX0_lowerDisc cX0_lowerDisc 4 (some .int) :: tblG) rmX0_lowerDisc D cA (wsX0_lowerDisc cA h_o h_o_heights h_o_disc o_side o_cells o_targets o_kept o_marks o_discSize o_heights_n o_heights o_disc_n o_disc) [.ref h_o, .int a1] res.1 (wsX0_lowerDisc cA h_o h_o_heights h_o_disc o_side o_cells o_targets o_kept o_marks o_discSize o_heights_n res.2 o_disc_n o_disc) := by
  refine CtI.start (lv := [(0, .ref h_o), (1, .int a1)]) (by decide) (Nat.le_of_ble_eq_true rfl) rfl (fun κ hE => ?_)
  rw [fX0_lowerDisc] at hf0
  refine z_iconst (pc := 0) (v := 0) dX0_lowerDisc_0 (by decide) ?_
  refine z_istore_n (pc := 1) (lv' := [(2, .int 0), (0, .ref h_o), (1, .int a1)]) dX0_lowerDisc_1 (by decide) rfl ?_
  refine z_iconst (pc := 2) (v := 0) dX0_lowerDisc_2 (by decide) ?_
  refine z_istore_n (pc := 3) (lv' := [(3, .int 0), (2, .int 0), (0, .ref h_o), (1, .int a1)]) dX0_lowerDisc_3 (by decide) rfl ?_
  obtain ⟨y4, hf0_4, hf0⟩ := bp hf0
  have lp4 : ∀ (n : Nat) (x2_4 : Int32) (x3_4 : Int32) (o_heights_4 : Nat → Int32), LX0_lowerDisc_4 o_discSize o_disc_n o_disc o_heights_n a1 n x2_4 x3_4 o_heights_4 = some y4 → V κ l D cA rmX0_lowerDisc cX0_lowerDisc 4 RX0 (some .int) 0 0 4 [(0, .ref h_o), (1, .int a1), (2, .int x2_4), (3, .int x3_4)] [] (wsX0_lowerDisc cA h_o h_o_heights h_o_disc o_side o_cells o_targets o_kept o_marks o_discSize o_heights_n o_heights_4 o_disc_n o_disc) := by
    intro n
    induction n with
    | zero => intro x2_4 x3_4 o_heights_4 hf0_4; rw [LX0_lowerDisc_4] at hf0_4; cases hf0_4
    | succ n4 ih4 =>
      intro x2_4 x3_4 o_heights_4 hf0_4
      rw [LX0_lowerDisc_4] at hf0_4
      refine z_iload_n 3 (pc := 4) dX0_lowerDisc_4 rfl ?_
      refine z_aload_n 0 (pc := 5) dX0_lowerDisc_5 rfl ?_
      refine z_get 0 7 (pc := 6) (v := .int o_discSize) rfl rfl inX0 (by decide) flX0_35 rfl dX0_lowerDisc_6 ?_
      refine z_icmp_ge (pc := 9) (tgt := 48) dX0_lowerDisc_9 (by decide) hf0_4 (fun hf0_4 => ?_) (fun hf0_4 => ?_)
      · obtain rfl := Option.some.inj hf0_4
        refine z_iload_n 2 (pc := 48) dX0_lowerDisc_48 rfl ?_
        obtain rfl := Option.some.inj hf0
        exact z_iret hE dX0_lowerDisc_49
      · refine z_aload_n 0 (pc := 12) dX0_lowerDisc_12 rfl ?_
        refine z_get 0 2 (pc := 13) (v := .ref h_o_heights) rfl rfl inX0 (by decide) flX0_18 rfl dX0_lowerDisc_13 ?_
        refine z_aload_n 0 (pc := 16) dX0_lowerDisc_16 rfl ?_
        refine z_get 0 6 (pc := 17) (v := .ref h_o_disc) rfl rfl inX0 (by decide) flX0_32 rfl dX0_lowerDisc_17 ?_
        refine z_iload_n 3 (pc := 20) dX0_lowerDisc_20 rfl ?_
        refine z_iaload 2 0 (pc := 21) rfl rfl dX0_lowerDisc_21 hf0_4 (fun hf0_4 => ?_)
        refine z_iaload 1 0 (pc := 22) rfl rfl dX0_lowerDisc_22 hf0_4 (fun hf0_4 => ?_)
        refine z_iload_n 1 (pc := 23) dX0_lowerDisc_23 rfl ?_
        refine z_icmp_le (pc := 24) (tgt := 42) dX0_lowerDisc_24 (by decide) hf0_4 (fun hf0_4 => ?_) (fun hf0_4 => ?_)
        · refine z_iinc 3 (pc := 42) (v := x3_4 + 1) (lv' := [(3, .int (x3_4 + 1)), (0, .ref h_o), (1, .int a1), (2, .int x2_4)]) dX0_lowerDisc_42 rfl rfl (by decide) rfl ?_
          refine z_goto (pc := 45) (tgt := 4) dX0_lowerDisc_45 (by decide) ?_
          exact z_lv [1, 2, 3, 0] rfl (ih4 x2_4 (x3_4 + 1) o_heights_4 hf0_4)
        · refine z_aload_n 0 (pc := 27) dX0_lowerDisc_27 rfl ?_
          refine z_get 0 2 (pc := 28) (v := .ref h_o_heights) rfl rfl inX0 (by decide) flX0_18 rfl dX0_lowerDisc_28 ?_
          refine z_aload_n 0 (pc := 31) dX0_lowerDisc_31 rfl ?_
          refine z_get 0 6 (pc := 32) (v := .ref h_o_disc) rfl rfl inX0 (by decide) flX0_32 rfl dX0_lowerDisc_32 ?_
          refine z_iload_n 3 (pc := 35) dX0_lowerDisc_35 rfl ?_
          refine z_iaload 2 0 (pc := 36) rfl rfl dX0_lowerDisc_36 hf0_4 (fun hf0_4 => ?_)
          refine z_iload_n 1 (pc := 37) dX0_lowerDisc_37 rfl ?_
          refine z_iastore 1 0 (pc := 38) (ws' := (wsX0_lowerDisc cA h_o h_o_heights h_o_disc o_side o_cells o_targets o_kept o_marks o_discSize o_heights_n (upd o_heights_4 (o_disc x3_4.toNatClampNeg).toNatClampNeg a1) o_disc_n o_disc)) rfl rfl dX0_lowerDisc_38 rfl hf0_4 (fun hf0_4 => ?_)
          refine z_iinc 2 (pc := 39) (v := x2_4 + 1) (lv' := [(2, .int (x2_4 + 1)), (0, .ref h_o), (1, .int a1), (3, .int x3_4)]) dX0_lowerDisc_39 rfl rfl (by decide) rfl ?_
          refine z_iinc 3 (pc := 42) (v := x3_4 + 1) (lv' := [(3, .int (x3_4 + 1)), (2, .int (x2_4 + 1)), (0, .ref h_o), (1, .int a1)]) dX0_lowerDisc_42 rfl rfl (by decide) rfl ?_
          refine z_goto (pc := 45) (tgt := 4) dX0_lowerDisc_45 (by decide) ?_
          exact z_lv [2, 3, 1, 0] rfl (ih4 (x2_4 + 1) (x3_4 + 1) (upd o_heights_4 (o_disc x3_4.toNatClampNeg).toNatClampNeg a1) hf0_4)
  exact z_lv [2, 3, 1, 0] rfl (lp4 N 0 0 o_heights hf0_4)

abbrev RX0_discHasKept : Type := Int32
abbrev rmX0_discHasKept : Room := { frames := 0, cells := 0, slots := 0, locals := 0 }
abbrev wsX0_discHasKept (cA : Nat → ClassId) (h_o : Nat) (h_o_kept : Nat) (h_o_disc : Nat) (o_side : Int32) (o_cells : Int32) (o_heights : Value) (o_targets : Value) (o_marks : Value) (o_discSize : Int32) (o_kept_n : Nat) (o_kept : Nat → Int32) (o_disc_n : Nat) (o_disc : Nat → Int32) : va_W := [(h_o, .inr (0, [.int o_side, .int o_cells, o_heights, o_targets, .ref h_o_kept, o_marks, .ref h_o_disc, .int o_discSize])), (h_o_kept, .inl (cA 1, o_kept_n, .inl o_kept)), (h_o_disc, .inl (cA 0, o_disc_n, .inl o_disc))]
def LX0_discHasKept_2 (o_discSize : Int32) (o_disc_n : Nat) (o_disc : Nat → Int32) (o_kept_n : Nat) (o_kept : Nat → Int32) : Nat → Int32 → Option (RX0_discHasKept)
  | 0, _ => none
  | n + 1, x1_2 => (if o_discSize ≤ x1_2 then some 0 else (if x1_2 < 0 ∨ o_disc_n ≤ x1_2.toNatClampNeg then none else (if (o_disc x1_2.toNatClampNeg) < 0 ∨ o_kept_n ≤ (o_disc x1_2.toNatClampNeg).toNatClampNeg then none else (if (o_kept (o_disc x1_2.toNatClampNeg).toNatClampNeg) = 0 then LX0_discHasKept_2 o_discSize o_disc_n o_disc o_kept_n o_kept n (x1_2 + 1) else some 1))))
def fX0_discHasKept (N : Nat)  (o_discSize : Int32) (o_kept_n : Nat) (o_kept : Nat → Int32) (o_disc_n : Nat) (o_disc : Nat → Int32) : Option RX0_discHasKept :=
  LX0_discHasKept_2 o_discSize o_disc_n o_disc o_kept_n o_kept N 0
set_option maxHeartbeats 4000000 in
set_option maxRecDepth 100000 in
theorem kX0_discHasKept (l : Launch) (D : va_G) (cA : Nat → ClassId) (h_o : Nat) (h_o_kept : Nat) (h_o_disc : Nat) (o_side : Int32) (o_cells : Int32) (o_heights : Value) (o_targets : Value) (o_marks : Value) (o_discSize : Int32) (o_kept_n : Nat) (o_kept : Nat → Int32) (o_disc_n : Nat) (o_disc : Nat → Int32)  (N : Nat) (res : RX0_discHasKept) (hf0 : fX0_discHasKept N o_discSize o_kept_n o_kept o_disc_n o_disc = some res) : CtI l yX0_discHasKept (Cond.code yX0_discHasKept cX0_discHasKept 2 (some .boolean) :: tblG) rmX0_discHasKept D cA (wsX0_discHasKept cA h_o h_o_kept h_o_disc o_side o_cells o_heights o_targets o_marks o_discSize o_kept_n o_kept o_disc_n o_disc) [.ref h_o] res (wsX0_discHasKept cA h_o h_o_kept h_o_disc o_side o_cells o_heights o_targets o_marks o_discSize o_kept_n o_kept o_disc_n o_disc) := by
  refine CtI.start (lv := [(0, .ref h_o)]) (by decide) (Nat.le_of_ble_eq_true rfl) rfl (fun κ hE => ?_)
  rw [fX0_discHasKept] at hf0
  refine z_iconst (pc := 0) (v := 0) dX0_discHasKept_0 (by decide) ?_
  refine z_istore_n (pc := 1) (lv' := [(1, .int 0), (0, .ref h_o)]) dX0_discHasKept_1 (by decide) rfl ?_
  have lp2 : ∀ (n : Nat) (x1_2 : Int32), LX0_discHasKept_2 o_discSize o_disc_n o_disc o_kept_n o_kept n x1_2 = some res → V κ l D cA rmX0_discHasKept cX0_discHasKept 2 RX0 (some .boolean) 0 0 2 [(0, .ref h_o), (1, .int x1_2)] [] (wsX0_discHasKept cA h_o h_o_kept h_o_disc o_side o_cells o_heights o_targets o_marks o_discSize o_kept_n o_kept o_disc_n o_disc) := by
    intro n
    induction n with
    | zero => intro x1_2 hf0; rw [LX0_discHasKept_2] at hf0; cases hf0
    | succ n2 ih2 =>
      intro x1_2 hf0
      rw [LX0_discHasKept_2] at hf0
      refine z_iload_n 1 (pc := 2) dX0_discHasKept_2 rfl ?_
      refine z_aload_n 0 (pc := 3) dX0_discHasKept_3 rfl ?_
      refine z_get 0 7 (pc := 4) (v := .int o_discSize) rfl rfl inX0 (by decide) flX0_35 rfl dX0_discHasKept_4 ?_
      refine z_icmp_ge (pc := 7) (tgt := 32) dX0_discHasKept_7 (by decide) hf0 (fun hf0 => ?_) (fun hf0 => ?_)
      · refine z_iconst (pc := 32) (v := 0) dX0_discHasKept_32 (by decide) ?_
        obtain rfl := Option.some.inj hf0
        exact z_zretL (by decide) hE dX0_discHasKept_33
      · refine z_aload_n 0 (pc := 10) dX0_discHasKept_10 rfl ?_
        refine z_get 0 4 (pc := 11) (v := .ref h_o_kept) rfl rfl inX0 (by decide) flX0_25 rfl dX0_discHasKept_11 ?_
        refine z_aload_n 0 (pc := 14) dX0_discHasKept_14 rfl ?_
        refine z_get 0 6 (pc := 15) (v := .ref h_o_disc) rfl rfl inX0 (by decide) flX0_32 rfl dX0_discHasKept_15 ?_
        refine z_iload_n 1 (pc := 18) dX0_discHasKept_18 rfl ?_
        refine z_iaload 2 0 (pc := 19) rfl rfl dX0_discHasKept_19 hf0 (fun hf0 => ?_)
        refine z_zaload 1 1 (pc := 20) rfl rfl dX0_discHasKept_20 hf0 (fun hf0 => ?_)
        refine z_if_eq (pc := 21) (tgt := 26) dX0_discHasKept_21 (by decide) hf0 (fun hf0 => ?_) (fun hf0 => ?_)
        · refine z_iinc 1 (pc := 26) (v := x1_2 + 1) (lv' := [(1, .int (x1_2 + 1)), (0, .ref h_o)]) dX0_discHasKept_26 rfl rfl (by decide) rfl ?_
          refine z_goto (pc := 29) (tgt := 2) dX0_discHasKept_29 (by decide) ?_
          exact z_lv [1, 0] rfl (ih2 (x1_2 + 1) hf0)
        · refine z_iconst (pc := 24) (v := 1) dX0_discHasKept_24 (by decide) ?_
          obtain rfl := Option.some.inj hf0
          exact z_zretL (by decide) hE dX0_discHasKept_25
  exact z_lv [1, 0] rfl (lp2 N 0 hf0)

abbrev RX0_highestTargetInDisc : Type := Int32
abbrev rmX0_highestTargetInDisc : Room := { frames := 1, cells := 0, slots := 0, locals := 21 }
abbrev wsX0_highestTargetInDisc (cA : Nat → ClassId) (h_o : Nat) (h_o_targets : Nat) (h_o_disc : Nat) (o_side : Int32) (o_cells : Int32) (o_heights : Value) (o_kept : Value) (o_marks : Value) (o_discSize : Int32) (o_targets_n : Nat) (o_targets : Nat → Int32) (o_disc_n : Nat) (o_disc : Nat → Int32) : va_W := [(h_o, .inr (0, [.int o_side, .int o_cells, o_heights, .ref h_o_targets, o_kept, o_marks, .ref h_o_disc, .int o_discSize])), (h_o_targets, .inl (cA 0, o_targets_n, .inl o_targets)), (h_o_disc, .inl (cA 0, o_disc_n, .inl o_disc))]
def LX0_highestTargetInDisc_4 (o_discSize : Int32) (o_disc_n : Nat) (o_disc : Nat → Int32) (o_targets_n : Nat) (o_targets : Nat → Int32) : Nat → Int32 → Int32 → Option (Int32 × Int32)
  | 0, _, _ => none
  | n + 1, x1_4, x2_4 => (if o_discSize ≤ x2_4 then some (x1_4, x2_4) else (if x2_4 < 0 ∨ o_disc_n ≤ x2_4.toNatClampNeg then none else (if (o_disc x2_4.toNatClampNeg) < 0 ∨ o_targets_n ≤ (o_disc x2_4.toNatClampNeg).toNatClampNeg then none else LX0_highestTargetInDisc_4 o_discSize o_disc_n o_disc o_targets_n o_targets n (if x1_4 < (o_targets (o_disc x2_4.toNatClampNeg).toNatClampNeg) then (o_targets (o_disc x2_4.toNatClampNeg).toNatClampNeg) else x1_4) (x2_4 + 1))))
def fX0_highestTargetInDisc (N : Nat)  (o_discSize : Int32) (o_targets_n : Nat) (o_targets : Nat → Int32) (o_disc_n : Nat) (o_disc : Nat → Int32) : Option RX0_highestTargetInDisc :=
  ((LX0_highestTargetInDisc_4 o_discSize o_disc_n o_disc o_targets_n o_targets N 0 0).bind fun r1 => some r1.1)
set_option maxHeartbeats 4000000 in
set_option maxRecDepth 100000 in
theorem kX0_highestTargetInDisc (l : Launch) (D : va_G) (cA : Nat → ClassId) (h_o : Nat) (h_o_targets : Nat) (h_o_disc : Nat) (o_side : Int32) (o_cells : Int32) (o_heights : Value) (o_kept : Value) (o_marks : Value) (o_discSize : Int32) (o_targets_n : Nat) (o_targets : Nat → Int32) (o_disc_n : Nat) (o_disc : Nat → Int32)  (N : Nat) (res : RX0_highestTargetInDisc) (hf0 : fX0_highestTargetInDisc N o_discSize o_targets_n o_targets o_disc_n o_disc = some res) : CtI l yX0_highestTargetInDisc (Cond.code yX0_highestTargetInDisc cX0_highestTargetInDisc 3 (some .int) :: tblG) rmX0_highestTargetInDisc D cA (wsX0_highestTargetInDisc cA h_o h_o_targets h_o_disc o_side o_cells o_heights o_kept o_marks o_discSize o_targets_n o_targets o_disc_n o_disc) [.ref h_o] res (wsX0_highestTargetInDisc cA h_o h_o_targets h_o_disc o_side o_cells o_heights o_kept o_marks o_discSize o_targets_n o_targets o_disc_n o_disc) := by
  refine CtI.start (lv := [(0, .ref h_o)]) (by decide) (Nat.le_of_ble_eq_true rfl) rfl (fun κ hE => ?_)
  rw [fX0_highestTargetInDisc] at hf0
  refine z_iconst (pc := 0) (v := 0) dX0_highestTargetInDisc_0 (by decide) ?_
  refine z_istore_n (pc := 1) (lv' := [(1, .int 0), (0, .ref h_o)]) dX0_highestTargetInDisc_1 (by decide) rfl ?_
  refine z_iconst (pc := 2) (v := 0) dX0_highestTargetInDisc_2 (by decide) ?_
  refine z_istore_n (pc := 3) (lv' := [(2, .int 0), (1, .int 0), (0, .ref h_o)]) dX0_highestTargetInDisc_3 (by decide) rfl ?_
  obtain ⟨y4, hf0_4, hf0⟩ := bp hf0
  have lp4 : ∀ (n : Nat) (x1_4 : Int32) (x2_4 : Int32), LX0_highestTargetInDisc_4 o_discSize o_disc_n o_disc o_targets_n o_targets n x1_4 x2_4 = some y4 → V κ l D cA rmX0_highestTargetInDisc cX0_highestTargetInDisc 3 RX0 (some .int) 0 0 4 [(0, .ref h_o), (1, .int x1_4), (2, .int x2_4)] [] (wsX0_highestTargetInDisc cA h_o h_o_targets h_o_disc o_side o_cells o_heights o_kept o_marks o_discSize o_targets_n o_targets o_disc_n o_disc) := by
    intro n
    induction n with
    | zero => intro x1_4 x2_4 hf0_4; rw [LX0_highestTargetInDisc_4] at hf0_4; cases hf0_4
    | succ n4 ih4 =>
      intro x1_4 x2_4 hf0_4
      rw [LX0_highestTargetInDisc_4] at hf0_4
      refine z_iload_n 2 (pc := 4) dX0_highestTargetInDisc_4 rfl ?_
      refine z_aload_n 0 (pc := 5) dX0_highestTargetInDisc_5 rfl ?_
      refine z_get 0 7 (pc := 6) (v := .int o_discSize) rfl rfl inX0 (by decide) flX0_35 rfl dX0_highestTargetInDisc_6 ?_
      refine z_icmp_ge (pc := 9) (tgt := 34) dX0_highestTargetInDisc_9 (by decide) hf0_4 (fun hf0_4 => ?_) (fun hf0_4 => ?_)
      · obtain rfl := Option.some.inj hf0_4
        refine z_iload_n 1 (pc := 34) dX0_highestTargetInDisc_34 rfl ?_
        obtain rfl := Option.some.inj hf0
        exact z_iret hE dX0_highestTargetInDisc_35
      · refine z_iload_n 1 (pc := 12) dX0_highestTargetInDisc_12 rfl ?_
        refine z_aload_n 0 (pc := 13) dX0_highestTargetInDisc_13 rfl ?_
        refine z_get 0 3 (pc := 14) (v := .ref h_o_targets) rfl rfl inX0 (by decide) flX0_22 rfl dX0_highestTargetInDisc_14 ?_
        refine z_aload_n 0 (pc := 17) dX0_highestTargetInDisc_17 rfl ?_
        refine z_get 0 6 (pc := 18) (v := .ref h_o_disc) rfl rfl inX0 (by decide) flX0_32 rfl dX0_highestTargetInDisc_18 ?_
        refine z_iload_n 2 (pc := 21) dX0_highestTargetInDisc_21 rfl ?_
        refine z_iaload 2 0 (pc := 22) rfl rfl dX0_highestTargetInDisc_22 hf0_4 (fun hf0_4 => ?_)
        refine z_iaload 1 0 (pc := 23) rfl rfl dX0_highestTargetInDisc_23 hf0_4 (fun hf0_4 => ?_)
        refine z_mmax (pc := 24) mlX0_56 mst_max mini mcd_max (by decide) (Nat.le_of_ble_eq_true rfl) (Nat.zero_le _) (Nat.zero_le _) dX0_highestTargetInDisc_24 ?_
        refine z_istore_n (pc := 27) (lv' := [(1, .int (if x1_4 < (o_targets (o_disc x2_4.toNatClampNeg).toNatClampNeg) then (o_targets (o_disc x2_4.toNatClampNeg).toNatClampNeg) else x1_4)), (0, .ref h_o), (2, .int x2_4)]) dX0_highestTargetInDisc_27 (by decide) rfl ?_
        refine z_iinc 2 (pc := 28) (v := x2_4 + 1) (lv' := [(2, .int (x2_4 + 1)), (1, .int (if x1_4 < (o_targets (o_disc x2_4.toNatClampNeg).toNatClampNeg) then (o_targets (o_disc x2_4.toNatClampNeg).toNatClampNeg) else x1_4)), (0, .ref h_o)]) dX0_highestTargetInDisc_28 rfl rfl (by decide) rfl ?_
        refine z_goto (pc := 31) (tgt := 4) dX0_highestTargetInDisc_31 (by decide) ?_
        exact z_lv [2, 1, 0] rfl (ih4 (if x1_4 < (o_targets (o_disc x2_4.toNatClampNeg).toNatClampNeg) then (o_targets (o_disc x2_4.toNatClampNeg).toNatClampNeg) else x1_4) (x2_4 + 1) hf0_4)
  exact z_lv [2, 1, 0] rfl (lp4 N 0 0 hf0_4)

abbrev RX0_markReached : Type := Int32 × (Nat → Int32)
abbrev rmX0_markReached : Room := { frames := 1, cells := 0, slots := 0, locals := 22 }
abbrev wsX0_markReached (cA : Nat → ClassId) (h_o : Nat) (h_o_disc : Nat) (h_o_marks : Nat) (h_o_targets : Nat) (h_o_heights : Nat) (o_side : Int32) (o_cells : Int32) (o_kept : Value) (o_discSize : Int32) (o_disc_n : Nat) (o_disc : Nat → Int32) (o_marks_n : Nat) (o_marks : Nat → Int32) (o_targets_n : Nat) (o_targets : Nat → Int32) (o_heights_n : Nat) (o_heights : Nat → Int32) : va_W := [(h_o, .inr (0, [.int o_side, .int o_cells, .ref h_o_heights, .ref h_o_targets, o_kept, .ref h_o_marks, .ref h_o_disc, .int o_discSize])), (h_o_disc, .inl (cA 0, o_disc_n, .inl o_disc)), (h_o_marks, .inl (cA 1, o_marks_n, .inl o_marks)), (h_o_targets, .inl (cA 0, o_targets_n, .inl o_targets)), (h_o_heights, .inl (cA 0, o_heights_n, .inl o_heights))]
def LX0_markReached_4 (o_discSize : Int32) (o_disc_n : Nat) (o_disc : Nat → Int32) (o_marks_n : Nat) (o_targets_n : Nat) (o_targets : Nat → Int32) (a1 : Int32) (N : Nat) (o_heights_n : Nat) (o_heights : Nat → Int32) : Nat → Int32 → Int32 → (Nat → Int32) → Option (Int32 × Int32 × (Nat → Int32))
  | 0, _, _, _ => none
  | n + 1, x2_4, x3_4, o_marks_4 => (if o_discSize ≤ x3_4 then some (x2_4, x3_4, o_marks_4) else (if x3_4 < 0 ∨ o_disc_n ≤ x3_4.toNatClampNeg then none else (if (o_disc x3_4.toNatClampNeg) < 0 ∨ o_marks_n ≤ (o_disc x3_4.toNatClampNeg).toNatClampNeg then none else (if (o_marks_4 (o_disc x3_4.toNatClampNeg).toNatClampNeg) = 0 then (if (o_disc x3_4.toNatClampNeg) < 0 ∨ o_targets_n ≤ (o_disc x3_4.toNatClampNeg).toNatClampNeg then none else (if (o_targets (o_disc x3_4.toNatClampNeg).toNatClampNeg) = a1 then ((fX0_isOff N (o_disc x3_4.toNatClampNeg) 1 o_heights_n o_heights o_targets_n o_targets).bind fun r2 => (if r2 = 0 then LX0_markReached_4 o_discSize o_disc_n o_disc o_marks_n o_targets_n o_targets a1 N o_heights_n o_heights n x2_4 (x3_4 + 1) o_marks_4 else (if (o_disc x3_4.toNatClampNeg) < 0 ∨ o_marks_n ≤ (o_disc x3_4.toNatClampNeg).toNatClampNeg then none else LX0_markReached_4 o_discSize o_disc_n o_disc o_marks_n o_targets_n o_targets a1 N o_heights_n o_heights n (x2_4 + 1) (x3_4 + 1) (upd o_marks_4 (o_disc x3_4.toNatClampNeg).toNatClampNeg (vp_nar .boolean 1))))) else LX0_markReached_4 o_discSize o_disc_n o_disc o_marks_n o_targets_n o_targets a1 N o_heights_n o_heights n x2_4 (x3_4 + 1) o_marks_4)) else LX0_markReached_4 o_discSize o_disc_n o_disc o_marks_n o_targets_n o_targets a1 N o_heights_n o_heights n x2_4 (x3_4 + 1) o_marks_4))))
def fX0_markReached (N : Nat) (a1 : Int32) (o_discSize : Int32) (o_disc_n : Nat) (o_disc : Nat → Int32) (o_marks_n : Nat) (o_marks : Nat → Int32) (o_targets_n : Nat) (o_targets : Nat → Int32) (o_heights_n : Nat) (o_heights : Nat → Int32) : Option RX0_markReached :=
  ((LX0_markReached_4 o_discSize o_disc_n o_disc o_marks_n o_targets_n o_targets a1 N o_heights_n o_heights N 0 0 o_marks).bind fun r1 => some (r1.1, r1.2.2))
set_option maxHeartbeats 4000000 in
set_option maxRecDepth 100000 in
theorem kX0_markReached (l : Launch) (D : va_G) (cA : Nat → ClassId) (h_o : Nat) (h_o_disc : Nat) (h_o_marks : Nat) (h_o_targets : Nat) (h_o_heights : Nat) (o_side : Int32) (o_cells : Int32) (o_kept : Value) (o_discSize : Int32) (o_disc_n : Nat) (o_disc : Nat → Int32) (o_marks_n : Nat) (o_marks : Nat → Int32) (o_targets_n : Nat) (o_targets : Nat → Int32) (o_heights_n : Nat) (o_heights : Nat → Int32) (a1 : Int32) (N : Nat) (res : RX0_markReached) (hf0 : fX0_markReached N a1 o_discSize o_disc_n o_disc o_marks_n o_marks o_targets_n o_targets o_heights_n o_heights = some res) : CtI l yX0_markReached (Cond.code yX0_markReached cX0_markReached 5 (some .int) :: tblG) rmX0_markReached D cA (wsX0_markReached cA h_o h_o_disc h_o_marks h_o_targets h_o_heights o_side o_cells o_kept o_discSize o_disc_n o_disc o_marks_n o_marks o_targets_n o_targets o_heights_n o_heights) [.ref h_o, .int a1] res.1 (wsX0_markReached cA h_o h_o_disc h_o_marks h_o_targets h_o_heights o_side o_cells o_kept o_discSize o_disc_n o_disc o_marks_n res.2 o_targets_n o_targets o_heights_n o_heights) := by
  refine CtI.start (lv := [(0, .ref h_o), (1, .int a1)]) (by decide) (Nat.le_of_ble_eq_true rfl) rfl (fun κ hE => ?_)
  rw [fX0_markReached] at hf0
  refine z_iconst (pc := 0) (v := 0) dX0_markReached_0 (by decide) ?_
  refine z_istore_n (pc := 1) (lv' := [(2, .int 0), (0, .ref h_o), (1, .int a1)]) dX0_markReached_1 (by decide) rfl ?_
  refine z_iconst (pc := 2) (v := 0) dX0_markReached_2 (by decide) ?_
  refine z_istore_n (pc := 3) (lv' := [(3, .int 0), (2, .int 0), (0, .ref h_o), (1, .int a1)]) dX0_markReached_3 (by decide) rfl ?_
  obtain ⟨y4, hf0_4, hf0⟩ := bp hf0
  have lp4 : ∀ (n : Nat) (x2_4 : Int32) (x3_4 : Int32) (o_marks_4 : Nat → Int32), LX0_markReached_4 o_discSize o_disc_n o_disc o_marks_n o_targets_n o_targets a1 N o_heights_n o_heights n x2_4 x3_4 o_marks_4 = some y4 → V κ l D cA rmX0_markReached cX0_markReached 5 RX0 (some .int) 0 0 4 [(0, .ref h_o), (1, .int a1), (2, .int x2_4), (3, .int x3_4)] [] (wsX0_markReached cA h_o h_o_disc h_o_marks h_o_targets h_o_heights o_side o_cells o_kept o_discSize o_disc_n o_disc o_marks_n o_marks_4 o_targets_n o_targets o_heights_n o_heights) := by
    intro n
    induction n with
    | zero => intro x2_4 x3_4 o_marks_4 hf0_4; rw [LX0_markReached_4] at hf0_4; cases hf0_4
    | succ n4 ih4 =>
      intro x2_4 x3_4 o_marks_4 hf0_4
      rw [LX0_markReached_4] at hf0_4
      refine z_iload_n 3 (pc := 4) dX0_markReached_4 rfl ?_
      refine z_aload_n 0 (pc := 5) dX0_markReached_5 rfl ?_
      refine z_get 0 7 (pc := 6) (v := .int o_discSize) rfl rfl inX0 (by decide) flX0_35 rfl dX0_markReached_6 ?_
      refine z_icmp_ge (pc := 9) (tgt := 68) dX0_markReached_9 (by decide) hf0_4 (fun hf0_4 => ?_) (fun hf0_4 => ?_)
      · obtain rfl := Option.some.inj hf0_4
        refine z_iload_n 2 (pc := 68) dX0_markReached_68 rfl ?_
        obtain rfl := Option.some.inj hf0
        exact z_iret hE dX0_markReached_69
      · refine z_aload_n 0 (pc := 12) dX0_markReached_12 rfl ?_
        refine z_get 0 6 (pc := 13) (v := .ref h_o_disc) rfl rfl inX0 (by decide) flX0_32 rfl dX0_markReached_13 ?_
        refine z_iload_n 3 (pc := 16) dX0_markReached_16 rfl ?_
        refine z_iaload 1 0 (pc := 17) rfl rfl dX0_markReached_17 hf0_4 (fun hf0_4 => ?_)
        refine z_istore (pc := 18) (lv' := [(4, .int (o_disc x3_4.toNatClampNeg)), (0, .ref h_o), (1, .int a1), (2, .int x2_4), (3, .int x3_4)]) dX0_markReached_18 (by decide) rfl ?_
        refine z_aload_n 1 (pc := 20) dX0_markReached_20 rfl ?_
        refine z_get 0 5 (pc := 21) (v := .ref h_o_marks) rfl rfl inX0 (by decide) flX0_29 rfl dX0_markReached_21 ?_
        refine z_iload 0 (pc := 24) dX0_markReached_24 rfl ?_
        refine z_zaload 2 1 (pc := 26) rfl rfl dX0_markReached_26 hf0_4 (fun hf0_4 => ?_)
        refine z_if_ne (pc := 27) (tgt := 62) dX0_markReached_27 (by decide) hf0_4 (fun hf0_4 => ?_) (fun hf0_4 => ?_)
        · refine z_iinc 4 (pc := 62) (v := x3_4 + 1) (lv' := [(3, .int (x3_4 + 1)), (4, .int (o_disc x3_4.toNatClampNeg)), (0, .ref h_o), (1, .int a1), (2, .int x2_4)]) dX0_markReached_62 rfl rfl (by decide) rfl ?_
          refine z_goto (pc := 65) (tgt := 4) dX0_markReached_65 (by decide) ?_
          exact z_lv [2, 3, 4, 0] rfl (ih4 x2_4 (x3_4 + 1) o_marks_4 hf0_4)
        · refine z_aload_n 1 (pc := 30) dX0_markReached_30 rfl ?_
          refine z_get 0 3 (pc := 31) (v := .ref h_o_targets) rfl rfl inX0 (by decide) flX0_22 rfl dX0_markReached_31 ?_
          refine z_iload 0 (pc := 34) dX0_markReached_34 rfl ?_
          refine z_iaload 3 0 (pc := 36) rfl rfl dX0_markReached_36 hf0_4 (fun hf0_4 => ?_)
          refine z_iload_n 2 (pc := 37) dX0_markReached_37 rfl ?_
          refine z_icmp_ne (pc := 38) (tgt := 62) dX0_markReached_38 (by decide) hf0_4 (fun hf0_4 => ?_) (fun hf0_4 => ?_)
          · refine z_iinc 4 (pc := 62) (v := x3_4 + 1) (lv' := [(3, .int (x3_4 + 1)), (4, .int (o_disc x3_4.toNatClampNeg)), (0, .ref h_o), (1, .int a1), (2, .int x2_4)]) dX0_markReached_62 rfl rfl (by decide) rfl ?_
            refine z_goto (pc := 65) (tgt := 4) dX0_markReached_65 (by decide) ?_
            exact z_lv [2, 3, 4, 0] rfl (ih4 x2_4 (x3_4 + 1) o_marks_4 hf0_4)
          · refine z_aload_n 1 (pc := 41) dX0_markReached_41 rfl ?_
            refine z_iload 0 (pc := 42) dX0_markReached_42 rfl ?_
            refine z_iconst (pc := 44) (v := 1) dX0_markReached_44 (by decide) ?_
            obtain ⟨r2, er2, hf0_4⟩ := bp hf0_4
            refine z_calliV (pc := 45) (As := [.int (o_disc x3_4.toNatClampNeg), .int 1]) (rest := []) (ws' := (wsX0_markReached cA h_o h_o_disc h_o_marks h_o_targets h_o_heights o_side o_cells o_kept o_discSize o_disc_n o_disc o_marks_n o_marks_4 o_targets_n o_targets o_heights_n o_heights)) (kX0_isOff l D cA h_o h_o_heights h_o_targets o_side o_cells o_kept (.ref h_o_marks) (.ref h_o_disc) o_discSize o_heights_n o_heights o_targets_n o_targets (o_disc x3_4.toNatClampNeg) 1 N r2 er2) ivX0_42 ⟨rfl, rfl⟩ ⟨by decide, by decide⟩ rfl ⟨Nat.zero_le _, Nat.zero_le _⟩ rfl rfl [0, 4, 3] rfl (by decide) rfl rfl rfl (Nat.le_of_ble_eq_true rfl) dX0_markReached_45 ?_
            refine z_if_eq (pc := 48) (tgt := 62) dX0_markReached_48 (by decide) hf0_4 (fun hf0_4 => ?_) (fun hf0_4 => ?_)
            · refine z_iinc 4 (pc := 62) (v := x3_4 + 1) (lv' := [(3, .int (x3_4 + 1)), (4, .int (o_disc x3_4.toNatClampNeg)), (0, .ref h_o), (1, .int a1), (2, .int x2_4)]) dX0_markReached_62 rfl rfl (by decide) rfl ?_
              refine z_goto (pc := 65) (tgt := 4) dX0_markReached_65 (by decide) ?_
              exact z_lv [2, 3, 4, 0] rfl (ih4 x2_4 (x3_4 + 1) o_marks_4 hf0_4)
            · refine z_aload_n 1 (pc := 51) dX0_markReached_51 rfl ?_
              refine z_get 0 5 (pc := 52) (v := .ref h_o_marks) rfl rfl inX0 (by decide) flX0_29 rfl dX0_markReached_52 ?_
              refine z_iload 0 (pc := 55) dX0_markReached_55 rfl ?_
              refine z_iconst (pc := 57) (v := 1) dX0_markReached_57 (by decide) ?_
              refine z_zastore 2 1 (pc := 58) (ws' := (wsX0_markReached cA h_o h_o_disc h_o_marks h_o_targets h_o_heights o_side o_cells o_kept o_discSize o_disc_n o_disc o_marks_n (upd o_marks_4 (o_disc x3_4.toNatClampNeg).toNatClampNeg (vp_nar .boolean 1)) o_targets_n o_targets o_heights_n o_heights)) rfl rfl dX0_markReached_58 rfl hf0_4 (fun hf0_4 => ?_)
              refine z_iinc 3 (pc := 59) (v := x2_4 + 1) (lv' := [(2, .int (x2_4 + 1)), (4, .int (o_disc x3_4.toNatClampNeg)), (0, .ref h_o), (1, .int a1), (3, .int x3_4)]) dX0_markReached_59 rfl rfl (by decide) rfl ?_
              refine z_iinc 4 (pc := 62) (v := x3_4 + 1) (lv' := [(3, .int (x3_4 + 1)), (2, .int (x2_4 + 1)), (4, .int (o_disc x3_4.toNatClampNeg)), (0, .ref h_o), (1, .int a1)]) dX0_markReached_62 rfl rfl (by decide) rfl ?_
              refine z_goto (pc := 65) (tgt := 4) dX0_markReached_65 (by decide) ?_
              exact z_lv [3, 4, 1, 0] rfl (ih4 (x2_4 + 1) (x3_4 + 1) (upd o_marks_4 (o_disc x3_4.toNatClampNeg).toNatClampNeg (vp_nar .boolean 1)) hf0_4)
  exact z_lv [2, 3, 1, 0] rfl (lp4 N 0 0 o_marks hf0_4)

abbrev RX0_countReached : Type := Int32 × Int32 × (Nat → Int32) × (Nat → Int32)
abbrev rmX0_countReached : Room := { frames := 2, cells := 0, slots := 0, locals := 50 }
abbrev wsX0_countReached (cA : Nat → ClassId) (h_o : Nat) (h_p1 : Nat) (h_o_marks : Nat) (h_p1_halfWidths : Nat) (h_o_disc : Nat) (h_o_kept : Nat) (h_o_targets : Nat) (h_o_heights : Nat) (o_side : Int32) (o_cells : Int32) (o_discSize : Int32) (p1_radius : Int32) (p1_feed : Int32) (o_marks_n : Nat) (o_marks : Nat → Int32) (p1_halfWidths_n : Nat) (p1_halfWidths : Nat → Int32) (o_disc_n : Nat) (o_disc : Nat → Int32) (o_kept_n : Nat) (o_kept : Nat → Int32) (o_targets_n : Nat) (o_targets : Nat → Int32) (o_heights_n : Nat) (o_heights : Nat → Int32) : va_W := [(h_o, .inr (0, [.int o_side, .int o_cells, .ref h_o_heights, .ref h_o_targets, .ref h_o_kept, .ref h_o_marks, .ref h_o_disc, .int o_discSize])), (h_p1, .inr (5, [.int p1_radius, .int p1_feed, .ref h_p1_halfWidths])), (h_o_marks, .inl (cA 1, o_marks_n, .inl o_marks)), (h_p1_halfWidths, .inl (cA 0, p1_halfWidths_n, .inl p1_halfWidths)), (h_o_disc, .inl (cA 0, o_disc_n, .inl o_disc)), (h_o_kept, .inl (cA 1, o_kept_n, .inl o_kept)), (h_o_targets, .inl (cA 0, o_targets_n, .inl o_targets)), (h_o_heights, .inl (cA 0, o_heights_n, .inl o_heights))]
def LX0_countReached_38 (o_side : Int32) (N : Nat) (x3_27 : Int32) (p1_radius : Int32) (p1_halfWidths_n : Nat) (p1_halfWidths : Nat → Int32) (o_disc_n : Nat) (o_kept_n : Nat) (o_kept : Nat → Int32) (o_targets_n : Nat) (o_targets : Nat → Int32) (o_marks_n : Nat) (o_heights_n : Nat) (o_heights : Nat → Int32) : Nat → Int32 → Int32 → (Nat → Int32) → Int32 → (Nat → Int32) → Option (Int32 × Int32 × (Nat → Int32) × Int32 × (Nat → Int32))
  | 0, _, _, _, _, _ => none
  | n + 1, x2_38, x4_38, o_disc_38, o_discSize_38, o_marks_38 => (if o_side ≤ x4_38 then some (x2_38, x4_38, o_disc_38, o_discSize_38, o_marks_38) else ((fX0_layDisc N x4_38 x3_27 o_side o_discSize_38 p1_radius p1_halfWidths_n p1_halfWidths o_disc_n o_disc_38).bind fun r4 => ((fX0_discHasKept N r4.1 o_kept_n o_kept o_disc_n r4.2).bind fun r5 => (if r5 = 0 then ((fX0_highestTargetInDisc N r4.1 o_targets_n o_targets o_disc_n r4.2).bind fun r6 => ((fX0_markReached N r6 r4.1 o_disc_n r4.2 o_marks_n o_marks_38 o_targets_n o_targets o_heights_n o_heights).bind fun r7 => LX0_countReached_38 o_side N x3_27 p1_radius p1_halfWidths_n p1_halfWidths o_disc_n o_kept_n o_kept o_targets_n o_targets o_marks_n o_heights_n o_heights n (x2_38 + r7.1) (x4_38 + 1) r4.2 r4.1 r7.2)) else LX0_countReached_38 o_side N x3_27 p1_radius p1_halfWidths_n p1_halfWidths o_disc_n o_kept_n o_kept o_targets_n o_targets o_marks_n o_heights_n o_heights n x2_38 (x4_38 + 1) r4.2 r4.1 o_marks_38))))
def LX0_countReached_27 (o_side : Int32) (N : Nat) (p1_radius : Int32) (p1_halfWidths_n : Nat) (p1_halfWidths : Nat → Int32) (o_disc_n : Nat) (o_kept_n : Nat) (o_kept : Nat → Int32) (o_targets_n : Nat) (o_targets : Nat → Int32) (o_marks_n : Nat) (o_heights_n : Nat) (o_heights : Nat → Int32) : Nat → Int32 → Int32 → (Nat → Int32) → Int32 → (Nat → Int32) → Option (Int32 × Int32 × (Nat → Int32) × Int32 × (Nat → Int32))
  | 0, _, _, _, _, _ => none
  | n + 1, x2_27, x3_27, o_disc_27, o_discSize_27, o_marks_27 => (if o_side ≤ x3_27 then some (x2_27, x3_27, o_disc_27, o_discSize_27, o_marks_27) else ((LX0_countReached_38 o_side N x3_27 p1_radius p1_halfWidths_n p1_halfWidths o_disc_n o_kept_n o_kept o_targets_n o_targets o_marks_n o_heights_n o_heights N x2_27 0 o_disc_27 o_discSize_27 o_marks_27).bind fun r3 => LX0_countReached_27 o_side N p1_radius p1_halfWidths_n p1_halfWidths o_disc_n o_kept_n o_kept o_targets_n o_targets o_marks_n o_heights_n o_heights n r3.1 (x3_27 + 1) r3.2.2.1 r3.2.2.2.1 r3.2.2.2.2))
def LX0_countReached_2 (o_cells : Int32) (o_marks_n : Nat) : Nat → Int32 → (Nat → Int32) → Option (Int32 × (Nat → Int32))
  | 0, _, _ => none
  | n + 1, x2_2, o_marks_2 => (if o_cells ≤ x2_2 then some (x2_2, o_marks_2) else (if x2_2 < 0 ∨ o_marks_n ≤ x2_2.toNatClampNeg then none else LX0_countReached_2 o_cells o_marks_n n (x2_2 + 1) (upd o_marks_2 x2_2.toNatClampNeg (vp_nar .boolean 0))))
def fX0_countReached (N : Nat)  (o_side : Int32) (o_cells : Int32) (o_discSize : Int32) (p1_radius : Int32) (o_marks_n : Nat) (o_marks : Nat → Int32) (p1_halfWidths_n : Nat) (p1_halfWidths : Nat → Int32) (o_disc_n : Nat) (o_disc : Nat → Int32) (o_kept_n : Nat) (o_kept : Nat → Int32) (o_targets_n : Nat) (o_targets : Nat → Int32) (o_heights_n : Nat) (o_heights : Nat → Int32) : Option RX0_countReached :=
  ((LX0_countReached_2 o_cells o_marks_n N 0 o_marks).bind fun r1 => ((LX0_countReached_27 o_side N p1_radius p1_halfWidths_n p1_halfWidths o_disc_n o_kept_n o_kept o_targets_n o_targets o_marks_n o_heights_n o_heights N 0 0 o_disc o_discSize r1.2).bind fun r2 => some (r2.1, r2.2.2.2.1, r2.2.2.2.2, r2.2.2.1)))
set_option maxHeartbeats 4000000 in
set_option maxRecDepth 100000 in
theorem kX0_countReached (l : Launch) (D : va_G) (cA : Nat → ClassId) (h_o : Nat) (h_p1 : Nat) (h_o_marks : Nat) (h_p1_halfWidths : Nat) (h_o_disc : Nat) (h_o_kept : Nat) (h_o_targets : Nat) (h_o_heights : Nat) (o_side : Int32) (o_cells : Int32) (o_discSize : Int32) (p1_radius : Int32) (p1_feed : Int32) (o_marks_n : Nat) (o_marks : Nat → Int32) (p1_halfWidths_n : Nat) (p1_halfWidths : Nat → Int32) (o_disc_n : Nat) (o_disc : Nat → Int32) (o_kept_n : Nat) (o_kept : Nat → Int32) (o_targets_n : Nat) (o_targets : Nat → Int32) (o_heights_n : Nat) (o_heights : Nat → Int32)  (N : Nat) (res : RX0_countReached) (hf0 : fX0_countReached N o_side o_cells o_discSize p1_radius o_marks_n o_marks p1_halfWidths_n p1_halfWidths o_disc_n o_disc o_kept_n o_kept o_targets_n o_targets o_heights_n o_heights = some res) : CtI l yX0_countReached (Cond.code yX0_countReached cX0_countReached 5 (some .int) :: tblG) rmX0_countReached D cA (wsX0_countReached cA h_o h_p1 h_o_marks h_p1_halfWidths h_o_disc h_o_kept h_o_targets h_o_heights o_side o_cells o_discSize p1_radius p1_feed o_marks_n o_marks p1_halfWidths_n p1_halfWidths o_disc_n o_disc o_kept_n o_kept o_targets_n o_targets o_heights_n o_heights) [.ref h_o, .ref h_p1] res.1 (wsX0_countReached cA h_o h_p1 h_o_marks h_p1_halfWidths h_o_disc h_o_kept h_o_targets h_o_heights o_side o_cells res.2.1 p1_radius p1_feed o_marks_n res.2.2.1 p1_halfWidths_n p1_halfWidths o_disc_n res.2.2.2 o_kept_n o_kept o_targets_n o_targets o_heights_n o_heights) := by
  refine CtI.start (lv := [(0, .ref h_o), (1, .ref h_p1)]) (by decide) (Nat.le_of_ble_eq_true rfl) rfl (fun κ hE => ?_)
  rw [fX0_countReached] at hf0
  refine z_iconst (pc := 0) (v := 0) dX0_countReached_0 (by decide) ?_
  refine z_istore_n (pc := 1) (lv' := [(2, .int 0), (0, .ref h_o), (1, .ref h_p1)]) dX0_countReached_1 (by decide) rfl ?_
  obtain ⟨y2, hf0_2, hf0⟩ := bp hf0
  have lp2 : ∀ (n : Nat) (x2_2 : Int32) (o_marks_2 : Nat → Int32), LX0_countReached_2 o_cells o_marks_n n x2_2 o_marks_2 = some y2 → V κ l D cA rmX0_countReached cX0_countReached 5 RX0 (some .int) 0 0 2 [(0, .ref h_o), (1, .ref h_p1), (2, .int x2_2)] [] (wsX0_countReached cA h_o h_p1 h_o_marks h_p1_halfWidths h_o_disc h_o_kept h_o_targets h_o_heights o_side o_cells o_discSize p1_radius p1_feed o_marks_n o_marks_2 p1_halfWidths_n p1_halfWidths o_disc_n o_disc o_kept_n o_kept o_targets_n o_targets o_heights_n o_heights) := by
    intro n
    induction n with
    | zero => intro x2_2 o_marks_2 hf0_2; rw [LX0_countReached_2] at hf0_2; cases hf0_2
    | succ n2 ih2 =>
      intro x2_2 o_marks_2 hf0_2
      rw [LX0_countReached_2] at hf0_2
      refine z_iload_n 2 (pc := 2) dX0_countReached_2 rfl ?_
      refine z_aload_n 0 (pc := 3) dX0_countReached_3 rfl ?_
      refine z_get 0 1 (pc := 4) (v := .int o_cells) rfl rfl inX0 (by decide) flX0_15 rfl dX0_countReached_4 ?_
      refine z_icmp_ge (pc := 7) (tgt := 23) dX0_countReached_7 (by decide) hf0_2 (fun hf0_2 => ?_) (fun hf0_2 => ?_)
      · obtain rfl := Option.some.inj hf0_2
        refine z_iconst (pc := 23) (v := 0) dX0_countReached_23 (by decide) ?_
        refine z_istore_n (pc := 24) (lv' := [(2, .int 0), (0, .ref h_o), (1, .ref h_p1)]) dX0_countReached_24 (by decide) rfl ?_
        refine z_iconst (pc := 25) (v := 0) dX0_countReached_25 (by decide) ?_
        refine z_istore_n (pc := 26) (lv' := [(3, .int 0), (2, .int 0), (0, .ref h_o), (1, .ref h_p1)]) dX0_countReached_26 (by decide) rfl ?_
        obtain ⟨y27, hf0_27, hf0⟩ := bp hf0
        have lp27 : ∀ (n : Nat) (x2_27 : Int32) (x3_27 : Int32) (o_disc_27 : Nat → Int32) (o_discSize_27 : Int32) (o_marks_27 : Nat → Int32), LX0_countReached_27 o_side N p1_radius p1_halfWidths_n p1_halfWidths o_disc_n o_kept_n o_kept o_targets_n o_targets o_marks_n o_heights_n o_heights n x2_27 x3_27 o_disc_27 o_discSize_27 o_marks_27 = some y27 → V κ l D cA rmX0_countReached cX0_countReached 5 RX0 (some .int) 0 0 27 [(0, .ref h_o), (1, .ref h_p1), (2, .int x2_27), (3, .int x3_27)] [] (wsX0_countReached cA h_o h_p1 h_o_marks h_p1_halfWidths h_o_disc h_o_kept h_o_targets h_o_heights o_side o_cells o_discSize_27 p1_radius p1_feed o_marks_n o_marks_27 p1_halfWidths_n p1_halfWidths o_disc_n o_disc_27 o_kept_n o_kept o_targets_n o_targets o_heights_n o_heights) := by
          intro n
          induction n with
          | zero => intro x2_27 x3_27 o_disc_27 o_discSize_27 o_marks_27 hf0_27; rw [LX0_countReached_27] at hf0_27; cases hf0_27
          | succ n27 ih27 =>
            intro x2_27 x3_27 o_disc_27 o_discSize_27 o_marks_27 hf0_27
            rw [LX0_countReached_27] at hf0_27
            refine z_iload_n 3 (pc := 27) dX0_countReached_27 rfl ?_
            refine z_aload_n 0 (pc := 28) dX0_countReached_28 rfl ?_
            refine z_get 0 0 (pc := 29) (v := .int o_side) rfl rfl inX0 (by decide) flX0_9 rfl dX0_countReached_29 ?_
            refine z_icmp_ge (pc := 32) (tgt := 85) dX0_countReached_32 (by decide) hf0_27 (fun hf0_27 => ?_) (fun hf0_27 => ?_)
            · obtain rfl := Option.some.inj hf0_27
              refine z_iload_n 2 (pc := 85) dX0_countReached_85 rfl ?_
              obtain rfl := Option.some.inj hf0
              exact z_iret hE dX0_countReached_86
            · refine z_iconst (pc := 35) (v := 0) dX0_countReached_35 (by decide) ?_
              refine z_istore (pc := 36) (lv' := [(4, .int 0), (0, .ref h_o), (1, .ref h_p1), (2, .int x2_27), (3, .int x3_27)]) dX0_countReached_36 (by decide) rfl ?_
              obtain ⟨y38, hf0_27_38, hf0_27⟩ := bp hf0_27
              have lp38 : ∀ (n : Nat) (x2_38 : Int32) (x4_38 : Int32) (o_disc_38 : Nat → Int32) (o_discSize_38 : Int32) (o_marks_38 : Nat → Int32), LX0_countReached_38 o_side N x3_27 p1_radius p1_halfWidths_n p1_halfWidths o_disc_n o_kept_n o_kept o_targets_n o_targets o_marks_n o_heights_n o_heights n x2_38 x4_38 o_disc_38 o_discSize_38 o_marks_38 = some y38 → V κ l D cA rmX0_countReached cX0_countReached 5 RX0 (some .int) 0 0 38 [(0, .ref h_o), (1, .ref h_p1), (3, .int x3_27), (2, .int x2_38), (4, .int x4_38)] [] (wsX0_countReached cA h_o h_p1 h_o_marks h_p1_halfWidths h_o_disc h_o_kept h_o_targets h_o_heights o_side o_cells o_discSize_38 p1_radius p1_feed o_marks_n o_marks_38 p1_halfWidths_n p1_halfWidths o_disc_n o_disc_38 o_kept_n o_kept o_targets_n o_targets o_heights_n o_heights) := by
                intro n
                induction n with
                | zero => intro x2_38 x4_38 o_disc_38 o_discSize_38 o_marks_38 hf0_27_38; rw [LX0_countReached_38] at hf0_27_38; cases hf0_27_38
                | succ n38 ih38 =>
                  intro x2_38 x4_38 o_disc_38 o_discSize_38 o_marks_38 hf0_27_38
                  rw [LX0_countReached_38] at hf0_27_38
                  refine z_iload 4 (pc := 38) dX0_countReached_38 rfl ?_
                  refine z_aload_n 0 (pc := 40) dX0_countReached_40 rfl ?_
                  refine z_get 0 0 (pc := 41) (v := .int o_side) rfl rfl inX0 (by decide) flX0_9 rfl dX0_countReached_41 ?_
                  refine z_icmp_ge (pc := 44) (tgt := 79) dX0_countReached_44 (by decide) hf0_27_38 (fun hf0_27_38 => ?_) (fun hf0_27_38 => ?_)
                  · obtain rfl := Option.some.inj hf0_27_38
                    refine z_iinc 2 (pc := 79) (v := x3_27 + 1) (lv' := [(3, .int (x3_27 + 1)), (0, .ref h_o), (1, .ref h_p1), (2, .int x2_38), (4, .int x4_38)]) dX0_countReached_79 rfl rfl (by decide) rfl ?_
                    refine z_goto (pc := 82) (tgt := 27) dX0_countReached_82 (by decide) ?_
                    exact z_lv [1, 2, 3, 0] rfl (ih27 x2_38 (x3_27 + 1) o_disc_38 o_discSize_38 o_marks_38 hf0_27)
                  · refine z_aload_n 0 (pc := 47) dX0_countReached_47 rfl ?_
                    refine z_aload_n 1 (pc := 48) dX0_countReached_48 rfl ?_
                    refine z_iload 4 (pc := 49) dX0_countReached_49 rfl ?_
                    refine z_iload_n 2 (pc := 51) dX0_countReached_51 rfl ?_
                    obtain ⟨r4, er4, hf0_27_38⟩ := bp hf0_27_38
                    refine z_callvV (pc := 52) (As := [.ref h_p1, .int x4_38, .int x3_27]) (rest := []) (ws' := (wsX0_countReached cA h_o h_p1 h_o_marks h_p1_halfWidths h_o_disc h_o_kept h_o_targets h_o_heights o_side o_cells r4.1 p1_radius p1_feed o_marks_n o_marks_38 p1_halfWidths_n p1_halfWidths o_disc_n r4.2 o_kept_n o_kept o_targets_n o_targets o_heights_n o_heights)) (kX0_layDisc l D cA h_o h_p1 h_p1_halfWidths h_o_disc o_side o_cells (.ref h_o_heights) (.ref h_o_targets) (.ref h_o_kept) (.ref h_o_marks) o_discSize_38 p1_radius p1_feed p1_halfWidths_n p1_halfWidths o_disc_n o_disc_38 x4_38 x3_27 N r4 er4) ivX0_66 ⟨rfl, rfl⟩ ⟨by decide, by decide⟩ rfl ⟨Nat.zero_le _, Nat.zero_le _⟩ rfl rfl [0, 1, 3, 4] rfl (by decide) rfl rfl rfl (Nat.le_of_ble_eq_true rfl) dX0_countReached_52 ?_
                    refine z_aload_n 0 (pc := 55) dX0_countReached_55 rfl ?_
                    obtain ⟨r5, er5, hf0_27_38⟩ := bp hf0_27_38
                    refine z_calliV (pc := 56) (As := []) (rest := []) (ws' := (wsX0_countReached cA h_o h_p1 h_o_marks h_p1_halfWidths h_o_disc h_o_kept h_o_targets h_o_heights o_side o_cells r4.1 p1_radius p1_feed o_marks_n o_marks_38 p1_halfWidths_n p1_halfWidths o_disc_n r4.2 o_kept_n o_kept o_targets_n o_targets o_heights_n o_heights)) (kX0_discHasKept l D cA h_o h_o_kept h_o_disc o_side o_cells (.ref h_o_heights) (.ref h_o_targets) (.ref h_o_marks) r4.1 o_kept_n o_kept o_disc_n r4.2  N r5 er5) ivX0_70 ⟨rfl, rfl⟩ ⟨by decide, by decide⟩ rfl ⟨Nat.zero_le _, Nat.zero_le _⟩ rfl rfl [0, 5, 4] rfl (by decide) rfl rfl rfl (Nat.le_of_ble_eq_true rfl) dX0_countReached_56 ?_
                    refine z_if_ne (pc := 59) (tgt := 73) dX0_countReached_59 (by decide) hf0_27_38 (fun hf0_27_38 => ?_) (fun hf0_27_38 => ?_)
                    · refine z_iinc 4 (pc := 73) (v := x4_38 + 1) (lv' := [(4, .int (x4_38 + 1)), (0, .ref h_o), (1, .ref h_p1), (3, .int x3_27), (2, .int x2_38)]) dX0_countReached_73 rfl rfl (by decide) rfl ?_
                      refine z_goto (pc := 76) (tgt := 38) dX0_countReached_76 (by decide) ?_
                      exact z_lv [1, 2, 3, 4, 0] rfl (ih38 x2_38 (x4_38 + 1) r4.2 r4.1 o_marks_38 hf0_27_38)
                    · refine z_iload_n 3 (pc := 62) dX0_countReached_62 rfl ?_
                      refine z_aload_n 0 (pc := 63) dX0_countReached_63 rfl ?_
                      refine z_aload_n 0 (pc := 64) dX0_countReached_64 rfl ?_
                      obtain ⟨r6, er6, hf0_27_38⟩ := bp hf0_27_38
                      refine z_calliV (pc := 65) (As := []) (rest := [.ref h_o, .int x2_38]) (ws' := (wsX0_countReached cA h_o h_p1 h_o_marks h_p1_halfWidths h_o_disc h_o_kept h_o_targets h_o_heights o_side o_cells r4.1 p1_radius p1_feed o_marks_n o_marks_38 p1_halfWidths_n p1_halfWidths o_disc_n r4.2 o_kept_n o_kept o_targets_n o_targets o_heights_n o_heights)) (kX0_highestTargetInDisc l D cA h_o h_o_targets h_o_disc o_side o_cells (.ref h_o_heights) (.ref h_o_kept) (.ref h_o_marks) r4.1 o_targets_n o_targets o_disc_n r4.2  N r6 er6) ivX0_74 ⟨rfl, rfl⟩ ⟨by decide, by decide⟩ rfl ⟨Nat.zero_le _, Nat.zero_le _⟩ rfl rfl [0, 6, 4] rfl (by decide) rfl rfl rfl (Nat.le_of_ble_eq_true rfl) dX0_countReached_65 ?_
                      obtain ⟨r7, er7, hf0_27_38⟩ := bp hf0_27_38
                      refine z_calliV (pc := 68) (As := [.int r6]) (rest := [.int x2_38]) (ws' := (wsX0_countReached cA h_o h_p1 h_o_marks h_p1_halfWidths h_o_disc h_o_kept h_o_targets h_o_heights o_side o_cells r4.1 p1_radius p1_feed o_marks_n r7.2 p1_halfWidths_n p1_halfWidths o_disc_n r4.2 o_kept_n o_kept o_targets_n o_targets o_heights_n o_heights)) (kX0_markReached l D cA h_o h_o_disc h_o_marks h_o_targets h_o_heights o_side o_cells (.ref h_o_kept) r4.1 o_disc_n r4.2 o_marks_n o_marks_38 o_targets_n o_targets o_heights_n o_heights r6 N r7 er7) ivX0_78 ⟨rfl, rfl⟩ ⟨by decide, by decide⟩ rfl ⟨Nat.zero_le _, Nat.zero_le _⟩ rfl rfl [0, 4, 2, 6, 7] rfl (by decide) rfl rfl rfl (Nat.le_of_ble_eq_true rfl) dX0_countReached_68 ?_
                      refine z_iadd (pc := 71) dX0_countReached_71 ?_
                      refine z_istore_n (pc := 72) (lv' := [(2, .int (x2_38 + r7.1)), (0, .ref h_o), (1, .ref h_p1), (3, .int x3_27), (4, .int x4_38)]) dX0_countReached_72 (by decide) rfl ?_
                      refine z_iinc 4 (pc := 73) (v := x4_38 + 1) (lv' := [(4, .int (x4_38 + 1)), (2, .int (x2_38 + r7.1)), (0, .ref h_o), (1, .ref h_p1), (3, .int x3_27)]) dX0_countReached_73 rfl rfl (by decide) rfl ?_
                      refine z_goto (pc := 76) (tgt := 38) dX0_countReached_76 (by decide) ?_
                      exact z_lv [2, 3, 4, 1, 0] rfl (ih38 (x2_38 + r7.1) (x4_38 + 1) r4.2 r4.1 r7.2 hf0_27_38)
              exact z_lv [1, 2, 4, 3, 0] rfl (lp38 N x2_27 0 o_disc_27 o_discSize_27 o_marks_27 hf0_27_38)
        exact z_lv [2, 3, 1, 0] rfl (lp27 N 0 0 o_disc o_discSize o_marks_2 hf0_27)
      · refine z_aload_n 0 (pc := 10) dX0_countReached_10 rfl ?_
        refine z_get 0 5 (pc := 11) (v := .ref h_o_marks) rfl rfl inX0 (by decide) flX0_29 rfl dX0_countReached_11 ?_
        refine z_iload_n 2 (pc := 14) dX0_countReached_14 rfl ?_
        refine z_iconst (pc := 15) (v := 0) dX0_countReached_15 (by decide) ?_
        refine z_zastore 2 1 (pc := 16) (ws' := (wsX0_countReached cA h_o h_p1 h_o_marks h_p1_halfWidths h_o_disc h_o_kept h_o_targets h_o_heights o_side o_cells o_discSize p1_radius p1_feed o_marks_n (upd o_marks_2 x2_2.toNatClampNeg (vp_nar .boolean 0)) p1_halfWidths_n p1_halfWidths o_disc_n o_disc o_kept_n o_kept o_targets_n o_targets o_heights_n o_heights)) rfl rfl dX0_countReached_16 rfl hf0_2 (fun hf0_2 => ?_)
        refine z_iinc 2 (pc := 17) (v := x2_2 + 1) (lv' := [(2, .int (x2_2 + 1)), (0, .ref h_o), (1, .ref h_p1)]) dX0_countReached_17 rfl rfl (by decide) rfl ?_
        refine z_goto (pc := 20) (tgt := 2) dX0_countReached_20 (by decide) ?_
        exact z_lv [1, 2, 0] rfl (ih2 (x2_2 + 1) (upd o_marks_2 x2_2.toNatClampNeg (vp_nar .boolean 0)) hf0_2)
  exact z_lv [1, 2, 0] rfl (lp2 N 0 o_marks hf0_2)

abbrev RX5_halfWidthAt : Type := Int32
abbrev rmX5_halfWidthAt : Room := { frames := 0, cells := 0, slots := 0, locals := 0 }
abbrev wsX5_halfWidthAt (cA : Nat → ClassId)   : va_W := []
def LX5_halfWidthAt_4 (a1 : Int32) (a0 : Int32) : Nat → Int32 → Int32 → Option (Int32 × Int32)
  | 0, _, _ => none
  | n + 1, x2_4, x3_4 => (if a1 < x3_4 then some (x2_4, x3_4) else (if (a1 * a1) < ((x3_4 * x3_4) + (a0 * a0)) then LX5_halfWidthAt_4 a1 a0 n x2_4 (x3_4 + 1) else LX5_halfWidthAt_4 a1 a0 n x3_4 (x3_4 + 1)))
def fX5_halfWidthAt (N : Nat) (a0 : Int32) (a1 : Int32)  : Option RX5_halfWidthAt :=
  ((LX5_halfWidthAt_4 a1 a0 N 0 1).bind fun r1 => some r1.1)
set_option maxHeartbeats 4000000 in
set_option maxRecDepth 100000 in
theorem kX5_halfWidthAt (l : Launch) (D : va_G) (cA : Nat → ClassId)   (a0 : Int32) (a1 : Int32) (N : Nat) (res : RX5_halfWidthAt) (hf0 : fX5_halfWidthAt N a0 a1 = some res) : CtI l yX5_halfWidthAt (Cond.code yX5_halfWidthAt cX5_halfWidthAt 4 (some .int) :: tblG) rmX5_halfWidthAt D cA (wsX5_halfWidthAt cA ) [.int a0, .int a1] res (wsX5_halfWidthAt cA ) := by
  refine CtI.start (lv := [(0, .int a0), (1, .int a1)]) (by decide) (Nat.le_of_ble_eq_true rfl) rfl (fun κ hE => ?_)
  rw [fX5_halfWidthAt] at hf0
  refine z_iconst (pc := 0) (v := 0) dX5_halfWidthAt_0 (by decide) ?_
  refine z_istore_n (pc := 1) (lv' := [(2, .int 0), (0, .int a0), (1, .int a1)]) dX5_halfWidthAt_1 (by decide) rfl ?_
  refine z_iconst (pc := 2) (v := 1) dX5_halfWidthAt_2 (by decide) ?_
  refine z_istore_n (pc := 3) (lv' := [(3, .int 1), (2, .int 0), (0, .int a0), (1, .int a1)]) dX5_halfWidthAt_3 (by decide) rfl ?_
  obtain ⟨y4, hf0_4, hf0⟩ := bp hf0
  have lp4 : ∀ (n : Nat) (x2_4 : Int32) (x3_4 : Int32), LX5_halfWidthAt_4 a1 a0 n x2_4 x3_4 = some y4 → V κ l D cA rmX5_halfWidthAt cX5_halfWidthAt 4 RX5 (some .int) 0 0 4 [(0, .int a0), (1, .int a1), (2, .int x2_4), (3, .int x3_4)] [] (wsX5_halfWidthAt cA ) := by
    intro n
    induction n with
    | zero => intro x2_4 x3_4 hf0_4; rw [LX5_halfWidthAt_4] at hf0_4; cases hf0_4
    | succ n4 ih4 =>
      intro x2_4 x3_4 hf0_4
      rw [LX5_halfWidthAt_4] at hf0_4
      refine z_iload_n 3 (pc := 4) dX5_halfWidthAt_4 rfl ?_
      refine z_iload_n 1 (pc := 5) dX5_halfWidthAt_5 rfl ?_
      refine z_icmp_gt (pc := 6) (tgt := 30) dX5_halfWidthAt_6 (by decide) hf0_4 (fun hf0_4 => ?_) (fun hf0_4 => ?_)
      · obtain rfl := Option.some.inj hf0_4
        refine z_iload_n 2 (pc := 30) dX5_halfWidthAt_30 rfl ?_
        obtain rfl := Option.some.inj hf0
        exact z_iret hE dX5_halfWidthAt_31
      · refine z_iload_n 3 (pc := 9) dX5_halfWidthAt_9 rfl ?_
        refine z_iload_n 3 (pc := 10) dX5_halfWidthAt_10 rfl ?_
        refine z_imul (pc := 11) dX5_halfWidthAt_11 ?_
        refine z_iload_n 0 (pc := 12) dX5_halfWidthAt_12 rfl ?_
        refine z_iload_n 0 (pc := 13) dX5_halfWidthAt_13 rfl ?_
        refine z_imul (pc := 14) dX5_halfWidthAt_14 ?_
        refine z_iadd (pc := 15) dX5_halfWidthAt_15 ?_
        refine z_iload_n 1 (pc := 16) dX5_halfWidthAt_16 rfl ?_
        refine z_iload_n 1 (pc := 17) dX5_halfWidthAt_17 rfl ?_
        refine z_imul (pc := 18) dX5_halfWidthAt_18 ?_
        refine z_icmp_gt (pc := 19) (tgt := 24) dX5_halfWidthAt_19 (by decide) hf0_4 (fun hf0_4 => ?_) (fun hf0_4 => ?_)
        · refine z_iinc 3 (pc := 24) (v := x3_4 + 1) (lv' := [(3, .int (x3_4 + 1)), (0, .int a0), (1, .int a1), (2, .int x2_4)]) dX5_halfWidthAt_24 rfl rfl (by decide) rfl ?_
          refine z_goto (pc := 27) (tgt := 4) dX5_halfWidthAt_27 (by decide) ?_
          exact z_lv [1, 2, 3, 0] rfl (ih4 x2_4 (x3_4 + 1) hf0_4)
        · refine z_iload_n 3 (pc := 22) dX5_halfWidthAt_22 rfl ?_
          refine z_istore_n (pc := 23) (lv' := [(2, .int x3_4), (0, .int a0), (1, .int a1), (3, .int x3_4)]) dX5_halfWidthAt_23 (by decide) rfl ?_
          refine z_iinc 3 (pc := 24) (v := x3_4 + 1) (lv' := [(3, .int (x3_4 + 1)), (2, .int x3_4), (0, .int a0), (1, .int a1)]) dX5_halfWidthAt_24 rfl rfl (by decide) rfl ?_
          refine z_goto (pc := 27) (tgt := 4) dX5_halfWidthAt_27 (by decide) ?_
          exact z_lv [2, 3, 1, 0] rfl (ih4 x3_4 (x3_4 + 1) hf0_4)
  exact z_lv [2, 3, 1, 0] rfl (lp4 N 0 1 hf0_4)

abbrev RX5_become : Type := Int32 × Int32 × (Nat → Int32)
abbrev rmX5_become : Room := { frames := 1, cells := 0, slots := 0, locals := 23 }
abbrev wsX5_become (cA : Nat → ClassId) (h_o : Nat) (h_o_halfWidths : Nat) (o_radius : Int32) (o_feed : Int32) (o_halfWidths_n : Nat) (o_halfWidths : Nat → Int32) : va_W := [(h_o, .inr (5, [.int o_radius, .int o_feed, .ref h_o_halfWidths])), (h_o_halfWidths, .inl (cA 0, o_halfWidths_n, .inl o_halfWidths))]
def LX5_become_12 (N : Nat) (a1 : Int32) (o_halfWidths_n : Nat) : Nat → Int32 → (Nat → Int32) → Option (Int32 × (Nat → Int32))
  | 0, _, _ => none
  | n + 1, x3_12, o_halfWidths_12 => (if 6 < x3_12 then some (x3_12, o_halfWidths_12) else ((fX5_halfWidthAt N x3_12 a1).bind fun r2 => (if x3_12 < 0 ∨ o_halfWidths_n ≤ x3_12.toNatClampNeg then none else LX5_become_12 N a1 o_halfWidths_n n (x3_12 + 1) (upd o_halfWidths_12 x3_12.toNatClampNeg r2))))
def fX5_become (N : Nat) (a1 : Int32) (a2 : Int32) (o_radius : Int32) (o_feed : Int32) (o_halfWidths_n : Nat) (o_halfWidths : Nat → Int32) : Option RX5_become :=
  ((LX5_become_12 N a1 o_halfWidths_n N 0 o_halfWidths).bind fun r1 => some (a1, a2, r1.2))
set_option maxHeartbeats 4000000 in
set_option maxRecDepth 100000 in
theorem kX5_become (l : Launch) (D : va_G) (cA : Nat → ClassId) (h_o : Nat) (h_o_halfWidths : Nat) (o_radius : Int32) (o_feed : Int32) (o_halfWidths_n : Nat) (o_halfWidths : Nat → Int32) (a1 : Int32) (a2 : Int32) (N : Nat) (res : RX5_become) (hf0 : fX5_become N a1 a2 o_radius o_feed o_halfWidths_n o_halfWidths = some res) : CtV l yX5_become (Cond.code yX5_become cX5_become 4 (none) :: tblG) rmX5_become D cA (wsX5_become cA h_o h_o_halfWidths o_radius o_feed o_halfWidths_n o_halfWidths) [.ref h_o, .int a1, .int a2] (wsX5_become cA h_o h_o_halfWidths res.1 res.2.1 o_halfWidths_n res.2.2) := by
  refine CtV.start (lv := [(0, .ref h_o), (1, .int a1), (2, .int a2)]) (by decide) (Nat.le_of_ble_eq_true rfl) rfl (fun κ hE => ?_)
  rw [fX5_become] at hf0
  refine z_aload_n 0 (pc := 0) dX5_become_0 rfl ?_
  refine z_iload_n 1 (pc := 1) dX5_become_1 rfl ?_
  refine z_put 0 0 (pc := 2) (ws' := (wsX5_become cA h_o h_o_halfWidths a1 o_feed o_halfWidths_n o_halfWidths)) rfl rfl inX5 tyX5 tyX5_ok nmX5 (by decide) flX5_9 rfl rfl rfl rfl (Nat.le_of_ble_eq_true rfl) dX5_become_2 rfl ?_
  refine z_aload_n 0 (pc := 5) dX5_become_5 rfl ?_
  refine z_iload_n 2 (pc := 6) dX5_become_6 rfl ?_
  refine z_put 0 1 (pc := 7) (ws' := (wsX5_become cA h_o h_o_halfWidths a1 a2 o_halfWidths_n o_halfWidths)) rfl rfl inX5 tyX5 tyX5_ok nmX5 (by decide) flX5_15 rfl rfl rfl rfl (Nat.le_of_ble_eq_true rfl) dX5_become_7 rfl ?_
  refine z_iconst (pc := 10) (v := 0) dX5_become_10 (by decide) ?_
  refine z_istore_n (pc := 11) (lv' := [(3, .int 0), (0, .ref h_o), (1, .int a1), (2, .int a2)]) dX5_become_11 (by decide) rfl ?_
  obtain ⟨y12, hf0_12, hf0⟩ := bp hf0
  have lp12 : ∀ (n : Nat) (x3_12 : Int32) (o_halfWidths_12 : Nat → Int32), LX5_become_12 N a1 o_halfWidths_n n x3_12 o_halfWidths_12 = some y12 → V κ l D cA rmX5_become cX5_become 4 RX5 (none) 0 0 12 [(0, .ref h_o), (1, .int a1), (2, .int a2), (3, .int x3_12)] [] (wsX5_become cA h_o h_o_halfWidths a1 a2 o_halfWidths_n o_halfWidths_12) := by
    intro n
    induction n with
    | zero => intro x3_12 o_halfWidths_12 hf0_12; rw [LX5_become_12] at hf0_12; cases hf0_12
    | succ n12 ih12 =>
      intro x3_12 o_halfWidths_12 hf0_12
      rw [LX5_become_12] at hf0_12
      refine z_iload_n 3 (pc := 12) dX5_become_12 rfl ?_
      refine z_bipush (pc := 13) (v := 6) dX5_become_13 (by decide) ?_
      refine z_icmp_gt (pc := 15) (tgt := 35) dX5_become_15 (by decide) hf0_12 (fun hf0_12 => ?_) (fun hf0_12 => ?_)
      · obtain rfl := Option.some.inj hf0_12
        obtain rfl := Option.some.inj hf0
        exact z_vret hE dX5_become_35
      · refine z_aload_n 0 (pc := 18) dX5_become_18 rfl ?_
        refine z_get 0 2 (pc := 19) (v := .ref h_o_halfWidths) rfl rfl inX5 (by decide) flX5_18 rfl dX5_become_19 ?_
        refine z_iload_n 3 (pc := 22) dX5_become_22 rfl ?_
        refine z_iload_n 3 (pc := 23) dX5_become_23 rfl ?_
        refine z_iload_n 1 (pc := 24) dX5_become_24 rfl ?_
        obtain ⟨r2, er2, hf0_12⟩ := bp hf0_12
        refine z_calliS (pc := 25) (As := [.int x3_12, .int a1]) (rest := [.int x3_12, .ref h_o_halfWidths]) (ws' := (wsX5_become cA h_o h_o_halfWidths a1 a2 o_halfWidths_n o_halfWidths_12)) (kX5_halfWidthAt l D cA   x3_12 a1 N r2 er2) ivX5_22 ⟨rfl, rfl⟩ ⟨by decide, by decide⟩ rfl ⟨Nat.zero_le _, Nat.zero_le _⟩ [] rfl (by decide) rfl rfl rfl (Nat.le_of_ble_eq_true rfl) dX5_become_25 ?_
        refine z_iastore 1 0 (pc := 28) (ws' := (wsX5_become cA h_o h_o_halfWidths a1 a2 o_halfWidths_n (upd o_halfWidths_12 x3_12.toNatClampNeg r2))) rfl rfl dX5_become_28 rfl hf0_12 (fun hf0_12 => ?_)
        refine z_iinc 3 (pc := 29) (v := x3_12 + 1) (lv' := [(3, .int (x3_12 + 1)), (0, .ref h_o), (1, .int a1), (2, .int a2)]) dX5_become_29 rfl rfl (by decide) rfl ?_
        refine z_goto (pc := 32) (tgt := 12) dX5_become_32 (by decide) ?_
        exact z_lv [1, 2, 3, 0] rfl (ih12 (x3_12 + 1) (upd o_halfWidths_12 x3_12.toNatClampNeg r2) hf0_12)
  exact z_lv [1, 2, 3, 0] rfl (lp12 N 0 o_halfWidths hf0_12)
end
section
abbrev RX3_clear : Type := Int32
abbrev rmX3_clear : Room := { frames := 0, cells := 0, slots := 0, locals := 0 }
abbrev wsX3_clear (cA : Nat → ClassId) (h_o : Nat) (o_count : Int32) (o_letters : Value) (o_digits : Value) (o_xs : Value) (o_ys : Value) (o_zs : Value) : va_W := [(h_o, .inr (3, [.int o_count, o_letters, o_digits, o_xs, o_ys, o_zs]))]
def fX3_clear (N : Nat)  (o_count : Int32) : Option RX3_clear :=
  some 0
set_option maxHeartbeats 4000000 in
set_option maxRecDepth 100000 in
theorem kX3_clear (l : Launch) (D : va_G) (cA : Nat → ClassId) (h_o : Nat) (o_count : Int32) (o_letters : Value) (o_digits : Value) (o_xs : Value) (o_ys : Value) (o_zs : Value)  (N : Nat) (res : RX3_clear) (hf0 : fX3_clear N o_count = some res) : CtV l yX3_clear (Cond.code yX3_clear cX3_clear 1 (none) :: tblG) rmX3_clear D cA (wsX3_clear cA h_o o_count o_letters o_digits o_xs o_ys o_zs) [.ref h_o] (wsX3_clear cA h_o res o_letters o_digits o_xs o_ys o_zs) := by
  refine CtV.start (lv := [(0, .ref h_o)]) (by decide) (Nat.le_of_ble_eq_true rfl) rfl (fun κ hE => ?_)
  rw [fX3_clear] at hf0
  refine z_aload_n 0 (pc := 0) dX3_clear_0 rfl ?_
  refine z_iconst (pc := 1) (v := 0) dX3_clear_1 (by decide) ?_
  refine z_put 0 0 (pc := 2) (ws' := (wsX3_clear cA h_o 0 o_letters o_digits o_xs o_ys o_zs)) rfl rfl inX3 tyX3 tyX3_ok nmX3 (by decide) flX3_9 rfl rfl rfl rfl (Nat.le_of_ble_eq_true rfl) dX3_clear_2 rfl ?_
  obtain rfl := Option.some.inj hf0
  exact z_vret hE dX3_clear_5

abbrev RX3_add : Type := Int32 × (Nat → Int32) × (Nat → Int32) × (Nat → Int32) × (Nat → Int32) × (Nat → Int32)
abbrev rmX3_add : Room := { frames := 0, cells := 0, slots := 0, locals := 0 }
abbrev wsX3_add (cA : Nat → ClassId) (h_o : Nat) (h_o_letters : Nat) (h_o_digits : Nat) (h_o_xs : Nat) (h_o_ys : Nat) (h_o_zs : Nat) (o_count : Int32) (o_letters_n : Nat) (o_letters : Nat → Int32) (o_digits_n : Nat) (o_digits : Nat → Int32) (o_xs_n : Nat) (o_xs : Nat → Int32) (o_ys_n : Nat) (o_ys : Nat → Int32) (o_zs_n : Nat) (o_zs : Nat → Int32) : va_W := [(h_o, .inr (3, [.int o_count, .ref h_o_letters, .ref h_o_digits, .ref h_o_xs, .ref h_o_ys, .ref h_o_zs])), (h_o_letters, .inl (cA 2, o_letters_n, .inl o_letters)), (h_o_digits, .inl (cA 0, o_digits_n, .inl o_digits)), (h_o_xs, .inl (cA 0, o_xs_n, .inl o_xs)), (h_o_ys, .inl (cA 0, o_ys_n, .inl o_ys)), (h_o_zs, .inl (cA 0, o_zs_n, .inl o_zs))]
def fX3_add (N : Nat) (a1 : Int32) (a2 : Int32) (a3 : Int32) (a4 : Int32) (a5 : Int32) (o_count : Int32) (o_letters_n : Nat) (o_letters : Nat → Int32) (o_digits_n : Nat) (o_digits : Nat → Int32) (o_xs_n : Nat) (o_xs : Nat → Int32) (o_ys_n : Nat) (o_ys : Nat → Int32) (o_zs_n : Nat) (o_zs : Nat → Int32) : Option RX3_add :=
  (if 32 ≤ o_count then some (o_count, o_letters, o_digits, o_xs, o_ys, o_zs) else (if o_count < 0 ∨ o_letters_n ≤ o_count.toNatClampNeg then none else (if o_count < 0 ∨ o_digits_n ≤ o_count.toNatClampNeg then none else (if o_count < 0 ∨ o_xs_n ≤ o_count.toNatClampNeg then none else (if o_count < 0 ∨ o_ys_n ≤ o_count.toNatClampNeg then none else (if o_count < 0 ∨ o_zs_n ≤ o_count.toNatClampNeg then none else some (o_count + 1, upd o_letters o_count.toNatClampNeg (vp_nar .char a1), upd o_digits o_count.toNatClampNeg a2, upd o_xs o_count.toNatClampNeg a3, upd o_ys o_count.toNatClampNeg a4, upd o_zs o_count.toNatClampNeg a5)))))))
set_option maxHeartbeats 4000000 in
set_option maxRecDepth 100000 in
theorem kX3_add (l : Launch) (D : va_G) (cA : Nat → ClassId) (h_o : Nat) (h_o_letters : Nat) (h_o_digits : Nat) (h_o_xs : Nat) (h_o_ys : Nat) (h_o_zs : Nat) (o_count : Int32) (o_letters_n : Nat) (o_letters : Nat → Int32) (o_digits_n : Nat) (o_digits : Nat → Int32) (o_xs_n : Nat) (o_xs : Nat → Int32) (o_ys_n : Nat) (o_ys : Nat → Int32) (o_zs_n : Nat) (o_zs : Nat → Int32) (a1 : Int32) (a2 : Int32) (a3 : Int32) (a4 : Int32) (a5 : Int32) (N : Nat) (res : RX3_add) (hf0 : fX3_add N a1 a2 a3 a4 a5 o_count o_letters_n o_letters o_digits_n o_digits o_xs_n o_xs o_ys_n o_ys o_zs_n o_zs = some res) : CtV l yX3_add (Cond.code yX3_add cX3_add 6 (none) :: tblG) rmX3_add D cA (wsX3_add cA h_o h_o_letters h_o_digits h_o_xs h_o_ys h_o_zs o_count o_letters_n o_letters o_digits_n o_digits o_xs_n o_xs o_ys_n o_ys o_zs_n o_zs) [.ref h_o, .int a1, .int a2, .int a3, .int a4, .int a5] (wsX3_add cA h_o h_o_letters h_o_digits h_o_xs h_o_ys h_o_zs res.1 o_letters_n res.2.1 o_digits_n res.2.2.1 o_xs_n res.2.2.2.1 o_ys_n res.2.2.2.2.1 o_zs_n res.2.2.2.2.2) := by
  refine CtV.start (lv := [(0, .ref h_o), (1, .int a1), (2, .int a2), (3, .int a3), (4, .int a4), (5, .int a5)]) (by decide) (Nat.le_of_ble_eq_true rfl) rfl (fun κ hE => ?_)
  rw [fX3_add] at hf0
  refine z_aload_n 0 (pc := 0) dX3_add_0 rfl ?_
  refine z_get 0 0 (pc := 1) (v := .int o_count) rfl rfl inX3 (by decide) flX3_9 rfl dX3_add_1 ?_
  refine z_bipush (pc := 4) (v := 32) dX3_add_4 (by decide) ?_
  refine z_icmp_ge (pc := 6) (tgt := 71) dX3_add_6 (by decide) hf0 (fun hf0 => ?_) (fun hf0 => ?_)
  · obtain rfl := Option.some.inj hf0
    exact z_vret hE dX3_add_71
  · refine z_aload_n 0 (pc := 9) dX3_add_9 rfl ?_
    refine z_get 0 1 (pc := 10) (v := .ref h_o_letters) rfl rfl inX3 (by decide) flX3_15 rfl dX3_add_10 ?_
    refine z_aload_n 0 (pc := 13) dX3_add_13 rfl ?_
    refine z_get 0 0 (pc := 14) (v := .int o_count) rfl rfl inX3 (by decide) flX3_9 rfl dX3_add_14 ?_
    refine z_iload_n 1 (pc := 17) dX3_add_17 rfl ?_
    refine z_castore 1 2 (pc := 18) (ws' := (wsX3_add cA h_o h_o_letters h_o_digits h_o_xs h_o_ys h_o_zs o_count o_letters_n (upd o_letters o_count.toNatClampNeg (vp_nar .char a1)) o_digits_n o_digits o_xs_n o_xs o_ys_n o_ys o_zs_n o_zs)) rfl rfl dX3_add_18 rfl hf0 (fun hf0 => ?_)
    refine z_aload_n 0 (pc := 19) dX3_add_19 rfl ?_
    refine z_get 0 2 (pc := 20) (v := .ref h_o_digits) rfl rfl inX3 (by decide) flX3_19 rfl dX3_add_20 ?_
    refine z_aload_n 0 (pc := 23) dX3_add_23 rfl ?_
    refine z_get 0 0 (pc := 24) (v := .int o_count) rfl rfl inX3 (by decide) flX3_9 rfl dX3_add_24 ?_
    refine z_iload_n 2 (pc := 27) dX3_add_27 rfl ?_
    refine z_iastore 2 0 (pc := 28) (ws' := (wsX3_add cA h_o h_o_letters h_o_digits h_o_xs h_o_ys h_o_zs o_count o_letters_n (upd o_letters o_count.toNatClampNeg (vp_nar .char a1)) o_digits_n (upd o_digits o_count.toNatClampNeg a2) o_xs_n o_xs o_ys_n o_ys o_zs_n o_zs)) rfl rfl dX3_add_28 rfl hf0 (fun hf0 => ?_)
    refine z_aload_n 0 (pc := 29) dX3_add_29 rfl ?_
    refine z_get 0 3 (pc := 30) (v := .ref h_o_xs) rfl rfl inX3 (by decide) flX3_23 rfl dX3_add_30 ?_
    refine z_aload_n 0 (pc := 33) dX3_add_33 rfl ?_
    refine z_get 0 0 (pc := 34) (v := .int o_count) rfl rfl inX3 (by decide) flX3_9 rfl dX3_add_34 ?_
    refine z_iload_n 3 (pc := 37) dX3_add_37 rfl ?_
    refine z_iastore 3 0 (pc := 38) (ws' := (wsX3_add cA h_o h_o_letters h_o_digits h_o_xs h_o_ys h_o_zs o_count o_letters_n (upd o_letters o_count.toNatClampNeg (vp_nar .char a1)) o_digits_n (upd o_digits o_count.toNatClampNeg a2) o_xs_n (upd o_xs o_count.toNatClampNeg a3) o_ys_n o_ys o_zs_n o_zs)) rfl rfl dX3_add_38 rfl hf0 (fun hf0 => ?_)
    refine z_aload_n 0 (pc := 39) dX3_add_39 rfl ?_
    refine z_get 0 4 (pc := 40) (v := .ref h_o_ys) rfl rfl inX3 (by decide) flX3_26 rfl dX3_add_40 ?_
    refine z_aload_n 0 (pc := 43) dX3_add_43 rfl ?_
    refine z_get 0 0 (pc := 44) (v := .int o_count) rfl rfl inX3 (by decide) flX3_9 rfl dX3_add_44 ?_
    refine z_iload 4 (pc := 47) dX3_add_47 rfl ?_
    refine z_iastore 4 0 (pc := 49) (ws' := (wsX3_add cA h_o h_o_letters h_o_digits h_o_xs h_o_ys h_o_zs o_count o_letters_n (upd o_letters o_count.toNatClampNeg (vp_nar .char a1)) o_digits_n (upd o_digits o_count.toNatClampNeg a2) o_xs_n (upd o_xs o_count.toNatClampNeg a3) o_ys_n (upd o_ys o_count.toNatClampNeg a4) o_zs_n o_zs)) rfl rfl dX3_add_49 rfl hf0 (fun hf0 => ?_)
    refine z_aload_n 0 (pc := 50) dX3_add_50 rfl ?_
    refine z_get 0 5 (pc := 51) (v := .ref h_o_zs) rfl rfl inX3 (by decide) flX3_29 rfl dX3_add_51 ?_
    refine z_aload_n 0 (pc := 54) dX3_add_54 rfl ?_
    refine z_get 0 0 (pc := 55) (v := .int o_count) rfl rfl inX3 (by decide) flX3_9 rfl dX3_add_55 ?_
    refine z_iload 5 (pc := 58) dX3_add_58 rfl ?_
    refine z_iastore 5 0 (pc := 60) (ws' := (wsX3_add cA h_o h_o_letters h_o_digits h_o_xs h_o_ys h_o_zs o_count o_letters_n (upd o_letters o_count.toNatClampNeg (vp_nar .char a1)) o_digits_n (upd o_digits o_count.toNatClampNeg a2) o_xs_n (upd o_xs o_count.toNatClampNeg a3) o_ys_n (upd o_ys o_count.toNatClampNeg a4) o_zs_n (upd o_zs o_count.toNatClampNeg a5))) rfl rfl dX3_add_60 rfl hf0 (fun hf0 => ?_)
    refine z_aload_n 0 (pc := 61) dX3_add_61 rfl ?_
    refine z_dup (pc := 62) dX3_add_62 rfl ?_
    refine z_get 0 0 (pc := 63) (v := .int o_count) rfl rfl inX3 (by decide) flX3_9 rfl dX3_add_63 ?_
    refine z_iconst (pc := 66) (v := 1) dX3_add_66 (by decide) ?_
    refine z_iadd (pc := 67) dX3_add_67 ?_
    refine z_put 0 0 (pc := 68) (ws' := (wsX3_add cA h_o h_o_letters h_o_digits h_o_xs h_o_ys h_o_zs (o_count + 1) o_letters_n (upd o_letters o_count.toNatClampNeg (vp_nar .char a1)) o_digits_n (upd o_digits o_count.toNatClampNeg a2) o_xs_n (upd o_xs o_count.toNatClampNeg a3) o_ys_n (upd o_ys o_count.toNatClampNeg a4) o_zs_n (upd o_zs o_count.toNatClampNeg a5))) rfl rfl inX3 tyX3 tyX3_ok nmX3 (by decide) flX3_9 rfl rfl rfl rfl (Nat.le_of_ble_eq_true rfl) dX3_add_68 rfl ?_
    obtain rfl := Option.some.inj hf0
    exact z_vret hE dX3_add_71
end
section
abbrev RX2_take : Type := Int32 × (Nat → Int32) × (Nat → Int32) × (Nat → Int32)
abbrev rmX2_take : Room := { frames := 1, cells := 0, slots := 0, locals := 22 }
abbrev wsX2_take (cA : Nat → ClassId) (h_o : Nat) (h_p1 : Nat) (h_o_taken : Nat) (h_p1_heights : Nat) (h_o_queueX : Nat) (h_o_queueY : Nat) (o_side : Int32) (o_cells : Int32) (o_queued : Int32) (p1_side : Int32) (p1_cells : Int32) (p1_targets : Value) (p1_kept : Value) (p1_marks : Value) (p1_disc : Value) (p1_discSize : Int32) (o_taken_n : Nat) (o_taken : Nat → Int32) (p1_heights_n : Nat) (p1_heights : Nat → Int32) (o_queueX_n : Nat) (o_queueX : Nat → Int32) (o_queueY_n : Nat) (o_queueY : Nat → Int32) : va_W := [(h_o, .inr (2, [.int o_side, .int o_cells, .ref h_o_taken, .ref h_o_queueX, .ref h_o_queueY, .int o_queued])), (h_p1, .inr (0, [.int p1_side, .int p1_cells, .ref h_p1_heights, p1_targets, p1_kept, p1_marks, p1_disc, .int p1_discSize])), (h_o_taken, .inl (cA 1, o_taken_n, .inl o_taken)), (h_p1_heights, .inl (cA 0, p1_heights_n, .inl p1_heights)), (h_o_queueX, .inl (cA 0, o_queueX_n, .inl o_queueX)), (h_o_queueY, .inl (cA 0, o_queueY_n, .inl o_queueY))]
def fX2_take (N : Nat) (a2 : Int32) (a3 : Int32) (o_cells : Int32) (o_queued : Int32) (p1_side : Int32) (o_taken_n : Nat) (o_taken : Nat → Int32) (p1_heights_n : Nat) (p1_heights : Nat → Int32) (o_queueX_n : Nat) (o_queueX : Nat → Int32) (o_queueY_n : Nat) (o_queueY : Nat → Int32) : Option RX2_take :=
  ((fX0_holds N a2 a3 p1_side).bind fun r1 => (if r1 = 0 then some (o_queued, o_taken, o_queueX, o_queueY) else (if o_queued < o_cells then ((fX0_placeOf N a2 a3 p1_side).bind fun r2 => (if r2 < 0 ∨ o_taken_n ≤ r2.toNatClampNeg then none else (if (o_taken r2.toNatClampNeg) = 0 then (if r2 < 0 ∨ p1_heights_n ≤ r2.toNatClampNeg then none else (if (p1_heights r2.toNatClampNeg) ≤ 0 then some (o_queued, o_taken, o_queueX, o_queueY) else (if r2 < 0 ∨ o_taken_n ≤ r2.toNatClampNeg then none else (if o_queued < 0 ∨ o_queueX_n ≤ o_queued.toNatClampNeg then none else (if o_queued < 0 ∨ o_queueY_n ≤ o_queued.toNatClampNeg then none else some (o_queued + 1, upd o_taken r2.toNatClampNeg (vp_nar .boolean 1), upd o_queueX o_queued.toNatClampNeg a2, upd o_queueY o_queued.toNatClampNeg a3)))))) else some (o_queued, o_taken, o_queueX, o_queueY)))) else some (o_queued, o_taken, o_queueX, o_queueY))))
set_option maxHeartbeats 4000000 in
set_option maxRecDepth 100000 in
theorem kX2_take (l : Launch) (D : va_G) (cA : Nat → ClassId) (h_o : Nat) (h_p1 : Nat) (h_o_taken : Nat) (h_p1_heights : Nat) (h_o_queueX : Nat) (h_o_queueY : Nat) (o_side : Int32) (o_cells : Int32) (o_queued : Int32) (p1_side : Int32) (p1_cells : Int32) (p1_targets : Value) (p1_kept : Value) (p1_marks : Value) (p1_disc : Value) (p1_discSize : Int32) (o_taken_n : Nat) (o_taken : Nat → Int32) (p1_heights_n : Nat) (p1_heights : Nat → Int32) (o_queueX_n : Nat) (o_queueX : Nat → Int32) (o_queueY_n : Nat) (o_queueY : Nat → Int32) (a2 : Int32) (a3 : Int32) (N : Nat) (res : RX2_take) (hf0 : fX2_take N a2 a3 o_cells o_queued p1_side o_taken_n o_taken p1_heights_n p1_heights o_queueX_n o_queueX o_queueY_n o_queueY = some res) : CtV l yX2_take (Cond.code yX2_take cX2_take 5 (none) :: tblG) rmX2_take D cA (wsX2_take cA h_o h_p1 h_o_taken h_p1_heights h_o_queueX h_o_queueY o_side o_cells o_queued p1_side p1_cells p1_targets p1_kept p1_marks p1_disc p1_discSize o_taken_n o_taken p1_heights_n p1_heights o_queueX_n o_queueX o_queueY_n o_queueY) [.ref h_o, .ref h_p1, .int a2, .int a3] (wsX2_take cA h_o h_p1 h_o_taken h_p1_heights h_o_queueX h_o_queueY o_side o_cells res.1 p1_side p1_cells p1_targets p1_kept p1_marks p1_disc p1_discSize o_taken_n res.2.1 p1_heights_n p1_heights o_queueX_n res.2.2.1 o_queueY_n res.2.2.2) := by
  refine CtV.start (lv := [(0, .ref h_o), (1, .ref h_p1), (2, .int a2), (3, .int a3)]) (by decide) (Nat.le_of_ble_eq_true rfl) rfl (fun κ hE => ?_)
  rw [fX2_take] at hf0
  refine z_aload_n 1 (pc := 0) dX2_take_0 rfl ?_
  refine z_iload_n 2 (pc := 1) dX2_take_1 rfl ?_
  refine z_iload_n 3 (pc := 2) dX2_take_2 rfl ?_
  obtain ⟨r1, er1, hf0⟩ := bp hf0
  refine z_calliV (pc := 3) (As := [.int a2, .int a3]) (rest := []) (ws' := (wsX2_take cA h_o h_p1 h_o_taken h_p1_heights h_o_queueX h_o_queueY o_side o_cells o_queued p1_side p1_cells p1_targets p1_kept p1_marks p1_disc p1_discSize o_taken_n o_taken p1_heights_n p1_heights o_queueX_n o_queueX o_queueY_n o_queueY)) (kX0_holds l D cA h_p1 p1_side p1_cells (.ref h_p1_heights) p1_targets p1_kept p1_marks p1_disc p1_discSize a2 a3 N r1 er1) ivX2_38 ⟨rfl, rfl⟩ ⟨by decide, by decide⟩ rfl ⟨Nat.zero_le _, Nat.zero_le _⟩ rfl rfl [1] rfl (by decide) rfl rfl rfl (Nat.le_of_ble_eq_true rfl) dX2_take_3 ?_
  refine z_if_eq (pc := 6) (tgt := 20) dX2_take_6 (by decide) hf0 (fun hf0 => ?_) (fun hf0 => ?_)
  · obtain rfl := Option.some.inj hf0
    exact z_vret hE dX2_take_20
  · refine z_aload_n 0 (pc := 9) dX2_take_9 rfl ?_
    refine z_get 0 5 (pc := 10) (v := .int o_queued) rfl rfl inX2 (by decide) flX2_27 rfl dX2_take_10 ?_
    refine z_aload_n 0 (pc := 13) dX2_take_13 rfl ?_
    refine z_get 0 1 (pc := 14) (v := .int o_cells) rfl rfl inX2 (by decide) flX2_13 rfl dX2_take_14 ?_
    refine z_icmp_lt (pc := 17) (tgt := 21) dX2_take_17 (by decide) hf0 (fun hf0 => ?_) (fun hf0 => ?_)
    · refine z_aload_n 1 (pc := 21) dX2_take_21 rfl ?_
      refine z_iload_n 2 (pc := 22) dX2_take_22 rfl ?_
      refine z_iload_n 3 (pc := 23) dX2_take_23 rfl ?_
      obtain ⟨r2, er2, hf0⟩ := bp hf0
      refine z_calliV (pc := 24) (As := [.int a2, .int a3]) (rest := []) (ws' := (wsX2_take cA h_o h_p1 h_o_taken h_p1_heights h_o_queueX h_o_queueY o_side o_cells o_queued p1_side p1_cells p1_targets p1_kept p1_marks p1_disc p1_discSize o_taken_n o_taken p1_heights_n p1_heights o_queueX_n o_queueX o_queueY_n o_queueY)) (kX0_placeOf l D cA h_p1 p1_side p1_cells (.ref h_p1_heights) p1_targets p1_kept p1_marks p1_disc p1_discSize a2 a3 N r2 er2) ivX2_44 ⟨rfl, rfl⟩ ⟨by decide, by decide⟩ rfl ⟨Nat.zero_le _, Nat.zero_le _⟩ rfl rfl [1] rfl (by decide) rfl rfl rfl (Nat.le_of_ble_eq_true rfl) dX2_take_24 ?_
      refine z_istore (pc := 27) (lv' := [(4, .int r2), (0, .ref h_o), (1, .ref h_p1), (2, .int a2), (3, .int a3)]) dX2_take_27 (by decide) rfl ?_
      refine z_aload_n 1 (pc := 29) dX2_take_29 rfl ?_
      refine z_get 0 2 (pc := 30) (v := .ref h_o_taken) rfl rfl inX2 (by decide) flX2_16 rfl dX2_take_30 ?_
      refine z_iload 0 (pc := 33) dX2_take_33 rfl ?_
      refine z_zaload 2 1 (pc := 35) rfl rfl dX2_take_35 hf0 (fun hf0 => ?_)
      refine z_if_ne (pc := 36) (tgt := 87) dX2_take_36 (by decide) hf0 (fun hf0 => ?_) (fun hf0 => ?_)
      · obtain rfl := Option.some.inj hf0
        exact z_vret hE dX2_take_87
      · refine z_aload_n 2 (pc := 39) dX2_take_39 rfl ?_
        refine z_get 1 2 (pc := 40) (v := .ref h_p1_heights) rfl rfl inX0 (by decide) flX2_48 rfl dX2_take_40 ?_
        refine z_iload 0 (pc := 43) dX2_take_43 rfl ?_
        refine z_iaload 3 0 (pc := 45) rfl rfl dX2_take_45 hf0 (fun hf0 => ?_)
        refine z_if_le (pc := 46) (tgt := 87) dX2_take_46 (by decide) hf0 (fun hf0 => ?_) (fun hf0 => ?_)
        · obtain rfl := Option.some.inj hf0
          exact z_vret hE dX2_take_87
        · refine z_aload_n 1 (pc := 49) dX2_take_49 rfl ?_
          refine z_get 0 2 (pc := 50) (v := .ref h_o_taken) rfl rfl inX2 (by decide) flX2_16 rfl dX2_take_50 ?_
          refine z_iload 0 (pc := 53) dX2_take_53 rfl ?_
          refine z_iconst (pc := 55) (v := 1) dX2_take_55 (by decide) ?_
          refine z_zastore 2 1 (pc := 56) (ws' := (wsX2_take cA h_o h_p1 h_o_taken h_p1_heights h_o_queueX h_o_queueY o_side o_cells o_queued p1_side p1_cells p1_targets p1_kept p1_marks p1_disc p1_discSize o_taken_n (upd o_taken r2.toNatClampNeg (vp_nar .boolean 1)) p1_heights_n p1_heights o_queueX_n o_queueX o_queueY_n o_queueY)) rfl rfl dX2_take_56 rfl hf0 (fun hf0 => ?_)
          refine z_aload_n 1 (pc := 57) dX2_take_57 rfl ?_
          refine z_get 0 3 (pc := 58) (v := .ref h_o_queueX) rfl rfl inX2 (by decide) flX2_20 rfl dX2_take_58 ?_
          refine z_aload_n 1 (pc := 61) dX2_take_61 rfl ?_
          refine z_get 0 5 (pc := 62) (v := .int o_queued) rfl rfl inX2 (by decide) flX2_27 rfl dX2_take_62 ?_
          refine z_iload_n 3 (pc := 65) dX2_take_65 rfl ?_
          refine z_iastore 4 0 (pc := 66) (ws' := (wsX2_take cA h_o h_p1 h_o_taken h_p1_heights h_o_queueX h_o_queueY o_side o_cells o_queued p1_side p1_cells p1_targets p1_kept p1_marks p1_disc p1_discSize o_taken_n (upd o_taken r2.toNatClampNeg (vp_nar .boolean 1)) p1_heights_n p1_heights o_queueX_n (upd o_queueX o_queued.toNatClampNeg a2) o_queueY_n o_queueY)) rfl rfl dX2_take_66 rfl hf0 (fun hf0 => ?_)
          refine z_aload_n 1 (pc := 67) dX2_take_67 rfl ?_
          refine z_get 0 4 (pc := 68) (v := .ref h_o_queueY) rfl rfl inX2 (by decide) flX2_24 rfl dX2_take_68 ?_
          refine z_aload_n 1 (pc := 71) dX2_take_71 rfl ?_
          refine z_get 0 5 (pc := 72) (v := .int o_queued) rfl rfl inX2 (by decide) flX2_27 rfl dX2_take_72 ?_
          refine z_iload_n 4 (pc := 75) dX2_take_75 rfl ?_
          refine z_iastore 5 0 (pc := 76) (ws' := (wsX2_take cA h_o h_p1 h_o_taken h_p1_heights h_o_queueX h_o_queueY o_side o_cells o_queued p1_side p1_cells p1_targets p1_kept p1_marks p1_disc p1_discSize o_taken_n (upd o_taken r2.toNatClampNeg (vp_nar .boolean 1)) p1_heights_n p1_heights o_queueX_n (upd o_queueX o_queued.toNatClampNeg a2) o_queueY_n (upd o_queueY o_queued.toNatClampNeg a3))) rfl rfl dX2_take_76 rfl hf0 (fun hf0 => ?_)
          refine z_aload_n 1 (pc := 77) dX2_take_77 rfl ?_
          refine z_dup (pc := 78) dX2_take_78 rfl ?_
          refine z_get 0 5 (pc := 79) (v := .int o_queued) rfl rfl inX2 (by decide) flX2_27 rfl dX2_take_79 ?_
          refine z_iconst (pc := 82) (v := 1) dX2_take_82 (by decide) ?_
          refine z_iadd (pc := 83) dX2_take_83 ?_
          refine z_put 0 5 (pc := 84) (ws' := (wsX2_take cA h_o h_p1 h_o_taken h_p1_heights h_o_queueX h_o_queueY o_side o_cells (o_queued + 1) p1_side p1_cells p1_targets p1_kept p1_marks p1_disc p1_discSize o_taken_n (upd o_taken r2.toNatClampNeg (vp_nar .boolean 1)) p1_heights_n p1_heights o_queueX_n (upd o_queueX o_queued.toNatClampNeg a2) o_queueY_n (upd o_queueY o_queued.toNatClampNeg a3))) rfl rfl inX2 tyX2 tyX2_ok nmX2 (by decide) flX2_27 rfl rfl rfl rfl (Nat.le_of_ble_eq_true rfl) dX2_take_84 rfl ?_
          obtain rfl := Option.some.inj hf0
          exact z_vret hE dX2_take_87
    · obtain rfl := Option.some.inj hf0
      exact z_vret hE dX2_take_20

abbrev RX2_spread : Type := Int32 × (Nat → Int32) × (Nat → Int32) × (Nat → Int32)
abbrev rmX2_spread : Room := { frames := 2, cells := 0, slots := 0, locals := 46 }
abbrev wsX2_spread (cA : Nat → ClassId) (h_o : Nat) (h_p1 : Nat) (h_o_queueX : Nat) (h_o_queueY : Nat) (h_o_taken : Nat) (h_p1_heights : Nat) (o_side : Int32) (o_cells : Int32) (o_queued : Int32) (p1_side : Int32) (p1_cells : Int32) (p1_targets : Value) (p1_kept : Value) (p1_marks : Value) (p1_disc : Value) (p1_discSize : Int32) (o_queueX_n : Nat) (o_queueX : Nat → Int32) (o_queueY_n : Nat) (o_queueY : Nat → Int32) (o_taken_n : Nat) (o_taken : Nat → Int32) (p1_heights_n : Nat) (p1_heights : Nat → Int32) : va_W := [(h_o, .inr (2, [.int o_side, .int o_cells, .ref h_o_taken, .ref h_o_queueX, .ref h_o_queueY, .int o_queued])), (h_p1, .inr (0, [.int p1_side, .int p1_cells, .ref h_p1_heights, p1_targets, p1_kept, p1_marks, p1_disc, .int p1_discSize])), (h_o_queueX, .inl (cA 0, o_queueX_n, .inl o_queueX)), (h_o_queueY, .inl (cA 0, o_queueY_n, .inl o_queueY)), (h_o_taken, .inl (cA 1, o_taken_n, .inl o_taken)), (h_p1_heights, .inl (cA 0, p1_heights_n, .inl p1_heights))]
def LX2_spread_2 (o_cells : Int32) (o_queueX_n : Nat) (o_queueY_n : Nat) (N : Nat) (p1_side : Int32) (o_taken_n : Nat) (p1_heights_n : Nat) (p1_heights : Nat → Int32) : Nat → Int32 → (Nat → Int32) → (Nat → Int32) → Int32 → (Nat → Int32) → Option (Int32 × (Nat → Int32) × (Nat → Int32) × Int32 × (Nat → Int32))
  | 0, _, _, _, _, _ => none
  | n + 1, x3_2, o_queueX_2, o_queueY_2, o_queued_2, o_taken_2 => (if o_queued_2 ≤ x3_2 then some (x3_2, o_queueX_2, o_queueY_2, o_queued_2, o_taken_2) else (if o_cells ≤ x3_2 then some (x3_2, o_queueX_2, o_queueY_2, o_queued_2, o_taken_2) else (if x3_2 < 0 ∨ o_queueX_n ≤ x3_2.toNatClampNeg then none else (if x3_2 < 0 ∨ o_queueY_n ≤ x3_2.toNatClampNeg then none else ((fX2_take N ((o_queueX_2 x3_2.toNatClampNeg) - 1) (o_queueY_2 x3_2.toNatClampNeg) o_cells o_queued_2 p1_side o_taken_n o_taken_2 p1_heights_n p1_heights o_queueX_n o_queueX_2 o_queueY_n o_queueY_2).bind fun r2 => ((fX2_take N ((o_queueX_2 x3_2.toNatClampNeg) + 1) (o_queueY_2 x3_2.toNatClampNeg) o_cells r2.1 p1_side o_taken_n r2.2.1 p1_heights_n p1_heights o_queueX_n r2.2.2.1 o_queueY_n r2.2.2.2).bind fun r3 => ((fX2_take N (o_queueX_2 x3_2.toNatClampNeg) ((o_queueY_2 x3_2.toNatClampNeg) - 1) o_cells r3.1 p1_side o_taken_n r3.2.1 p1_heights_n p1_heights o_queueX_n r3.2.2.1 o_queueY_n r3.2.2.2).bind fun r4 => ((fX2_take N (o_queueX_2 x3_2.toNatClampNeg) ((o_queueY_2 x3_2.toNatClampNeg) + 1) o_cells r4.1 p1_side o_taken_n r4.2.1 p1_heights_n p1_heights o_queueX_n r4.2.2.1 o_queueY_n r4.2.2.2).bind fun r5 => LX2_spread_2 o_cells o_queueX_n o_queueY_n N p1_side o_taken_n p1_heights_n p1_heights n (x3_2 + 1) r5.2.2.1 r5.2.2.2 r5.1 r5.2.1))))))))
def fX2_spread (N : Nat) (a2 : Int32) (o_cells : Int32) (o_queued : Int32) (p1_side : Int32) (o_queueX_n : Nat) (o_queueX : Nat → Int32) (o_queueY_n : Nat) (o_queueY : Nat → Int32) (o_taken_n : Nat) (o_taken : Nat → Int32) (p1_heights_n : Nat) (p1_heights : Nat → Int32) : Option RX2_spread :=
  ((LX2_spread_2 o_cells o_queueX_n o_queueY_n N p1_side o_taken_n p1_heights_n p1_heights N a2 o_queueX o_queueY o_queued o_taken).bind fun r1 => some (r1.2.2.2.1, r1.2.1, r1.2.2.1, r1.2.2.2.2))
set_option maxHeartbeats 4000000 in
set_option maxRecDepth 100000 in
theorem kX2_spread (l : Launch) (D : va_G) (cA : Nat → ClassId) (h_o : Nat) (h_p1 : Nat) (h_o_queueX : Nat) (h_o_queueY : Nat) (h_o_taken : Nat) (h_p1_heights : Nat) (o_side : Int32) (o_cells : Int32) (o_queued : Int32) (p1_side : Int32) (p1_cells : Int32) (p1_targets : Value) (p1_kept : Value) (p1_marks : Value) (p1_disc : Value) (p1_discSize : Int32) (o_queueX_n : Nat) (o_queueX : Nat → Int32) (o_queueY_n : Nat) (o_queueY : Nat → Int32) (o_taken_n : Nat) (o_taken : Nat → Int32) (p1_heights_n : Nat) (p1_heights : Nat → Int32) (a2 : Int32) (N : Nat) (res : RX2_spread) (hf0 : fX2_spread N a2 o_cells o_queued p1_side o_queueX_n o_queueX o_queueY_n o_queueY o_taken_n o_taken p1_heights_n p1_heights = some res) : CtV l yX2_spread (Cond.code yX2_spread cX2_spread 6 (none) :: tblG) rmX2_spread D cA (wsX2_spread cA h_o h_p1 h_o_queueX h_o_queueY h_o_taken h_p1_heights o_side o_cells o_queued p1_side p1_cells p1_targets p1_kept p1_marks p1_disc p1_discSize o_queueX_n o_queueX o_queueY_n o_queueY o_taken_n o_taken p1_heights_n p1_heights) [.ref h_o, .ref h_p1, .int a2] (wsX2_spread cA h_o h_p1 h_o_queueX h_o_queueY h_o_taken h_p1_heights o_side o_cells res.1 p1_side p1_cells p1_targets p1_kept p1_marks p1_disc p1_discSize o_queueX_n res.2.1 o_queueY_n res.2.2.1 o_taken_n res.2.2.2 p1_heights_n p1_heights) := by
  refine CtV.start (lv := [(0, .ref h_o), (1, .ref h_p1), (2, .int a2)]) (by decide) (Nat.le_of_ble_eq_true rfl) rfl (fun κ hE => ?_)
  rw [fX2_spread] at hf0
  refine z_iload_n 2 (pc := 0) dX2_spread_0 rfl ?_
  refine z_istore_n (pc := 1) (lv' := [(3, .int a2), (0, .ref h_o), (1, .ref h_p1), (2, .int a2)]) dX2_spread_1 (by decide) rfl ?_
  obtain ⟨y2, hf0_2, hf0⟩ := bp hf0
  have lp2 : ∀ (n : Nat) (x3_2 : Int32) (o_queueX_2 : Nat → Int32) (o_queueY_2 : Nat → Int32) (o_queued_2 : Int32) (o_taken_2 : Nat → Int32), LX2_spread_2 o_cells o_queueX_n o_queueY_n N p1_side o_taken_n p1_heights_n p1_heights n x3_2 o_queueX_2 o_queueY_2 o_queued_2 o_taken_2 = some y2 → V κ l D cA rmX2_spread cX2_spread 6 RX2 (none) 0 0 2 [(0, .ref h_o), (1, .ref h_p1), (2, .int a2), (3, .int x3_2)] [] (wsX2_spread cA h_o h_p1 h_o_queueX h_o_queueY h_o_taken h_p1_heights o_side o_cells o_queued_2 p1_side p1_cells p1_targets p1_kept p1_marks p1_disc p1_discSize o_queueX_n o_queueX_2 o_queueY_n o_queueY_2 o_taken_n o_taken_2 p1_heights_n p1_heights) := by
    intro n
    induction n with
    | zero => intro x3_2 o_queueX_2 o_queueY_2 o_queued_2 o_taken_2 hf0_2; rw [LX2_spread_2] at hf0_2; cases hf0_2
    | succ n2 ih2 =>
      intro x3_2 o_queueX_2 o_queueY_2 o_queued_2 o_taken_2 hf0_2
      rw [LX2_spread_2] at hf0_2
      refine z_iload_n 3 (pc := 2) dX2_spread_2 rfl ?_
      refine z_aload_n 0 (pc := 3) dX2_spread_3 rfl ?_
      refine z_get 0 5 (pc := 4) (v := .int o_queued_2) rfl rfl inX2 (by decide) flX2_27 rfl dX2_spread_4 ?_
      refine z_icmp_ge (pc := 7) (tgt := 84) dX2_spread_7 (by decide) hf0_2 (fun hf0_2 => ?_) (fun hf0_2 => ?_)
      · obtain rfl := Option.some.inj hf0_2
        obtain rfl := Option.some.inj hf0
        exact z_vret hE dX2_spread_84
      · refine z_iload_n 3 (pc := 10) dX2_spread_10 rfl ?_
        refine z_aload_n 0 (pc := 11) dX2_spread_11 rfl ?_
        refine z_get 0 1 (pc := 12) (v := .int o_cells) rfl rfl inX2 (by decide) flX2_13 rfl dX2_spread_12 ?_
        refine z_icmp_ge (pc := 15) (tgt := 84) dX2_spread_15 (by decide) hf0_2 (fun hf0_2 => ?_) (fun hf0_2 => ?_)
        · obtain rfl := Option.some.inj hf0_2
          obtain rfl := Option.some.inj hf0
          exact z_vret hE dX2_spread_84
        · refine z_aload_n 0 (pc := 18) dX2_spread_18 rfl ?_
          refine z_get 0 3 (pc := 19) (v := .ref h_o_queueX) rfl rfl inX2 (by decide) flX2_20 rfl dX2_spread_19 ?_
          refine z_iload_n 3 (pc := 22) dX2_spread_22 rfl ?_
          refine z_iaload 2 0 (pc := 23) rfl rfl dX2_spread_23 hf0_2 (fun hf0_2 => ?_)
          refine z_istore (pc := 24) (lv' := [(4, .int (o_queueX_2 x3_2.toNatClampNeg)), (0, .ref h_o), (1, .ref h_p1), (2, .int a2), (3, .int x3_2)]) dX2_spread_24 (by decide) rfl ?_
          refine z_aload_n 1 (pc := 26) dX2_spread_26 rfl ?_
          refine z_get 0 4 (pc := 27) (v := .ref h_o_queueY) rfl rfl inX2 (by decide) flX2_24 rfl dX2_spread_27 ?_
          refine z_iload_n 4 (pc := 30) dX2_spread_30 rfl ?_
          refine z_iaload 3 0 (pc := 31) rfl rfl dX2_spread_31 hf0_2 (fun hf0_2 => ?_)
          refine z_istore (pc := 32) (lv' := [(5, .int (o_queueY_2 x3_2.toNatClampNeg)), (4, .int (o_queueX_2 x3_2.toNatClampNeg)), (0, .ref h_o), (1, .ref h_p1), (2, .int a2), (3, .int x3_2)]) dX2_spread_32 (by decide) rfl ?_
          refine z_aload_n 2 (pc := 34) dX2_spread_34 rfl ?_
          refine z_aload_n 3 (pc := 35) dX2_spread_35 rfl ?_
          refine z_iload 1 (pc := 36) dX2_spread_36 rfl ?_
          refine z_iconst (pc := 38) (v := 1) dX2_spread_38 (by decide) ?_
          refine z_isub (pc := 39) dX2_spread_39 ?_
          refine z_iload 0 (pc := 40) dX2_spread_40 rfl ?_
          obtain ⟨r2, er2, hf0_2⟩ := bp hf0_2
          refine z_callvV (pc := 42) (As := [.ref h_p1, .int ((o_queueX_2 x3_2.toNatClampNeg) - 1), .int (o_queueY_2 x3_2.toNatClampNeg)]) (rest := []) (ws' := (wsX2_spread cA h_o h_p1 h_o_queueX h_o_queueY h_o_taken h_p1_heights o_side o_cells r2.1 p1_side p1_cells p1_targets p1_kept p1_marks p1_disc p1_discSize o_queueX_n r2.2.2.1 o_queueY_n r2.2.2.2 o_taken_n r2.2.1 p1_heights_n p1_heights)) (kX2_take l D cA h_o h_p1 h_o_taken h_p1_heights h_o_queueX h_o_queueY o_side o_cells o_queued_2 p1_side p1_cells p1_targets p1_kept p1_marks p1_disc p1_discSize o_taken_n o_taken_2 p1_heights_n p1_heights o_queueX_n o_queueX_2 o_queueY_n o_queueY_2 ((o_queueX_2 x3_2.toNatClampNeg) - 1) (o_queueY_2 x3_2.toNatClampNeg) N r2 er2) ivX2_30 ⟨rfl, rfl⟩ ⟨by decide, by decide⟩ rfl ⟨Nat.zero_le _, Nat.zero_le _⟩ rfl rfl [0, 1, 4, 5, 2, 3] rfl (by decide) rfl rfl rfl (Nat.le_of_ble_eq_true rfl) dX2_spread_42 ?_
          refine z_aload_n 2 (pc := 45) dX2_spread_45 rfl ?_
          refine z_aload_n 3 (pc := 46) dX2_spread_46 rfl ?_
          refine z_iload 1 (pc := 47) dX2_spread_47 rfl ?_
          refine z_iconst (pc := 49) (v := 1) dX2_spread_49 (by decide) ?_
          refine z_iadd (pc := 50) dX2_spread_50 ?_
          refine z_iload 0 (pc := 51) dX2_spread_51 rfl ?_
          obtain ⟨r3, er3, hf0_2⟩ := bp hf0_2
          refine z_callvV (pc := 53) (As := [.ref h_p1, .int ((o_queueX_2 x3_2.toNatClampNeg) + 1), .int (o_queueY_2 x3_2.toNatClampNeg)]) (rest := []) (ws' := (wsX2_spread cA h_o h_p1 h_o_queueX h_o_queueY h_o_taken h_p1_heights o_side o_cells r3.1 p1_side p1_cells p1_targets p1_kept p1_marks p1_disc p1_discSize o_queueX_n r3.2.2.1 o_queueY_n r3.2.2.2 o_taken_n r3.2.1 p1_heights_n p1_heights)) (kX2_take l D cA h_o h_p1 h_o_taken h_p1_heights h_o_queueX h_o_queueY o_side o_cells r2.1 p1_side p1_cells p1_targets p1_kept p1_marks p1_disc p1_discSize o_taken_n r2.2.1 p1_heights_n p1_heights o_queueX_n r2.2.2.1 o_queueY_n r2.2.2.2 ((o_queueX_2 x3_2.toNatClampNeg) + 1) (o_queueY_2 x3_2.toNatClampNeg) N r3 er3) ivX2_30 ⟨rfl, rfl⟩ ⟨by decide, by decide⟩ rfl ⟨Nat.zero_le _, Nat.zero_le _⟩ rfl rfl [0, 1, 4, 5, 2, 3] rfl (by decide) rfl rfl rfl (Nat.le_of_ble_eq_true rfl) dX2_spread_53 ?_
          refine z_aload_n 2 (pc := 56) dX2_spread_56 rfl ?_
          refine z_aload_n 3 (pc := 57) dX2_spread_57 rfl ?_
          refine z_iload 1 (pc := 58) dX2_spread_58 rfl ?_
          refine z_iload 0 (pc := 60) dX2_spread_60 rfl ?_
          refine z_iconst (pc := 62) (v := 1) dX2_spread_62 (by decide) ?_
          refine z_isub (pc := 63) dX2_spread_63 ?_
          obtain ⟨r4, er4, hf0_2⟩ := bp hf0_2
          refine z_callvV (pc := 64) (As := [.ref h_p1, .int (o_queueX_2 x3_2.toNatClampNeg), .int ((o_queueY_2 x3_2.toNatClampNeg) - 1)]) (rest := []) (ws' := (wsX2_spread cA h_o h_p1 h_o_queueX h_o_queueY h_o_taken h_p1_heights o_side o_cells r4.1 p1_side p1_cells p1_targets p1_kept p1_marks p1_disc p1_discSize o_queueX_n r4.2.2.1 o_queueY_n r4.2.2.2 o_taken_n r4.2.1 p1_heights_n p1_heights)) (kX2_take l D cA h_o h_p1 h_o_taken h_p1_heights h_o_queueX h_o_queueY o_side o_cells r3.1 p1_side p1_cells p1_targets p1_kept p1_marks p1_disc p1_discSize o_taken_n r3.2.1 p1_heights_n p1_heights o_queueX_n r3.2.2.1 o_queueY_n r3.2.2.2 (o_queueX_2 x3_2.toNatClampNeg) ((o_queueY_2 x3_2.toNatClampNeg) - 1) N r4 er4) ivX2_30 ⟨rfl, rfl⟩ ⟨by decide, by decide⟩ rfl ⟨Nat.zero_le _, Nat.zero_le _⟩ rfl rfl [0, 1, 4, 5, 2, 3] rfl (by decide) rfl rfl rfl (Nat.le_of_ble_eq_true rfl) dX2_spread_64 ?_
          refine z_aload_n 2 (pc := 67) dX2_spread_67 rfl ?_
          refine z_aload_n 3 (pc := 68) dX2_spread_68 rfl ?_
          refine z_iload 1 (pc := 69) dX2_spread_69 rfl ?_
          refine z_iload 0 (pc := 71) dX2_spread_71 rfl ?_
          refine z_iconst (pc := 73) (v := 1) dX2_spread_73 (by decide) ?_
          refine z_iadd (pc := 74) dX2_spread_74 ?_
          obtain ⟨r5, er5, hf0_2⟩ := bp hf0_2
          refine z_callvV (pc := 75) (As := [.ref h_p1, .int (o_queueX_2 x3_2.toNatClampNeg), .int ((o_queueY_2 x3_2.toNatClampNeg) + 1)]) (rest := []) (ws' := (wsX2_spread cA h_o h_p1 h_o_queueX h_o_queueY h_o_taken h_p1_heights o_side o_cells r5.1 p1_side p1_cells p1_targets p1_kept p1_marks p1_disc p1_discSize o_queueX_n r5.2.2.1 o_queueY_n r5.2.2.2 o_taken_n r5.2.1 p1_heights_n p1_heights)) (kX2_take l D cA h_o h_p1 h_o_taken h_p1_heights h_o_queueX h_o_queueY o_side o_cells r4.1 p1_side p1_cells p1_targets p1_kept p1_marks p1_disc p1_discSize o_taken_n r4.2.1 p1_heights_n p1_heights o_queueX_n r4.2.2.1 o_queueY_n r4.2.2.2 (o_queueX_2 x3_2.toNatClampNeg) ((o_queueY_2 x3_2.toNatClampNeg) + 1) N r5 er5) ivX2_30 ⟨rfl, rfl⟩ ⟨by decide, by decide⟩ rfl ⟨Nat.zero_le _, Nat.zero_le _⟩ rfl rfl [0, 1, 4, 5, 2, 3] rfl (by decide) rfl rfl rfl (Nat.le_of_ble_eq_true rfl) dX2_spread_75 ?_
          refine z_iinc 5 (pc := 78) (v := x3_2 + 1) (lv' := [(3, .int (x3_2 + 1)), (5, .int (o_queueY_2 x3_2.toNatClampNeg)), (4, .int (o_queueX_2 x3_2.toNatClampNeg)), (0, .ref h_o), (1, .ref h_p1), (2, .int a2)]) dX2_spread_78 rfl rfl (by decide) rfl ?_
          refine z_goto (pc := 81) (tgt := 2) dX2_spread_81 (by decide) ?_
          exact z_lv [3, 4, 5, 0] rfl (ih2 (x3_2 + 1) r5.2.2.1 r5.2.2.2 r5.1 r5.2.1 hf0_2)
  exact z_lv [1, 2, 3, 0] rfl (lp2 N a2 o_queueX o_queueY o_queued o_taken hf0_2)

abbrev RX2_count : Type := Int32 × Int32 × (Nat → Int32) × (Nat → Int32) × (Nat → Int32)
abbrev rmX2_count : Room := { frames := 3, cells := 0, slots := 0, locals := 71 }
abbrev wsX2_count (cA : Nat → ClassId) (h_o : Nat) (h_p1 : Nat) (h_o_taken : Nat) (h_p1_heights : Nat) (h_o_queueX : Nat) (h_o_queueY : Nat) (o_side : Int32) (o_cells : Int32) (o_queued : Int32) (p1_side : Int32) (p1_cells : Int32) (p1_targets : Value) (p1_kept : Value) (p1_marks : Value) (p1_disc : Value) (p1_discSize : Int32) (o_taken_n : Nat) (o_taken : Nat → Int32) (p1_heights_n : Nat) (p1_heights : Nat → Int32) (o_queueX_n : Nat) (o_queueX : Nat → Int32) (o_queueY_n : Nat) (o_queueY : Nat → Int32) : va_W := [(h_o, .inr (2, [.int o_side, .int o_cells, .ref h_o_taken, .ref h_o_queueX, .ref h_o_queueY, .int o_queued])), (h_p1, .inr (0, [.int p1_side, .int p1_cells, .ref h_p1_heights, p1_targets, p1_kept, p1_marks, p1_disc, .int p1_discSize])), (h_o_taken, .inl (cA 1, o_taken_n, .inl o_taken)), (h_p1_heights, .inl (cA 0, p1_heights_n, .inl p1_heights)), (h_o_queueX, .inl (cA 0, o_queueX_n, .inl o_queueX)), (h_o_queueY, .inl (cA 0, o_queueY_n, .inl o_queueY))]
def LX2_count_43 (o_side : Int32) (N : Nat) (x3_32 : Int32) (o_cells : Int32) (p1_side : Int32) (o_taken_n : Nat) (p1_heights_n : Nat) (p1_heights : Nat → Int32) (o_queueX_n : Nat) (o_queueY_n : Nat) : Nat → Int32 → Int32 → (Nat → Int32) → (Nat → Int32) → Int32 → (Nat → Int32) → Option (Int32 × Int32 × (Nat → Int32) × (Nat → Int32) × Int32 × (Nat → Int32))
  | 0, _, _, _, _, _, _ => none
  | n + 1, x2_43, x4_43, o_queueX_43, o_queueY_43, o_queued_43, o_taken_43 => (if o_side ≤ x4_43 then some (x2_43, x4_43, o_queueX_43, o_queueY_43, o_queued_43, o_taken_43) else ((fX2_take N x4_43 x3_32 o_cells o_queued_43 p1_side o_taken_n o_taken_43 p1_heights_n p1_heights o_queueX_n o_queueX_43 o_queueY_n o_queueY_43).bind fun r4 => (if r4.1 ≤ o_queued_43 then LX2_count_43 o_side N x3_32 o_cells p1_side o_taken_n p1_heights_n p1_heights o_queueX_n o_queueY_n n x2_43 (x4_43 + 1) r4.2.2.1 r4.2.2.2 r4.1 r4.2.1 else ((fX2_spread N o_queued_43 o_cells r4.1 p1_side o_queueX_n r4.2.2.1 o_queueY_n r4.2.2.2 o_taken_n r4.2.1 p1_heights_n p1_heights).bind fun r5 => LX2_count_43 o_side N x3_32 o_cells p1_side o_taken_n p1_heights_n p1_heights o_queueX_n o_queueY_n n (x2_43 + 1) (x4_43 + 1) r5.2.1 r5.2.2.1 r5.1 r5.2.2.2))))
def LX2_count_32 (o_side : Int32) (N : Nat) (o_cells : Int32) (p1_side : Int32) (o_taken_n : Nat) (p1_heights_n : Nat) (p1_heights : Nat → Int32) (o_queueX_n : Nat) (o_queueY_n : Nat) : Nat → Int32 → Int32 → (Nat → Int32) → (Nat → Int32) → Int32 → (Nat → Int32) → Option (Int32 × Int32 × (Nat → Int32) × (Nat → Int32) × Int32 × (Nat → Int32))
  | 0, _, _, _, _, _, _ => none
  | n + 1, x2_32, x3_32, o_queueX_32, o_queueY_32, o_queued_32, o_taken_32 => (if o_side ≤ x3_32 then some (x2_32, x3_32, o_queueX_32, o_queueY_32, o_queued_32, o_taken_32) else ((LX2_count_43 o_side N x3_32 o_cells p1_side o_taken_n p1_heights_n p1_heights o_queueX_n o_queueY_n N x2_32 0 o_queueX_32 o_queueY_32 o_queued_32 o_taken_32).bind fun r3 => LX2_count_32 o_side N o_cells p1_side o_taken_n p1_heights_n p1_heights o_queueX_n o_queueY_n n r3.1 (x3_32 + 1) r3.2.2.1 r3.2.2.2.1 r3.2.2.2.2.1 r3.2.2.2.2.2))
def LX2_count_2 (o_cells : Int32) (o_taken_n : Nat) : Nat → Int32 → (Nat → Int32) → Option (Int32 × (Nat → Int32))
  | 0, _, _ => none
  | n + 1, x2_2, o_taken_2 => (if o_cells ≤ x2_2 then some (x2_2, o_taken_2) else (if x2_2 < 0 ∨ o_taken_n ≤ x2_2.toNatClampNeg then none else LX2_count_2 o_cells o_taken_n n (x2_2 + 1) (upd o_taken_2 x2_2.toNatClampNeg (vp_nar .boolean 0))))
def fX2_count (N : Nat)  (o_side : Int32) (o_cells : Int32) (o_queued : Int32) (p1_side : Int32) (o_taken_n : Nat) (o_taken : Nat → Int32) (p1_heights_n : Nat) (p1_heights : Nat → Int32) (o_queueX_n : Nat) (o_queueX : Nat → Int32) (o_queueY_n : Nat) (o_queueY : Nat → Int32) : Option RX2_count :=
  ((LX2_count_2 o_cells o_taken_n N 0 o_taken).bind fun r1 => ((LX2_count_32 o_side N o_cells p1_side o_taken_n p1_heights_n p1_heights o_queueX_n o_queueY_n N 0 0 o_queueX o_queueY 0 r1.2).bind fun r2 => some (r2.1, r2.2.2.2.2.1, r2.2.2.2.2.2, r2.2.2.1, r2.2.2.2.1)))
set_option maxHeartbeats 4000000 in
set_option maxRecDepth 100000 in
theorem kX2_count (l : Launch) (D : va_G) (cA : Nat → ClassId) (h_o : Nat) (h_p1 : Nat) (h_o_taken : Nat) (h_p1_heights : Nat) (h_o_queueX : Nat) (h_o_queueY : Nat) (o_side : Int32) (o_cells : Int32) (o_queued : Int32) (p1_side : Int32) (p1_cells : Int32) (p1_targets : Value) (p1_kept : Value) (p1_marks : Value) (p1_disc : Value) (p1_discSize : Int32) (o_taken_n : Nat) (o_taken : Nat → Int32) (p1_heights_n : Nat) (p1_heights : Nat → Int32) (o_queueX_n : Nat) (o_queueX : Nat → Int32) (o_queueY_n : Nat) (o_queueY : Nat → Int32)  (N : Nat) (res : RX2_count) (hf0 : fX2_count N o_side o_cells o_queued p1_side o_taken_n o_taken p1_heights_n p1_heights o_queueX_n o_queueX o_queueY_n o_queueY = some res) : CtI l yX2_count (Cond.code yX2_count cX2_count 6 (some .int) :: tblG) rmX2_count D cA (wsX2_count cA h_o h_p1 h_o_taken h_p1_heights h_o_queueX h_o_queueY o_side o_cells o_queued p1_side p1_cells p1_targets p1_kept p1_marks p1_disc p1_discSize o_taken_n o_taken p1_heights_n p1_heights o_queueX_n o_queueX o_queueY_n o_queueY) [.ref h_o, .ref h_p1] res.1 (wsX2_count cA h_o h_p1 h_o_taken h_p1_heights h_o_queueX h_o_queueY o_side o_cells res.2.1 p1_side p1_cells p1_targets p1_kept p1_marks p1_disc p1_discSize o_taken_n res.2.2.1 p1_heights_n p1_heights o_queueX_n res.2.2.2.1 o_queueY_n res.2.2.2.2) := by
  refine CtI.start (lv := [(0, .ref h_o), (1, .ref h_p1)]) (by decide) (Nat.le_of_ble_eq_true rfl) rfl (fun κ hE => ?_)
  rw [fX2_count] at hf0
  refine z_iconst (pc := 0) (v := 0) dX2_count_0 (by decide) ?_
  refine z_istore_n (pc := 1) (lv' := [(2, .int 0), (0, .ref h_o), (1, .ref h_p1)]) dX2_count_1 (by decide) rfl ?_
  obtain ⟨y2, hf0_2, hf0⟩ := bp hf0
  have lp2 : ∀ (n : Nat) (x2_2 : Int32) (o_taken_2 : Nat → Int32), LX2_count_2 o_cells o_taken_n n x2_2 o_taken_2 = some y2 → V κ l D cA rmX2_count cX2_count 6 RX2 (some .int) 0 0 2 [(0, .ref h_o), (1, .ref h_p1), (2, .int x2_2)] [] (wsX2_count cA h_o h_p1 h_o_taken h_p1_heights h_o_queueX h_o_queueY o_side o_cells o_queued p1_side p1_cells p1_targets p1_kept p1_marks p1_disc p1_discSize o_taken_n o_taken_2 p1_heights_n p1_heights o_queueX_n o_queueX o_queueY_n o_queueY) := by
    intro n
    induction n with
    | zero => intro x2_2 o_taken_2 hf0_2; rw [LX2_count_2] at hf0_2; cases hf0_2
    | succ n2 ih2 =>
      intro x2_2 o_taken_2 hf0_2
      rw [LX2_count_2] at hf0_2
      refine z_iload_n 2 (pc := 2) dX2_count_2 rfl ?_
      refine z_aload_n 0 (pc := 3) dX2_count_3 rfl ?_
      refine z_get 0 1 (pc := 4) (v := .int o_cells) rfl rfl inX2 (by decide) flX2_13 rfl dX2_count_4 ?_
      refine z_icmp_ge (pc := 7) (tgt := 23) dX2_count_7 (by decide) hf0_2 (fun hf0_2 => ?_) (fun hf0_2 => ?_)
      · obtain rfl := Option.some.inj hf0_2
        refine z_aload_n 0 (pc := 23) dX2_count_23 rfl ?_
        refine z_iconst (pc := 24) (v := 0) dX2_count_24 (by decide) ?_
        refine z_put 0 5 (pc := 25) (ws' := (wsX2_count cA h_o h_p1 h_o_taken h_p1_heights h_o_queueX h_o_queueY o_side o_cells 0 p1_side p1_cells p1_targets p1_kept p1_marks p1_disc p1_discSize o_taken_n o_taken_2 p1_heights_n p1_heights o_queueX_n o_queueX o_queueY_n o_queueY)) rfl rfl inX2 tyX2 tyX2_ok nmX2 (by decide) flX2_27 rfl rfl rfl rfl (Nat.le_of_ble_eq_true rfl) dX2_count_25 rfl ?_
        refine z_iconst (pc := 28) (v := 0) dX2_count_28 (by decide) ?_
        refine z_istore_n (pc := 29) (lv' := [(2, .int 0), (0, .ref h_o), (1, .ref h_p1)]) dX2_count_29 (by decide) rfl ?_
        refine z_iconst (pc := 30) (v := 0) dX2_count_30 (by decide) ?_
        refine z_istore_n (pc := 31) (lv' := [(3, .int 0), (2, .int 0), (0, .ref h_o), (1, .ref h_p1)]) dX2_count_31 (by decide) rfl ?_
        obtain ⟨y32, hf0_32, hf0⟩ := bp hf0
        have lp32 : ∀ (n : Nat) (x2_32 : Int32) (x3_32 : Int32) (o_queueX_32 : Nat → Int32) (o_queueY_32 : Nat → Int32) (o_queued_32 : Int32) (o_taken_32 : Nat → Int32), LX2_count_32 o_side N o_cells p1_side o_taken_n p1_heights_n p1_heights o_queueX_n o_queueY_n n x2_32 x3_32 o_queueX_32 o_queueY_32 o_queued_32 o_taken_32 = some y32 → V κ l D cA rmX2_count cX2_count 6 RX2 (some .int) 0 0 32 [(0, .ref h_o), (1, .ref h_p1), (2, .int x2_32), (3, .int x3_32)] [] (wsX2_count cA h_o h_p1 h_o_taken h_p1_heights h_o_queueX h_o_queueY o_side o_cells o_queued_32 p1_side p1_cells p1_targets p1_kept p1_marks p1_disc p1_discSize o_taken_n o_taken_32 p1_heights_n p1_heights o_queueX_n o_queueX_32 o_queueY_n o_queueY_32) := by
          intro n
          induction n with
          | zero => intro x2_32 x3_32 o_queueX_32 o_queueY_32 o_queued_32 o_taken_32 hf0_32; rw [LX2_count_32] at hf0_32; cases hf0_32
          | succ n32 ih32 =>
            intro x2_32 x3_32 o_queueX_32 o_queueY_32 o_queued_32 o_taken_32 hf0_32
            rw [LX2_count_32] at hf0_32
            refine z_iload_n 3 (pc := 32) dX2_count_32 rfl ?_
            refine z_aload_n 0 (pc := 33) dX2_count_33 rfl ?_
            refine z_get 0 0 (pc := 34) (v := .int o_side) rfl rfl inX2 (by decide) flX2_7 rfl dX2_count_34 ?_
            refine z_icmp_ge (pc := 37) (tgt := 97) dX2_count_37 (by decide) hf0_32 (fun hf0_32 => ?_) (fun hf0_32 => ?_)
            · obtain rfl := Option.some.inj hf0_32
              refine z_iload_n 2 (pc := 97) dX2_count_97 rfl ?_
              obtain rfl := Option.some.inj hf0
              exact z_iret hE dX2_count_98
            · refine z_iconst (pc := 40) (v := 0) dX2_count_40 (by decide) ?_
              refine z_istore (pc := 41) (lv' := [(4, .int 0), (0, .ref h_o), (1, .ref h_p1), (2, .int x2_32), (3, .int x3_32)]) dX2_count_41 (by decide) rfl ?_
              obtain ⟨y43, hf0_32_43, hf0_32⟩ := bp hf0_32
              have lp43 : ∀ (n : Nat) (x2_43 : Int32) (x4_43 : Int32) (o_queueX_43 : Nat → Int32) (o_queueY_43 : Nat → Int32) (o_queued_43 : Int32) (o_taken_43 : Nat → Int32), LX2_count_43 o_side N x3_32 o_cells p1_side o_taken_n p1_heights_n p1_heights o_queueX_n o_queueY_n n x2_43 x4_43 o_queueX_43 o_queueY_43 o_queued_43 o_taken_43 = some y43 → V κ l D cA rmX2_count cX2_count 6 RX2 (some .int) 0 0 43 [(0, .ref h_o), (1, .ref h_p1), (3, .int x3_32), (2, .int x2_43), (4, .int x4_43)] [] (wsX2_count cA h_o h_p1 h_o_taken h_p1_heights h_o_queueX h_o_queueY o_side o_cells o_queued_43 p1_side p1_cells p1_targets p1_kept p1_marks p1_disc p1_discSize o_taken_n o_taken_43 p1_heights_n p1_heights o_queueX_n o_queueX_43 o_queueY_n o_queueY_43) := by
                intro n
                induction n with
                | zero => intro x2_43 x4_43 o_queueX_43 o_queueY_43 o_queued_43 o_taken_43 hf0_32_43; rw [LX2_count_43] at hf0_32_43; cases hf0_32_43
                | succ n43 ih43 =>
                  intro x2_43 x4_43 o_queueX_43 o_queueY_43 o_queued_43 o_taken_43 hf0_32_43
                  rw [LX2_count_43] at hf0_32_43
                  refine z_iload 4 (pc := 43) dX2_count_43 rfl ?_
                  refine z_aload_n 0 (pc := 45) dX2_count_45 rfl ?_
                  refine z_get 0 0 (pc := 46) (v := .int o_side) rfl rfl inX2 (by decide) flX2_7 rfl dX2_count_46 ?_
                  refine z_icmp_ge (pc := 49) (tgt := 91) dX2_count_49 (by decide) hf0_32_43 (fun hf0_32_43 => ?_) (fun hf0_32_43 => ?_)
                  · obtain rfl := Option.some.inj hf0_32_43
                    refine z_iinc 2 (pc := 91) (v := x3_32 + 1) (lv' := [(3, .int (x3_32 + 1)), (0, .ref h_o), (1, .ref h_p1), (2, .int x2_43), (4, .int x4_43)]) dX2_count_91 rfl rfl (by decide) rfl ?_
                    refine z_goto (pc := 94) (tgt := 32) dX2_count_94 (by decide) ?_
                    exact z_lv [1, 2, 3, 0] rfl (ih32 x2_43 (x3_32 + 1) o_queueX_43 o_queueY_43 o_queued_43 o_taken_43 hf0_32)
                  · refine z_aload_n 0 (pc := 52) dX2_count_52 rfl ?_
                    refine z_get 0 5 (pc := 53) (v := .int o_queued_43) rfl rfl inX2 (by decide) flX2_27 rfl dX2_count_53 ?_
                    refine z_istore (pc := 56) (lv' := [(5, .int o_queued_43), (0, .ref h_o), (1, .ref h_p1), (3, .int x3_32), (2, .int x2_43), (4, .int x4_43)]) dX2_count_56 (by decide) rfl ?_
                    refine z_aload_n 1 (pc := 58) dX2_count_58 rfl ?_
                    refine z_aload_n 2 (pc := 59) dX2_count_59 rfl ?_
                    refine z_iload 5 (pc := 60) dX2_count_60 rfl ?_
                    refine z_iload_n 3 (pc := 62) dX2_count_62 rfl ?_
                    obtain ⟨r4, er4, hf0_32_43⟩ := bp hf0_32_43
                    refine z_callvV (pc := 63) (As := [.ref h_p1, .int x4_43, .int x3_32]) (rest := []) (ws' := (wsX2_count cA h_o h_p1 h_o_taken h_p1_heights h_o_queueX h_o_queueY o_side o_cells r4.1 p1_side p1_cells p1_targets p1_kept p1_marks p1_disc p1_discSize o_taken_n r4.2.1 p1_heights_n p1_heights o_queueX_n r4.2.2.1 o_queueY_n r4.2.2.2)) (kX2_take l D cA h_o h_p1 h_o_taken h_p1_heights h_o_queueX h_o_queueY o_side o_cells o_queued_43 p1_side p1_cells p1_targets p1_kept p1_marks p1_disc p1_discSize o_taken_n o_taken_43 p1_heights_n p1_heights o_queueX_n o_queueX_43 o_queueY_n o_queueY_43 x4_43 x3_32 N r4 er4) ivX2_30 ⟨rfl, rfl⟩ ⟨by decide, by decide⟩ rfl ⟨Nat.zero_le _, Nat.zero_le _⟩ rfl rfl [0, 1, 2, 3, 4, 5] rfl (by decide) rfl rfl rfl (Nat.le_of_ble_eq_true rfl) dX2_count_63 ?_
                    refine z_aload_n 1 (pc := 66) dX2_count_66 rfl ?_
                    refine z_get 0 5 (pc := 67) (v := .int r4.1) rfl rfl inX2 (by decide) flX2_27 rfl dX2_count_67 ?_
                    refine z_iload 0 (pc := 70) dX2_count_70 rfl ?_
                    refine z_icmp_le (pc := 72) (tgt := 85) dX2_count_72 (by decide) hf0_32_43 (fun hf0_32_43 => ?_) (fun hf0_32_43 => ?_)
                    · refine z_iinc 5 (pc := 85) (v := x4_43 + 1) (lv' := [(4, .int (x4_43 + 1)), (5, .int o_queued_43), (0, .ref h_o), (1, .ref h_p1), (3, .int x3_32), (2, .int x2_43)]) dX2_count_85 rfl rfl (by decide) rfl ?_
                      refine z_goto (pc := 88) (tgt := 43) dX2_count_88 (by decide) ?_
                      exact z_lv [2, 3, 4, 5, 0] rfl (ih43 x2_43 (x4_43 + 1) r4.2.2.1 r4.2.2.2 r4.1 r4.2.1 hf0_32_43)
                    · refine z_iinc 4 (pc := 75) (v := x2_43 + 1) (lv' := [(2, .int (x2_43 + 1)), (5, .int o_queued_43), (0, .ref h_o), (1, .ref h_p1), (3, .int x3_32), (4, .int x4_43)]) dX2_count_75 rfl rfl (by decide) rfl ?_
                      refine z_aload_n 2 (pc := 78) dX2_count_78 rfl ?_
                      refine z_aload_n 3 (pc := 79) dX2_count_79 rfl ?_
                      refine z_iload 1 (pc := 80) dX2_count_80 rfl ?_
                      obtain ⟨r5, er5, hf0_32_43⟩ := bp hf0_32_43
                      refine z_callvV (pc := 82) (As := [.ref h_p1, .int o_queued_43]) (rest := []) (ws' := (wsX2_count cA h_o h_p1 h_o_taken h_p1_heights h_o_queueX h_o_queueY o_side o_cells r5.1 p1_side p1_cells p1_targets p1_kept p1_marks p1_disc p1_discSize o_taken_n r5.2.2.2 p1_heights_n p1_heights o_queueX_n r5.2.1 o_queueY_n r5.2.2.1)) (kX2_spread l D cA h_o h_p1 h_o_queueX h_o_queueY h_o_taken h_p1_heights o_side o_cells r4.1 p1_side p1_cells p1_targets p1_kept p1_marks p1_disc p1_discSize o_queueX_n r4.2.2.1 o_queueY_n r4.2.2.2 o_taken_n r4.2.1 p1_heights_n p1_heights o_queued_43 N r5 er5) ivX2_34 ⟨rfl, rfl⟩ ⟨by decide, by decide⟩ rfl ⟨Nat.zero_le _, Nat.zero_le _⟩ rfl rfl [0, 1, 4, 5, 2, 3] rfl (by decide) rfl rfl rfl (Nat.le_of_ble_eq_true rfl) dX2_count_82 ?_
                      refine z_iinc 5 (pc := 85) (v := x4_43 + 1) (lv' := [(4, .int (x4_43 + 1)), (2, .int (x2_43 + 1)), (5, .int o_queued_43), (0, .ref h_o), (1, .ref h_p1), (3, .int x3_32)]) dX2_count_85 rfl rfl (by decide) rfl ?_
                      refine z_goto (pc := 88) (tgt := 43) dX2_count_88 (by decide) ?_
                      exact z_lv [3, 4, 5, 1, 0] rfl (ih43 (x2_43 + 1) (x4_43 + 1) r5.2.1 r5.2.2.1 r5.1 r5.2.2.2 hf0_32_43)
              exact z_lv [1, 2, 4, 3, 0] rfl (lp43 N x2_32 0 o_queueX_32 o_queueY_32 o_queued_32 o_taken_32 hf0_32_43)
        exact z_lv [2, 3, 1, 0] rfl (lp32 N 0 0 o_queueX o_queueY 0 o_taken_2 hf0_32)
      · refine z_aload_n 0 (pc := 10) dX2_count_10 rfl ?_
        refine z_get 0 2 (pc := 11) (v := .ref h_o_taken) rfl rfl inX2 (by decide) flX2_16 rfl dX2_count_11 ?_
        refine z_iload_n 2 (pc := 14) dX2_count_14 rfl ?_
        refine z_iconst (pc := 15) (v := 0) dX2_count_15 (by decide) ?_
        refine z_zastore 2 1 (pc := 16) (ws' := (wsX2_count cA h_o h_p1 h_o_taken h_p1_heights h_o_queueX h_o_queueY o_side o_cells o_queued p1_side p1_cells p1_targets p1_kept p1_marks p1_disc p1_discSize o_taken_n (upd o_taken_2 x2_2.toNatClampNeg (vp_nar .boolean 0)) p1_heights_n p1_heights o_queueX_n o_queueX o_queueY_n o_queueY)) rfl rfl dX2_count_16 rfl hf0_2 (fun hf0_2 => ?_)
        refine z_iinc 2 (pc := 17) (v := x2_2 + 1) (lv' := [(2, .int (x2_2 + 1)), (0, .ref h_o), (1, .ref h_p1)]) dX2_count_17 rfl rfl (by decide) rfl ?_
        refine z_goto (pc := 20) (tgt := 2) dX2_count_20 (by decide) ?_
        exact z_lv [1, 2, 0] rfl (ih2 (x2_2 + 1) (upd o_taken_2 x2_2.toNatClampNeg (vp_nar .boolean 0)) hf0_2)
  exact z_lv [1, 2, 0] rfl (lp2 N 0 o_taken hf0_2)
end
section
abbrev RX4_append : Type := Int32 × Int32 × (Nat → Int32)
abbrev rmX4_append : Room := { frames := 0, cells := 0, slots := 0, locals := 0 }
abbrev wsX4_append (cA : Nat → ClassId) (h_o : Nat) (h_o_text : Nat) (o_side : Int32) (o_length : Int32) (o_place : Int32) (o_text_n : Nat) (o_text : Nat → Int32) : va_W := [(h_o, .inr (4, [.int o_side, .ref h_o_text, .int o_length, .int o_place])), (h_o_text, .inl (cA 0, o_text_n, .inl o_text))]
def fX4_append (N : Nat) (a1 : Int32) (o_length : Int32) (o_text_n : Nat) (o_text : Nat → Int32) : Option RX4_append :=
  (if 240 ≤ o_length then some (0, o_length, o_text) else (if a1 < 32 then some (0, o_length, o_text) else (if a1 ≤ 126 then (if o_length < 0 ∨ o_text_n ≤ o_length.toNatClampNeg then none else some (1, o_length + 1, upd o_text o_length.toNatClampNeg a1)) else some (0, o_length, o_text))))
set_option maxHeartbeats 4000000 in
set_option maxRecDepth 100000 in
theorem kX4_append (l : Launch) (D : va_G) (cA : Nat → ClassId) (h_o : Nat) (h_o_text : Nat) (o_side : Int32) (o_length : Int32) (o_place : Int32) (o_text_n : Nat) (o_text : Nat → Int32) (a1 : Int32) (N : Nat) (res : RX4_append) (hf0 : fX4_append N a1 o_length o_text_n o_text = some res) : CtI l yX4_append (Cond.code yX4_append cX4_append 2 (some .boolean) :: tblG) rmX4_append D cA (wsX4_append cA h_o h_o_text o_side o_length o_place o_text_n o_text) [.ref h_o, .int a1] res.1 (wsX4_append cA h_o h_o_text o_side res.2.1 o_place o_text_n res.2.2) := by
  refine CtI.start (lv := [(0, .ref h_o), (1, .int a1)]) (by decide) (Nat.le_of_ble_eq_true rfl) rfl (fun κ hE => ?_)
  rw [fX4_append] at hf0
  refine z_aload_n 0 (pc := 0) dX4_append_0 rfl ?_
  refine z_get 0 2 (pc := 1) (v := .int o_length) rfl rfl inX4 (by decide) flX4_19 rfl dX4_append_1 ?_
  refine z_sipush (pc := 4) (v := 240) dX4_append_4 (by decide) ?_
  refine z_icmp_ge (pc := 7) (tgt := 22) dX4_append_7 (by decide) hf0 (fun hf0 => ?_) (fun hf0 => ?_)
  · refine z_iconst (pc := 22) (v := 0) dX4_append_22 (by decide) ?_
    obtain rfl := Option.some.inj hf0
    exact z_zretL (by decide) hE dX4_append_23
  · refine z_iload_n 1 (pc := 10) dX4_append_10 rfl ?_
    refine z_bipush (pc := 11) (v := 32) dX4_append_11 (by decide) ?_
    refine z_icmp_lt (pc := 13) (tgt := 22) dX4_append_13 (by decide) hf0 (fun hf0 => ?_) (fun hf0 => ?_)
    · refine z_iconst (pc := 22) (v := 0) dX4_append_22 (by decide) ?_
      obtain rfl := Option.some.inj hf0
      exact z_zretL (by decide) hE dX4_append_23
    · refine z_iload_n 1 (pc := 16) dX4_append_16 rfl ?_
      refine z_bipush (pc := 17) (v := 126) dX4_append_17 (by decide) ?_
      refine z_icmp_le (pc := 19) (tgt := 24) dX4_append_19 (by decide) hf0 (fun hf0 => ?_) (fun hf0 => ?_)
      · refine z_aload_n 0 (pc := 24) dX4_append_24 rfl ?_
        refine z_get 0 1 (pc := 25) (v := .ref h_o_text) rfl rfl inX4 (by decide) flX4_15 rfl dX4_append_25 ?_
        refine z_aload_n 0 (pc := 28) dX4_append_28 rfl ?_
        refine z_get 0 2 (pc := 29) (v := .int o_length) rfl rfl inX4 (by decide) flX4_19 rfl dX4_append_29 ?_
        refine z_iload_n 1 (pc := 32) dX4_append_32 rfl ?_
        refine z_iastore 1 0 (pc := 33) (ws' := (wsX4_append cA h_o h_o_text o_side o_length o_place o_text_n (upd o_text o_length.toNatClampNeg a1))) rfl rfl dX4_append_33 rfl hf0 (fun hf0 => ?_)
        refine z_aload_n 0 (pc := 34) dX4_append_34 rfl ?_
        refine z_dup (pc := 35) dX4_append_35 rfl ?_
        refine z_get 0 2 (pc := 36) (v := .int o_length) rfl rfl inX4 (by decide) flX4_19 rfl dX4_append_36 ?_
        refine z_iconst (pc := 39) (v := 1) dX4_append_39 (by decide) ?_
        refine z_iadd (pc := 40) dX4_append_40 ?_
        refine z_put 0 2 (pc := 41) (ws' := (wsX4_append cA h_o h_o_text o_side (o_length + 1) o_place o_text_n (upd o_text o_length.toNatClampNeg a1))) rfl rfl inX4 tyX4 tyX4_ok nmX4 (by decide) flX4_19 rfl rfl rfl rfl (Nat.le_of_ble_eq_true rfl) dX4_append_41 rfl ?_
        refine z_iconst (pc := 44) (v := 1) dX4_append_44 (by decide) ?_
        obtain rfl := Option.some.inj hf0
        exact z_zretL (by decide) hE dX4_append_45
      · refine z_iconst (pc := 22) (v := 0) dX4_append_22 (by decide) ?_
        obtain rfl := Option.some.inj hf0
        exact z_zretL (by decide) hE dX4_append_23

abbrev RX4_here : Type := Int32
abbrev rmX4_here : Room := { frames := 0, cells := 0, slots := 0, locals := 0 }
abbrev wsX4_here (cA : Nat → ClassId) (h_o : Nat) (h_o_text : Nat) (o_side : Int32) (o_length : Int32) (o_place : Int32) (o_text_n : Nat) (o_text : Nat → Int32) : va_W := [(h_o, .inr (4, [.int o_side, .ref h_o_text, .int o_length, .int o_place])), (h_o_text, .inl (cA 0, o_text_n, .inl o_text))]
def fX4_here (N : Nat)  (o_length : Int32) (o_place : Int32) (o_text_n : Nat) (o_text : Nat → Int32) : Option RX4_here :=
  (if o_place < 0 then some (-1) else (if o_length ≤ o_place then some (-1) else (if o_place < 0 ∨ o_text_n ≤ o_place.toNatClampNeg then none else some (o_text o_place.toNatClampNeg))))
set_option maxHeartbeats 4000000 in
set_option maxRecDepth 100000 in
theorem kX4_here (l : Launch) (D : va_G) (cA : Nat → ClassId) (h_o : Nat) (h_o_text : Nat) (o_side : Int32) (o_length : Int32) (o_place : Int32) (o_text_n : Nat) (o_text : Nat → Int32)  (N : Nat) (res : RX4_here) (hf0 : fX4_here N o_length o_place o_text_n o_text = some res) : CtI l yX4_here (Cond.code yX4_here cX4_here 1 (some .int) :: tblG) rmX4_here D cA (wsX4_here cA h_o h_o_text o_side o_length o_place o_text_n o_text) [.ref h_o] res (wsX4_here cA h_o h_o_text o_side o_length o_place o_text_n o_text) := by
  refine CtI.start (lv := [(0, .ref h_o)]) (by decide) (Nat.le_of_ble_eq_true rfl) rfl (fun κ hE => ?_)
  rw [fX4_here] at hf0
  refine z_aload_n 0 (pc := 0) dX4_here_0 rfl ?_
  refine z_get 0 3 (pc := 1) (v := .int o_place) rfl rfl inX4 (by decide) flX4_22 rfl dX4_here_1 ?_
  refine z_if_lt (pc := 4) (tgt := 30) dX4_here_4 (by decide) hf0 (fun hf0 => ?_) (fun hf0 => ?_)
  · refine z_iconst (pc := 30) (v := (-1)) dX4_here_30 (by decide) ?_
    obtain rfl := Option.some.inj hf0
    exact z_iret hE dX4_here_31
  · refine z_aload_n 0 (pc := 7) dX4_here_7 rfl ?_
    refine z_get 0 3 (pc := 8) (v := .int o_place) rfl rfl inX4 (by decide) flX4_22 rfl dX4_here_8 ?_
    refine z_aload_n 0 (pc := 11) dX4_here_11 rfl ?_
    refine z_get 0 2 (pc := 12) (v := .int o_length) rfl rfl inX4 (by decide) flX4_19 rfl dX4_here_12 ?_
    refine z_icmp_ge (pc := 15) (tgt := 30) dX4_here_15 (by decide) hf0 (fun hf0 => ?_) (fun hf0 => ?_)
    · refine z_iconst (pc := 30) (v := (-1)) dX4_here_30 (by decide) ?_
      obtain rfl := Option.some.inj hf0
      exact z_iret hE dX4_here_31
    · refine z_aload_n 0 (pc := 18) dX4_here_18 rfl ?_
      refine z_get 0 1 (pc := 19) (v := .ref h_o_text) rfl rfl inX4 (by decide) flX4_15 rfl dX4_here_19 ?_
      refine z_aload_n 0 (pc := 22) dX4_here_22 rfl ?_
      refine z_get 0 3 (pc := 23) (v := .int o_place) rfl rfl inX4 (by decide) flX4_22 rfl dX4_here_23 ?_
      refine z_iaload 1 0 (pc := 26) rfl rfl dX4_here_26 hf0 (fun hf0 => ?_)
      refine z_goto (pc := 27) (tgt := 31) dX4_here_27 (by decide) ?_
      obtain rfl := Option.some.inj hf0
      exact z_iret hE dX4_here_31

abbrev RX4_skipSpaces : Type := Int32
abbrev rmX4_skipSpaces : Room := { frames := 1, cells := 0, slots := 0, locals := 20 }
abbrev wsX4_skipSpaces (cA : Nat → ClassId) (h_o : Nat) (h_o_text : Nat) (o_side : Int32) (o_length : Int32) (o_place : Int32) (o_text_n : Nat) (o_text : Nat → Int32) : va_W := [(h_o, .inr (4, [.int o_side, .ref h_o_text, .int o_length, .int o_place])), (h_o_text, .inl (cA 0, o_text_n, .inl o_text))]
def LX4_skipSpaces_0 (o_length : Int32) (N : Nat) (o_text_n : Nat) (o_text : Nat → Int32) : Nat → Int32 → Option (Int32)
  | 0, _ => none
  | n + 1, o_place_0 => (if o_length ≤ o_place_0 then some o_place_0 else ((fX4_here N o_length o_place_0 o_text_n o_text).bind fun r2 => (if r2 = 32 then LX4_skipSpaces_0 o_length N o_text_n o_text n (o_place_0 + 1) else some o_place_0)))
def fX4_skipSpaces (N : Nat)  (o_length : Int32) (o_place : Int32) (o_text_n : Nat) (o_text : Nat → Int32) : Option RX4_skipSpaces :=
  ((LX4_skipSpaces_0 o_length N o_text_n o_text N o_place).bind fun r1 => some r1)
set_option maxHeartbeats 4000000 in
set_option maxRecDepth 100000 in
theorem kX4_skipSpaces (l : Launch) (D : va_G) (cA : Nat → ClassId) (h_o : Nat) (h_o_text : Nat) (o_side : Int32) (o_length : Int32) (o_place : Int32) (o_text_n : Nat) (o_text : Nat → Int32)  (N : Nat) (res : RX4_skipSpaces) (hf0 : fX4_skipSpaces N o_length o_place o_text_n o_text = some res) : CtV l yX4_skipSpaces (Cond.code yX4_skipSpaces cX4_skipSpaces 1 (none) :: tblG) rmX4_skipSpaces D cA (wsX4_skipSpaces cA h_o h_o_text o_side o_length o_place o_text_n o_text) [.ref h_o] (wsX4_skipSpaces cA h_o h_o_text o_side o_length res o_text_n o_text) := by
  refine CtV.start (lv := [(0, .ref h_o)]) (by decide) (Nat.le_of_ble_eq_true rfl) rfl (fun κ hE => ?_)
  rw [fX4_skipSpaces] at hf0
  obtain ⟨y0, hf0_0, hf0⟩ := bp hf0
  have lp0 : ∀ (n : Nat) (o_place_0 : Int32), LX4_skipSpaces_0 o_length N o_text_n o_text n o_place_0 = some y0 → V κ l D cA rmX4_skipSpaces cX4_skipSpaces 1 RX4 (none) 0 0 0 [(0, .ref h_o)] [] (wsX4_skipSpaces cA h_o h_o_text o_side o_length o_place_0 o_text_n o_text) := by
    intro n
    induction n with
    | zero => intro o_place_0 hf0_0; rw [LX4_skipSpaces_0] at hf0_0; cases hf0_0
    | succ n0 ih0 =>
      intro o_place_0 hf0_0
      rw [LX4_skipSpaces_0] at hf0_0
      refine z_aload_n 0 (pc := 0) dX4_skipSpaces_0 rfl ?_
      refine z_get 0 3 (pc := 1) (v := .int o_place_0) rfl rfl inX4 (by decide) flX4_22 rfl dX4_skipSpaces_1 ?_
      refine z_aload_n 0 (pc := 4) dX4_skipSpaces_4 rfl ?_
      refine z_get 0 2 (pc := 5) (v := .int o_length) rfl rfl inX4 (by decide) flX4_19 rfl dX4_skipSpaces_5 ?_
      refine z_icmp_ge (pc := 8) (tgt := 33) dX4_skipSpaces_8 (by decide) hf0_0 (fun hf0_0 => ?_) (fun hf0_0 => ?_)
      · obtain rfl := Option.some.inj hf0_0
        obtain rfl := Option.some.inj hf0
        exact z_vret hE dX4_skipSpaces_33
      · refine z_aload_n 0 (pc := 11) dX4_skipSpaces_11 rfl ?_
        obtain ⟨r2, er2, hf0_0⟩ := bp hf0_0
        refine z_calliV (pc := 12) (As := []) (rest := []) (ws' := (wsX4_skipSpaces cA h_o h_o_text o_side o_length o_place_0 o_text_n o_text)) (kX4_here l D cA h_o h_o_text o_side o_length o_place_0 o_text_n o_text  N r2 er2) ivX4_40 ⟨rfl, rfl⟩ ⟨by decide, by decide⟩ rfl ⟨Nat.zero_le _, Nat.zero_le _⟩ rfl rfl [0, 1] rfl (by decide) rfl rfl rfl (Nat.le_of_ble_eq_true rfl) dX4_skipSpaces_12 ?_
        refine z_bipush (pc := 15) (v := 32) dX4_skipSpaces_15 (by decide) ?_
        refine z_icmp_ne (pc := 17) (tgt := 33) dX4_skipSpaces_17 (by decide) hf0_0 (fun hf0_0 => ?_) (fun hf0_0 => ?_)
        · obtain rfl := Option.some.inj hf0_0
          obtain rfl := Option.some.inj hf0
          exact z_vret hE dX4_skipSpaces_33
        · refine z_aload_n 0 (pc := 20) dX4_skipSpaces_20 rfl ?_
          refine z_dup (pc := 21) dX4_skipSpaces_21 rfl ?_
          refine z_get 0 3 (pc := 22) (v := .int o_place_0) rfl rfl inX4 (by decide) flX4_22 rfl dX4_skipSpaces_22 ?_
          refine z_iconst (pc := 25) (v := 1) dX4_skipSpaces_25 (by decide) ?_
          refine z_iadd (pc := 26) dX4_skipSpaces_26 ?_
          refine z_put 0 3 (pc := 27) (ws' := (wsX4_skipSpaces cA h_o h_o_text o_side o_length (o_place_0 + 1) o_text_n o_text)) rfl rfl inX4 tyX4 tyX4_ok nmX4 (by decide) flX4_22 rfl rfl rfl rfl (Nat.le_of_ble_eq_true rfl) dX4_skipSpaces_27 rfl ?_
          refine z_goto (pc := 30) (tgt := 0) dX4_skipSpaces_30 (by decide) ?_
          exact z_lv [0] rfl (ih0 (o_place_0 + 1) hf0_0)
  exact z_lv [0] rfl (lp0 N o_place hf0_0)

abbrev RX4_takeDigit : Type := Int32 × Int32
abbrev rmX4_takeDigit : Room := { frames := 1, cells := 0, slots := 0, locals := 20 }
abbrev wsX4_takeDigit (cA : Nat → ClassId) (h_o : Nat) (h_o_text : Nat) (o_side : Int32) (o_length : Int32) (o_place : Int32) (o_text_n : Nat) (o_text : Nat → Int32) : va_W := [(h_o, .inr (4, [.int o_side, .ref h_o_text, .int o_length, .int o_place])), (h_o_text, .inl (cA 0, o_text_n, .inl o_text))]
def fX4_takeDigit (N : Nat) (a1 : Int32) (o_length : Int32) (o_place : Int32) (o_text_n : Nat) (o_text : Nat → Int32) : Option RX4_takeDigit :=
  ((fX4_here N o_length o_place o_text_n o_text).bind fun r1 => (if (r1 - 48) < 0 then some ((-2), o_place) else (if (r1 - 48) ≤ a1 then some (r1 - 48, o_place + 1) else some ((-2), o_place))))
set_option maxHeartbeats 4000000 in
set_option maxRecDepth 100000 in
theorem kX4_takeDigit (l : Launch) (D : va_G) (cA : Nat → ClassId) (h_o : Nat) (h_o_text : Nat) (o_side : Int32) (o_length : Int32) (o_place : Int32) (o_text_n : Nat) (o_text : Nat → Int32) (a1 : Int32) (N : Nat) (res : RX4_takeDigit) (hf0 : fX4_takeDigit N a1 o_length o_place o_text_n o_text = some res) : CtI l yX4_takeDigit (Cond.code yX4_takeDigit cX4_takeDigit 3 (some .int) :: tblG) rmX4_takeDigit D cA (wsX4_takeDigit cA h_o h_o_text o_side o_length o_place o_text_n o_text) [.ref h_o, .int a1] res.1 (wsX4_takeDigit cA h_o h_o_text o_side o_length res.2 o_text_n o_text) := by
  refine CtI.start (lv := [(0, .ref h_o), (1, .int a1)]) (by decide) (Nat.le_of_ble_eq_true rfl) rfl (fun κ hE => ?_)
  rw [fX4_takeDigit] at hf0
  refine z_aload_n 0 (pc := 0) dX4_takeDigit_0 rfl ?_
  obtain ⟨r1, er1, hf0⟩ := bp hf0
  refine z_calliV (pc := 1) (As := []) (rest := []) (ws' := (wsX4_takeDigit cA h_o h_o_text o_side o_length o_place o_text_n o_text)) (kX4_here l D cA h_o h_o_text o_side o_length o_place o_text_n o_text  N r1 er1) ivX4_40 ⟨rfl, rfl⟩ ⟨by decide, by decide⟩ rfl ⟨Nat.zero_le _, Nat.zero_le _⟩ rfl rfl [0, 1] rfl (by decide) rfl rfl rfl (Nat.le_of_ble_eq_true rfl) dX4_takeDigit_1 ?_
  refine z_bipush (pc := 4) (v := 48) dX4_takeDigit_4 (by decide) ?_
  refine z_isub (pc := 6) dX4_takeDigit_6 ?_
  refine z_istore_n (pc := 7) (lv' := [(2, .int (r1 - 48)), (0, .ref h_o), (1, .int a1)]) dX4_takeDigit_7 (by decide) rfl ?_
  refine z_iload_n 0 (pc := 8) dX4_takeDigit_8 rfl ?_
  refine z_if_lt (pc := 9) (tgt := 17) dX4_takeDigit_9 (by decide) hf0 (fun hf0 => ?_) (fun hf0 => ?_)
  · refine z_bipush (pc := 17) (v := (-2)) dX4_takeDigit_17 (by decide) ?_
    obtain rfl := Option.some.inj hf0
    exact z_iret hE dX4_takeDigit_19
  · refine z_iload_n 0 (pc := 12) dX4_takeDigit_12 rfl ?_
    refine z_iload_n 2 (pc := 13) dX4_takeDigit_13 rfl ?_
    refine z_icmp_le (pc := 14) (tgt := 20) dX4_takeDigit_14 (by decide) hf0 (fun hf0 => ?_) (fun hf0 => ?_)
    · refine z_aload_n 1 (pc := 20) dX4_takeDigit_20 rfl ?_
      refine z_dup (pc := 21) dX4_takeDigit_21 rfl ?_
      refine z_get 0 3 (pc := 22) (v := .int o_place) rfl rfl inX4 (by decide) flX4_22 rfl dX4_takeDigit_22 ?_
      refine z_iconst (pc := 25) (v := 1) dX4_takeDigit_25 (by decide) ?_
      refine z_iadd (pc := 26) dX4_takeDigit_26 ?_
      refine z_put 0 3 (pc := 27) (ws' := (wsX4_takeDigit cA h_o h_o_text o_side o_length (o_place + 1) o_text_n o_text)) rfl rfl inX4 tyX4 tyX4_ok nmX4 (by decide) flX4_22 rfl rfl rfl rfl (Nat.le_of_ble_eq_true rfl) dX4_takeDigit_27 rfl ?_
      refine z_iload_n 0 (pc := 30) dX4_takeDigit_30 rfl ?_
      obtain rfl := Option.some.inj hf0
      exact z_iret hE dX4_takeDigit_31
    · refine z_bipush (pc := 17) (v := (-2)) dX4_takeDigit_17 (by decide) ?_
      obtain rfl := Option.some.inj hf0
      exact z_iret hE dX4_takeDigit_19

abbrev RX4_takeEnd : Type := Int32 × Int32
abbrev rmX4_takeEnd : Room := { frames := 2, cells := 0, slots := 0, locals := 40 }
abbrev wsX4_takeEnd (cA : Nat → ClassId) (h_o : Nat) (h_o_text : Nat) (o_side : Int32) (o_length : Int32) (o_place : Int32) (o_text_n : Nat) (o_text : Nat → Int32) : va_W := [(h_o, .inr (4, [.int o_side, .ref h_o_text, .int o_length, .int o_place])), (h_o_text, .inl (cA 0, o_text_n, .inl o_text))]
def fX4_takeEnd (N : Nat)  (o_length : Int32) (o_place : Int32) (o_text_n : Nat) (o_text : Nat → Int32) : Option RX4_takeEnd :=
  ((fX4_skipSpaces N o_length o_place o_text_n o_text).bind fun r1 => ((fX4_here N o_length r1 o_text_n o_text).bind fun r2 => (if r2 = 59 then some (1, r1 + 1) else some (0, r1))))
set_option maxHeartbeats 4000000 in
set_option maxRecDepth 100000 in
theorem kX4_takeEnd (l : Launch) (D : va_G) (cA : Nat → ClassId) (h_o : Nat) (h_o_text : Nat) (o_side : Int32) (o_length : Int32) (o_place : Int32) (o_text_n : Nat) (o_text : Nat → Int32)  (N : Nat) (res : RX4_takeEnd) (hf0 : fX4_takeEnd N o_length o_place o_text_n o_text = some res) : CtI l yX4_takeEnd (Cond.code yX4_takeEnd cX4_takeEnd 1 (some .boolean) :: tblG) rmX4_takeEnd D cA (wsX4_takeEnd cA h_o h_o_text o_side o_length o_place o_text_n o_text) [.ref h_o] res.1 (wsX4_takeEnd cA h_o h_o_text o_side o_length res.2 o_text_n o_text) := by
  refine CtI.start (lv := [(0, .ref h_o)]) (by decide) (Nat.le_of_ble_eq_true rfl) rfl (fun κ hE => ?_)
  rw [fX4_takeEnd] at hf0
  refine z_aload_n 0 (pc := 0) dX4_takeEnd_0 rfl ?_
  obtain ⟨r1, er1, hf0⟩ := bp hf0
  refine z_callvV (pc := 1) (As := []) (rest := []) (ws' := (wsX4_takeEnd cA h_o h_o_text o_side o_length r1 o_text_n o_text)) (kX4_skipSpaces l D cA h_o h_o_text o_side o_length o_place o_text_n o_text  N r1 er1) ivX4_37 ⟨rfl, rfl⟩ ⟨by decide, by decide⟩ rfl ⟨Nat.zero_le _, Nat.zero_le _⟩ rfl rfl [0, 1] rfl (by decide) rfl rfl rfl (Nat.le_of_ble_eq_true rfl) dX4_takeEnd_1 ?_
  refine z_aload_n 0 (pc := 4) dX4_takeEnd_4 rfl ?_
  obtain ⟨r2, er2, hf0⟩ := bp hf0
  refine z_calliV (pc := 5) (As := []) (rest := []) (ws' := (wsX4_takeEnd cA h_o h_o_text o_side o_length r1 o_text_n o_text)) (kX4_here l D cA h_o h_o_text o_side o_length r1 o_text_n o_text  N r2 er2) ivX4_40 ⟨rfl, rfl⟩ ⟨by decide, by decide⟩ rfl ⟨Nat.zero_le _, Nat.zero_le _⟩ rfl rfl [0, 1] rfl (by decide) rfl rfl rfl (Nat.le_of_ble_eq_true rfl) dX4_takeEnd_5 ?_
  refine z_bipush (pc := 8) (v := 59) dX4_takeEnd_8 (by decide) ?_
  refine z_icmp_eq (pc := 10) (tgt := 15) dX4_takeEnd_10 (by decide) hf0 (fun hf0 => ?_) (fun hf0 => ?_)
  · refine z_aload_n 0 (pc := 15) dX4_takeEnd_15 rfl ?_
    refine z_dup (pc := 16) dX4_takeEnd_16 rfl ?_
    refine z_get 0 3 (pc := 17) (v := .int r1) rfl rfl inX4 (by decide) flX4_22 rfl dX4_takeEnd_17 ?_
    refine z_iconst (pc := 20) (v := 1) dX4_takeEnd_20 (by decide) ?_
    refine z_iadd (pc := 21) dX4_takeEnd_21 ?_
    refine z_put 0 3 (pc := 22) (ws' := (wsX4_takeEnd cA h_o h_o_text o_side o_length (r1 + 1) o_text_n o_text)) rfl rfl inX4 tyX4 tyX4_ok nmX4 (by decide) flX4_22 rfl rfl rfl rfl (Nat.le_of_ble_eq_true rfl) dX4_takeEnd_22 rfl ?_
    refine z_iconst (pc := 25) (v := 1) dX4_takeEnd_25 (by decide) ?_
    obtain rfl := Option.some.inj hf0
    exact z_zretL (by decide) hE dX4_takeEnd_26
  · refine z_iconst (pc := 13) (v := 0) dX4_takeEnd_13 (by decide) ?_
    obtain rfl := Option.some.inj hf0
    exact z_zretL (by decide) hE dX4_takeEnd_14

abbrev RX4_takeChange : Type := Int32 × Int32 × Int32 × (Nat → Int32) × (Nat → Int32) × (Nat → Int32) × (Nat → Int32) × (Nat → Int32)
abbrev rmX4_takeChange : Room := { frames := 3, cells := 0, slots := 0, locals := 60 }
abbrev wsX4_takeChange (cA : Nat → ClassId) (h_o : Nat) (h_p1 : Nat) (h_o_text : Nat) (h_p1_letters : Nat) (h_p1_digits : Nat) (h_p1_xs : Nat) (h_p1_ys : Nat) (h_p1_zs : Nat) (o_side : Int32) (o_length : Int32) (o_place : Int32) (p1_count : Int32) (o_text_n : Nat) (o_text : Nat → Int32) (p1_letters_n : Nat) (p1_letters : Nat → Int32) (p1_digits_n : Nat) (p1_digits : Nat → Int32) (p1_xs_n : Nat) (p1_xs : Nat → Int32) (p1_ys_n : Nat) (p1_ys : Nat → Int32) (p1_zs_n : Nat) (p1_zs : Nat → Int32) : va_W := [(h_o, .inr (4, [.int o_side, .ref h_o_text, .int o_length, .int o_place])), (h_p1, .inr (3, [.int p1_count, .ref h_p1_letters, .ref h_p1_digits, .ref h_p1_xs, .ref h_p1_ys, .ref h_p1_zs])), (h_o_text, .inl (cA 0, o_text_n, .inl o_text)), (h_p1_letters, .inl (cA 2, p1_letters_n, .inl p1_letters)), (h_p1_digits, .inl (cA 0, p1_digits_n, .inl p1_digits)), (h_p1_xs, .inl (cA 0, p1_xs_n, .inl p1_xs)), (h_p1_ys, .inl (cA 0, p1_ys_n, .inl p1_ys)), (h_p1_zs, .inl (cA 0, p1_zs_n, .inl p1_zs))]
def fX4_takeChange (N : Nat)  (o_length : Int32) (o_place : Int32) (p1_count : Int32) (o_text_n : Nat) (o_text : Nat → Int32) (p1_letters_n : Nat) (p1_letters : Nat → Int32) (p1_digits_n : Nat) (p1_digits : Nat → Int32) (p1_xs_n : Nat) (p1_xs : Nat → Int32) (p1_ys_n : Nat) (p1_ys : Nat → Int32) (p1_zs_n : Nat) (p1_zs : Nat → Int32) : Option RX4_takeChange :=
  ((fX4_takeDigit N 3 o_length (o_place + 1) o_text_n o_text).bind fun r1 => (if r1.1 = (-2) then some (0, r1.2, p1_count, p1_letters, p1_digits, p1_xs, p1_ys, p1_zs) else ((fX4_takeEnd N o_length r1.2 o_text_n o_text).bind fun r2 => (if r2.1 = 0 then some (0, r2.2, p1_count, p1_letters, p1_digits, p1_xs, p1_ys, p1_zs) else ((fX3_add N 84 r1.1 (-1) (-1) (-1) p1_count p1_letters_n p1_letters p1_digits_n p1_digits p1_xs_n p1_xs p1_ys_n p1_ys p1_zs_n p1_zs).bind fun r3 => some (1, r2.2, r3.1, r3.2.1, r3.2.2.1, r3.2.2.2.1, r3.2.2.2.2.1, r3.2.2.2.2.2))))))
set_option maxHeartbeats 4000000 in
set_option maxRecDepth 100000 in
theorem kX4_takeChange (l : Launch) (D : va_G) (cA : Nat → ClassId) (h_o : Nat) (h_p1 : Nat) (h_o_text : Nat) (h_p1_letters : Nat) (h_p1_digits : Nat) (h_p1_xs : Nat) (h_p1_ys : Nat) (h_p1_zs : Nat) (o_side : Int32) (o_length : Int32) (o_place : Int32) (p1_count : Int32) (o_text_n : Nat) (o_text : Nat → Int32) (p1_letters_n : Nat) (p1_letters : Nat → Int32) (p1_digits_n : Nat) (p1_digits : Nat → Int32) (p1_xs_n : Nat) (p1_xs : Nat → Int32) (p1_ys_n : Nat) (p1_ys : Nat → Int32) (p1_zs_n : Nat) (p1_zs : Nat → Int32)  (N : Nat) (res : RX4_takeChange) (hf0 : fX4_takeChange N o_length o_place p1_count o_text_n o_text p1_letters_n p1_letters p1_digits_n p1_digits p1_xs_n p1_xs p1_ys_n p1_ys p1_zs_n p1_zs = some res) : CtI l yX4_takeChange (Cond.code yX4_takeChange cX4_takeChange 3 (some .boolean) :: tblG) rmX4_takeChange D cA (wsX4_takeChange cA h_o h_p1 h_o_text h_p1_letters h_p1_digits h_p1_xs h_p1_ys h_p1_zs o_side o_length o_place p1_count o_text_n o_text p1_letters_n p1_letters p1_digits_n p1_digits p1_xs_n p1_xs p1_ys_n p1_ys p1_zs_n p1_zs) [.ref h_o, .ref h_p1] res.1 (wsX4_takeChange cA h_o h_p1 h_o_text h_p1_letters h_p1_digits h_p1_xs h_p1_ys h_p1_zs o_side o_length res.2.1 res.2.2.1 o_text_n o_text p1_letters_n res.2.2.2.1 p1_digits_n res.2.2.2.2.1 p1_xs_n res.2.2.2.2.2.1 p1_ys_n res.2.2.2.2.2.2.1 p1_zs_n res.2.2.2.2.2.2.2) := by
  refine CtI.start (lv := [(0, .ref h_o), (1, .ref h_p1)]) (by decide) (Nat.le_of_ble_eq_true rfl) rfl (fun κ hE => ?_)
  rw [fX4_takeChange] at hf0
  refine z_aload_n 0 (pc := 0) dX4_takeChange_0 rfl ?_
  refine z_dup (pc := 1) dX4_takeChange_1 rfl ?_
  refine z_get 0 3 (pc := 2) (v := .int o_place) rfl rfl inX4 (by decide) flX4_22 rfl dX4_takeChange_2 ?_
  refine z_iconst (pc := 5) (v := 1) dX4_takeChange_5 (by decide) ?_
  refine z_iadd (pc := 6) dX4_takeChange_6 ?_
  refine z_put 0 3 (pc := 7) (ws' := (wsX4_takeChange cA h_o h_p1 h_o_text h_p1_letters h_p1_digits h_p1_xs h_p1_ys h_p1_zs o_side o_length (o_place + 1) p1_count o_text_n o_text p1_letters_n p1_letters p1_digits_n p1_digits p1_xs_n p1_xs p1_ys_n p1_ys p1_zs_n p1_zs)) rfl rfl inX4 tyX4 tyX4_ok nmX4 (by decide) flX4_22 rfl rfl rfl rfl (Nat.le_of_ble_eq_true rfl) dX4_takeChange_7 rfl ?_
  refine z_aload_n 0 (pc := 10) dX4_takeChange_10 rfl ?_
  refine z_iconst (pc := 11) (v := 3) dX4_takeChange_11 (by decide) ?_
  obtain ⟨r1, er1, hf0⟩ := bp hf0
  refine z_calliV (pc := 12) (As := [.int 3]) (rest := []) (ws' := (wsX4_takeChange cA h_o h_p1 h_o_text h_p1_letters h_p1_digits h_p1_xs h_p1_ys h_p1_zs o_side o_length r1.2 p1_count o_text_n o_text p1_letters_n p1_letters p1_digits_n p1_digits p1_xs_n p1_xs p1_ys_n p1_ys p1_zs_n p1_zs)) (kX4_takeDigit l D cA h_o h_o_text o_side o_length (o_place + 1) o_text_n o_text 3 N r1 er1) ivX4_50 ⟨rfl, rfl⟩ ⟨by decide, by decide⟩ rfl ⟨Nat.zero_le _, Nat.zero_le _⟩ rfl rfl [0, 2] rfl (by decide) rfl rfl rfl (Nat.le_of_ble_eq_true rfl) dX4_takeChange_12 ?_
  refine z_istore_n (pc := 15) (lv' := [(2, .int r1.1), (0, .ref h_o), (1, .ref h_p1)]) dX4_takeChange_15 (by decide) rfl ?_
  refine z_iload_n 0 (pc := 16) dX4_takeChange_16 rfl ?_
  refine z_bipush (pc := 17) (v := (-2)) dX4_takeChange_17 (by decide) ?_
  refine z_icmp_eq (pc := 19) (tgt := 29) dX4_takeChange_19 (by decide) hf0 (fun hf0 => ?_) (fun hf0 => ?_)
  · refine z_iconst (pc := 29) (v := 0) dX4_takeChange_29 (by decide) ?_
    obtain rfl := Option.some.inj hf0
    exact z_zretL (by decide) hE dX4_takeChange_30
  · refine z_aload_n 1 (pc := 22) dX4_takeChange_22 rfl ?_
    obtain ⟨r2, er2, hf0⟩ := bp hf0
    refine z_calliV (pc := 23) (As := []) (rest := []) (ws' := (wsX4_takeChange cA h_o h_p1 h_o_text h_p1_letters h_p1_digits h_p1_xs h_p1_ys h_p1_zs o_side o_length r2.2 p1_count o_text_n o_text p1_letters_n p1_letters p1_digits_n p1_digits p1_xs_n p1_xs p1_ys_n p1_ys p1_zs_n p1_zs)) (kX4_takeEnd l D cA h_o h_o_text o_side o_length r1.2 o_text_n o_text  N r2 er2) ivX4_54 ⟨rfl, rfl⟩ ⟨by decide, by decide⟩ rfl ⟨Nat.zero_le _, Nat.zero_le _⟩ rfl rfl [0, 2] rfl (by decide) rfl rfl rfl (Nat.le_of_ble_eq_true rfl) dX4_takeChange_23 ?_
    refine z_if_ne (pc := 26) (tgt := 31) dX4_takeChange_26 (by decide) hf0 (fun hf0 => ?_) (fun hf0 => ?_)
    · refine z_aload_n 2 (pc := 31) dX4_takeChange_31 rfl ?_
      refine z_bipush (pc := 32) (v := 84) dX4_takeChange_32 (by decide) ?_
      refine z_iload_n 0 (pc := 34) dX4_takeChange_34 rfl ?_
      refine z_iconst (pc := 35) (v := (-1)) dX4_takeChange_35 (by decide) ?_
      refine z_iconst (pc := 36) (v := (-1)) dX4_takeChange_36 (by decide) ?_
      refine z_iconst (pc := 37) (v := (-1)) dX4_takeChange_37 (by decide) ?_
      obtain ⟨r3, er3, hf0⟩ := bp hf0
      refine z_callvV (pc := 38) (As := [.int 84, .int r1.1, .int (-1), .int (-1), .int (-1)]) (rest := []) (ws' := (wsX4_takeChange cA h_o h_p1 h_o_text h_p1_letters h_p1_digits h_p1_xs h_p1_ys h_p1_zs o_side o_length r2.2 r3.1 o_text_n o_text p1_letters_n r3.2.1 p1_digits_n r3.2.2.1 p1_xs_n r3.2.2.2.1 p1_ys_n r3.2.2.2.2.1 p1_zs_n r3.2.2.2.2.2)) (kX3_add l D cA h_p1 h_p1_letters h_p1_digits h_p1_xs h_p1_ys h_p1_zs p1_count p1_letters_n p1_letters p1_digits_n p1_digits p1_xs_n p1_xs p1_ys_n p1_ys p1_zs_n p1_zs 84 r1.1 (-1) (-1) (-1) N r3 er3) ivX4_58 ⟨rfl, rfl⟩ ⟨by decide, by decide⟩ rfl ⟨Nat.zero_le _, Nat.zero_le _⟩ rfl rfl [1, 3, 4, 5, 6, 7] rfl (by decide) rfl rfl rfl (Nat.le_of_ble_eq_true rfl) dX4_takeChange_38 ?_
      refine z_iconst (pc := 41) (v := 1) dX4_takeChange_41 (by decide) ?_
      obtain rfl := Option.some.inj hf0
      exact z_zretL (by decide) hE dX4_takeChange_42
    · refine z_iconst (pc := 29) (v := 0) dX4_takeChange_29 (by decide) ?_
      obtain rfl := Option.some.inj hf0
      exact z_zretL (by decide) hE dX4_takeChange_30

abbrev RX4_takeNumber : Type := Int32 × Int32
abbrev rmX4_takeNumber : Room := { frames := 2, cells := 0, slots := 0, locals := 40 }
abbrev wsX4_takeNumber (cA : Nat → ClassId) (h_o : Nat) (h_o_text : Nat) (o_side : Int32) (o_length : Int32) (o_place : Int32) (o_text_n : Nat) (o_text : Nat → Int32) : va_W := [(h_o, .inr (4, [.int o_side, .ref h_o_text, .int o_length, .int o_place])), (h_o_text, .inl (cA 0, o_text_n, .inl o_text))]
def JX4_takeNumber_90 (k5 : Int32) (a2 : Int32) (x4_90 : Int32) (o_place_90 : Int32) : Option (RX4_takeNumber) :=
  (if o_place_90 = k5 then some ((-2), o_place_90) else (if x4_90 ≤ a2 then some (x4_90, o_place_90) else some ((-2), k5)))
def LX4_takeNumber_35 (N : Nat) (o_length : Int32) (o_text_n : Nat) (o_text : Nat → Int32) : Nat → Int32 → Int32 → Int32 → Option (Int32 × Int32 × Int32)
  | 0, _, _, _ => none
  | n + 1, x4_35, x5_35, o_place_35 => (if 3 ≤ x5_35 then some (x4_35, x5_35, o_place_35) else ((fX4_here N o_length o_place_35 o_text_n o_text).bind fun r6 => (if r6 < 48 then some (x4_35, x5_35, o_place_35) else ((fX4_here N o_length o_place_35 o_text_n o_text).bind fun r7 => (if 57 < r7 then some (x4_35, x5_35, o_place_35) else ((fX4_here N o_length o_place_35 o_text_n o_text).bind fun r8 => LX4_takeNumber_35 N o_length o_text_n o_text n ((10 * x4_35) + (r8 - 48)) (x5_35 + 1) (o_place_35 + 1)))))))
def fX4_takeNumber (N : Nat) (a1 : Int32) (a2 : Int32) (o_length : Int32) (o_place : Int32) (o_text_n : Nat) (o_text : Nat → Int32) : Option RX4_takeNumber :=
  ((fX4_skipSpaces N o_length o_place o_text_n o_text).bind fun r1 => ((fX4_here N o_length r1 o_text_n o_text).bind fun r2 => (if r2 = a1 then ((LX4_takeNumber_35 N o_length o_text_n o_text N 0 0 (r1 + 1)).bind fun r4 => JX4_takeNumber_90 (r1 + 1) a2 r4.1 r4.2.2) else some ((-1), r1))))
set_option maxHeartbeats 4000000 in
set_option maxRecDepth 100000 in
theorem kX4_takeNumber (l : Launch) (D : va_G) (cA : Nat → ClassId) (h_o : Nat) (h_o_text : Nat) (o_side : Int32) (o_length : Int32) (o_place : Int32) (o_text_n : Nat) (o_text : Nat → Int32) (a1 : Int32) (a2 : Int32) (N : Nat) (res : RX4_takeNumber) (hf0 : fX4_takeNumber N a1 a2 o_length o_place o_text_n o_text = some res) : CtI l yX4_takeNumber (Cond.code yX4_takeNumber cX4_takeNumber 6 (some .int) :: tblG) rmX4_takeNumber D cA (wsX4_takeNumber cA h_o h_o_text o_side o_length o_place o_text_n o_text) [.ref h_o, .int a1, .int a2] res.1 (wsX4_takeNumber cA h_o h_o_text o_side o_length res.2 o_text_n o_text) := by
  refine CtI.start (lv := [(0, .ref h_o), (1, .int a1), (2, .int a2)]) (by decide) (Nat.le_of_ble_eq_true rfl) rfl (fun κ hE => ?_)
  rw [fX4_takeNumber] at hf0
  refine z_aload_n 0 (pc := 0) dX4_takeNumber_0 rfl ?_
  obtain ⟨r1, er1, hf0⟩ := bp hf0
  refine z_callvV (pc := 1) (As := []) (rest := []) (ws' := (wsX4_takeNumber cA h_o h_o_text o_side o_length r1 o_text_n o_text)) (kX4_skipSpaces l D cA h_o h_o_text o_side o_length o_place o_text_n o_text  N r1 er1) ivX4_37 ⟨rfl, rfl⟩ ⟨by decide, by decide⟩ rfl ⟨Nat.zero_le _, Nat.zero_le _⟩ rfl rfl [0, 1] rfl (by decide) rfl rfl rfl (Nat.le_of_ble_eq_true rfl) dX4_takeNumber_1 ?_
  refine z_aload_n 0 (pc := 4) dX4_takeNumber_4 rfl ?_
  obtain ⟨r2, er2, hf0⟩ := bp hf0
  refine z_calliV (pc := 5) (As := []) (rest := []) (ws' := (wsX4_takeNumber cA h_o h_o_text o_side o_length r1 o_text_n o_text)) (kX4_here l D cA h_o h_o_text o_side o_length r1 o_text_n o_text  N r2 er2) ivX4_40 ⟨rfl, rfl⟩ ⟨by decide, by decide⟩ rfl ⟨Nat.zero_le _, Nat.zero_le _⟩ rfl rfl [0, 1] rfl (by decide) rfl rfl rfl (Nat.le_of_ble_eq_true rfl) dX4_takeNumber_5 ?_
  refine z_iload_n 1 (pc := 8) dX4_takeNumber_8 rfl ?_
  refine z_icmp_eq (pc := 9) (tgt := 14) dX4_takeNumber_9 (by decide) hf0 (fun hf0 => ?_) (fun hf0 => ?_)
  · refine z_aload_n 0 (pc := 14) dX4_takeNumber_14 rfl ?_
    refine z_dup (pc := 15) dX4_takeNumber_15 rfl ?_
    refine z_get 0 3 (pc := 16) (v := .int r1) rfl rfl inX4 (by decide) flX4_22 rfl dX4_takeNumber_16 ?_
    refine z_iconst (pc := 19) (v := 1) dX4_takeNumber_19 (by decide) ?_
    refine z_iadd (pc := 20) dX4_takeNumber_20 ?_
    refine z_put 0 3 (pc := 21) (ws' := (wsX4_takeNumber cA h_o h_o_text o_side o_length (r1 + 1) o_text_n o_text)) rfl rfl inX4 tyX4 tyX4_ok nmX4 (by decide) flX4_22 rfl rfl rfl rfl (Nat.le_of_ble_eq_true rfl) dX4_takeNumber_21 rfl ?_
    refine z_aload_n 0 (pc := 24) dX4_takeNumber_24 rfl ?_
    refine z_get 0 3 (pc := 25) (v := .int (r1 + 1)) rfl rfl inX4 (by decide) flX4_22 rfl dX4_takeNumber_25 ?_
    refine z_istore_n (pc := 28) (lv' := [(3, .int (r1 + 1)), (0, .ref h_o), (1, .int a1), (2, .int a2)]) dX4_takeNumber_28 (by decide) rfl ?_
    refine z_iconst (pc := 29) (v := 0) dX4_takeNumber_29 (by decide) ?_
    refine z_istore (pc := 30) (lv' := [(4, .int 0), (3, .int (r1 + 1)), (0, .ref h_o), (1, .int a1), (2, .int a2)]) dX4_takeNumber_30 (by decide) rfl ?_
    refine z_iconst (pc := 32) (v := 0) dX4_takeNumber_32 (by decide) ?_
    refine z_istore (pc := 33) (lv' := [(5, .int 0), (4, .int 0), (3, .int (r1 + 1)), (0, .ref h_o), (1, .int a1), (2, .int a2)]) dX4_takeNumber_33 (by decide) rfl ?_
    have j90 : ∀ (x4_90 : Int32) (o_place_90 : Int32), JX4_takeNumber_90 (r1 + 1) a2 x4_90 o_place_90 = some res → V κ l D cA rmX4_takeNumber cX4_takeNumber 6 RX4 (some .int) 0 0 90 [(3, .int (r1 + 1)), (0, .ref h_o), (1, .int a1), (2, .int a2), (4, .int x4_90)] [] (wsX4_takeNumber cA h_o h_o_text o_side o_length o_place_90 o_text_n o_text) := by
      intro x4_90 o_place_90 hf0
      rw [JX4_takeNumber_90] at hf0
      refine z_aload_n 1 (pc := 90) dX4_takeNumber_90 rfl ?_
      refine z_get 0 3 (pc := 91) (v := .int o_place_90) rfl rfl inX4 (by decide) flX4_22 rfl dX4_takeNumber_91 ?_
      refine z_iload_n 0 (pc := 94) dX4_takeNumber_94 rfl ?_
      refine z_icmp_ne (pc := 95) (tgt := 101) dX4_takeNumber_95 (by decide) hf0 (fun hf0 => ?_) (fun hf0 => ?_)
      · refine z_iload 4 (pc := 101) dX4_takeNumber_101 rfl ?_
        refine z_iload_n 3 (pc := 103) dX4_takeNumber_103 rfl ?_
        refine z_icmp_le (pc := 104) (tgt := 115) dX4_takeNumber_104 (by decide) hf0 (fun hf0 => ?_) (fun hf0 => ?_)
        · refine z_iload 4 (pc := 115) dX4_takeNumber_115 rfl ?_
          obtain rfl := Option.some.inj hf0
          exact z_iret hE dX4_takeNumber_117
        · refine z_aload_n 1 (pc := 107) dX4_takeNumber_107 rfl ?_
          refine z_iload_n 0 (pc := 108) dX4_takeNumber_108 rfl ?_
          refine z_put 0 3 (pc := 109) (ws' := (wsX4_takeNumber cA h_o h_o_text o_side o_length (r1 + 1) o_text_n o_text)) rfl rfl inX4 tyX4 tyX4_ok nmX4 (by decide) flX4_22 rfl rfl rfl rfl (Nat.le_of_ble_eq_true rfl) dX4_takeNumber_109 rfl ?_
          refine z_bipush (pc := 112) (v := (-2)) dX4_takeNumber_112 (by decide) ?_
          obtain rfl := Option.some.inj hf0
          exact z_iret hE dX4_takeNumber_114
      · refine z_bipush (pc := 98) (v := (-2)) dX4_takeNumber_98 (by decide) ?_
        obtain rfl := Option.some.inj hf0
        exact z_iret hE dX4_takeNumber_100
    obtain ⟨y35, hf0_35, hf0⟩ := bp hf0
    have lp35 : ∀ (n : Nat) (x4_35 : Int32) (x5_35 : Int32) (o_place_35 : Int32), LX4_takeNumber_35 N o_length o_text_n o_text n x4_35 x5_35 o_place_35 = some y35 → V κ l D cA rmX4_takeNumber cX4_takeNumber 6 RX4 (some .int) 0 0 35 [(3, .int (r1 + 1)), (0, .ref h_o), (1, .int a1), (2, .int a2), (4, .int x4_35), (5, .int x5_35)] [] (wsX4_takeNumber cA h_o h_o_text o_side o_length o_place_35 o_text_n o_text) := by
      intro n
      induction n with
      | zero => intro x4_35 x5_35 o_place_35 hf0_35; rw [LX4_takeNumber_35] at hf0_35; cases hf0_35
      | succ n35 ih35 =>
        intro x4_35 x5_35 o_place_35 hf0_35
        rw [LX4_takeNumber_35] at hf0_35
        refine z_iload 5 (pc := 35) dX4_takeNumber_35 rfl ?_
        refine z_iconst (pc := 37) (v := 3) dX4_takeNumber_37 (by decide) ?_
        refine z_icmp_ge (pc := 38) (tgt := 90) dX4_takeNumber_38 (by decide) hf0_35 (fun hf0_35 => ?_) (fun hf0_35 => ?_)
        · obtain rfl := Option.some.inj hf0_35
          exact z_lv [0, 1, 2, 3, 4] rfl (j90 x4_35 o_place_35 hf0)
        · refine z_aload_n 1 (pc := 41) dX4_takeNumber_41 rfl ?_
          obtain ⟨r6, er6, hf0_35⟩ := bp hf0_35
          refine z_calliV (pc := 42) (As := []) (rest := []) (ws' := (wsX4_takeNumber cA h_o h_o_text o_side o_length o_place_35 o_text_n o_text)) (kX4_here l D cA h_o h_o_text o_side o_length o_place_35 o_text_n o_text  N r6 er6) ivX4_40 ⟨rfl, rfl⟩ ⟨by decide, by decide⟩ rfl ⟨Nat.zero_le _, Nat.zero_le _⟩ rfl rfl [0, 1] rfl (by decide) rfl rfl rfl (Nat.le_of_ble_eq_true rfl) dX4_takeNumber_42 ?_
          refine z_bipush (pc := 45) (v := 48) dX4_takeNumber_45 (by decide) ?_
          refine z_icmp_lt (pc := 47) (tgt := 90) dX4_takeNumber_47 (by decide) hf0_35 (fun hf0_35 => ?_) (fun hf0_35 => ?_)
          · obtain rfl := Option.some.inj hf0_35
            exact z_lv [0, 1, 2, 3, 4] rfl (j90 x4_35 o_place_35 hf0)
          · refine z_aload_n 1 (pc := 50) dX4_takeNumber_50 rfl ?_
            obtain ⟨r7, er7, hf0_35⟩ := bp hf0_35
            refine z_calliV (pc := 51) (As := []) (rest := []) (ws' := (wsX4_takeNumber cA h_o h_o_text o_side o_length o_place_35 o_text_n o_text)) (kX4_here l D cA h_o h_o_text o_side o_length o_place_35 o_text_n o_text  N r7 er7) ivX4_40 ⟨rfl, rfl⟩ ⟨by decide, by decide⟩ rfl ⟨Nat.zero_le _, Nat.zero_le _⟩ rfl rfl [0, 1] rfl (by decide) rfl rfl rfl (Nat.le_of_ble_eq_true rfl) dX4_takeNumber_51 ?_
            refine z_bipush (pc := 54) (v := 57) dX4_takeNumber_54 (by decide) ?_
            refine z_icmp_gt (pc := 56) (tgt := 90) dX4_takeNumber_56 (by decide) hf0_35 (fun hf0_35 => ?_) (fun hf0_35 => ?_)
            · obtain rfl := Option.some.inj hf0_35
              exact z_lv [0, 1, 2, 3, 4] rfl (j90 x4_35 o_place_35 hf0)
            · refine z_bipush (pc := 59) (v := 10) dX4_takeNumber_59 (by decide) ?_
              refine z_iload 4 (pc := 61) dX4_takeNumber_61 rfl ?_
              refine z_imul (pc := 63) dX4_takeNumber_63 ?_
              refine z_aload_n 1 (pc := 64) dX4_takeNumber_64 rfl ?_
              obtain ⟨r8, er8, hf0_35⟩ := bp hf0_35
              refine z_calliV (pc := 65) (As := []) (rest := [.int (10 * x4_35)]) (ws' := (wsX4_takeNumber cA h_o h_o_text o_side o_length o_place_35 o_text_n o_text)) (kX4_here l D cA h_o h_o_text o_side o_length o_place_35 o_text_n o_text  N r8 er8) ivX4_40 ⟨rfl, rfl⟩ ⟨by decide, by decide⟩ rfl ⟨Nat.zero_le _, Nat.zero_le _⟩ rfl rfl [0, 1] rfl (by decide) rfl rfl rfl (Nat.le_of_ble_eq_true rfl) dX4_takeNumber_65 ?_
              refine z_bipush (pc := 68) (v := 48) dX4_takeNumber_68 (by decide) ?_
              refine z_isub (pc := 70) dX4_takeNumber_70 ?_
              refine z_iadd (pc := 71) dX4_takeNumber_71 ?_
              refine z_istore (pc := 72) (lv' := [(4, .int ((10 * x4_35) + (r8 - 48))), (3, .int (r1 + 1)), (0, .ref h_o), (1, .int a1), (2, .int a2), (5, .int x5_35)]) dX4_takeNumber_72 (by decide) rfl ?_
              refine z_aload_n 2 (pc := 74) dX4_takeNumber_74 rfl ?_
              refine z_dup (pc := 75) dX4_takeNumber_75 rfl ?_
              refine z_get 0 3 (pc := 76) (v := .int o_place_35) rfl rfl inX4 (by decide) flX4_22 rfl dX4_takeNumber_76 ?_
              refine z_iconst (pc := 79) (v := 1) dX4_takeNumber_79 (by decide) ?_
              refine z_iadd (pc := 80) dX4_takeNumber_80 ?_
              refine z_put 0 3 (pc := 81) (ws' := (wsX4_takeNumber cA h_o h_o_text o_side o_length (o_place_35 + 1) o_text_n o_text)) rfl rfl inX4 tyX4 tyX4_ok nmX4 (by decide) flX4_22 rfl rfl rfl rfl (Nat.le_of_ble_eq_true rfl) dX4_takeNumber_81 rfl ?_
              refine z_iinc 5 (pc := 84) (v := x5_35 + 1) (lv' := [(5, .int (x5_35 + 1)), (4, .int ((10 * x4_35) + (r8 - 48))), (3, .int (r1 + 1)), (0, .ref h_o), (1, .int a1), (2, .int a2)]) dX4_takeNumber_84 rfl rfl (by decide) rfl ?_
              refine z_goto (pc := 87) (tgt := 35) dX4_takeNumber_87 (by decide) ?_
              exact z_lv [2, 3, 4, 5, 1, 0] rfl (ih35 ((10 * x4_35) + (r8 - 48)) (x5_35 + 1) (o_place_35 + 1) hf0_35)
    exact z_lv [2, 3, 4, 5, 1, 0] rfl (lp35 N 0 0 (r1 + 1) hf0_35)
  · refine z_iconst (pc := 12) (v := (-1)) dX4_takeNumber_12 (by decide) ?_
    obtain rfl := Option.some.inj hf0
    exact z_iret hE dX4_takeNumber_13

abbrev RX4_takeMove : Type := Int32 × Int32 × Int32 × (Nat → Int32) × (Nat → Int32) × (Nat → Int32) × (Nat → Int32) × (Nat → Int32)
abbrev rmX4_takeMove : Room := { frames := 3, cells := 0, slots := 0, locals := 65 }
abbrev wsX4_takeMove (cA : Nat → ClassId) (h_o : Nat) (h_p1 : Nat) (h_o_text : Nat) (h_p1_letters : Nat) (h_p1_digits : Nat) (h_p1_xs : Nat) (h_p1_ys : Nat) (h_p1_zs : Nat) (o_side : Int32) (o_length : Int32) (o_place : Int32) (p1_count : Int32) (o_text_n : Nat) (o_text : Nat → Int32) (p1_letters_n : Nat) (p1_letters : Nat → Int32) (p1_digits_n : Nat) (p1_digits : Nat → Int32) (p1_xs_n : Nat) (p1_xs : Nat → Int32) (p1_ys_n : Nat) (p1_ys : Nat → Int32) (p1_zs_n : Nat) (p1_zs : Nat → Int32) : va_W := [(h_o, .inr (4, [.int o_side, .ref h_o_text, .int o_length, .int o_place])), (h_p1, .inr (3, [.int p1_count, .ref h_p1_letters, .ref h_p1_digits, .ref h_p1_xs, .ref h_p1_ys, .ref h_p1_zs])), (h_o_text, .inl (cA 0, o_text_n, .inl o_text)), (h_p1_letters, .inl (cA 2, p1_letters_n, .inl p1_letters)), (h_p1_digits, .inl (cA 0, p1_digits_n, .inl p1_digits)), (h_p1_xs, .inl (cA 0, p1_xs_n, .inl p1_xs)), (h_p1_ys, .inl (cA 0, p1_ys_n, .inl p1_ys)), (h_p1_zs, .inl (cA 0, p1_zs_n, .inl p1_zs))]
def JX4_takeMove_109 (N : Nat) (o_length : Int32) (r4 : RX4_takeNumber) (o_text_n : Nat) (o_text : Nat → Int32) (p1_count : Int32) (p1_letters : Nat → Int32) (p1_digits : Nat → Int32) (p1_xs : Nat → Int32) (p1_ys : Nat → Int32) (p1_zs : Nat → Int32) (r1 : RX4_takeDigit) (r2 : RX4_takeNumber) (r3 : RX4_takeNumber) (p1_letters_n : Nat) (p1_digits_n : Nat) (p1_xs_n : Nat) (p1_ys_n : Nat) (p1_zs_n : Nat) (s_109 : Int32) : Option (RX4_takeMove) :=
  (if s_109 = 0 then ((fX4_takeEnd N o_length r4.2 o_text_n o_text).bind fun r5 => (if r5.1 = 0 then some (0, r5.2, p1_count, p1_letters, p1_digits, p1_xs, p1_ys, p1_zs) else ((fX3_add N 71 r1.1 r2.1 r3.1 r4.1 p1_count p1_letters_n p1_letters p1_digits_n p1_digits p1_xs_n p1_xs p1_ys_n p1_ys p1_zs_n p1_zs).bind fun r6 => some (1, r5.2, r6.1, r6.2.1, r6.2.2.1, r6.2.2.2.1, r6.2.2.2.2.1, r6.2.2.2.2.2)))) else some (0, r4.2, p1_count, p1_letters, p1_digits, p1_xs, p1_ys, p1_zs))
def fX4_takeMove (N : Nat)  (o_side : Int32) (o_length : Int32) (o_place : Int32) (p1_count : Int32) (o_text_n : Nat) (o_text : Nat → Int32) (p1_letters_n : Nat) (p1_letters : Nat → Int32) (p1_digits_n : Nat) (p1_digits : Nat → Int32) (p1_xs_n : Nat) (p1_xs : Nat → Int32) (p1_ys_n : Nat) (p1_ys : Nat → Int32) (p1_zs_n : Nat) (p1_zs : Nat → Int32) : Option RX4_takeMove :=
  ((fX4_takeDigit N 1 o_length (o_place + 1) o_text_n o_text).bind fun r1 => (if r1.1 = (-2) then some (0, r1.2, p1_count, p1_letters, p1_digits, p1_xs, p1_ys, p1_zs) else ((fX4_takeNumber N 88 (o_side - 1) o_length r1.2 o_text_n o_text).bind fun r2 => (if r2.1 = (-2) then some (0, r2.2, p1_count, p1_letters, p1_digits, p1_xs, p1_ys, p1_zs) else ((fX4_takeNumber N 89 (o_side - 1) o_length r2.2 o_text_n o_text).bind fun r3 => (if r3.1 = (-2) then some (0, r3.2, p1_count, p1_letters, p1_digits, p1_xs, p1_ys, p1_zs) else ((fX4_takeNumber N 90 100 o_length r3.2 o_text_n o_text).bind fun r4 => (if r4.1 = (-2) then some (0, r4.2, p1_count, p1_letters, p1_digits, p1_xs, p1_ys, p1_zs) else (if r2.1 = (-1) then (if r3.1 = (-1) then (if r4.1 = (-1) then JX4_takeMove_109 N o_length r4 o_text_n o_text p1_count p1_letters p1_digits p1_xs p1_ys p1_zs r1 r2 r3 p1_letters_n p1_digits_n p1_xs_n p1_ys_n p1_zs_n 1 else JX4_takeMove_109 N o_length r4 o_text_n o_text p1_count p1_letters p1_digits p1_xs p1_ys p1_zs r1 r2 r3 p1_letters_n p1_digits_n p1_xs_n p1_ys_n p1_zs_n 0) else JX4_takeMove_109 N o_length r4 o_text_n o_text p1_count p1_letters p1_digits p1_xs p1_ys p1_zs r1 r2 r3 p1_letters_n p1_digits_n p1_xs_n p1_ys_n p1_zs_n 0) else JX4_takeMove_109 N o_length r4 o_text_n o_text p1_count p1_letters p1_digits p1_xs p1_ys p1_zs r1 r2 r3 p1_letters_n p1_digits_n p1_xs_n p1_ys_n p1_zs_n 0)))))))))
set_option maxHeartbeats 4000000 in
set_option maxRecDepth 100000 in
theorem kX4_takeMove (l : Launch) (D : va_G) (cA : Nat → ClassId) (h_o : Nat) (h_p1 : Nat) (h_o_text : Nat) (h_p1_letters : Nat) (h_p1_digits : Nat) (h_p1_xs : Nat) (h_p1_ys : Nat) (h_p1_zs : Nat) (o_side : Int32) (o_length : Int32) (o_place : Int32) (p1_count : Int32) (o_text_n : Nat) (o_text : Nat → Int32) (p1_letters_n : Nat) (p1_letters : Nat → Int32) (p1_digits_n : Nat) (p1_digits : Nat → Int32) (p1_xs_n : Nat) (p1_xs : Nat → Int32) (p1_ys_n : Nat) (p1_ys : Nat → Int32) (p1_zs_n : Nat) (p1_zs : Nat → Int32)  (N : Nat) (res : RX4_takeMove) (hf0 : fX4_takeMove N o_side o_length o_place p1_count o_text_n o_text p1_letters_n p1_letters p1_digits_n p1_digits p1_xs_n p1_xs p1_ys_n p1_ys p1_zs_n p1_zs = some res) : CtI l yX4_takeMove (Cond.code yX4_takeMove cX4_takeMove 7 (some .boolean) :: tblG) rmX4_takeMove D cA (wsX4_takeMove cA h_o h_p1 h_o_text h_p1_letters h_p1_digits h_p1_xs h_p1_ys h_p1_zs o_side o_length o_place p1_count o_text_n o_text p1_letters_n p1_letters p1_digits_n p1_digits p1_xs_n p1_xs p1_ys_n p1_ys p1_zs_n p1_zs) [.ref h_o, .ref h_p1] res.1 (wsX4_takeMove cA h_o h_p1 h_o_text h_p1_letters h_p1_digits h_p1_xs h_p1_ys h_p1_zs o_side o_length res.2.1 res.2.2.1 o_text_n o_text p1_letters_n res.2.2.2.1 p1_digits_n res.2.2.2.2.1 p1_xs_n res.2.2.2.2.2.1 p1_ys_n res.2.2.2.2.2.2.1 p1_zs_n res.2.2.2.2.2.2.2) := by
  refine CtI.start (lv := [(0, .ref h_o), (1, .ref h_p1)]) (by decide) (Nat.le_of_ble_eq_true rfl) rfl (fun κ hE => ?_)
  rw [fX4_takeMove] at hf0
  refine z_aload_n 0 (pc := 0) dX4_takeMove_0 rfl ?_
  refine z_dup (pc := 1) dX4_takeMove_1 rfl ?_
  refine z_get 0 3 (pc := 2) (v := .int o_place) rfl rfl inX4 (by decide) flX4_22 rfl dX4_takeMove_2 ?_
  refine z_iconst (pc := 5) (v := 1) dX4_takeMove_5 (by decide) ?_
  refine z_iadd (pc := 6) dX4_takeMove_6 ?_
  refine z_put 0 3 (pc := 7) (ws' := (wsX4_takeMove cA h_o h_p1 h_o_text h_p1_letters h_p1_digits h_p1_xs h_p1_ys h_p1_zs o_side o_length (o_place + 1) p1_count o_text_n o_text p1_letters_n p1_letters p1_digits_n p1_digits p1_xs_n p1_xs p1_ys_n p1_ys p1_zs_n p1_zs)) rfl rfl inX4 tyX4 tyX4_ok nmX4 (by decide) flX4_22 rfl rfl rfl rfl (Nat.le_of_ble_eq_true rfl) dX4_takeMove_7 rfl ?_
  refine z_aload_n 0 (pc := 10) dX4_takeMove_10 rfl ?_
  refine z_iconst (pc := 11) (v := 1) dX4_takeMove_11 (by decide) ?_
  obtain ⟨r1, er1, hf0⟩ := bp hf0
  refine z_calliV (pc := 12) (As := [.int 1]) (rest := []) (ws' := (wsX4_takeMove cA h_o h_p1 h_o_text h_p1_letters h_p1_digits h_p1_xs h_p1_ys h_p1_zs o_side o_length r1.2 p1_count o_text_n o_text p1_letters_n p1_letters p1_digits_n p1_digits p1_xs_n p1_xs p1_ys_n p1_ys p1_zs_n p1_zs)) (kX4_takeDigit l D cA h_o h_o_text o_side o_length (o_place + 1) o_text_n o_text 1 N r1 er1) ivX4_50 ⟨rfl, rfl⟩ ⟨by decide, by decide⟩ rfl ⟨Nat.zero_le _, Nat.zero_le _⟩ rfl rfl [0, 2] rfl (by decide) rfl rfl rfl (Nat.le_of_ble_eq_true rfl) dX4_takeMove_12 ?_
  refine z_istore_n (pc := 15) (lv' := [(2, .int r1.1), (0, .ref h_o), (1, .ref h_p1)]) dX4_takeMove_15 (by decide) rfl ?_
  refine z_iload_n 0 (pc := 16) dX4_takeMove_16 rfl ?_
  refine z_bipush (pc := 17) (v := (-2)) dX4_takeMove_17 (by decide) ?_
  refine z_icmp_ne (pc := 19) (tgt := 24) dX4_takeMove_19 (by decide) hf0 (fun hf0 => ?_) (fun hf0 => ?_)
  · refine z_aload_n 1 (pc := 24) dX4_takeMove_24 rfl ?_
    refine z_bipush (pc := 25) (v := 88) dX4_takeMove_25 (by decide) ?_
    refine z_aload_n 1 (pc := 27) dX4_takeMove_27 rfl ?_
    refine z_get 0 0 (pc := 28) (v := .int o_side) rfl rfl inX4 (by decide) flX4_9 rfl dX4_takeMove_28 ?_
    refine z_iconst (pc := 31) (v := 1) dX4_takeMove_31 (by decide) ?_
    refine z_isub (pc := 32) dX4_takeMove_32 ?_
    obtain ⟨r2, er2, hf0⟩ := bp hf0
    refine z_calliV (pc := 33) (As := [.int 88, .int (o_side - 1)]) (rest := []) (ws' := (wsX4_takeMove cA h_o h_p1 h_o_text h_p1_letters h_p1_digits h_p1_xs h_p1_ys h_p1_zs o_side o_length r2.2 p1_count o_text_n o_text p1_letters_n p1_letters p1_digits_n p1_digits p1_xs_n p1_xs p1_ys_n p1_ys p1_zs_n p1_zs)) (kX4_takeNumber l D cA h_o h_o_text o_side o_length r1.2 o_text_n o_text 88 (o_side - 1) N r2 er2) ivX4_62 ⟨rfl, rfl⟩ ⟨by decide, by decide⟩ rfl ⟨Nat.zero_le _, Nat.zero_le _⟩ rfl rfl [0, 2] rfl (by decide) rfl rfl rfl (Nat.le_of_ble_eq_true rfl) dX4_takeMove_33 ?_
    refine z_istore_n (pc := 36) (lv' := [(3, .int r2.1), (2, .int r1.1), (0, .ref h_o), (1, .ref h_p1)]) dX4_takeMove_36 (by decide) rfl ?_
    refine z_iload_n 0 (pc := 37) dX4_takeMove_37 rfl ?_
    refine z_bipush (pc := 38) (v := (-2)) dX4_takeMove_38 (by decide) ?_
    refine z_icmp_ne (pc := 40) (tgt := 45) dX4_takeMove_40 (by decide) hf0 (fun hf0 => ?_) (fun hf0 => ?_)
    · refine z_aload_n 2 (pc := 45) dX4_takeMove_45 rfl ?_
      refine z_bipush (pc := 46) (v := 89) dX4_takeMove_46 (by decide) ?_
      refine z_aload_n 2 (pc := 48) dX4_takeMove_48 rfl ?_
      refine z_get 0 0 (pc := 49) (v := .int o_side) rfl rfl inX4 (by decide) flX4_9 rfl dX4_takeMove_49 ?_
      refine z_iconst (pc := 52) (v := 1) dX4_takeMove_52 (by decide) ?_
      refine z_isub (pc := 53) dX4_takeMove_53 ?_
      obtain ⟨r3, er3, hf0⟩ := bp hf0
      refine z_calliV (pc := 54) (As := [.int 89, .int (o_side - 1)]) (rest := []) (ws' := (wsX4_takeMove cA h_o h_p1 h_o_text h_p1_letters h_p1_digits h_p1_xs h_p1_ys h_p1_zs o_side o_length r3.2 p1_count o_text_n o_text p1_letters_n p1_letters p1_digits_n p1_digits p1_xs_n p1_xs p1_ys_n p1_ys p1_zs_n p1_zs)) (kX4_takeNumber l D cA h_o h_o_text o_side o_length r2.2 o_text_n o_text 89 (o_side - 1) N r3 er3) ivX4_62 ⟨rfl, rfl⟩ ⟨by decide, by decide⟩ rfl ⟨Nat.zero_le _, Nat.zero_le _⟩ rfl rfl [0, 2] rfl (by decide) rfl rfl rfl (Nat.le_of_ble_eq_true rfl) dX4_takeMove_54 ?_
      refine z_istore (pc := 57) (lv' := [(4, .int r3.1), (3, .int r2.1), (2, .int r1.1), (0, .ref h_o), (1, .ref h_p1)]) dX4_takeMove_57 (by decide) rfl ?_
      refine z_iload 0 (pc := 59) dX4_takeMove_59 rfl ?_
      refine z_bipush (pc := 61) (v := (-2)) dX4_takeMove_61 (by decide) ?_
      refine z_icmp_ne (pc := 63) (tgt := 68) dX4_takeMove_63 (by decide) hf0 (fun hf0 => ?_) (fun hf0 => ?_)
      · refine z_aload_n 3 (pc := 68) dX4_takeMove_68 rfl ?_
        refine z_bipush (pc := 69) (v := 90) dX4_takeMove_69 (by decide) ?_
        refine z_bipush (pc := 71) (v := 100) dX4_takeMove_71 (by decide) ?_
        obtain ⟨r4, er4, hf0⟩ := bp hf0
        refine z_calliV (pc := 73) (As := [.int 90, .int 100]) (rest := []) (ws' := (wsX4_takeMove cA h_o h_p1 h_o_text h_p1_letters h_p1_digits h_p1_xs h_p1_ys h_p1_zs o_side o_length r4.2 p1_count o_text_n o_text p1_letters_n p1_letters p1_digits_n p1_digits p1_xs_n p1_xs p1_ys_n p1_ys p1_zs_n p1_zs)) (kX4_takeNumber l D cA h_o h_o_text o_side o_length r3.2 o_text_n o_text 90 100 N r4 er4) ivX4_62 ⟨rfl, rfl⟩ ⟨by decide, by decide⟩ rfl ⟨Nat.zero_le _, Nat.zero_le _⟩ rfl rfl [0, 2] rfl (by decide) rfl rfl rfl (Nat.le_of_ble_eq_true rfl) dX4_takeMove_73 ?_
        refine z_istore (pc := 76) (lv' := [(5, .int r4.1), (4, .int r3.1), (3, .int r2.1), (2, .int r1.1), (0, .ref h_o), (1, .ref h_p1)]) dX4_takeMove_76 (by decide) rfl ?_
        refine z_iload 0 (pc := 78) dX4_takeMove_78 rfl ?_
        refine z_bipush (pc := 80) (v := (-2)) dX4_takeMove_80 (by decide) ?_
        refine z_icmp_ne (pc := 82) (tgt := 87) dX4_takeMove_82 (by decide) hf0 (fun hf0 => ?_) (fun hf0 => ?_)
        · refine z_iload_n 2 (pc := 87) dX4_takeMove_87 rfl ?_
          refine z_iconst (pc := 88) (v := (-1)) dX4_takeMove_88 (by decide) ?_
          have j109 : ∀ (s_109 : Int32), JX4_takeMove_109 N o_length r4 o_text_n o_text p1_count p1_letters p1_digits p1_xs p1_ys p1_zs r1 r2 r3 p1_letters_n p1_digits_n p1_xs_n p1_ys_n p1_zs_n s_109 = some res → V κ l D cA rmX4_takeMove cX4_takeMove 7 RX4 (some .boolean) 0 0 109 [(5, .int r4.1), (4, .int r3.1), (3, .int r2.1), (2, .int r1.1), (0, .ref h_o), (1, .ref h_p1)] [.int s_109] (wsX4_takeMove cA h_o h_p1 h_o_text h_p1_letters h_p1_digits h_p1_xs h_p1_ys h_p1_zs o_side o_length r4.2 p1_count o_text_n o_text p1_letters_n p1_letters p1_digits_n p1_digits p1_xs_n p1_xs p1_ys_n p1_ys p1_zs_n p1_zs) := by
            intro s_109 hf0
            rw [JX4_takeMove_109] at hf0
            refine z_istore (pc := 109) (lv' := [(6, .int s_109), (5, .int r4.1), (4, .int r3.1), (3, .int r2.1), (2, .int r1.1), (0, .ref h_o), (1, .ref h_p1)]) dX4_takeMove_109 (by decide) rfl ?_
            refine z_iload 0 (pc := 111) dX4_takeMove_111 rfl ?_
            refine z_if_ne (pc := 113) (tgt := 123) dX4_takeMove_113 (by decide) hf0 (fun hf0 => ?_) (fun hf0 => ?_)
            · refine z_iconst (pc := 123) (v := 0) dX4_takeMove_123 (by decide) ?_
              obtain rfl := Option.some.inj hf0
              exact z_zretL (by decide) hE dX4_takeMove_124
            · refine z_aload_n 5 (pc := 116) dX4_takeMove_116 rfl ?_
              obtain ⟨r5, er5, hf0⟩ := bp hf0
              refine z_calliV (pc := 117) (As := []) (rest := []) (ws' := (wsX4_takeMove cA h_o h_p1 h_o_text h_p1_letters h_p1_digits h_p1_xs h_p1_ys h_p1_zs o_side o_length r5.2 p1_count o_text_n o_text p1_letters_n p1_letters p1_digits_n p1_digits p1_xs_n p1_xs p1_ys_n p1_ys p1_zs_n p1_zs)) (kX4_takeEnd l D cA h_o h_o_text o_side o_length r4.2 o_text_n o_text  N r5 er5) ivX4_54 ⟨rfl, rfl⟩ ⟨by decide, by decide⟩ rfl ⟨Nat.zero_le _, Nat.zero_le _⟩ rfl rfl [0, 2] rfl (by decide) rfl rfl rfl (Nat.le_of_ble_eq_true rfl) dX4_takeMove_117 ?_
              refine z_if_ne (pc := 120) (tgt := 125) dX4_takeMove_120 (by decide) hf0 (fun hf0 => ?_) (fun hf0 => ?_)
              · refine z_aload_n 6 (pc := 125) dX4_takeMove_125 rfl ?_
                refine z_bipush (pc := 126) (v := 71) dX4_takeMove_126 (by decide) ?_
                refine z_iload_n 4 (pc := 128) dX4_takeMove_128 rfl ?_
                refine z_iload_n 3 (pc := 129) dX4_takeMove_129 rfl ?_
                refine z_iload 2 (pc := 130) dX4_takeMove_130 rfl ?_
                refine z_iload 1 (pc := 132) dX4_takeMove_132 rfl ?_
                obtain ⟨r6, er6, hf0⟩ := bp hf0
                refine z_callvV (pc := 134) (As := [.int 71, .int r1.1, .int r2.1, .int r3.1, .int r4.1]) (rest := []) (ws' := (wsX4_takeMove cA h_o h_p1 h_o_text h_p1_letters h_p1_digits h_p1_xs h_p1_ys h_p1_zs o_side o_length r5.2 r6.1 o_text_n o_text p1_letters_n r6.2.1 p1_digits_n r6.2.2.1 p1_xs_n r6.2.2.2.1 p1_ys_n r6.2.2.2.2.1 p1_zs_n r6.2.2.2.2.2)) (kX3_add l D cA h_p1 h_p1_letters h_p1_digits h_p1_xs h_p1_ys h_p1_zs p1_count p1_letters_n p1_letters p1_digits_n p1_digits p1_xs_n p1_xs p1_ys_n p1_ys p1_zs_n p1_zs 71 r1.1 r2.1 r3.1 r4.1 N r6 er6) ivX4_58 ⟨rfl, rfl⟩ ⟨by decide, by decide⟩ rfl ⟨Nat.zero_le _, Nat.zero_le _⟩ rfl rfl [1, 3, 4, 5, 6, 7] rfl (by decide) rfl rfl rfl (Nat.le_of_ble_eq_true rfl) dX4_takeMove_134 ?_
                refine z_iconst (pc := 137) (v := 1) dX4_takeMove_137 (by decide) ?_
                obtain rfl := Option.some.inj hf0
                exact z_zretL (by decide) hE dX4_takeMove_138
              · refine z_iconst (pc := 123) (v := 0) dX4_takeMove_123 (by decide) ?_
                obtain rfl := Option.some.inj hf0
                exact z_zretL (by decide) hE dX4_takeMove_124
          refine z_icmp_ne (pc := 89) (tgt := 108) dX4_takeMove_89 (by decide) hf0 (fun hf0 => ?_) (fun hf0 => ?_)
          · refine z_iconst (pc := 108) (v := 0) dX4_takeMove_108 (by decide) ?_
            exact z_lv [0, 1, 2, 3, 4, 5] rfl (j109 0 hf0)
          · refine z_iload 1 (pc := 92) dX4_takeMove_92 rfl ?_
            refine z_iconst (pc := 94) (v := (-1)) dX4_takeMove_94 (by decide) ?_
            refine z_icmp_ne (pc := 95) (tgt := 108) dX4_takeMove_95 (by decide) hf0 (fun hf0 => ?_) (fun hf0 => ?_)
            · refine z_iconst (pc := 108) (v := 0) dX4_takeMove_108 (by decide) ?_
              exact z_lv [0, 1, 2, 3, 4, 5] rfl (j109 0 hf0)
            · refine z_iload 0 (pc := 98) dX4_takeMove_98 rfl ?_
              refine z_iconst (pc := 100) (v := (-1)) dX4_takeMove_100 (by decide) ?_
              refine z_icmp_ne (pc := 101) (tgt := 108) dX4_takeMove_101 (by decide) hf0 (fun hf0 => ?_) (fun hf0 => ?_)
              · refine z_iconst (pc := 108) (v := 0) dX4_takeMove_108 (by decide) ?_
                exact z_lv [0, 1, 2, 3, 4, 5] rfl (j109 0 hf0)
              · refine z_iconst (pc := 104) (v := 1) dX4_takeMove_104 (by decide) ?_
                refine z_goto (pc := 105) (tgt := 109) dX4_takeMove_105 (by decide) ?_
                exact z_lv [0, 1, 2, 3, 4, 5] rfl (j109 1 hf0)
        · refine z_iconst (pc := 85) (v := 0) dX4_takeMove_85 (by decide) ?_
          obtain rfl := Option.some.inj hf0
          exact z_zretL (by decide) hE dX4_takeMove_86
      · refine z_iconst (pc := 66) (v := 0) dX4_takeMove_66 (by decide) ?_
        obtain rfl := Option.some.inj hf0
        exact z_zretL (by decide) hE dX4_takeMove_67
    · refine z_iconst (pc := 43) (v := 0) dX4_takeMove_43 (by decide) ?_
      obtain rfl := Option.some.inj hf0
      exact z_zretL (by decide) hE dX4_takeMove_44
  · refine z_iconst (pc := 22) (v := 0) dX4_takeMove_22 (by decide) ?_
    obtain rfl := Option.some.inj hf0
    exact z_zretL (by decide) hE dX4_takeMove_23

abbrev RX4_takeStatement : Type := Int32 × Int32 × Int32 × (Nat → Int32) × (Nat → Int32) × (Nat → Int32) × (Nat → Int32) × (Nat → Int32)
abbrev rmX4_takeStatement : Room := { frames := 4, cells := 0, slots := 0, locals := 91 }
abbrev wsX4_takeStatement (cA : Nat → ClassId) (h_o : Nat) (h_p1 : Nat) (h_o_text : Nat) (h_p1_letters : Nat) (h_p1_digits : Nat) (h_p1_xs : Nat) (h_p1_ys : Nat) (h_p1_zs : Nat) (o_side : Int32) (o_length : Int32) (o_place : Int32) (p1_count : Int32) (o_text_n : Nat) (o_text : Nat → Int32) (p1_letters_n : Nat) (p1_letters : Nat → Int32) (p1_digits_n : Nat) (p1_digits : Nat → Int32) (p1_xs_n : Nat) (p1_xs : Nat → Int32) (p1_ys_n : Nat) (p1_ys : Nat → Int32) (p1_zs_n : Nat) (p1_zs : Nat → Int32) : va_W := [(h_o, .inr (4, [.int o_side, .ref h_o_text, .int o_length, .int o_place])), (h_p1, .inr (3, [.int p1_count, .ref h_p1_letters, .ref h_p1_digits, .ref h_p1_xs, .ref h_p1_ys, .ref h_p1_zs])), (h_o_text, .inl (cA 0, o_text_n, .inl o_text)), (h_p1_letters, .inl (cA 2, p1_letters_n, .inl p1_letters)), (h_p1_digits, .inl (cA 0, p1_digits_n, .inl p1_digits)), (h_p1_xs, .inl (cA 0, p1_xs_n, .inl p1_xs)), (h_p1_ys, .inl (cA 0, p1_ys_n, .inl p1_ys)), (h_p1_zs, .inl (cA 0, p1_zs_n, .inl p1_zs))]
def fX4_takeStatement (N : Nat)  (o_side : Int32) (o_length : Int32) (o_place : Int32) (p1_count : Int32) (o_text_n : Nat) (o_text : Nat → Int32) (p1_letters_n : Nat) (p1_letters : Nat → Int32) (p1_digits_n : Nat) (p1_digits : Nat → Int32) (p1_xs_n : Nat) (p1_xs : Nat → Int32) (p1_ys_n : Nat) (p1_ys : Nat → Int32) (p1_zs_n : Nat) (p1_zs : Nat → Int32) : Option RX4_takeStatement :=
  ((fX4_skipSpaces N o_length o_place o_text_n o_text).bind fun r1 => ((fX4_here N o_length r1 o_text_n o_text).bind fun r2 => (if r2 = 71 then ((fX4_takeMove N o_side o_length r1 p1_count o_text_n o_text p1_letters_n p1_letters p1_digits_n p1_digits p1_xs_n p1_xs p1_ys_n p1_ys p1_zs_n p1_zs).bind fun r3 => (if r3.1 = 0 ∨ r3.1 = 1 then some (r3.1, r3.2.1, r3.2.2.1, r3.2.2.2.1, r3.2.2.2.2.1, r3.2.2.2.2.2.1, r3.2.2.2.2.2.2.1, r3.2.2.2.2.2.2.2) else none)) else (if r2 = 84 then ((fX4_takeChange N o_length r1 p1_count o_text_n o_text p1_letters_n p1_letters p1_digits_n p1_digits p1_xs_n p1_xs p1_ys_n p1_ys p1_zs_n p1_zs).bind fun r4 => (if r4.1 = 0 ∨ r4.1 = 1 then some (r4.1, r4.2.1, r4.2.2.1, r4.2.2.2.1, r4.2.2.2.2.1, r4.2.2.2.2.2.1, r4.2.2.2.2.2.2.1, r4.2.2.2.2.2.2.2) else none)) else some (0, r1, p1_count, p1_letters, p1_digits, p1_xs, p1_ys, p1_zs)))))
set_option maxHeartbeats 4000000 in
set_option maxRecDepth 100000 in
theorem kX4_takeStatement (l : Launch) (D : va_G) (cA : Nat → ClassId) (h_o : Nat) (h_p1 : Nat) (h_o_text : Nat) (h_p1_letters : Nat) (h_p1_digits : Nat) (h_p1_xs : Nat) (h_p1_ys : Nat) (h_p1_zs : Nat) (o_side : Int32) (o_length : Int32) (o_place : Int32) (p1_count : Int32) (o_text_n : Nat) (o_text : Nat → Int32) (p1_letters_n : Nat) (p1_letters : Nat → Int32) (p1_digits_n : Nat) (p1_digits : Nat → Int32) (p1_xs_n : Nat) (p1_xs : Nat → Int32) (p1_ys_n : Nat) (p1_ys : Nat → Int32) (p1_zs_n : Nat) (p1_zs : Nat → Int32)  (N : Nat) (res : RX4_takeStatement) (hf0 : fX4_takeStatement N o_side o_length o_place p1_count o_text_n o_text p1_letters_n p1_letters p1_digits_n p1_digits p1_xs_n p1_xs p1_ys_n p1_ys p1_zs_n p1_zs = some res) : CtI l yX4_takeStatement (Cond.code yX4_takeStatement cX4_takeStatement 2 (some .boolean) :: tblG) rmX4_takeStatement D cA (wsX4_takeStatement cA h_o h_p1 h_o_text h_p1_letters h_p1_digits h_p1_xs h_p1_ys h_p1_zs o_side o_length o_place p1_count o_text_n o_text p1_letters_n p1_letters p1_digits_n p1_digits p1_xs_n p1_xs p1_ys_n p1_ys p1_zs_n p1_zs) [.ref h_o, .ref h_p1] res.1 (wsX4_takeStatement cA h_o h_p1 h_o_text h_p1_letters h_p1_digits h_p1_xs h_p1_ys h_p1_zs o_side o_length res.2.1 res.2.2.1 o_text_n o_text p1_letters_n res.2.2.2.1 p1_digits_n res.2.2.2.2.1 p1_xs_n res.2.2.2.2.2.1 p1_ys_n res.2.2.2.2.2.2.1 p1_zs_n res.2.2.2.2.2.2.2) := by
  refine CtI.start (lv := [(0, .ref h_o), (1, .ref h_p1)]) (by decide) (Nat.le_of_ble_eq_true rfl) rfl (fun κ hE => ?_)
  rw [fX4_takeStatement] at hf0
  refine z_aload_n 0 (pc := 0) dX4_takeStatement_0 rfl ?_
  obtain ⟨r1, er1, hf0⟩ := bp hf0
  refine z_callvV (pc := 1) (As := []) (rest := []) (ws' := (wsX4_takeStatement cA h_o h_p1 h_o_text h_p1_letters h_p1_digits h_p1_xs h_p1_ys h_p1_zs o_side o_length r1 p1_count o_text_n o_text p1_letters_n p1_letters p1_digits_n p1_digits p1_xs_n p1_xs p1_ys_n p1_ys p1_zs_n p1_zs)) (kX4_skipSpaces l D cA h_o h_o_text o_side o_length o_place o_text_n o_text  N r1 er1) ivX4_37 ⟨rfl, rfl⟩ ⟨by decide, by decide⟩ rfl ⟨Nat.zero_le _, Nat.zero_le _⟩ rfl rfl [0, 2] rfl (by decide) rfl rfl rfl (Nat.le_of_ble_eq_true rfl) dX4_takeStatement_1 ?_
  refine z_aload_n 0 (pc := 4) dX4_takeStatement_4 rfl ?_
  obtain ⟨r2, er2, hf0⟩ := bp hf0
  refine z_calliV (pc := 5) (As := []) (rest := []) (ws' := (wsX4_takeStatement cA h_o h_p1 h_o_text h_p1_letters h_p1_digits h_p1_xs h_p1_ys h_p1_zs o_side o_length r1 p1_count o_text_n o_text p1_letters_n p1_letters p1_digits_n p1_digits p1_xs_n p1_xs p1_ys_n p1_ys p1_zs_n p1_zs)) (kX4_here l D cA h_o h_o_text o_side o_length r1 o_text_n o_text  N r2 er2) ivX4_40 ⟨rfl, rfl⟩ ⟨by decide, by decide⟩ rfl ⟨Nat.zero_le _, Nat.zero_le _⟩ rfl rfl [0, 2] rfl (by decide) rfl rfl rfl (Nat.le_of_ble_eq_true rfl) dX4_takeStatement_5 ?_
  by_cases w8_0 : r2 = 71
  · have hf0 := fp w8_0 hf0
    refine y_lookup (pc := 8) (off := 34) (tgt := 42) dX4_takeStatement_8 (by decide) (by rw [w8_0]; first | done | rfl) (by decide) ?_
    refine z_aload_n 0 (pc := 42) dX4_takeStatement_42 rfl ?_
    refine z_aload_n 1 (pc := 43) dX4_takeStatement_43 rfl ?_
    obtain ⟨r3, er3, hf0⟩ := bp hf0
    refine z_calliV (pc := 44) (As := [.ref h_p1]) (rest := []) (ws' := (wsX4_takeStatement cA h_o h_p1 h_o_text h_p1_letters h_p1_digits h_p1_xs h_p1_ys h_p1_zs o_side o_length r3.2.1 r3.2.2.1 o_text_n o_text p1_letters_n r3.2.2.2.1 p1_digits_n r3.2.2.2.2.1 p1_xs_n r3.2.2.2.2.2.1 p1_ys_n r3.2.2.2.2.2.2.1 p1_zs_n r3.2.2.2.2.2.2.2)) (kX4_takeMove l D cA h_o h_p1 h_o_text h_p1_letters h_p1_digits h_p1_xs h_p1_ys h_p1_zs o_side o_length r1 p1_count o_text_n o_text p1_letters_n p1_letters p1_digits_n p1_digits p1_xs_n p1_xs p1_ys_n p1_ys p1_zs_n p1_zs  N r3 er3) ivX4_47 ⟨rfl, rfl⟩ ⟨by decide, by decide⟩ rfl ⟨Nat.zero_le _, Nat.zero_le _⟩ rfl rfl [0, 1, 2, 3, 4, 5, 6, 7] rfl (by decide) rfl rfl rfl (Nat.le_of_ble_eq_true rfl) dX4_takeStatement_44 ?_
    exact z_zret dX4_takeStatement_47 hf0 (fun hf0 => by obtain rfl := Option.some.inj hf0; exact hE)
  have hf0 := fn w8_0 hf0
  by_cases w8_1 : r2 = 84
  · have hf0 := fp w8_1 hf0
    refine y_lookup (pc := 8) (off := 28) (tgt := 36) dX4_takeStatement_8 (by decide) (by rw [w8_1]; first | done | rfl) (by decide) ?_
    refine z_aload_n 0 (pc := 36) dX4_takeStatement_36 rfl ?_
    refine z_aload_n 1 (pc := 37) dX4_takeStatement_37 rfl ?_
    obtain ⟨r4, er4, hf0⟩ := bp hf0
    refine z_calliV (pc := 38) (As := [.ref h_p1]) (rest := []) (ws' := (wsX4_takeStatement cA h_o h_p1 h_o_text h_p1_letters h_p1_digits h_p1_xs h_p1_ys h_p1_zs o_side o_length r4.2.1 r4.2.2.1 o_text_n o_text p1_letters_n r4.2.2.2.1 p1_digits_n r4.2.2.2.2.1 p1_xs_n r4.2.2.2.2.2.1 p1_ys_n r4.2.2.2.2.2.2.1 p1_zs_n r4.2.2.2.2.2.2.2)) (kX4_takeChange l D cA h_o h_p1 h_o_text h_p1_letters h_p1_digits h_p1_xs h_p1_ys h_p1_zs o_side o_length r1 p1_count o_text_n o_text p1_letters_n p1_letters p1_digits_n p1_digits p1_xs_n p1_xs p1_ys_n p1_ys p1_zs_n p1_zs  N r4 er4) ivX4_44 ⟨rfl, rfl⟩ ⟨by decide, by decide⟩ rfl ⟨Nat.zero_le _, Nat.zero_le _⟩ rfl rfl [0, 1, 2, 3, 4, 5, 6, 7] rfl (by decide) rfl rfl rfl (Nat.le_of_ble_eq_true rfl) dX4_takeStatement_38 ?_
    exact z_zret dX4_takeStatement_41 hf0 (fun hf0 => by obtain rfl := Option.some.inj hf0; exact hE)
  have hf0 := fn w8_1 hf0
  refine y_lookup (pc := 8) (off := 40) (tgt := 48) dX4_takeStatement_8 (by decide) ((lv_osw w8_0 (by decide)).trans ((lv_osw w8_1 (by decide)).trans rfl)) (by decide) ?_
  refine z_iconst (pc := 48) (v := 0) dX4_takeStatement_48 (by decide) ?_
  obtain rfl := Option.some.inj hf0
  exact z_zretL (by decide) hE dX4_takeStatement_49

abbrev RX4_parse : Type := Int32 × Int32 × Int32 × Int32 × (Nat → Int32) × (Nat → Int32) × (Nat → Int32) × (Nat → Int32) × (Nat → Int32)
abbrev rmX4_parse : Room := { frames := 5, cells := 0, slots := 0, locals := 112 }
abbrev wsX4_parse (cA : Nat → ClassId) (h_o : Nat) (h_p1 : Nat) (h_o_text : Nat) (h_p1_letters : Nat) (h_p1_digits : Nat) (h_p1_xs : Nat) (h_p1_ys : Nat) (h_p1_zs : Nat) (o_side : Int32) (o_length : Int32) (o_place : Int32) (p1_count : Int32) (o_text_n : Nat) (o_text : Nat → Int32) (p1_letters_n : Nat) (p1_letters : Nat → Int32) (p1_digits_n : Nat) (p1_digits : Nat → Int32) (p1_xs_n : Nat) (p1_xs : Nat → Int32) (p1_ys_n : Nat) (p1_ys : Nat → Int32) (p1_zs_n : Nat) (p1_zs : Nat → Int32) : va_W := [(h_o, .inr (4, [.int o_side, .ref h_o_text, .int o_length, .int o_place])), (h_p1, .inr (3, [.int p1_count, .ref h_p1_letters, .ref h_p1_digits, .ref h_p1_xs, .ref h_p1_ys, .ref h_p1_zs])), (h_o_text, .inl (cA 0, o_text_n, .inl o_text)), (h_p1_letters, .inl (cA 2, p1_letters_n, .inl p1_letters)), (h_p1_digits, .inl (cA 0, p1_digits_n, .inl p1_digits)), (h_p1_xs, .inl (cA 0, p1_xs_n, .inl p1_xs)), (h_p1_ys, .inl (cA 0, p1_ys_n, .inl p1_ys)), (h_p1_zs, .inl (cA 0, p1_zs_n, .inl p1_zs))]
def JX4_parse_50 (o_length : Int32) (x2_50 : Int32) (o_place_50 : Int32) (p1_count_50 : Int32) (p1_digits_50 : Nat → Int32) (p1_letters_50 : Nat → Int32) (p1_xs_50 : Nat → Int32) (p1_ys_50 : Nat → Int32) (p1_zs_50 : Nat → Int32) : Option (RX4_parse) :=
  (if x2_50 = 0 then some ((-1) - o_place_50, 0, o_place_50, p1_count_50, p1_letters_50, p1_digits_50, p1_xs_50, p1_ys_50, p1_zs_50) else (if o_place_50 < o_length then some ((-1) - o_place_50, 0, o_place_50, p1_count_50, p1_letters_50, p1_digits_50, p1_xs_50, p1_ys_50, p1_zs_50) else some (p1_count_50, 0, o_place_50, p1_count_50, p1_letters_50, p1_digits_50, p1_xs_50, p1_ys_50, p1_zs_50)))
def LX4_parse_17 (o_length : Int32) (N : Nat) (o_side : Int32) (o_text_n : Nat) (o_text : Nat → Int32) (p1_letters_n : Nat) (p1_digits_n : Nat) (p1_xs_n : Nat) (p1_ys_n : Nat) (p1_zs_n : Nat) : Nat → Int32 → Int32 → Int32 → Int32 → (Nat → Int32) → (Nat → Int32) → (Nat → Int32) → (Nat → Int32) → (Nat → Int32) → Option (Int32 × Int32 × Int32 × Int32 × (Nat → Int32) × (Nat → Int32) × (Nat → Int32) × (Nat → Int32) × (Nat → Int32))
  | 0, _, _, _, _, _, _, _, _, _ => none
  | n + 1, x2_17, x3_17, o_place_17, p1_count_17, p1_digits_17, p1_letters_17, p1_xs_17, p1_ys_17, p1_zs_17 => (if 32 ≤ x3_17 then some (x2_17, x3_17, o_place_17, p1_count_17, p1_digits_17, p1_letters_17, p1_xs_17, p1_ys_17, p1_zs_17) else (if x2_17 = 0 then some (x2_17, x3_17, o_place_17, p1_count_17, p1_digits_17, p1_letters_17, p1_xs_17, p1_ys_17, p1_zs_17) else (if o_length ≤ o_place_17 then some (x2_17, x3_17, o_place_17, p1_count_17, p1_digits_17, p1_letters_17, p1_xs_17, p1_ys_17, p1_zs_17) else ((fX4_takeStatement N o_side o_length o_place_17 p1_count_17 o_text_n o_text p1_letters_n p1_letters_17 p1_digits_n p1_digits_17 p1_xs_n p1_xs_17 p1_ys_n p1_ys_17 p1_zs_n p1_zs_17).bind fun r4 => LX4_parse_17 o_length N o_side o_text_n o_text p1_letters_n p1_digits_n p1_xs_n p1_ys_n p1_zs_n n r4.1 (x3_17 + 1) r4.2.1 r4.2.2.1 r4.2.2.2.2.1 r4.2.2.2.1 r4.2.2.2.2.2.1 r4.2.2.2.2.2.2.1 r4.2.2.2.2.2.2.2))))
def fX4_parse (N : Nat)  (o_side : Int32) (o_length : Int32) (o_place : Int32) (p1_count : Int32) (o_text_n : Nat) (o_text : Nat → Int32) (p1_letters_n : Nat) (p1_letters : Nat → Int32) (p1_digits_n : Nat) (p1_digits : Nat → Int32) (p1_xs_n : Nat) (p1_xs : Nat → Int32) (p1_ys_n : Nat) (p1_ys : Nat → Int32) (p1_zs_n : Nat) (p1_zs : Nat → Int32) : Option RX4_parse :=
  ((fX3_clear N p1_count).bind fun r1 => ((fX4_takeStatement N o_side o_length 0 r1 o_text_n o_text p1_letters_n p1_letters p1_digits_n p1_digits p1_xs_n p1_xs p1_ys_n p1_ys p1_zs_n p1_zs).bind fun r2 => ((LX4_parse_17 o_length N o_side o_text_n o_text p1_letters_n p1_digits_n p1_xs_n p1_ys_n p1_zs_n N r2.1 1 r2.2.1 r2.2.2.1 r2.2.2.2.2.1 r2.2.2.2.1 r2.2.2.2.2.2.1 r2.2.2.2.2.2.2.1 r2.2.2.2.2.2.2.2).bind fun r3 => JX4_parse_50 o_length r3.1 r3.2.2.1 r3.2.2.2.1 r3.2.2.2.2.1 r3.2.2.2.2.2.1 r3.2.2.2.2.2.2.1 r3.2.2.2.2.2.2.2.1 r3.2.2.2.2.2.2.2.2)))
set_option maxHeartbeats 4000000 in
set_option maxRecDepth 100000 in
theorem kX4_parse (l : Launch) (D : va_G) (cA : Nat → ClassId) (h_o : Nat) (h_p1 : Nat) (h_o_text : Nat) (h_p1_letters : Nat) (h_p1_digits : Nat) (h_p1_xs : Nat) (h_p1_ys : Nat) (h_p1_zs : Nat) (o_side : Int32) (o_length : Int32) (o_place : Int32) (p1_count : Int32) (o_text_n : Nat) (o_text : Nat → Int32) (p1_letters_n : Nat) (p1_letters : Nat → Int32) (p1_digits_n : Nat) (p1_digits : Nat → Int32) (p1_xs_n : Nat) (p1_xs : Nat → Int32) (p1_ys_n : Nat) (p1_ys : Nat → Int32) (p1_zs_n : Nat) (p1_zs : Nat → Int32)  (N : Nat) (res : RX4_parse) (hf0 : fX4_parse N o_side o_length o_place p1_count o_text_n o_text p1_letters_n p1_letters p1_digits_n p1_digits p1_xs_n p1_xs p1_ys_n p1_ys p1_zs_n p1_zs = some res) : CtI l yX4_parse (Cond.code yX4_parse cX4_parse 4 (some .int) :: tblG) rmX4_parse D cA (wsX4_parse cA h_o h_p1 h_o_text h_p1_letters h_p1_digits h_p1_xs h_p1_ys h_p1_zs o_side o_length o_place p1_count o_text_n o_text p1_letters_n p1_letters p1_digits_n p1_digits p1_xs_n p1_xs p1_ys_n p1_ys p1_zs_n p1_zs) [.ref h_o, .ref h_p1] res.1 (wsX4_parse cA h_o h_p1 h_o_text h_p1_letters h_p1_digits h_p1_xs h_p1_ys h_p1_zs o_side res.2.1 res.2.2.1 res.2.2.2.1 o_text_n o_text p1_letters_n res.2.2.2.2.1 p1_digits_n res.2.2.2.2.2.1 p1_xs_n res.2.2.2.2.2.2.1 p1_ys_n res.2.2.2.2.2.2.2.1 p1_zs_n res.2.2.2.2.2.2.2.2) := by
  refine CtI.start (lv := [(0, .ref h_o), (1, .ref h_p1)]) (by decide) (Nat.le_of_ble_eq_true rfl) rfl (fun κ hE => ?_)
  rw [fX4_parse] at hf0
  refine z_aload_n 0 (pc := 0) dX4_parse_0 rfl ?_
  refine z_iconst (pc := 1) (v := 0) dX4_parse_1 (by decide) ?_
  refine z_put 0 3 (pc := 2) (ws' := (wsX4_parse cA h_o h_p1 h_o_text h_p1_letters h_p1_digits h_p1_xs h_p1_ys h_p1_zs o_side o_length 0 p1_count o_text_n o_text p1_letters_n p1_letters p1_digits_n p1_digits p1_xs_n p1_xs p1_ys_n p1_ys p1_zs_n p1_zs)) rfl rfl inX4 tyX4 tyX4_ok nmX4 (by decide) flX4_22 rfl rfl rfl rfl (Nat.le_of_ble_eq_true rfl) dX4_parse_2 rfl ?_
  refine z_aload_n 1 (pc := 5) dX4_parse_5 rfl ?_
  obtain ⟨r1, er1, hf0⟩ := bp hf0
  refine z_callvV (pc := 6) (As := []) (rest := []) (ws' := (wsX4_parse cA h_o h_p1 h_o_text h_p1_letters h_p1_digits h_p1_xs h_p1_ys h_p1_zs o_side o_length 0 r1 o_text_n o_text p1_letters_n p1_letters p1_digits_n p1_digits p1_xs_n p1_xs p1_ys_n p1_ys p1_zs_n p1_zs)) (kX3_clear l D cA h_p1 p1_count (.ref h_p1_letters) (.ref h_p1_digits) (.ref h_p1_xs) (.ref h_p1_ys) (.ref h_p1_zs)  N r1 er1) ivX4_25 ⟨rfl, rfl⟩ ⟨by decide, by decide⟩ rfl ⟨Nat.zero_le _, Nat.zero_le _⟩ rfl rfl [1] rfl (by decide) rfl rfl rfl (Nat.le_of_ble_eq_true rfl) dX4_parse_6 ?_
  refine z_aload_n 0 (pc := 9) dX4_parse_9 rfl ?_
  refine z_aload_n 1 (pc := 10) dX4_parse_10 rfl ?_
  obtain ⟨r2, er2, hf0⟩ := bp hf0
  refine z_calliV (pc := 11) (As := [.ref h_p1]) (rest := []) (ws' := (wsX4_parse cA h_o h_p1 h_o_text h_p1_letters h_p1_digits h_p1_xs h_p1_ys h_p1_zs o_side o_length r2.2.1 r2.2.2.1 o_text_n o_text p1_letters_n r2.2.2.2.1 p1_digits_n r2.2.2.2.2.1 p1_xs_n r2.2.2.2.2.2.1 p1_ys_n r2.2.2.2.2.2.2.1 p1_zs_n r2.2.2.2.2.2.2.2)) (kX4_takeStatement l D cA h_o h_p1 h_o_text h_p1_letters h_p1_digits h_p1_xs h_p1_ys h_p1_zs o_side o_length 0 r1 o_text_n o_text p1_letters_n p1_letters p1_digits_n p1_digits p1_xs_n p1_xs p1_ys_n p1_ys p1_zs_n p1_zs  N r2 er2) ivX4_30 ⟨rfl, rfl⟩ ⟨by decide, by decide⟩ rfl ⟨Nat.zero_le _, Nat.zero_le _⟩ rfl rfl [0, 1, 2, 3, 4, 5, 6, 7] rfl (by decide) rfl rfl rfl (Nat.le_of_ble_eq_true rfl) dX4_parse_11 ?_
  refine z_istore_n (pc := 14) (lv' := [(2, .int r2.1), (0, .ref h_o), (1, .ref h_p1)]) dX4_parse_14 (by decide) rfl ?_
  refine z_iconst (pc := 15) (v := 1) dX4_parse_15 (by decide) ?_
  refine z_istore_n (pc := 16) (lv' := [(3, .int 1), (2, .int r2.1), (0, .ref h_o), (1, .ref h_p1)]) dX4_parse_16 (by decide) rfl ?_
  have j50 : ∀ (x2_50 : Int32) (o_place_50 : Int32) (p1_count_50 : Int32) (p1_digits_50 : Nat → Int32) (p1_letters_50 : Nat → Int32) (p1_xs_50 : Nat → Int32) (p1_ys_50 : Nat → Int32) (p1_zs_50 : Nat → Int32), JX4_parse_50 o_length x2_50 o_place_50 p1_count_50 p1_digits_50 p1_letters_50 p1_xs_50 p1_ys_50 p1_zs_50 = some res → V κ l D cA rmX4_parse cX4_parse 4 RX4 (some .int) 0 0 50 [(0, .ref h_o), (1, .ref h_p1), (2, .int x2_50)] [] (wsX4_parse cA h_o h_p1 h_o_text h_p1_letters h_p1_digits h_p1_xs h_p1_ys h_p1_zs o_side o_length o_place_50 p1_count_50 o_text_n o_text p1_letters_n p1_letters_50 p1_digits_n p1_digits_50 p1_xs_n p1_xs_50 p1_ys_n p1_ys_50 p1_zs_n p1_zs_50) := by
    intro x2_50 o_place_50 p1_count_50 p1_digits_50 p1_letters_50 p1_xs_50 p1_ys_50 p1_zs_50 hf0
    rw [JX4_parse_50] at hf0
    refine z_iload_n 2 (pc := 50) dX4_parse_50 rfl ?_
    refine z_if_eq (pc := 51) (tgt := 69) dX4_parse_51 (by decide) hf0 (fun hf0 => ?_) (fun hf0 => ?_)
    · refine z_iconst (pc := 69) (v := 0) dX4_parse_69 (by decide) ?_
      refine z_istore_n (pc := 70) (lv' := [(3, .int 0), (0, .ref h_o), (1, .ref h_p1), (2, .int x2_50)]) dX4_parse_70 (by decide) rfl ?_
      refine z_aload_n 1 (pc := 71) dX4_parse_71 rfl ?_
      refine z_iconst (pc := 72) (v := 0) dX4_parse_72 (by decide) ?_
      refine z_put 0 2 (pc := 73) (ws' := (wsX4_parse cA h_o h_p1 h_o_text h_p1_letters h_p1_digits h_p1_xs h_p1_ys h_p1_zs o_side 0 o_place_50 p1_count_50 o_text_n o_text p1_letters_n p1_letters_50 p1_digits_n p1_digits_50 p1_xs_n p1_xs_50 p1_ys_n p1_ys_50 p1_zs_n p1_zs_50)) rfl rfl inX4 tyX4 tyX4_ok nmX4 (by decide) flX4_19 rfl rfl rfl rfl (Nat.le_of_ble_eq_true rfl) dX4_parse_73 rfl ?_
      refine z_iload_n 0 (pc := 76) dX4_parse_76 rfl ?_
      refine y_if_eq (pc := 77) (tgt := 87) dX4_parse_77 (by decide) (fun _ => ?_) (fun hc => absurd (by decide) hc)
      refine z_iconst (pc := 87) (v := (-1)) dX4_parse_87 (by decide) ?_
      refine z_aload_n 1 (pc := 88) dX4_parse_88 rfl ?_
      refine z_get 0 3 (pc := 89) (v := .int o_place_50) rfl rfl inX4 (by decide) flX4_22 rfl dX4_parse_89 ?_
      refine z_isub (pc := 92) dX4_parse_92 ?_
      obtain rfl := Option.some.inj hf0
      exact z_iret hE dX4_parse_93
    · refine z_aload_n 0 (pc := 54) dX4_parse_54 rfl ?_
      refine z_get 0 3 (pc := 55) (v := .int o_place_50) rfl rfl inX4 (by decide) flX4_22 rfl dX4_parse_55 ?_
      refine z_aload_n 0 (pc := 58) dX4_parse_58 rfl ?_
      refine z_get 0 2 (pc := 59) (v := .int o_length) rfl rfl inX4 (by decide) flX4_19 rfl dX4_parse_59 ?_
      refine z_icmp_lt (pc := 62) (tgt := 69) dX4_parse_62 (by decide) hf0 (fun hf0 => ?_) (fun hf0 => ?_)
      · refine z_iconst (pc := 69) (v := 0) dX4_parse_69 (by decide) ?_
        refine z_istore_n (pc := 70) (lv' := [(3, .int 0), (0, .ref h_o), (1, .ref h_p1), (2, .int x2_50)]) dX4_parse_70 (by decide) rfl ?_
        refine z_aload_n 1 (pc := 71) dX4_parse_71 rfl ?_
        refine z_iconst (pc := 72) (v := 0) dX4_parse_72 (by decide) ?_
        refine z_put 0 2 (pc := 73) (ws' := (wsX4_parse cA h_o h_p1 h_o_text h_p1_letters h_p1_digits h_p1_xs h_p1_ys h_p1_zs o_side 0 o_place_50 p1_count_50 o_text_n o_text p1_letters_n p1_letters_50 p1_digits_n p1_digits_50 p1_xs_n p1_xs_50 p1_ys_n p1_ys_50 p1_zs_n p1_zs_50)) rfl rfl inX4 tyX4 tyX4_ok nmX4 (by decide) flX4_19 rfl rfl rfl rfl (Nat.le_of_ble_eq_true rfl) dX4_parse_73 rfl ?_
        refine z_iload_n 0 (pc := 76) dX4_parse_76 rfl ?_
        refine y_if_eq (pc := 77) (tgt := 87) dX4_parse_77 (by decide) (fun _ => ?_) (fun hc => absurd (by decide) hc)
        refine z_iconst (pc := 87) (v := (-1)) dX4_parse_87 (by decide) ?_
        refine z_aload_n 1 (pc := 88) dX4_parse_88 rfl ?_
        refine z_get 0 3 (pc := 89) (v := .int o_place_50) rfl rfl inX4 (by decide) flX4_22 rfl dX4_parse_89 ?_
        refine z_isub (pc := 92) dX4_parse_92 ?_
        obtain rfl := Option.some.inj hf0
        exact z_iret hE dX4_parse_93
      · refine z_iconst (pc := 65) (v := 1) dX4_parse_65 (by decide) ?_
        refine z_goto (pc := 66) (tgt := 70) dX4_parse_66 (by decide) ?_
        refine z_istore_n (pc := 70) (lv' := [(3, .int 1), (0, .ref h_o), (1, .ref h_p1), (2, .int x2_50)]) dX4_parse_70 (by decide) rfl ?_
        refine z_aload_n 1 (pc := 71) dX4_parse_71 rfl ?_
        refine z_iconst (pc := 72) (v := 0) dX4_parse_72 (by decide) ?_
        refine z_put 0 2 (pc := 73) (ws' := (wsX4_parse cA h_o h_p1 h_o_text h_p1_letters h_p1_digits h_p1_xs h_p1_ys h_p1_zs o_side 0 o_place_50 p1_count_50 o_text_n o_text p1_letters_n p1_letters_50 p1_digits_n p1_digits_50 p1_xs_n p1_xs_50 p1_ys_n p1_ys_50 p1_zs_n p1_zs_50)) rfl rfl inX4 tyX4 tyX4_ok nmX4 (by decide) flX4_19 rfl rfl rfl rfl (Nat.le_of_ble_eq_true rfl) dX4_parse_73 rfl ?_
        refine z_iload_n 0 (pc := 76) dX4_parse_76 rfl ?_
        refine y_if_eq (pc := 77) (tgt := 87) dX4_parse_77 (by decide) (fun hc => absurd hc (by decide)) (fun _ => ?_)
        refine z_aload_n 2 (pc := 80) dX4_parse_80 rfl ?_
        refine z_get 1 0 (pc := 81) (v := .int p1_count_50) rfl rfl inX3 (by decide) flX4_34 rfl dX4_parse_81 ?_
        refine z_goto (pc := 84) (tgt := 93) dX4_parse_84 (by decide) ?_
        obtain rfl := Option.some.inj hf0
        exact z_iret hE dX4_parse_93
  obtain ⟨y17, hf0_17, hf0⟩ := bp hf0
  have lp17 : ∀ (n : Nat) (x2_17 : Int32) (x3_17 : Int32) (o_place_17 : Int32) (p1_count_17 : Int32) (p1_digits_17 : Nat → Int32) (p1_letters_17 : Nat → Int32) (p1_xs_17 : Nat → Int32) (p1_ys_17 : Nat → Int32) (p1_zs_17 : Nat → Int32), LX4_parse_17 o_length N o_side o_text_n o_text p1_letters_n p1_digits_n p1_xs_n p1_ys_n p1_zs_n n x2_17 x3_17 o_place_17 p1_count_17 p1_digits_17 p1_letters_17 p1_xs_17 p1_ys_17 p1_zs_17 = some y17 → V κ l D cA rmX4_parse cX4_parse 4 RX4 (some .int) 0 0 17 [(0, .ref h_o), (1, .ref h_p1), (2, .int x2_17), (3, .int x3_17)] [] (wsX4_parse cA h_o h_p1 h_o_text h_p1_letters h_p1_digits h_p1_xs h_p1_ys h_p1_zs o_side o_length o_place_17 p1_count_17 o_text_n o_text p1_letters_n p1_letters_17 p1_digits_n p1_digits_17 p1_xs_n p1_xs_17 p1_ys_n p1_ys_17 p1_zs_n p1_zs_17) := by
    intro n
    induction n with
    | zero => intro x2_17 x3_17 o_place_17 p1_count_17 p1_digits_17 p1_letters_17 p1_xs_17 p1_ys_17 p1_zs_17 hf0_17; rw [LX4_parse_17] at hf0_17; cases hf0_17
    | succ n17 ih17 =>
      intro x2_17 x3_17 o_place_17 p1_count_17 p1_digits_17 p1_letters_17 p1_xs_17 p1_ys_17 p1_zs_17 hf0_17
      rw [LX4_parse_17] at hf0_17
      refine z_iload_n 3 (pc := 17) dX4_parse_17 rfl ?_
      refine z_bipush (pc := 18) (v := 32) dX4_parse_18 (by decide) ?_
      refine z_icmp_ge (pc := 20) (tgt := 50) dX4_parse_20 (by decide) hf0_17 (fun hf0_17 => ?_) (fun hf0_17 => ?_)
      · obtain rfl := Option.some.inj hf0_17
        exact z_lv [0, 1, 2] rfl (j50 x2_17 o_place_17 p1_count_17 p1_digits_17 p1_letters_17 p1_xs_17 p1_ys_17 p1_zs_17 hf0)
      · refine z_iload_n 2 (pc := 23) dX4_parse_23 rfl ?_
        refine z_if_eq (pc := 24) (tgt := 50) dX4_parse_24 (by decide) hf0_17 (fun hf0_17 => ?_) (fun hf0_17 => ?_)
        · obtain rfl := Option.some.inj hf0_17
          exact z_lv [0, 1, 2] rfl (j50 x2_17 o_place_17 p1_count_17 p1_digits_17 p1_letters_17 p1_xs_17 p1_ys_17 p1_zs_17 hf0)
        · refine z_aload_n 0 (pc := 27) dX4_parse_27 rfl ?_
          refine z_get 0 3 (pc := 28) (v := .int o_place_17) rfl rfl inX4 (by decide) flX4_22 rfl dX4_parse_28 ?_
          refine z_aload_n 0 (pc := 31) dX4_parse_31 rfl ?_
          refine z_get 0 2 (pc := 32) (v := .int o_length) rfl rfl inX4 (by decide) flX4_19 rfl dX4_parse_32 ?_
          refine z_icmp_ge (pc := 35) (tgt := 50) dX4_parse_35 (by decide) hf0_17 (fun hf0_17 => ?_) (fun hf0_17 => ?_)
          · obtain rfl := Option.some.inj hf0_17
            exact z_lv [0, 1, 2] rfl (j50 x2_17 o_place_17 p1_count_17 p1_digits_17 p1_letters_17 p1_xs_17 p1_ys_17 p1_zs_17 hf0)
          · refine z_aload_n 0 (pc := 38) dX4_parse_38 rfl ?_
            refine z_aload_n 1 (pc := 39) dX4_parse_39 rfl ?_
            obtain ⟨r4, er4, hf0_17⟩ := bp hf0_17
            refine z_calliV (pc := 40) (As := [.ref h_p1]) (rest := []) (ws' := (wsX4_parse cA h_o h_p1 h_o_text h_p1_letters h_p1_digits h_p1_xs h_p1_ys h_p1_zs o_side o_length r4.2.1 r4.2.2.1 o_text_n o_text p1_letters_n r4.2.2.2.1 p1_digits_n r4.2.2.2.2.1 p1_xs_n r4.2.2.2.2.2.1 p1_ys_n r4.2.2.2.2.2.2.1 p1_zs_n r4.2.2.2.2.2.2.2)) (kX4_takeStatement l D cA h_o h_p1 h_o_text h_p1_letters h_p1_digits h_p1_xs h_p1_ys h_p1_zs o_side o_length o_place_17 p1_count_17 o_text_n o_text p1_letters_n p1_letters_17 p1_digits_n p1_digits_17 p1_xs_n p1_xs_17 p1_ys_n p1_ys_17 p1_zs_n p1_zs_17  N r4 er4) ivX4_30 ⟨rfl, rfl⟩ ⟨by decide, by decide⟩ rfl ⟨Nat.zero_le _, Nat.zero_le _⟩ rfl rfl [0, 1, 2, 3, 4, 5, 6, 7] rfl (by decide) rfl rfl rfl (Nat.le_of_ble_eq_true rfl) dX4_parse_40 ?_
            refine z_istore_n (pc := 43) (lv' := [(2, .int r4.1), (0, .ref h_o), (1, .ref h_p1), (3, .int x3_17)]) dX4_parse_43 (by decide) rfl ?_
            refine z_iinc 3 (pc := 44) (v := x3_17 + 1) (lv' := [(3, .int (x3_17 + 1)), (2, .int r4.1), (0, .ref h_o), (1, .ref h_p1)]) dX4_parse_44 rfl rfl (by decide) rfl ?_
            refine z_goto (pc := 47) (tgt := 17) dX4_parse_47 (by decide) ?_
            exact z_lv [2, 3, 1, 0] rfl (ih17 r4.1 (x3_17 + 1) r4.2.1 r4.2.2.1 r4.2.2.2.2.1 r4.2.2.2.1 r4.2.2.2.2.2.1 r4.2.2.2.2.2.2.1 r4.2.2.2.2.2.2.2 hf0_17)
  exact z_lv [2, 3, 1, 0] rfl (lp17 N r2.1 1 r2.2.1 r2.2.2.1 r2.2.2.2.2.1 r2.2.2.2.1 r2.2.2.2.2.2.1 r2.2.2.2.2.2.2.1 r2.2.2.2.2.2.2.2 hf0_17)
end
section
abbrev RX1_startAnew : Type := Int32 × Int32 × Int32 × Int32 × Int32 × Int32 × Int32
abbrev rmX1_startAnew : Room := { frames := 0, cells := 0, slots := 0, locals := 0 }
abbrev wsX1_startAnew (cA : Nat → ClassId) (h_o : Nat) (o_hasRun : Int32) (o_time : Int32) (o_ended : Int32) (o_x : Int32) (o_y : Int32) (o_z : Int32) (o_cut : Int32) (o_held : Int32) : va_W := [(h_o, .inr (1, [.int o_hasRun, .int o_time, .int o_ended, .int o_x, .int o_y, .int o_z, .int o_cut, .int o_held]))]
def fX1_startAnew (N : Nat)  (o_time : Int32) (o_ended : Int32) (o_x : Int32) (o_y : Int32) (o_z : Int32) (o_cut : Int32) (o_held : Int32) : Option RX1_startAnew :=
  some (0, 0, 0, 0, 100, 0, 0)
set_option maxHeartbeats 4000000 in
set_option maxRecDepth 100000 in
theorem kX1_startAnew (l : Launch) (D : va_G) (cA : Nat → ClassId) (h_o : Nat) (o_hasRun : Int32) (o_time : Int32) (o_ended : Int32) (o_x : Int32) (o_y : Int32) (o_z : Int32) (o_cut : Int32) (o_held : Int32)  (N : Nat) (res : RX1_startAnew) (hf0 : fX1_startAnew N o_time o_ended o_x o_y o_z o_cut o_held = some res) : CtV l yX1_startAnew (Cond.code yX1_startAnew cX1_startAnew 1 (none) :: tblG) rmX1_startAnew D cA (wsX1_startAnew cA h_o o_hasRun o_time o_ended o_x o_y o_z o_cut o_held) [.ref h_o] (wsX1_startAnew cA h_o o_hasRun res.1 res.2.1 res.2.2.1 res.2.2.2.1 res.2.2.2.2.1 res.2.2.2.2.2.1 res.2.2.2.2.2.2) := by
  refine CtV.start (lv := [(0, .ref h_o)]) (by decide) (Nat.le_of_ble_eq_true rfl) rfl (fun κ hE => ?_)
  rw [fX1_startAnew] at hf0
  refine z_aload_n 0 (pc := 0) dX1_startAnew_0 rfl ?_
  refine z_iconst (pc := 1) (v := 0) dX1_startAnew_1 (by decide) ?_
  refine z_put 0 1 (pc := 2) (ws' := (wsX1_startAnew cA h_o o_hasRun 0 o_ended o_x o_y o_z o_cut o_held)) rfl rfl inX1 tyX1 tyX1_ok nmX1 (by decide) flX1_18 rfl rfl rfl rfl (Nat.le_of_ble_eq_true rfl) dX1_startAnew_2 rfl ?_
  refine z_aload_n 0 (pc := 5) dX1_startAnew_5 rfl ?_
  refine z_iconst (pc := 6) (v := 0) dX1_startAnew_6 (by decide) ?_
  refine z_put 0 2 (pc := 7) (ws' := (wsX1_startAnew cA h_o o_hasRun 0 0 o_x o_y o_z o_cut o_held)) rfl rfl inX1 tyX1 tyX1_ok nmX1 (by decide) flX1_22 rfl rfl rfl rfl (Nat.le_of_ble_eq_true rfl) dX1_startAnew_7 rfl ?_
  refine z_aload_n 0 (pc := 10) dX1_startAnew_10 rfl ?_
  refine z_iconst (pc := 11) (v := 0) dX1_startAnew_11 (by decide) ?_
  refine z_put 0 3 (pc := 12) (ws' := (wsX1_startAnew cA h_o o_hasRun 0 0 0 o_y o_z o_cut o_held)) rfl rfl inX1 tyX1 tyX1_ok nmX1 (by decide) flX1_25 rfl rfl rfl rfl (Nat.le_of_ble_eq_true rfl) dX1_startAnew_12 rfl ?_
  refine z_aload_n 0 (pc := 15) dX1_startAnew_15 rfl ?_
  refine z_iconst (pc := 16) (v := 0) dX1_startAnew_16 (by decide) ?_
  refine z_put 0 4 (pc := 17) (ws' := (wsX1_startAnew cA h_o o_hasRun 0 0 0 0 o_z o_cut o_held)) rfl rfl inX1 tyX1 tyX1_ok nmX1 (by decide) flX1_28 rfl rfl rfl rfl (Nat.le_of_ble_eq_true rfl) dX1_startAnew_17 rfl ?_
  refine z_aload_n 0 (pc := 20) dX1_startAnew_20 rfl ?_
  refine z_bipush (pc := 21) (v := 100) dX1_startAnew_21 (by decide) ?_
  refine z_put 0 5 (pc := 23) (ws' := (wsX1_startAnew cA h_o o_hasRun 0 0 0 0 100 o_cut o_held)) rfl rfl inX1 tyX1 tyX1_ok nmX1 (by decide) flX1_31 rfl rfl rfl rfl (Nat.le_of_ble_eq_true rfl) dX1_startAnew_23 rfl ?_
  refine z_aload_n 0 (pc := 26) dX1_startAnew_26 rfl ?_
  refine z_iconst (pc := 27) (v := 0) dX1_startAnew_27 (by decide) ?_
  refine z_put 0 6 (pc := 28) (ws' := (wsX1_startAnew cA h_o o_hasRun 0 0 0 0 100 0 o_held)) rfl rfl inX1 tyX1 tyX1_ok nmX1 (by decide) flX1_34 rfl rfl rfl rfl (Nat.le_of_ble_eq_true rfl) dX1_startAnew_28 rfl ?_
  refine z_aload_n 0 (pc := 31) dX1_startAnew_31 rfl ?_
  refine z_iconst (pc := 32) (v := 0) dX1_startAnew_32 (by decide) ?_
  refine z_put 0 7 (pc := 33) (ws' := (wsX1_startAnew cA h_o o_hasRun 0 0 0 0 100 0 0)) rfl rfl inX1 tyX1 tyX1_ok nmX1 (by decide) flX1_37 rfl rfl rfl rfl (Nat.le_of_ble_eq_true rfl) dX1_startAnew_33 rfl ?_
  obtain rfl := Option.some.inj hf0
  exact z_vret hE dX1_startAnew_36

abbrev RX1_difference : Type := Int32
abbrev rmX1_difference : Room := { frames := 0, cells := 0, slots := 0, locals := 0 }
abbrev wsX1_difference (cA : Nat → ClassId)   : va_W := []
def fX1_difference (N : Nat) (a0 : Int32) (a1 : Int32)  : Option RX1_difference :=
  (if a1 = (-1) then some 0 else some (a1 - a0))
set_option maxHeartbeats 4000000 in
set_option maxRecDepth 100000 in
theorem kX1_difference (l : Launch) (D : va_G) (cA : Nat → ClassId)   (a0 : Int32) (a1 : Int32) (N : Nat) (res : RX1_difference) (hf0 : fX1_difference N a0 a1 = some res) : CtI l yX1_difference (Cond.code yX1_difference cX1_difference 2 (some .int) :: tblG) rmX1_difference D cA (wsX1_difference cA ) [.int a0, .int a1] res (wsX1_difference cA ) := by
  refine CtI.start (lv := [(0, .int a0), (1, .int a1)]) (by decide) (Nat.le_of_ble_eq_true rfl) rfl (fun κ hE => ?_)
  rw [fX1_difference] at hf0
  refine z_iload_n 1 (pc := 0) dX1_difference_0 rfl ?_
  refine z_iconst (pc := 1) (v := (-1)) dX1_difference_1 (by decide) ?_
  refine z_icmp_ne (pc := 2) (tgt := 9) dX1_difference_2 (by decide) hf0 (fun hf0 => ?_) (fun hf0 => ?_)
  · refine z_iload_n 1 (pc := 9) dX1_difference_9 rfl ?_
    refine z_iload_n 0 (pc := 10) dX1_difference_10 rfl ?_
    refine z_isub (pc := 11) dX1_difference_11 ?_
    obtain rfl := Option.some.inj hf0
    exact z_iret hE dX1_difference_12
  · refine z_iconst (pc := 5) (v := 0) dX1_difference_5 (by decide) ?_
    refine z_goto (pc := 6) (tgt := 12) dX1_difference_6 (by decide) ?_
    obtain rfl := Option.some.inj hf0
    exact z_iret hE dX1_difference_12

abbrev RX1_along : Type := Int32
abbrev rmX1_along : Room := { frames := 1, cells := 0, slots := 0, locals := 22 }
abbrev wsX1_along (cA : Nat → ClassId)   : va_W := []
def fX1_along (N : Nat) (a0 : Int32) (a1 : Int32) (a2 : Int32) (a3 : Int32)  : Option RX1_along :=
  (if a3 ≤ 0 then some a0 else ((fJm_floorDiv N (((2 * a1) * a2) + a3) (2 * a3)).bind fun r1 => some (a0 + r1)))
set_option maxHeartbeats 4000000 in
set_option maxRecDepth 100000 in
theorem kX1_along (l : Launch) (D : va_G) (cA : Nat → ClassId)   (a0 : Int32) (a1 : Int32) (a2 : Int32) (a3 : Int32) (N : Nat) (res : RX1_along) (hf0 : fX1_along N a0 a1 a2 a3 = some res) : CtI l yX1_along (Cond.code yX1_along cX1_along 4 (some .int) :: tblG) rmX1_along D cA (wsX1_along cA ) [.int a0, .int a1, .int a2, .int a3] res (wsX1_along cA ) := by
  refine CtI.start (lv := [(0, .int a0), (1, .int a1), (2, .int a2), (3, .int a3)]) (by decide) (Nat.le_of_ble_eq_true rfl) rfl (fun κ hE => ?_)
  rw [fX1_along] at hf0
  refine z_iload_n 3 (pc := 0) dX1_along_0 rfl ?_
  refine z_if_le (pc := 1) (tgt := 22) dX1_along_1 (by decide) hf0 (fun hf0 => ?_) (fun hf0 => ?_)
  · refine z_iload_n 0 (pc := 22) dX1_along_22 rfl ?_
    obtain rfl := Option.some.inj hf0
    exact z_iret hE dX1_along_23
  · refine z_iload_n 0 (pc := 4) dX1_along_4 rfl ?_
    refine z_iconst (pc := 5) (v := 2) dX1_along_5 (by decide) ?_
    refine z_iload_n 1 (pc := 6) dX1_along_6 rfl ?_
    refine z_imul (pc := 7) dX1_along_7 ?_
    refine z_iload_n 2 (pc := 8) dX1_along_8 rfl ?_
    refine z_imul (pc := 9) dX1_along_9 ?_
    refine z_iload_n 3 (pc := 10) dX1_along_10 rfl ?_
    refine z_iadd (pc := 11) dX1_along_11 ?_
    refine z_iconst (pc := 12) (v := 2) dX1_along_12 (by decide) ?_
    refine z_iload_n 3 (pc := 13) dX1_along_13 rfl ?_
    refine z_imul (pc := 14) dX1_along_14 ?_
    obtain ⟨r1, er1, hf0⟩ := bp hf0
    refine z_calliS (pc := 15) (As := [.int (((2 * a1) * a2) + a3), .int (2 * a3)]) (rest := [.int a0]) (ws' := (wsX1_along cA )) (kJm_floorDiv l D cA   (((2 * a1) * a2) + a3) (2 * a3) N r1 er1) ivX1_101 ⟨rfl, rfl⟩ ⟨by decide, by decide⟩ rfl ⟨Nat.zero_le _, Nat.zero_le _⟩ [] rfl (by decide) rfl rfl rfl (Nat.le_of_ble_eq_true rfl) dX1_along_15 ?_
    refine z_iadd (pc := 18) dX1_along_18 ?_
    refine z_goto (pc := 19) (tgt := 23) dX1_along_19 (by decide) ?_
    obtain rfl := Option.some.inj hf0
    exact z_iret hE dX1_along_23

abbrev RX1_cutHere : Type := Int32 × Int32 × Int32 × (Nat → Int32)
abbrev rmX1_cutHere : Room := { frames := 1, cells := 0, slots := 0, locals := 23 }
abbrev wsX1_cutHere (cA : Nat → ClassId) (h_o : Nat) (h_p1 : Nat) (h_p2 : Nat) (h_p1_kept : Nat) (h_p1_disc : Nat) (h_p1_heights : Nat) (o_hasRun : Int32) (o_time : Int32) (o_ended : Int32) (o_x : Int32) (o_y : Int32) (o_z : Int32) (o_cut : Int32) (o_held : Int32) (p1_side : Int32) (p1_cells : Int32) (p1_targets : Value) (p1_marks : Value) (p1_discSize : Int32) (p2_radius : Int32) (p2_feed : Int32) (p2_halfWidths : Value) (p1_kept_n : Nat) (p1_kept : Nat → Int32) (p1_disc_n : Nat) (p1_disc : Nat → Int32) (p1_heights_n : Nat) (p1_heights : Nat → Int32) : va_W := [(h_o, .inr (1, [.int o_hasRun, .int o_time, .int o_ended, .int o_x, .int o_y, .int o_z, .int o_cut, .int o_held])), (h_p1, .inr (0, [.int p1_side, .int p1_cells, .ref h_p1_heights, p1_targets, .ref h_p1_kept, p1_marks, .ref h_p1_disc, .int p1_discSize])), (h_p2, .inr (5, [.int p2_radius, .int p2_feed, p2_halfWidths])), (h_p1_kept, .inl (cA 1, p1_kept_n, .inl p1_kept)), (h_p1_disc, .inl (cA 0, p1_disc_n, .inl p1_disc)), (h_p1_heights, .inl (cA 0, p1_heights_n, .inl p1_heights))]
def fX1_cutHere (N : Nat)  (o_time : Int32) (o_z : Int32) (o_cut : Int32) (p1_discSize : Int32) (p2_feed : Int32) (p1_kept_n : Nat) (p1_kept : Nat → Int32) (p1_disc_n : Nat) (p1_disc : Nat → Int32) (p1_heights_n : Nat) (p1_heights : Nat → Int32) : Option RX1_cutHere :=
  ((fX0_discHasKeptAbove N o_z p1_discSize p1_kept_n p1_kept p1_disc_n p1_disc p1_heights_n p1_heights).bind fun r1 => (if r1 = 0 then ((fX0_lowerDisc N o_z p1_discSize p1_heights_n p1_heights p1_disc_n p1_disc).bind fun r2 => some (0, o_time + p2_feed, o_cut + r2.1, r2.2)) else some (2, o_time, o_cut, p1_heights)))
set_option maxHeartbeats 4000000 in
set_option maxRecDepth 100000 in
theorem kX1_cutHere (l : Launch) (D : va_G) (cA : Nat → ClassId) (h_o : Nat) (h_p1 : Nat) (h_p2 : Nat) (h_p1_kept : Nat) (h_p1_disc : Nat) (h_p1_heights : Nat) (o_hasRun : Int32) (o_time : Int32) (o_ended : Int32) (o_x : Int32) (o_y : Int32) (o_z : Int32) (o_cut : Int32) (o_held : Int32) (p1_side : Int32) (p1_cells : Int32) (p1_targets : Value) (p1_marks : Value) (p1_discSize : Int32) (p2_radius : Int32) (p2_feed : Int32) (p2_halfWidths : Value) (p1_kept_n : Nat) (p1_kept : Nat → Int32) (p1_disc_n : Nat) (p1_disc : Nat → Int32) (p1_heights_n : Nat) (p1_heights : Nat → Int32)  (N : Nat) (res : RX1_cutHere) (hf0 : fX1_cutHere N o_time o_z o_cut p1_discSize p2_feed p1_kept_n p1_kept p1_disc_n p1_disc p1_heights_n p1_heights = some res) : CtI l yX1_cutHere (Cond.code yX1_cutHere cX1_cutHere 3 (some .int) :: tblG) rmX1_cutHere D cA (wsX1_cutHere cA h_o h_p1 h_p2 h_p1_kept h_p1_disc h_p1_heights o_hasRun o_time o_ended o_x o_y o_z o_cut o_held p1_side p1_cells p1_targets p1_marks p1_discSize p2_radius p2_feed p2_halfWidths p1_kept_n p1_kept p1_disc_n p1_disc p1_heights_n p1_heights) [.ref h_o, .ref h_p1, .ref h_p2] res.1 (wsX1_cutHere cA h_o h_p1 h_p2 h_p1_kept h_p1_disc h_p1_heights o_hasRun res.2.1 o_ended o_x o_y o_z res.2.2.1 o_held p1_side p1_cells p1_targets p1_marks p1_discSize p2_radius p2_feed p2_halfWidths p1_kept_n p1_kept p1_disc_n p1_disc p1_heights_n res.2.2.2) := by
  refine CtI.start (lv := [(0, .ref h_o), (1, .ref h_p1), (2, .ref h_p2)]) (by decide) (Nat.le_of_ble_eq_true rfl) rfl (fun κ hE => ?_)
  rw [fX1_cutHere] at hf0
  refine z_aload_n 1 (pc := 0) dX1_cutHere_0 rfl ?_
  refine z_aload_n 0 (pc := 1) dX1_cutHere_1 rfl ?_
  refine z_get 0 5 (pc := 2) (v := .int o_z) rfl rfl inX1 (by decide) flX1_31 rfl dX1_cutHere_2 ?_
  obtain ⟨r1, er1, hf0⟩ := bp hf0
  refine z_calliV (pc := 5) (As := [.int o_z]) (rest := []) (ws' := (wsX1_cutHere cA h_o h_p1 h_p2 h_p1_kept h_p1_disc h_p1_heights o_hasRun o_time o_ended o_x o_y o_z o_cut o_held p1_side p1_cells p1_targets p1_marks p1_discSize p2_radius p2_feed p2_halfWidths p1_kept_n p1_kept p1_disc_n p1_disc p1_heights_n p1_heights)) (kX0_discHasKeptAbove l D cA h_p1 h_p1_kept h_p1_disc h_p1_heights p1_side p1_cells p1_targets p1_marks p1_discSize p1_kept_n p1_kept p1_disc_n p1_disc p1_heights_n p1_heights o_z N r1 er1) ivX1_104 ⟨rfl, rfl⟩ ⟨by decide, by decide⟩ rfl ⟨Nat.zero_le _, Nat.zero_le _⟩ rfl rfl [1, 3, 4, 5] rfl (by decide) rfl rfl rfl (Nat.le_of_ble_eq_true rfl) dX1_cutHere_5 ?_
  refine z_if_eq (pc := 8) (tgt := 13) dX1_cutHere_8 (by decide) hf0 (fun hf0 => ?_) (fun hf0 => ?_)
  · refine z_aload_n 0 (pc := 13) dX1_cutHere_13 rfl ?_
    refine z_dup (pc := 14) dX1_cutHere_14 rfl ?_
    refine z_get 0 6 (pc := 15) (v := .int o_cut) rfl rfl inX1 (by decide) flX1_34 rfl dX1_cutHere_15 ?_
    refine z_aload_n 1 (pc := 18) dX1_cutHere_18 rfl ?_
    refine z_aload_n 0 (pc := 19) dX1_cutHere_19 rfl ?_
    refine z_get 0 5 (pc := 20) (v := .int o_z) rfl rfl inX1 (by decide) flX1_31 rfl dX1_cutHere_20 ?_
    obtain ⟨r2, er2, hf0⟩ := bp hf0
    refine z_calliV (pc := 23) (As := [.int o_z]) (rest := [.int o_cut, .ref h_o]) (ws' := (wsX1_cutHere cA h_o h_p1 h_p2 h_p1_kept h_p1_disc h_p1_heights o_hasRun o_time o_ended o_x o_y o_z o_cut o_held p1_side p1_cells p1_targets p1_marks p1_discSize p2_radius p2_feed p2_halfWidths p1_kept_n p1_kept p1_disc_n p1_disc p1_heights_n r2.2)) (kX0_lowerDisc l D cA h_p1 h_p1_heights h_p1_disc p1_side p1_cells p1_targets (.ref h_p1_kept) p1_marks p1_discSize p1_heights_n p1_heights p1_disc_n p1_disc o_z N r2 er2) ivX1_108 ⟨rfl, rfl⟩ ⟨by decide, by decide⟩ rfl ⟨Nat.zero_le _, Nat.zero_le _⟩ rfl rfl [1, 5, 4] rfl (by decide) rfl rfl rfl (Nat.le_of_ble_eq_true rfl) dX1_cutHere_23 ?_
    refine z_iadd (pc := 26) dX1_cutHere_26 ?_
    refine z_put 0 6 (pc := 27) (ws' := (wsX1_cutHere cA h_o h_p1 h_p2 h_p1_kept h_p1_disc h_p1_heights o_hasRun o_time o_ended o_x o_y o_z (o_cut + r2.1) o_held p1_side p1_cells p1_targets p1_marks p1_discSize p2_radius p2_feed p2_halfWidths p1_kept_n p1_kept p1_disc_n p1_disc p1_heights_n r2.2)) rfl rfl inX1 tyX1 tyX1_ok nmX1 (by decide) flX1_34 rfl rfl rfl rfl (Nat.le_of_ble_eq_true rfl) dX1_cutHere_27 rfl ?_
    refine z_aload_n 0 (pc := 30) dX1_cutHere_30 rfl ?_
    refine z_dup (pc := 31) dX1_cutHere_31 rfl ?_
    refine z_get 0 1 (pc := 32) (v := .int o_time) rfl rfl inX1 (by decide) flX1_18 rfl dX1_cutHere_32 ?_
    refine z_aload_n 2 (pc := 35) dX1_cutHere_35 rfl ?_
    refine z_get 2 1 (pc := 36) (v := .int p2_feed) rfl rfl inX5 (by decide) flX1_111 rfl dX1_cutHere_36 ?_
    refine z_iadd (pc := 39) dX1_cutHere_39 ?_
    refine z_put 0 1 (pc := 40) (ws' := (wsX1_cutHere cA h_o h_p1 h_p2 h_p1_kept h_p1_disc h_p1_heights o_hasRun (o_time + p2_feed) o_ended o_x o_y o_z (o_cut + r2.1) o_held p1_side p1_cells p1_targets p1_marks p1_discSize p2_radius p2_feed p2_halfWidths p1_kept_n p1_kept p1_disc_n p1_disc p1_heights_n r2.2)) rfl rfl inX1 tyX1 tyX1_ok nmX1 (by decide) flX1_18 rfl rfl rfl rfl (Nat.le_of_ble_eq_true rfl) dX1_cutHere_40 rfl ?_
    refine z_iconst (pc := 43) (v := 0) dX1_cutHere_43 (by decide) ?_
    obtain rfl := Option.some.inj hf0
    exact z_iret hE dX1_cutHere_44
  · refine z_iconst (pc := 11) (v := 2) dX1_cutHere_11 (by decide) ?_
    obtain rfl := Option.some.inj hf0
    exact z_iret hE dX1_cutHere_12

abbrev RX1_passHere : Type := Int32 × Int32
abbrev rmX1_passHere : Room := { frames := 1, cells := 0, slots := 0, locals := 22 }
abbrev wsX1_passHere (cA : Nat → ClassId) (h_o : Nat) (h_p1 : Nat) (h_p1_heights : Nat) (h_p1_disc : Nat) (o_hasRun : Int32) (o_time : Int32) (o_ended : Int32) (o_x : Int32) (o_y : Int32) (o_z : Int32) (o_cut : Int32) (o_held : Int32) (p1_side : Int32) (p1_cells : Int32) (p1_targets : Value) (p1_kept : Value) (p1_marks : Value) (p1_discSize : Int32) (p1_heights_n : Nat) (p1_heights : Nat → Int32) (p1_disc_n : Nat) (p1_disc : Nat → Int32) : va_W := [(h_o, .inr (1, [.int o_hasRun, .int o_time, .int o_ended, .int o_x, .int o_y, .int o_z, .int o_cut, .int o_held])), (h_p1, .inr (0, [.int p1_side, .int p1_cells, .ref h_p1_heights, p1_targets, p1_kept, p1_marks, .ref h_p1_disc, .int p1_discSize])), (h_p1_heights, .inl (cA 0, p1_heights_n, .inl p1_heights)), (h_p1_disc, .inl (cA 0, p1_disc_n, .inl p1_disc))]
def fX1_passHere (N : Nat)  (o_time : Int32) (o_z : Int32) (p1_discSize : Int32) (p1_heights_n : Nat) (p1_heights : Nat → Int32) (p1_disc_n : Nat) (p1_disc : Nat → Int32) : Option RX1_passHere :=
  ((fX0_discRisesAbove N o_z p1_discSize p1_heights_n p1_heights p1_disc_n p1_disc).bind fun r1 => (if r1 = 0 then some (0, o_time + 1) else some (1, o_time)))
set_option maxHeartbeats 4000000 in
set_option maxRecDepth 100000 in
theorem kX1_passHere (l : Launch) (D : va_G) (cA : Nat → ClassId) (h_o : Nat) (h_p1 : Nat) (h_p1_heights : Nat) (h_p1_disc : Nat) (o_hasRun : Int32) (o_time : Int32) (o_ended : Int32) (o_x : Int32) (o_y : Int32) (o_z : Int32) (o_cut : Int32) (o_held : Int32) (p1_side : Int32) (p1_cells : Int32) (p1_targets : Value) (p1_kept : Value) (p1_marks : Value) (p1_discSize : Int32) (p1_heights_n : Nat) (p1_heights : Nat → Int32) (p1_disc_n : Nat) (p1_disc : Nat → Int32)  (N : Nat) (res : RX1_passHere) (hf0 : fX1_passHere N o_time o_z p1_discSize p1_heights_n p1_heights p1_disc_n p1_disc = some res) : CtI l yX1_passHere (Cond.code yX1_passHere cX1_passHere 2 (some .int) :: tblG) rmX1_passHere D cA (wsX1_passHere cA h_o h_p1 h_p1_heights h_p1_disc o_hasRun o_time o_ended o_x o_y o_z o_cut o_held p1_side p1_cells p1_targets p1_kept p1_marks p1_discSize p1_heights_n p1_heights p1_disc_n p1_disc) [.ref h_o, .ref h_p1] res.1 (wsX1_passHere cA h_o h_p1 h_p1_heights h_p1_disc o_hasRun res.2 o_ended o_x o_y o_z o_cut o_held p1_side p1_cells p1_targets p1_kept p1_marks p1_discSize p1_heights_n p1_heights p1_disc_n p1_disc) := by
  refine CtI.start (lv := [(0, .ref h_o), (1, .ref h_p1)]) (by decide) (Nat.le_of_ble_eq_true rfl) rfl (fun κ hE => ?_)
  rw [fX1_passHere] at hf0
  refine z_aload_n 1 (pc := 0) dX1_passHere_0 rfl ?_
  refine z_aload_n 0 (pc := 1) dX1_passHere_1 rfl ?_
  refine z_get 0 5 (pc := 2) (v := .int o_z) rfl rfl inX1 (by decide) flX1_31 rfl dX1_passHere_2 ?_
  obtain ⟨r1, er1, hf0⟩ := bp hf0
  refine z_calliV (pc := 5) (As := [.int o_z]) (rest := []) (ws' := (wsX1_passHere cA h_o h_p1 h_p1_heights h_p1_disc o_hasRun o_time o_ended o_x o_y o_z o_cut o_held p1_side p1_cells p1_targets p1_kept p1_marks p1_discSize p1_heights_n p1_heights p1_disc_n p1_disc)) (kX0_discRisesAbove l D cA h_p1 h_p1_heights h_p1_disc p1_side p1_cells p1_targets p1_kept p1_marks p1_discSize p1_heights_n p1_heights p1_disc_n p1_disc o_z N r1 er1) ivX1_116 ⟨rfl, rfl⟩ ⟨by decide, by decide⟩ rfl ⟨Nat.zero_le _, Nat.zero_le _⟩ rfl rfl [1, 2, 3] rfl (by decide) rfl rfl rfl (Nat.le_of_ble_eq_true rfl) dX1_passHere_5 ?_
  refine z_if_eq (pc := 8) (tgt := 13) dX1_passHere_8 (by decide) hf0 (fun hf0 => ?_) (fun hf0 => ?_)
  · refine z_aload_n 0 (pc := 13) dX1_passHere_13 rfl ?_
    refine z_dup (pc := 14) dX1_passHere_14 rfl ?_
    refine z_get 0 1 (pc := 15) (v := .int o_time) rfl rfl inX1 (by decide) flX1_18 rfl dX1_passHere_15 ?_
    refine z_iconst (pc := 18) (v := 1) dX1_passHere_18 (by decide) ?_
    refine z_iadd (pc := 19) dX1_passHere_19 ?_
    refine z_put 0 1 (pc := 20) (ws' := (wsX1_passHere cA h_o h_p1 h_p1_heights h_p1_disc o_hasRun (o_time + 1) o_ended o_x o_y o_z o_cut o_held p1_side p1_cells p1_targets p1_kept p1_marks p1_discSize p1_heights_n p1_heights p1_disc_n p1_disc)) rfl rfl inX1 tyX1 tyX1_ok nmX1 (by decide) flX1_18 rfl rfl rfl rfl (Nat.le_of_ble_eq_true rfl) dX1_passHere_20 rfl ?_
    refine z_iconst (pc := 23) (v := 0) dX1_passHere_23 (by decide) ?_
    obtain rfl := Option.some.inj hf0
    exact z_iret hE dX1_passHere_24
  · refine z_iconst (pc := 11) (v := 1) dX1_passHere_11 (by decide) ?_
    obtain rfl := Option.some.inj hf0
    exact z_iret hE dX1_passHere_12

abbrev RX1_travel : Type := Int32 × Int32 × Int32 × Int32 × Int32 × Int32 × Int32 × (Nat → Int32) × (Nat → Int32)
abbrev rmX1_travel : Room := { frames := 2, cells := 0, slots := 0, locals := 50 }
abbrev wsX1_travel (cA : Nat → ClassId) (h_o : Nat) (h_p5 : Nat) (h_p6 : Nat) (h_p6_halfWidths : Nat) (h_p5_disc : Nat) (h_p5_kept : Nat) (h_p5_heights : Nat) (o_hasRun : Int32) (o_time : Int32) (o_ended : Int32) (o_x : Int32) (o_y : Int32) (o_z : Int32) (o_cut : Int32) (o_held : Int32) (p5_side : Int32) (p5_cells : Int32) (p5_targets : Value) (p5_marks : Value) (p5_discSize : Int32) (p6_radius : Int32) (p6_feed : Int32) (p6_halfWidths_n : Nat) (p6_halfWidths : Nat → Int32) (p5_disc_n : Nat) (p5_disc : Nat → Int32) (p5_kept_n : Nat) (p5_kept : Nat → Int32) (p5_heights_n : Nat) (p5_heights : Nat → Int32) : va_W := [(h_o, .inr (1, [.int o_hasRun, .int o_time, .int o_ended, .int o_x, .int o_y, .int o_z, .int o_cut, .int o_held])), (h_p5, .inr (0, [.int p5_side, .int p5_cells, .ref h_p5_heights, p5_targets, .ref h_p5_kept, p5_marks, .ref h_p5_disc, .int p5_discSize])), (h_p6, .inr (5, [.int p6_radius, .int p6_feed, .ref h_p6_halfWidths])), (h_p6_halfWidths, .inl (cA 0, p6_halfWidths_n, .inl p6_halfWidths)), (h_p5_disc, .inl (cA 0, p5_disc_n, .inl p5_disc)), (h_p5_kept, .inl (cA 1, p5_kept_n, .inl p5_kept)), (h_p5_heights, .inl (cA 0, p5_heights_n, .inl p5_heights))]
def LX1_travel_41 (k1 : Int32) (N : Nat) (o_x : Int32) (a1 : Int32) (o_y : Int32) (a2 : Int32) (o_z : Int32) (a3 : Int32) (p5_side : Int32) (p6_radius : Int32) (p6_halfWidths_n : Nat) (p6_halfWidths : Nat → Int32) (p5_disc_n : Nat) (a4 : Int32) (p5_heights_n : Nat) (p6_feed : Int32) (p5_kept_n : Nat) (p5_kept : Nat → Int32) : Nat → Int32 → Int32 → Int32 → Int32 → Int32 → Int32 → (Nat → Int32) → Int32 → (Nat → Int32) → Option (RX1_travel)
  | 0, _, _, _, _, _, _, _, _, _ => none
  | n + 1, x11_41, o_cut_41, o_time_41, o_x_41, o_y_41, o_z_41, p5_disc_41, p5_discSize_41, p5_heights_41 => (if k1 < x11_41 then some (0, o_time_41, o_x_41, o_y_41, o_z_41, o_cut_41, p5_discSize_41, p5_disc_41, p5_heights_41) else ((fX1_along N o_x a1 x11_41 k1).bind fun r2 => ((fX1_along N o_y a2 x11_41 k1).bind fun r3 => ((fX1_along N o_z a3 x11_41 k1).bind fun r4 => ((fX0_layDisc N r2 r3 p5_side p5_discSize_41 p6_radius p6_halfWidths_n p6_halfWidths p5_disc_n p5_disc_41).bind fun r5 => (if a4 = 0 then ((fX1_passHere N o_time_41 r4 r5.1 p5_heights_n p5_heights_41 p5_disc_n r5.2).bind fun r6 => (if r6.1 = 0 then LX1_travel_41 k1 N o_x a1 o_y a2 o_z a3 p5_side p6_radius p6_halfWidths_n p6_halfWidths p5_disc_n a4 p5_heights_n p6_feed p5_kept_n p5_kept n (x11_41 + 1) o_cut_41 r6.2 r2 r3 r4 r5.2 r5.1 p5_heights_41 else some (r6.1, r6.2, r2, r3, r4, o_cut_41, r5.1, r5.2, p5_heights_41))) else ((fX1_cutHere N o_time_41 r4 o_cut_41 r5.1 p6_feed p5_kept_n p5_kept p5_disc_n r5.2 p5_heights_n p5_heights_41).bind fun r7 => (if r7.1 = 0 then LX1_travel_41 k1 N o_x a1 o_y a2 o_z a3 p5_side p6_radius p6_halfWidths_n p6_halfWidths p5_disc_n a4 p5_heights_n p6_feed p5_kept_n p5_kept n (x11_41 + 1) r7.2.2.1 r7.2.1 r2 r3 r4 r5.2 r5.1 r7.2.2.2 else some (r7.1, r7.2.1, r2, r3, r4, r7.2.2.1, r5.1, r5.2, r7.2.2.2)))))))))
def fX1_travel (N : Nat) (a1 : Int32) (a2 : Int32) (a3 : Int32) (a4 : Int32) (o_time : Int32) (o_x : Int32) (o_y : Int32) (o_z : Int32) (o_cut : Int32) (p5_side : Int32) (p5_discSize : Int32) (p6_radius : Int32) (p6_feed : Int32) (p6_halfWidths_n : Nat) (p6_halfWidths : Nat → Int32) (p5_disc_n : Nat) (p5_disc : Nat → Int32) (p5_kept_n : Nat) (p5_kept : Nat → Int32) (p5_heights_n : Nat) (p5_heights : Nat → Int32) : Option RX1_travel :=
  LX1_travel_41 (if (if 0 ≤ a1 then a1 else 0 - a1) < (if (if 0 ≤ a2 then a2 else 0 - a2) < (if 0 ≤ a3 then a3 else 0 - a3) then (if 0 ≤ a3 then a3 else 0 - a3) else (if 0 ≤ a2 then a2 else 0 - a2)) then (if (if 0 ≤ a2 then a2 else 0 - a2) < (if 0 ≤ a3 then a3 else 0 - a3) then (if 0 ≤ a3 then a3 else 0 - a3) else (if 0 ≤ a2 then a2 else 0 - a2)) else (if 0 ≤ a1 then a1 else 0 - a1)) N o_x a1 o_y a2 o_z a3 p5_side p6_radius p6_halfWidths_n p6_halfWidths p5_disc_n a4 p5_heights_n p6_feed p5_kept_n p5_kept N 1 o_cut o_time o_x o_y o_z p5_disc p5_discSize p5_heights
set_option maxHeartbeats 4000000 in
set_option maxRecDepth 100000 in
theorem kX1_travel (l : Launch) (D : va_G) (cA : Nat → ClassId) (h_o : Nat) (h_p5 : Nat) (h_p6 : Nat) (h_p6_halfWidths : Nat) (h_p5_disc : Nat) (h_p5_kept : Nat) (h_p5_heights : Nat) (o_hasRun : Int32) (o_time : Int32) (o_ended : Int32) (o_x : Int32) (o_y : Int32) (o_z : Int32) (o_cut : Int32) (o_held : Int32) (p5_side : Int32) (p5_cells : Int32) (p5_targets : Value) (p5_marks : Value) (p5_discSize : Int32) (p6_radius : Int32) (p6_feed : Int32) (p6_halfWidths_n : Nat) (p6_halfWidths : Nat → Int32) (p5_disc_n : Nat) (p5_disc : Nat → Int32) (p5_kept_n : Nat) (p5_kept : Nat → Int32) (p5_heights_n : Nat) (p5_heights : Nat → Int32) (a1 : Int32) (a2 : Int32) (a3 : Int32) (a4 : Int32) (N : Nat) (res : RX1_travel) (hf0 : fX1_travel N a1 a2 a3 a4 o_time o_x o_y o_z o_cut p5_side p5_discSize p6_radius p6_feed p6_halfWidths_n p6_halfWidths p5_disc_n p5_disc p5_kept_n p5_kept p5_heights_n p5_heights = some res) : CtI l yX1_travel (Cond.code yX1_travel cX1_travel 13 (some .int) :: tblG) rmX1_travel D cA (wsX1_travel cA h_o h_p5 h_p6 h_p6_halfWidths h_p5_disc h_p5_kept h_p5_heights o_hasRun o_time o_ended o_x o_y o_z o_cut o_held p5_side p5_cells p5_targets p5_marks p5_discSize p6_radius p6_feed p6_halfWidths_n p6_halfWidths p5_disc_n p5_disc p5_kept_n p5_kept p5_heights_n p5_heights) [.ref h_o, .int a1, .int a2, .int a3, .int a4, .ref h_p5, .ref h_p6] res.1 (wsX1_travel cA h_o h_p5 h_p6 h_p6_halfWidths h_p5_disc h_p5_kept h_p5_heights o_hasRun res.2.1 o_ended res.2.2.1 res.2.2.2.1 res.2.2.2.2.1 res.2.2.2.2.2.1 o_held p5_side p5_cells p5_targets p5_marks res.2.2.2.2.2.2.1 p6_radius p6_feed p6_halfWidths_n p6_halfWidths p5_disc_n res.2.2.2.2.2.2.2.1 p5_kept_n p5_kept p5_heights_n res.2.2.2.2.2.2.2.2) := by
  refine CtI.start (lv := [(0, .ref h_o), (1, .int a1), (2, .int a2), (3, .int a3), (4, .int a4), (5, .ref h_p5), (6, .ref h_p6)]) (by decide) (Nat.le_of_ble_eq_true rfl) rfl (fun κ hE => ?_)
  rw [fX1_travel] at hf0
  refine z_aload_n 0 (pc := 0) dX1_travel_0 rfl ?_
  refine z_get 0 3 (pc := 1) (v := .int o_x) rfl rfl inX1 (by decide) flX1_25 rfl dX1_travel_1 ?_
  refine z_istore (pc := 4) (lv' := [(7, .int o_x), (0, .ref h_o), (1, .int a1), (2, .int a2), (3, .int a3), (4, .int a4), (5, .ref h_p5), (6, .ref h_p6)]) dX1_travel_4 (by decide) rfl ?_
  refine z_aload_n 1 (pc := 6) dX1_travel_6 rfl ?_
  refine z_get 0 4 (pc := 7) (v := .int o_y) rfl rfl inX1 (by decide) flX1_28 rfl dX1_travel_7 ?_
  refine z_istore (pc := 10) (lv' := [(8, .int o_y), (7, .int o_x), (0, .ref h_o), (1, .int a1), (2, .int a2), (3, .int a3), (4, .int a4), (5, .ref h_p5), (6, .ref h_p6)]) dX1_travel_10 (by decide) rfl ?_
  refine z_aload_n 2 (pc := 12) dX1_travel_12 rfl ?_
  refine z_get 0 5 (pc := 13) (v := .int o_z) rfl rfl inX1 (by decide) flX1_31 rfl dX1_travel_13 ?_
  refine z_istore (pc := 16) (lv' := [(9, .int o_z), (8, .int o_y), (7, .int o_x), (0, .ref h_o), (1, .int a1), (2, .int a2), (3, .int a3), (4, .int a4), (5, .ref h_p5), (6, .ref h_p6)]) dX1_travel_16 (by decide) rfl ?_
  refine z_iload_n 4 (pc := 18) dX1_travel_18 rfl ?_
  refine z_mabs (pc := 19) mlX1_74 mst_abs mini mcd_abs (by decide) (Nat.le_of_ble_eq_true rfl) (Nat.zero_le _) (Nat.zero_le _) dX1_travel_19 ?_
  refine z_iload_n 5 (pc := 22) dX1_travel_22 rfl ?_
  refine z_mabs (pc := 23) mlX1_74 mst_abs mini mcd_abs (by decide) (Nat.le_of_ble_eq_true rfl) (Nat.zero_le _) (Nat.zero_le _) dX1_travel_23 ?_
  refine z_iload_n 6 (pc := 26) dX1_travel_26 rfl ?_
  refine z_mabs (pc := 27) mlX1_74 mst_abs mini mcd_abs (by decide) (Nat.le_of_ble_eq_true rfl) (Nat.zero_le _) (Nat.zero_le _) dX1_travel_27 ?_
  refine z_mmax (pc := 30) mlX1_80 mst_max mini mcd_max (by decide) (Nat.le_of_ble_eq_true rfl) (Nat.zero_le _) (Nat.zero_le _) dX1_travel_30 ?_
  refine z_mmax (pc := 33) mlX1_80 mst_max mini mcd_max (by decide) (Nat.le_of_ble_eq_true rfl) (Nat.zero_le _) (Nat.zero_le _) dX1_travel_33 ?_
  refine z_istore (pc := 36) (lv' := [(10, .int (if (if 0 ≤ a1 then a1 else 0 - a1) < (if (if 0 ≤ a2 then a2 else 0 - a2) < (if 0 ≤ a3 then a3 else 0 - a3) then (if 0 ≤ a3 then a3 else 0 - a3) else (if 0 ≤ a2 then a2 else 0 - a2)) then (if (if 0 ≤ a2 then a2 else 0 - a2) < (if 0 ≤ a3 then a3 else 0 - a3) then (if 0 ≤ a3 then a3 else 0 - a3) else (if 0 ≤ a2 then a2 else 0 - a2)) else (if 0 ≤ a1 then a1 else 0 - a1))), (9, .int o_z), (8, .int o_y), (7, .int o_x), (0, .ref h_o), (1, .int a1), (2, .int a2), (3, .int a3), (4, .int a4), (5, .ref h_p5), (6, .ref h_p6)]) dX1_travel_36 (by decide) rfl ?_
  refine z_iconst (pc := 38) (v := 1) dX1_travel_38 (by decide) ?_
  refine z_istore (pc := 39) (lv' := [(11, .int 1), (10, .int (if (if 0 ≤ a1 then a1 else 0 - a1) < (if (if 0 ≤ a2 then a2 else 0 - a2) < (if 0 ≤ a3 then a3 else 0 - a3) then (if 0 ≤ a3 then a3 else 0 - a3) else (if 0 ≤ a2 then a2 else 0 - a2)) then (if (if 0 ≤ a2 then a2 else 0 - a2) < (if 0 ≤ a3 then a3 else 0 - a3) then (if 0 ≤ a3 then a3 else 0 - a3) else (if 0 ≤ a2 then a2 else 0 - a2)) else (if 0 ≤ a1 then a1 else 0 - a1))), (9, .int o_z), (8, .int o_y), (7, .int o_x), (0, .ref h_o), (1, .int a1), (2, .int a2), (3, .int a3), (4, .int a4), (5, .ref h_p5), (6, .ref h_p6)]) dX1_travel_39 (by decide) rfl ?_
  have lp41 : ∀ (n : Nat) (x11_41 : Int32) (o_cut_41 : Int32) (o_time_41 : Int32) (o_x_41 : Int32) (o_y_41 : Int32) (o_z_41 : Int32) (p5_disc_41 : Nat → Int32) (p5_discSize_41 : Int32) (p5_heights_41 : Nat → Int32), LX1_travel_41 (if (if 0 ≤ a1 then a1 else 0 - a1) < (if (if 0 ≤ a2 then a2 else 0 - a2) < (if 0 ≤ a3 then a3 else 0 - a3) then (if 0 ≤ a3 then a3 else 0 - a3) else (if 0 ≤ a2 then a2 else 0 - a2)) then (if (if 0 ≤ a2 then a2 else 0 - a2) < (if 0 ≤ a3 then a3 else 0 - a3) then (if 0 ≤ a3 then a3 else 0 - a3) else (if 0 ≤ a2 then a2 else 0 - a2)) else (if 0 ≤ a1 then a1 else 0 - a1)) N o_x a1 o_y a2 o_z a3 p5_side p6_radius p6_halfWidths_n p6_halfWidths p5_disc_n a4 p5_heights_n p6_feed p5_kept_n p5_kept n x11_41 o_cut_41 o_time_41 o_x_41 o_y_41 o_z_41 p5_disc_41 p5_discSize_41 p5_heights_41 = some res → V κ l D cA rmX1_travel cX1_travel 13 RX1 (some .int) 0 0 41 [(10, .int (if (if 0 ≤ a1 then a1 else 0 - a1) < (if (if 0 ≤ a2 then a2 else 0 - a2) < (if 0 ≤ a3 then a3 else 0 - a3) then (if 0 ≤ a3 then a3 else 0 - a3) else (if 0 ≤ a2 then a2 else 0 - a2)) then (if (if 0 ≤ a2 then a2 else 0 - a2) < (if 0 ≤ a3 then a3 else 0 - a3) then (if 0 ≤ a3 then a3 else 0 - a3) else (if 0 ≤ a2 then a2 else 0 - a2)) else (if 0 ≤ a1 then a1 else 0 - a1))), (9, .int o_z), (8, .int o_y), (7, .int o_x), (0, .ref h_o), (1, .int a1), (2, .int a2), (3, .int a3), (4, .int a4), (5, .ref h_p5), (6, .ref h_p6), (11, .int x11_41)] [] (wsX1_travel cA h_o h_p5 h_p6 h_p6_halfWidths h_p5_disc h_p5_kept h_p5_heights o_hasRun o_time_41 o_ended o_x_41 o_y_41 o_z_41 o_cut_41 o_held p5_side p5_cells p5_targets p5_marks p5_discSize_41 p6_radius p6_feed p6_halfWidths_n p6_halfWidths p5_disc_n p5_disc_41 p5_kept_n p5_kept p5_heights_n p5_heights_41) := by
    intro n
    induction n with
    | zero => intro x11_41 o_cut_41 o_time_41 o_x_41 o_y_41 o_z_41 p5_disc_41 p5_discSize_41 p5_heights_41 hf0; rw [LX1_travel_41] at hf0; cases hf0
    | succ n41 ih41 =>
      intro x11_41 o_cut_41 o_time_41 o_x_41 o_y_41 o_z_41 p5_disc_41 p5_discSize_41 p5_heights_41 hf0
      rw [LX1_travel_41] at hf0
      refine z_iload 11 (pc := 41) dX1_travel_41 rfl ?_
      refine z_iload 0 (pc := 43) dX1_travel_43 rfl ?_
      refine z_icmp_gt (pc := 45) (tgt := 143) dX1_travel_45 (by decide) hf0 (fun hf0 => ?_) (fun hf0 => ?_)
      · refine z_iconst (pc := 143) (v := 0) dX1_travel_143 (by decide) ?_
        obtain rfl := Option.some.inj hf0
        exact z_iret hE dX1_travel_144
      · refine z_aload_n 4 (pc := 48) dX1_travel_48 rfl ?_
        refine z_iload 3 (pc := 49) dX1_travel_49 rfl ?_
        refine z_iload_n 5 (pc := 51) dX1_travel_51 rfl ?_
        refine z_iload 11 (pc := 52) dX1_travel_52 rfl ?_
        refine z_iload 0 (pc := 54) dX1_travel_54 rfl ?_
        obtain ⟨r2, er2, hf0⟩ := bp hf0
        refine z_calliS (pc := 56) (As := [.int o_x, .int a1, .int x11_41, .int (if (if 0 ≤ a1 then a1 else 0 - a1) < (if (if 0 ≤ a2 then a2 else 0 - a2) < (if 0 ≤ a3 then a3 else 0 - a3) then (if 0 ≤ a3 then a3 else 0 - a3) else (if 0 ≤ a2 then a2 else 0 - a2)) then (if (if 0 ≤ a2 then a2 else 0 - a2) < (if 0 ≤ a3 then a3 else 0 - a3) then (if 0 ≤ a3 then a3 else 0 - a3) else (if 0 ≤ a2 then a2 else 0 - a2)) else (if 0 ≤ a1 then a1 else 0 - a1))]) (rest := [.ref h_o]) (ws' := (wsX1_travel cA h_o h_p5 h_p6 h_p6_halfWidths h_p5_disc h_p5_kept h_p5_heights o_hasRun o_time_41 o_ended o_x_41 o_y_41 o_z_41 o_cut_41 o_held p5_side p5_cells p5_targets p5_marks p5_discSize_41 p6_radius p6_feed p6_halfWidths_n p6_halfWidths p5_disc_n p5_disc_41 p5_kept_n p5_kept p5_heights_n p5_heights_41)) (kX1_along l D cA   o_x a1 x11_41 (if (if 0 ≤ a1 then a1 else 0 - a1) < (if (if 0 ≤ a2 then a2 else 0 - a2) < (if 0 ≤ a3 then a3 else 0 - a3) then (if 0 ≤ a3 then a3 else 0 - a3) else (if 0 ≤ a2 then a2 else 0 - a2)) then (if (if 0 ≤ a2 then a2 else 0 - a2) < (if 0 ≤ a3 then a3 else 0 - a3) then (if 0 ≤ a3 then a3 else 0 - a3) else (if 0 ≤ a2 then a2 else 0 - a2)) else (if 0 ≤ a1 then a1 else 0 - a1)) N r2 er2) ivX1_83 ⟨rfl, rfl⟩ ⟨by decide, by decide⟩ rfl ⟨Nat.zero_le _, Nat.zero_le _⟩ [] rfl (by decide) rfl rfl rfl (Nat.le_of_ble_eq_true rfl) dX1_travel_56 ?_
        refine z_put 0 3 (pc := 59) (ws' := (wsX1_travel cA h_o h_p5 h_p6 h_p6_halfWidths h_p5_disc h_p5_kept h_p5_heights o_hasRun o_time_41 o_ended r2 o_y_41 o_z_41 o_cut_41 o_held p5_side p5_cells p5_targets p5_marks p5_discSize_41 p6_radius p6_feed p6_halfWidths_n p6_halfWidths p5_disc_n p5_disc_41 p5_kept_n p5_kept p5_heights_n p5_heights_41)) rfl rfl inX1 tyX1 tyX1_ok nmX1 (by decide) flX1_25 rfl rfl rfl rfl (Nat.le_of_ble_eq_true rfl) dX1_travel_59 rfl ?_
        refine z_aload_n 4 (pc := 62) dX1_travel_62 rfl ?_
        refine z_iload 2 (pc := 63) dX1_travel_63 rfl ?_
        refine z_iload_n 6 (pc := 65) dX1_travel_65 rfl ?_
        refine z_iload 11 (pc := 66) dX1_travel_66 rfl ?_
        refine z_iload 0 (pc := 68) dX1_travel_68 rfl ?_
        obtain ⟨r3, er3, hf0⟩ := bp hf0
        refine z_calliS (pc := 70) (As := [.int o_y, .int a2, .int x11_41, .int (if (if 0 ≤ a1 then a1 else 0 - a1) < (if (if 0 ≤ a2 then a2 else 0 - a2) < (if 0 ≤ a3 then a3 else 0 - a3) then (if 0 ≤ a3 then a3 else 0 - a3) else (if 0 ≤ a2 then a2 else 0 - a2)) then (if (if 0 ≤ a2 then a2 else 0 - a2) < (if 0 ≤ a3 then a3 else 0 - a3) then (if 0 ≤ a3 then a3 else 0 - a3) else (if 0 ≤ a2 then a2 else 0 - a2)) else (if 0 ≤ a1 then a1 else 0 - a1))]) (rest := [.ref h_o]) (ws' := (wsX1_travel cA h_o h_p5 h_p6 h_p6_halfWidths h_p5_disc h_p5_kept h_p5_heights o_hasRun o_time_41 o_ended r2 o_y_41 o_z_41 o_cut_41 o_held p5_side p5_cells p5_targets p5_marks p5_discSize_41 p6_radius p6_feed p6_halfWidths_n p6_halfWidths p5_disc_n p5_disc_41 p5_kept_n p5_kept p5_heights_n p5_heights_41)) (kX1_along l D cA   o_y a2 x11_41 (if (if 0 ≤ a1 then a1 else 0 - a1) < (if (if 0 ≤ a2 then a2 else 0 - a2) < (if 0 ≤ a3 then a3 else 0 - a3) then (if 0 ≤ a3 then a3 else 0 - a3) else (if 0 ≤ a2 then a2 else 0 - a2)) then (if (if 0 ≤ a2 then a2 else 0 - a2) < (if 0 ≤ a3 then a3 else 0 - a3) then (if 0 ≤ a3 then a3 else 0 - a3) else (if 0 ≤ a2 then a2 else 0 - a2)) else (if 0 ≤ a1 then a1 else 0 - a1)) N r3 er3) ivX1_83 ⟨rfl, rfl⟩ ⟨by decide, by decide⟩ rfl ⟨Nat.zero_le _, Nat.zero_le _⟩ [] rfl (by decide) rfl rfl rfl (Nat.le_of_ble_eq_true rfl) dX1_travel_70 ?_
        refine z_put 0 4 (pc := 73) (ws' := (wsX1_travel cA h_o h_p5 h_p6 h_p6_halfWidths h_p5_disc h_p5_kept h_p5_heights o_hasRun o_time_41 o_ended r2 r3 o_z_41 o_cut_41 o_held p5_side p5_cells p5_targets p5_marks p5_discSize_41 p6_radius p6_feed p6_halfWidths_n p6_halfWidths p5_disc_n p5_disc_41 p5_kept_n p5_kept p5_heights_n p5_heights_41)) rfl rfl inX1 tyX1 tyX1_ok nmX1 (by decide) flX1_28 rfl rfl rfl rfl (Nat.le_of_ble_eq_true rfl) dX1_travel_73 rfl ?_
        refine z_aload_n 4 (pc := 76) dX1_travel_76 rfl ?_
        refine z_iload 1 (pc := 77) dX1_travel_77 rfl ?_
        refine z_iload_n 7 (pc := 79) dX1_travel_79 rfl ?_
        refine z_iload 11 (pc := 80) dX1_travel_80 rfl ?_
        refine z_iload 0 (pc := 82) dX1_travel_82 rfl ?_
        obtain ⟨r4, er4, hf0⟩ := bp hf0
        refine z_calliS (pc := 84) (As := [.int o_z, .int a3, .int x11_41, .int (if (if 0 ≤ a1 then a1 else 0 - a1) < (if (if 0 ≤ a2 then a2 else 0 - a2) < (if 0 ≤ a3 then a3 else 0 - a3) then (if 0 ≤ a3 then a3 else 0 - a3) else (if 0 ≤ a2 then a2 else 0 - a2)) then (if (if 0 ≤ a2 then a2 else 0 - a2) < (if 0 ≤ a3 then a3 else 0 - a3) then (if 0 ≤ a3 then a3 else 0 - a3) else (if 0 ≤ a2 then a2 else 0 - a2)) else (if 0 ≤ a1 then a1 else 0 - a1))]) (rest := [.ref h_o]) (ws' := (wsX1_travel cA h_o h_p5 h_p6 h_p6_halfWidths h_p5_disc h_p5_kept h_p5_heights o_hasRun o_time_41 o_ended r2 r3 o_z_41 o_cut_41 o_held p5_side p5_cells p5_targets p5_marks p5_discSize_41 p6_radius p6_feed p6_halfWidths_n p6_halfWidths p5_disc_n p5_disc_41 p5_kept_n p5_kept p5_heights_n p5_heights_41)) (kX1_along l D cA   o_z a3 x11_41 (if (if 0 ≤ a1 then a1 else 0 - a1) < (if (if 0 ≤ a2 then a2 else 0 - a2) < (if 0 ≤ a3 then a3 else 0 - a3) then (if 0 ≤ a3 then a3 else 0 - a3) else (if 0 ≤ a2 then a2 else 0 - a2)) then (if (if 0 ≤ a2 then a2 else 0 - a2) < (if 0 ≤ a3 then a3 else 0 - a3) then (if 0 ≤ a3 then a3 else 0 - a3) else (if 0 ≤ a2 then a2 else 0 - a2)) else (if 0 ≤ a1 then a1 else 0 - a1)) N r4 er4) ivX1_83 ⟨rfl, rfl⟩ ⟨by decide, by decide⟩ rfl ⟨Nat.zero_le _, Nat.zero_le _⟩ [] rfl (by decide) rfl rfl rfl (Nat.le_of_ble_eq_true rfl) dX1_travel_84 ?_
        refine z_put 0 5 (pc := 87) (ws' := (wsX1_travel cA h_o h_p5 h_p6 h_p6_halfWidths h_p5_disc h_p5_kept h_p5_heights o_hasRun o_time_41 o_ended r2 r3 r4 o_cut_41 o_held p5_side p5_cells p5_targets p5_marks p5_discSize_41 p6_radius p6_feed p6_halfWidths_n p6_halfWidths p5_disc_n p5_disc_41 p5_kept_n p5_kept p5_heights_n p5_heights_41)) rfl rfl inX1 tyX1 tyX1_ok nmX1 (by decide) flX1_31 rfl rfl rfl rfl (Nat.le_of_ble_eq_true rfl) dX1_travel_87 rfl ?_
        refine z_aload 9 (pc := 90) dX1_travel_90 rfl ?_
        refine z_aload 10 (pc := 92) dX1_travel_92 rfl ?_
        refine z_aload_n 4 (pc := 94) dX1_travel_94 rfl ?_
        refine z_get 0 3 (pc := 95) (v := .int r2) rfl rfl inX1 (by decide) flX1_25 rfl dX1_travel_95 ?_
        refine z_aload_n 4 (pc := 98) dX1_travel_98 rfl ?_
        refine z_get 0 4 (pc := 99) (v := .int r3) rfl rfl inX1 (by decide) flX1_28 rfl dX1_travel_99 ?_
        obtain ⟨r5, er5, hf0⟩ := bp hf0
        refine z_callvV (pc := 102) (As := [.ref h_p6, .int r2, .int r3]) (rest := []) (ws' := (wsX1_travel cA h_o h_p5 h_p6 h_p6_halfWidths h_p5_disc h_p5_kept h_p5_heights o_hasRun o_time_41 o_ended r2 r3 r4 o_cut_41 o_held p5_side p5_cells p5_targets p5_marks r5.1 p6_radius p6_feed p6_halfWidths_n p6_halfWidths p5_disc_n r5.2 p5_kept_n p5_kept p5_heights_n p5_heights_41)) (kX0_layDisc l D cA h_p5 h_p6 h_p6_halfWidths h_p5_disc p5_side p5_cells (.ref h_p5_heights) p5_targets (.ref h_p5_kept) p5_marks p5_discSize_41 p6_radius p6_feed p6_halfWidths_n p6_halfWidths p5_disc_n p5_disc_41 r2 r3 N r5 er5) ivX1_87 ⟨rfl, rfl⟩ ⟨by decide, by decide⟩ rfl ⟨Nat.zero_le _, Nat.zero_le _⟩ rfl rfl [1, 2, 3, 4] rfl (by decide) rfl rfl rfl (Nat.le_of_ble_eq_true rfl) dX1_travel_102 ?_
        refine z_iload 8 (pc := 105) dX1_travel_105 rfl ?_
        refine z_if_eq (pc := 107) (tgt := 121) dX1_travel_107 (by decide) hf0 (fun hf0 => ?_) (fun hf0 => ?_)
        · refine z_aload_n 4 (pc := 121) dX1_travel_121 rfl ?_
          refine z_aload 9 (pc := 122) dX1_travel_122 rfl ?_
          obtain ⟨r6, er6, hf0⟩ := bp hf0
          refine z_calliV (pc := 124) (As := [.ref h_p5]) (rest := []) (ws' := (wsX1_travel cA h_o h_p5 h_p6 h_p6_halfWidths h_p5_disc h_p5_kept h_p5_heights o_hasRun r6.2 o_ended r2 r3 r4 o_cut_41 o_held p5_side p5_cells p5_targets p5_marks r5.1 p6_radius p6_feed p6_halfWidths_n p6_halfWidths p5_disc_n r5.2 p5_kept_n p5_kept p5_heights_n p5_heights_41)) (kX1_passHere l D cA h_o h_p5 h_p5_heights h_p5_disc o_hasRun o_time_41 o_ended r2 r3 r4 o_cut_41 o_held p5_side p5_cells p5_targets (.ref h_p5_kept) p5_marks r5.1 p5_heights_n p5_heights_41 p5_disc_n r5.2  N r6 er6) ivX1_97 ⟨rfl, rfl⟩ ⟨by decide, by decide⟩ rfl ⟨Nat.zero_le _, Nat.zero_le _⟩ rfl rfl [0, 1, 6, 4] rfl (by decide) rfl rfl rfl (Nat.le_of_ble_eq_true rfl) dX1_travel_124 ?_
          refine z_istore (pc := 127) (lv' := [(12, .int r6.1), (10, .int (if (if 0 ≤ a1 then a1 else 0 - a1) < (if (if 0 ≤ a2 then a2 else 0 - a2) < (if 0 ≤ a3 then a3 else 0 - a3) then (if 0 ≤ a3 then a3 else 0 - a3) else (if 0 ≤ a2 then a2 else 0 - a2)) then (if (if 0 ≤ a2 then a2 else 0 - a2) < (if 0 ≤ a3 then a3 else 0 - a3) then (if 0 ≤ a3 then a3 else 0 - a3) else (if 0 ≤ a2 then a2 else 0 - a2)) else (if 0 ≤ a1 then a1 else 0 - a1))), (9, .int o_z), (8, .int o_y), (7, .int o_x), (0, .ref h_o), (1, .int a1), (2, .int a2), (3, .int a3), (4, .int a4), (5, .ref h_p5), (6, .ref h_p6), (11, .int x11_41)]) dX1_travel_127 (by decide) rfl ?_
          refine z_iload 0 (pc := 129) dX1_travel_129 rfl ?_
          refine z_if_eq (pc := 131) (tgt := 137) dX1_travel_131 (by decide) hf0 (fun hf0 => ?_) (fun hf0 => ?_)
          · refine z_iinc 12 (pc := 137) (v := x11_41 + 1) (lv' := [(11, .int (x11_41 + 1)), (12, .int r6.1), (10, .int (if (if 0 ≤ a1 then a1 else 0 - a1) < (if (if 0 ≤ a2 then a2 else 0 - a2) < (if 0 ≤ a3 then a3 else 0 - a3) then (if 0 ≤ a3 then a3 else 0 - a3) else (if 0 ≤ a2 then a2 else 0 - a2)) then (if (if 0 ≤ a2 then a2 else 0 - a2) < (if 0 ≤ a3 then a3 else 0 - a3) then (if 0 ≤ a3 then a3 else 0 - a3) else (if 0 ≤ a2 then a2 else 0 - a2)) else (if 0 ≤ a1 then a1 else 0 - a1))), (9, .int o_z), (8, .int o_y), (7, .int o_x), (0, .ref h_o), (1, .int a1), (2, .int a2), (3, .int a3), (4, .int a4), (5, .ref h_p5), (6, .ref h_p6)]) dX1_travel_137 rfl rfl (by decide) rfl ?_
            refine z_goto (pc := 140) (tgt := 41) dX1_travel_140 (by decide) ?_
            exact z_lv [2, 3, 4, 5, 6, 7, 8, 9, 10, 11, 12, 0] rfl (ih41 (x11_41 + 1) o_cut_41 r6.2 r2 r3 r4 r5.2 r5.1 p5_heights_41 hf0)
          · refine z_iload 0 (pc := 134) dX1_travel_134 rfl ?_
            obtain rfl := Option.some.inj hf0
            exact z_iret hE dX1_travel_136
        · refine z_aload_n 4 (pc := 110) dX1_travel_110 rfl ?_
          refine z_aload 9 (pc := 111) dX1_travel_111 rfl ?_
          refine z_aload 10 (pc := 113) dX1_travel_113 rfl ?_
          obtain ⟨r7, er7, hf0⟩ := bp hf0
          refine z_calliV (pc := 115) (As := [.ref h_p5, .ref h_p6]) (rest := []) (ws' := (wsX1_travel cA h_o h_p5 h_p6 h_p6_halfWidths h_p5_disc h_p5_kept h_p5_heights o_hasRun r7.2.1 o_ended r2 r3 r4 r7.2.2.1 o_held p5_side p5_cells p5_targets p5_marks r5.1 p6_radius p6_feed p6_halfWidths_n p6_halfWidths p5_disc_n r5.2 p5_kept_n p5_kept p5_heights_n r7.2.2.2)) (kX1_cutHere l D cA h_o h_p5 h_p6 h_p5_kept h_p5_disc h_p5_heights o_hasRun o_time_41 o_ended r2 r3 r4 o_cut_41 o_held p5_side p5_cells p5_targets p5_marks r5.1 p6_radius p6_feed (.ref h_p6_halfWidths) p5_kept_n p5_kept p5_disc_n r5.2 p5_heights_n p5_heights_41  N r7 er7) ivX1_93 ⟨rfl, rfl⟩ ⟨by decide, by decide⟩ rfl ⟨Nat.zero_le _, Nat.zero_le _⟩ rfl rfl [0, 1, 2, 5, 4, 6] rfl (by decide) rfl rfl rfl (Nat.le_of_ble_eq_true rfl) dX1_travel_115 ?_
          refine z_goto (pc := 118) (tgt := 127) dX1_travel_118 (by decide) ?_
          refine z_istore (pc := 127) (lv' := [(12, .int r7.1), (10, .int (if (if 0 ≤ a1 then a1 else 0 - a1) < (if (if 0 ≤ a2 then a2 else 0 - a2) < (if 0 ≤ a3 then a3 else 0 - a3) then (if 0 ≤ a3 then a3 else 0 - a3) else (if 0 ≤ a2 then a2 else 0 - a2)) then (if (if 0 ≤ a2 then a2 else 0 - a2) < (if 0 ≤ a3 then a3 else 0 - a3) then (if 0 ≤ a3 then a3 else 0 - a3) else (if 0 ≤ a2 then a2 else 0 - a2)) else (if 0 ≤ a1 then a1 else 0 - a1))), (9, .int o_z), (8, .int o_y), (7, .int o_x), (0, .ref h_o), (1, .int a1), (2, .int a2), (3, .int a3), (4, .int a4), (5, .ref h_p5), (6, .ref h_p6), (11, .int x11_41)]) dX1_travel_127 (by decide) rfl ?_
          refine z_iload 0 (pc := 129) dX1_travel_129 rfl ?_
          refine z_if_eq (pc := 131) (tgt := 137) dX1_travel_131 (by decide) hf0 (fun hf0 => ?_) (fun hf0 => ?_)
          · refine z_iinc 12 (pc := 137) (v := x11_41 + 1) (lv' := [(11, .int (x11_41 + 1)), (12, .int r7.1), (10, .int (if (if 0 ≤ a1 then a1 else 0 - a1) < (if (if 0 ≤ a2 then a2 else 0 - a2) < (if 0 ≤ a3 then a3 else 0 - a3) then (if 0 ≤ a3 then a3 else 0 - a3) else (if 0 ≤ a2 then a2 else 0 - a2)) then (if (if 0 ≤ a2 then a2 else 0 - a2) < (if 0 ≤ a3 then a3 else 0 - a3) then (if 0 ≤ a3 then a3 else 0 - a3) else (if 0 ≤ a2 then a2 else 0 - a2)) else (if 0 ≤ a1 then a1 else 0 - a1))), (9, .int o_z), (8, .int o_y), (7, .int o_x), (0, .ref h_o), (1, .int a1), (2, .int a2), (3, .int a3), (4, .int a4), (5, .ref h_p5), (6, .ref h_p6)]) dX1_travel_137 rfl rfl (by decide) rfl ?_
            refine z_goto (pc := 140) (tgt := 41) dX1_travel_140 (by decide) ?_
            exact z_lv [2, 3, 4, 5, 6, 7, 8, 9, 10, 11, 12, 0] rfl (ih41 (x11_41 + 1) r7.2.2.1 r7.2.1 r2 r3 r4 r5.2 r5.1 r7.2.2.2 hf0)
          · refine z_iload 0 (pc := 134) dX1_travel_134 rfl ?_
            obtain rfl := Option.some.inj hf0
            exact z_iret hE dX1_travel_136
  exact z_lv [1, 2, 3, 4, 5, 6, 7, 8, 9, 10, 11, 0] rfl (lp41 N 1 o_cut o_time o_x o_y o_z p5_disc p5_discSize p5_heights hf0)

abbrev RX1_obey : Type := Int32 × Int32 × Int32 × Int32 × Int32 × Int32 × Int32 × Int32 × (Nat → Int32) × (Nat → Int32)
abbrev rmX1_obey : Room := { frames := 3, cells := 0, slots := 0, locals := 82 }
abbrev wsX1_obey (cA : Nat → ClassId) (h_o : Nat) (h_p1 : Nat) (h_p3 : Nat) (h_p4 : Nat) (h_p1_letters : Nat) (h_p1_digits : Nat) (h_p1_xs : Nat) (h_p1_ys : Nat) (h_p1_zs : Nat) (h_p4_0 : Nat) (h_p4_1 : Nat) (h_p4_2 : Nat) (h_p4_3 : Nat) (h_p4_0_halfWidths : Nat) (h_p4_1_halfWidths : Nat) (h_p4_2_halfWidths : Nat) (h_p4_3_halfWidths : Nat) (h_p3_disc : Nat) (h_p3_kept : Nat) (h_p3_heights : Nat) (o_hasRun : Int32) (o_time : Int32) (o_ended : Int32) (o_x : Int32) (o_y : Int32) (o_z : Int32) (o_cut : Int32) (o_held : Int32) (p1_count : Int32) (p3_side : Int32) (p3_cells : Int32) (p3_targets : Value) (p3_marks : Value) (p3_discSize : Int32) (p1_letters_n : Nat) (p1_letters : Nat → Int32) (p1_digits_n : Nat) (p1_digits : Nat → Int32) (p1_xs_n : Nat) (p1_xs : Nat → Int32) (p1_ys_n : Nat) (p1_ys : Nat → Int32) (p1_zs_n : Nat) (p1_zs : Nat → Int32) (p4_radius : Nat → Int32) (p4_feed : Nat → Int32) (p4_halfWidths_n : Nat) (p4_halfWidths : Nat → Nat → Int32) (p3_disc_n : Nat) (p3_disc : Nat → Int32) (p3_kept_n : Nat) (p3_kept : Nat → Int32) (p3_heights_n : Nat) (p3_heights : Nat → Int32) : va_W := [(h_o, .inr (1, [.int o_hasRun, .int o_time, .int o_ended, .int o_x, .int o_y, .int o_z, .int o_cut, .int o_held])), (h_p1, .inr (3, [.int p1_count, .ref h_p1_letters, .ref h_p1_digits, .ref h_p1_xs, .ref h_p1_ys, .ref h_p1_zs])), (h_p3, .inr (0, [.int p3_side, .int p3_cells, .ref h_p3_heights, p3_targets, .ref h_p3_kept, p3_marks, .ref h_p3_disc, .int p3_discSize])), (h_p4, .inl (cA 4, 4, .inr (.inr (.inr (.inr (rk4 h_p4_0 h_p4_1 h_p4_2 h_p4_3)))))), (h_p1_letters, .inl (cA 2, p1_letters_n, .inl p1_letters)), (h_p1_digits, .inl (cA 0, p1_digits_n, .inl p1_digits)), (h_p1_xs, .inl (cA 0, p1_xs_n, .inl p1_xs)), (h_p1_ys, .inl (cA 0, p1_ys_n, .inl p1_ys)), (h_p1_zs, .inl (cA 0, p1_zs_n, .inl p1_zs)), (h_p4_0, .inr (5, [.int (p4_radius 0), .int (p4_feed 0), .ref h_p4_0_halfWidths])), (h_p4_1, .inr (5, [.int (p4_radius 1), .int (p4_feed 1), .ref h_p4_1_halfWidths])), (h_p4_2, .inr (5, [.int (p4_radius 2), .int (p4_feed 2), .ref h_p4_2_halfWidths])), (h_p4_3, .inr (5, [.int (p4_radius 3), .int (p4_feed 3), .ref h_p4_3_halfWidths])), (h_p4_0_halfWidths, .inl (cA 0, p4_halfWidths_n, .inl (p4_halfWidths 0))), (h_p4_1_halfWidths, .inl (cA 0, p4_halfWidths_n, .inl (p4_halfWidths 1))), (h_p4_2_halfWidths, .inl (cA 0, p4_halfWidths_n, .inl (p4_halfWidths 2))), (h_p4_3_halfWidths, .inl (cA 0, p4_halfWidths_n, .inl (p4_halfWidths 3))), (h_p3_disc, .inl (cA 0, p3_disc_n, .inl p3_disc)), (h_p3_kept, .inl (cA 1, p3_kept_n, .inl p3_kept)), (h_p3_heights, .inl (cA 0, p3_heights_n, .inl p3_heights))]
def fX1_obey (N : Nat) (a2 : Int32) (o_time : Int32) (o_x : Int32) (o_y : Int32) (o_z : Int32) (o_cut : Int32) (o_held : Int32) (p3_side : Int32) (p3_discSize : Int32) (p1_letters_n : Nat) (p1_letters : Nat → Int32) (p1_digits_n : Nat) (p1_digits : Nat → Int32) (p1_xs_n : Nat) (p1_xs : Nat → Int32) (p1_ys_n : Nat) (p1_ys : Nat → Int32) (p1_zs_n : Nat) (p1_zs : Nat → Int32) (p4_radius : Nat → Int32) (p4_feed : Nat → Int32) (p4_halfWidths_n : Nat) (p4_halfWidths : Nat → Nat → Int32) (p3_disc_n : Nat) (p3_disc : Nat → Int32) (p3_kept_n : Nat) (p3_kept : Nat → Int32) (p3_heights_n : Nat) (p3_heights : Nat → Int32) : Option RX1_obey :=
  (if a2 < 0 ∨ p1_letters_n ≤ a2.toNatClampNeg then none else (if (p1_letters a2.toNatClampNeg) = 84 then (if a2 < 0 ∨ p1_digits_n ≤ a2.toNatClampNeg then none else some (0, o_time + 10, o_x, o_y, o_z, o_cut, p1_digits a2.toNatClampNeg, p3_discSize, p3_disc, p3_heights)) else (if a2 < 0 ∨ p1_xs_n ≤ a2.toNatClampNeg then none else ((fX1_difference N o_x (p1_xs a2.toNatClampNeg)).bind fun r1 => (if a2 < 0 ∨ p1_ys_n ≤ a2.toNatClampNeg then none else ((fX1_difference N o_y (p1_ys a2.toNatClampNeg)).bind fun r2 => (if a2 < 0 ∨ p1_zs_n ≤ a2.toNatClampNeg then none else ((fX1_difference N o_z (p1_zs a2.toNatClampNeg)).bind fun r3 => (if a2 < 0 ∨ p1_digits_n ≤ a2.toNatClampNeg then none else (if (p1_digits a2.toNatClampNeg) = 1 then (if o_held < 0 ∨ 4 ≤ o_held.toNatClampNeg then none else ((fX1_travel N r1 r2 r3 1 o_time o_x o_y o_z o_cut p3_side p3_discSize (p4_radius o_held.toNatClampNeg) (p4_feed o_held.toNatClampNeg) p4_halfWidths_n (p4_halfWidths o_held.toNatClampNeg) p3_disc_n p3_disc p3_kept_n p3_kept p3_heights_n p3_heights).bind fun r5 => some (r5.1, r5.2.1, r5.2.2.1, r5.2.2.2.1, r5.2.2.2.2.1, r5.2.2.2.2.2.1, o_held, r5.2.2.2.2.2.2.1, r5.2.2.2.2.2.2.2.1, r5.2.2.2.2.2.2.2.2))) else (if o_held < 0 ∨ 4 ≤ o_held.toNatClampNeg then none else ((fX1_travel N r1 r2 r3 0 o_time o_x o_y o_z o_cut p3_side p3_discSize (p4_radius o_held.toNatClampNeg) (p4_feed o_held.toNatClampNeg) p4_halfWidths_n (p4_halfWidths o_held.toNatClampNeg) p3_disc_n p3_disc p3_kept_n p3_kept p3_heights_n p3_heights).bind fun r4 => some (r4.1, r4.2.1, r4.2.2.1, r4.2.2.2.1, r4.2.2.2.2.1, r4.2.2.2.2.2.1, o_held, r4.2.2.2.2.2.2.1, r4.2.2.2.2.2.2.2.1, r4.2.2.2.2.2.2.2.2)))))))))))))
set_option maxHeartbeats 4000000 in
set_option maxRecDepth 100000 in
theorem kX1_obey (l : Launch) (D : va_G) (cA : Nat → ClassId) (h_o : Nat) (h_p1 : Nat) (h_p3 : Nat) (h_p4 : Nat) (h_p1_letters : Nat) (h_p1_digits : Nat) (h_p1_xs : Nat) (h_p1_ys : Nat) (h_p1_zs : Nat) (h_p4_0 : Nat) (h_p4_1 : Nat) (h_p4_2 : Nat) (h_p4_3 : Nat) (h_p4_0_halfWidths : Nat) (h_p4_1_halfWidths : Nat) (h_p4_2_halfWidths : Nat) (h_p4_3_halfWidths : Nat) (h_p3_disc : Nat) (h_p3_kept : Nat) (h_p3_heights : Nat) (o_hasRun : Int32) (o_time : Int32) (o_ended : Int32) (o_x : Int32) (o_y : Int32) (o_z : Int32) (o_cut : Int32) (o_held : Int32) (p1_count : Int32) (p3_side : Int32) (p3_cells : Int32) (p3_targets : Value) (p3_marks : Value) (p3_discSize : Int32) (p1_letters_n : Nat) (p1_letters : Nat → Int32) (p1_digits_n : Nat) (p1_digits : Nat → Int32) (p1_xs_n : Nat) (p1_xs : Nat → Int32) (p1_ys_n : Nat) (p1_ys : Nat → Int32) (p1_zs_n : Nat) (p1_zs : Nat → Int32) (p4_radius : Nat → Int32) (p4_feed : Nat → Int32) (p4_halfWidths_n : Nat) (p4_halfWidths : Nat → Nat → Int32) (p3_disc_n : Nat) (p3_disc : Nat → Int32) (p3_kept_n : Nat) (p3_kept : Nat → Int32) (p3_heights_n : Nat) (p3_heights : Nat → Int32) (a2 : Int32) (N : Nat) (res : RX1_obey) (hf0 : fX1_obey N a2 o_time o_x o_y o_z o_cut o_held p3_side p3_discSize p1_letters_n p1_letters p1_digits_n p1_digits p1_xs_n p1_xs p1_ys_n p1_ys p1_zs_n p1_zs p4_radius p4_feed p4_halfWidths_n p4_halfWidths p3_disc_n p3_disc p3_kept_n p3_kept p3_heights_n p3_heights = some res) : CtI l yX1_obey (Cond.code yX1_obey cX1_obey 8 (some .int) :: tblG) rmX1_obey D cA (wsX1_obey cA h_o h_p1 h_p3 h_p4 h_p1_letters h_p1_digits h_p1_xs h_p1_ys h_p1_zs h_p4_0 h_p4_1 h_p4_2 h_p4_3 h_p4_0_halfWidths h_p4_1_halfWidths h_p4_2_halfWidths h_p4_3_halfWidths h_p3_disc h_p3_kept h_p3_heights o_hasRun o_time o_ended o_x o_y o_z o_cut o_held p1_count p3_side p3_cells p3_targets p3_marks p3_discSize p1_letters_n p1_letters p1_digits_n p1_digits p1_xs_n p1_xs p1_ys_n p1_ys p1_zs_n p1_zs p4_radius p4_feed p4_halfWidths_n p4_halfWidths p3_disc_n p3_disc p3_kept_n p3_kept p3_heights_n p3_heights) [.ref h_o, .ref h_p1, .int a2, .ref h_p3, .ref h_p4] res.1 (wsX1_obey cA h_o h_p1 h_p3 h_p4 h_p1_letters h_p1_digits h_p1_xs h_p1_ys h_p1_zs h_p4_0 h_p4_1 h_p4_2 h_p4_3 h_p4_0_halfWidths h_p4_1_halfWidths h_p4_2_halfWidths h_p4_3_halfWidths h_p3_disc h_p3_kept h_p3_heights o_hasRun res.2.1 o_ended res.2.2.1 res.2.2.2.1 res.2.2.2.2.1 res.2.2.2.2.2.1 res.2.2.2.2.2.2.1 p1_count p3_side p3_cells p3_targets p3_marks res.2.2.2.2.2.2.2.1 p1_letters_n p1_letters p1_digits_n p1_digits p1_xs_n p1_xs p1_ys_n p1_ys p1_zs_n p1_zs p4_radius p4_feed p4_halfWidths_n p4_halfWidths p3_disc_n res.2.2.2.2.2.2.2.2.1 p3_kept_n p3_kept p3_heights_n res.2.2.2.2.2.2.2.2.2) := by
  refine CtI.start (lv := [(0, .ref h_o), (1, .ref h_p1), (2, .int a2), (3, .ref h_p3), (4, .ref h_p4)]) (by decide) (Nat.le_of_ble_eq_true rfl) rfl (fun κ hE => ?_)
  rw [fX1_obey] at hf0
  refine z_aload_n 1 (pc := 0) dX1_obey_0 rfl ?_
  refine z_get 1 1 (pc := 1) (v := .ref h_p1_letters) rfl rfl inX3 (by decide) flX1_49 rfl dX1_obey_1 ?_
  refine z_iload_n 2 (pc := 4) dX1_obey_4 rfl ?_
  refine z_caload 4 2 (pc := 5) rfl rfl dX1_obey_5 hf0 (fun hf0 => ?_)
  refine z_bipush (pc := 6) (v := 84) dX1_obey_6 (by decide) ?_
  refine z_icmp_ne (pc := 8) (tgt := 34) dX1_obey_8 (by decide) hf0 (fun hf0 => ?_) (fun hf0 => ?_)
  · refine z_aload_n 0 (pc := 34) dX1_obey_34 rfl ?_
    refine z_get 0 3 (pc := 35) (v := .int o_x) rfl rfl inX1 (by decide) flX1_25 rfl dX1_obey_35 ?_
    refine z_aload_n 1 (pc := 38) dX1_obey_38 rfl ?_
    refine z_get 1 3 (pc := 39) (v := .ref h_p1_xs) rfl rfl inX3 (by decide) flX1_57 rfl dX1_obey_39 ?_
    refine z_iload_n 2 (pc := 42) dX1_obey_42 rfl ?_
    refine z_iaload 6 0 (pc := 43) rfl rfl dX1_obey_43 hf0 (fun hf0 => ?_)
    obtain ⟨r1, er1, hf0⟩ := bp hf0
    refine z_calliS (pc := 44) (As := [.int o_x, .int (p1_xs a2.toNatClampNeg)]) (rest := []) (ws' := (wsX1_obey cA h_o h_p1 h_p3 h_p4 h_p1_letters h_p1_digits h_p1_xs h_p1_ys h_p1_zs h_p4_0 h_p4_1 h_p4_2 h_p4_3 h_p4_0_halfWidths h_p4_1_halfWidths h_p4_2_halfWidths h_p4_3_halfWidths h_p3_disc h_p3_kept h_p3_heights o_hasRun o_time o_ended o_x o_y o_z o_cut o_held p1_count p3_side p3_cells p3_targets p3_marks p3_discSize p1_letters_n p1_letters p1_digits_n p1_digits p1_xs_n p1_xs p1_ys_n p1_ys p1_zs_n p1_zs p4_radius p4_feed p4_halfWidths_n p4_halfWidths p3_disc_n p3_disc p3_kept_n p3_kept p3_heights_n p3_heights)) (kX1_difference l D cA   o_x (p1_xs a2.toNatClampNeg) N r1 er1) ivX1_60 ⟨rfl, rfl⟩ ⟨by decide, by decide⟩ rfl ⟨Nat.zero_le _, Nat.zero_le _⟩ [] rfl (by decide) rfl rfl rfl (Nat.le_of_ble_eq_true rfl) dX1_obey_44 ?_
    refine z_istore (pc := 47) (lv' := [(5, .int r1), (0, .ref h_o), (1, .ref h_p1), (2, .int a2), (3, .ref h_p3), (4, .ref h_p4)]) dX1_obey_47 (by decide) rfl ?_
    refine z_aload_n 1 (pc := 49) dX1_obey_49 rfl ?_
    refine z_get 0 4 (pc := 50) (v := .int o_y) rfl rfl inX1 (by decide) flX1_28 rfl dX1_obey_50 ?_
    refine z_aload_n 2 (pc := 53) dX1_obey_53 rfl ?_
    refine z_get 1 4 (pc := 54) (v := .ref h_p1_ys) rfl rfl inX3 (by decide) flX1_64 rfl dX1_obey_54 ?_
    refine z_iload_n 3 (pc := 57) dX1_obey_57 rfl ?_
    refine z_iaload 7 0 (pc := 58) rfl rfl dX1_obey_58 hf0 (fun hf0 => ?_)
    obtain ⟨r2, er2, hf0⟩ := bp hf0
    refine z_calliS (pc := 59) (As := [.int o_y, .int (p1_ys a2.toNatClampNeg)]) (rest := []) (ws' := (wsX1_obey cA h_o h_p1 h_p3 h_p4 h_p1_letters h_p1_digits h_p1_xs h_p1_ys h_p1_zs h_p4_0 h_p4_1 h_p4_2 h_p4_3 h_p4_0_halfWidths h_p4_1_halfWidths h_p4_2_halfWidths h_p4_3_halfWidths h_p3_disc h_p3_kept h_p3_heights o_hasRun o_time o_ended o_x o_y o_z o_cut o_held p1_count p3_side p3_cells p3_targets p3_marks p3_discSize p1_letters_n p1_letters p1_digits_n p1_digits p1_xs_n p1_xs p1_ys_n p1_ys p1_zs_n p1_zs p4_radius p4_feed p4_halfWidths_n p4_halfWidths p3_disc_n p3_disc p3_kept_n p3_kept p3_heights_n p3_heights)) (kX1_difference l D cA   o_y (p1_ys a2.toNatClampNeg) N r2 er2) ivX1_60 ⟨rfl, rfl⟩ ⟨by decide, by decide⟩ rfl ⟨Nat.zero_le _, Nat.zero_le _⟩ [] rfl (by decide) rfl rfl rfl (Nat.le_of_ble_eq_true rfl) dX1_obey_59 ?_
    refine z_istore (pc := 62) (lv' := [(6, .int r2), (5, .int r1), (0, .ref h_o), (1, .ref h_p1), (2, .int a2), (3, .ref h_p3), (4, .ref h_p4)]) dX1_obey_62 (by decide) rfl ?_
    refine z_aload_n 2 (pc := 64) dX1_obey_64 rfl ?_
    refine z_get 0 5 (pc := 65) (v := .int o_z) rfl rfl inX1 (by decide) flX1_31 rfl dX1_obey_65 ?_
    refine z_aload_n 3 (pc := 68) dX1_obey_68 rfl ?_
    refine z_get 1 5 (pc := 69) (v := .ref h_p1_zs) rfl rfl inX3 (by decide) flX1_67 rfl dX1_obey_69 ?_
    refine z_iload_n 4 (pc := 72) dX1_obey_72 rfl ?_
    refine z_iaload 8 0 (pc := 73) rfl rfl dX1_obey_73 hf0 (fun hf0 => ?_)
    obtain ⟨r3, er3, hf0⟩ := bp hf0
    refine z_calliS (pc := 74) (As := [.int o_z, .int (p1_zs a2.toNatClampNeg)]) (rest := []) (ws' := (wsX1_obey cA h_o h_p1 h_p3 h_p4 h_p1_letters h_p1_digits h_p1_xs h_p1_ys h_p1_zs h_p4_0 h_p4_1 h_p4_2 h_p4_3 h_p4_0_halfWidths h_p4_1_halfWidths h_p4_2_halfWidths h_p4_3_halfWidths h_p3_disc h_p3_kept h_p3_heights o_hasRun o_time o_ended o_x o_y o_z o_cut o_held p1_count p3_side p3_cells p3_targets p3_marks p3_discSize p1_letters_n p1_letters p1_digits_n p1_digits p1_xs_n p1_xs p1_ys_n p1_ys p1_zs_n p1_zs p4_radius p4_feed p4_halfWidths_n p4_halfWidths p3_disc_n p3_disc p3_kept_n p3_kept p3_heights_n p3_heights)) (kX1_difference l D cA   o_z (p1_zs a2.toNatClampNeg) N r3 er3) ivX1_60 ⟨rfl, rfl⟩ ⟨by decide, by decide⟩ rfl ⟨Nat.zero_le _, Nat.zero_le _⟩ [] rfl (by decide) rfl rfl rfl (Nat.le_of_ble_eq_true rfl) dX1_obey_74 ?_
    refine z_istore (pc := 77) (lv' := [(7, .int r3), (6, .int r2), (5, .int r1), (0, .ref h_o), (1, .ref h_p1), (2, .int a2), (3, .ref h_p3), (4, .ref h_p4)]) dX1_obey_77 (by decide) rfl ?_
    refine z_aload_n 3 (pc := 79) dX1_obey_79 rfl ?_
    refine z_iload 2 (pc := 80) dX1_obey_80 rfl ?_
    refine z_iload 1 (pc := 82) dX1_obey_82 rfl ?_
    refine z_iload 0 (pc := 84) dX1_obey_84 rfl ?_
    refine z_aload_n 4 (pc := 86) dX1_obey_86 rfl ?_
    refine z_get 1 2 (pc := 87) (v := .ref h_p1_digits) rfl rfl inX3 (by decide) flX1_53 rfl dX1_obey_87 ?_
    refine z_iload_n 5 (pc := 90) dX1_obey_90 rfl ?_
    refine z_iaload 5 0 (pc := 91) rfl rfl dX1_obey_91 hf0 (fun hf0 => ?_)
    refine z_iconst (pc := 92) (v := 1) dX1_obey_92 (by decide) ?_
    refine z_icmp_ne (pc := 93) (tgt := 100) dX1_obey_93 (by decide) hf0 (fun hf0 => ?_) (fun hf0 => ?_)
    · refine z_iconst (pc := 100) (v := 0) dX1_obey_100 (by decide) ?_
      refine z_aload_n 6 (pc := 101) dX1_obey_101 rfl ?_
      refine z_aload 7 (pc := 102) dX1_obey_102 rfl ?_
      refine z_aload_n 3 (pc := 104) dX1_obey_104 rfl ?_
      refine z_get 0 7 (pc := 105) (v := .int o_held) rfl rfl inX1 (by decide) flX1_37 rfl dX1_obey_105 ?_
      refine z_aaload 3 4 (pc := 108) rfl rfl dX1_obey_108 hf0 (fun hf0 hk108 => ?_)
      rcases fam4 hk108 with ek108 | ek108 | ek108 | ek108
      · rw [ek108] at hf0 ⊢
        refine z_stk (stk' := [.ref h_p4_0, .ref h_p3, .int 0, .int r3, .int r2, .int r1, .ref h_o]) rfl ?_
        obtain ⟨r4, er4, hf0⟩ := bp hf0
        refine z_calliV (pc := 109) (As := [.int r1, .int r2, .int r3, .int 0, .ref h_p3, .ref h_p4_0]) (rest := []) (ws' := (wsX1_obey cA h_o h_p1 h_p3 h_p4 h_p1_letters h_p1_digits h_p1_xs h_p1_ys h_p1_zs h_p4_0 h_p4_1 h_p4_2 h_p4_3 h_p4_0_halfWidths h_p4_1_halfWidths h_p4_2_halfWidths h_p4_3_halfWidths h_p3_disc h_p3_kept h_p3_heights o_hasRun r4.2.1 o_ended r4.2.2.1 r4.2.2.2.1 r4.2.2.2.2.1 r4.2.2.2.2.2.1 o_held p1_count p3_side p3_cells p3_targets p3_marks r4.2.2.2.2.2.2.1 p1_letters_n p1_letters p1_digits_n p1_digits p1_xs_n p1_xs p1_ys_n p1_ys p1_zs_n p1_zs p4_radius p4_feed p4_halfWidths_n p4_halfWidths p3_disc_n r4.2.2.2.2.2.2.2.1 p3_kept_n p3_kept p3_heights_n r4.2.2.2.2.2.2.2.2)) (kX1_travel l D cA h_o h_p3 h_p4_0 h_p4_0_halfWidths h_p3_disc h_p3_kept h_p3_heights o_hasRun o_time o_ended o_x o_y o_z o_cut o_held p3_side p3_cells p3_targets p3_marks p3_discSize (p4_radius 0) (p4_feed 0) p4_halfWidths_n (p4_halfWidths 0) p3_disc_n p3_disc p3_kept_n p3_kept p3_heights_n p3_heights r1 r2 r3 0 N r4 er4) ivX1_70 ⟨rfl, rfl⟩ ⟨by decide, by decide⟩ rfl ⟨Nat.zero_le _, Nat.zero_le _⟩ rfl rfl [0, 2, 9, 13, 17, 18, 19] rfl (by decide) rfl rfl rfl (Nat.le_of_ble_eq_true rfl) dX1_obey_109 ?_
        obtain rfl := Option.some.inj hf0
        exact z_iret hE dX1_obey_112
      · rw [ek108] at hf0 ⊢
        refine z_stk (stk' := [.ref h_p4_1, .ref h_p3, .int 0, .int r3, .int r2, .int r1, .ref h_o]) rfl ?_
        obtain ⟨r4, er4, hf0⟩ := bp hf0
        refine z_calliV (pc := 109) (As := [.int r1, .int r2, .int r3, .int 0, .ref h_p3, .ref h_p4_1]) (rest := []) (ws' := (wsX1_obey cA h_o h_p1 h_p3 h_p4 h_p1_letters h_p1_digits h_p1_xs h_p1_ys h_p1_zs h_p4_0 h_p4_1 h_p4_2 h_p4_3 h_p4_0_halfWidths h_p4_1_halfWidths h_p4_2_halfWidths h_p4_3_halfWidths h_p3_disc h_p3_kept h_p3_heights o_hasRun r4.2.1 o_ended r4.2.2.1 r4.2.2.2.1 r4.2.2.2.2.1 r4.2.2.2.2.2.1 o_held p1_count p3_side p3_cells p3_targets p3_marks r4.2.2.2.2.2.2.1 p1_letters_n p1_letters p1_digits_n p1_digits p1_xs_n p1_xs p1_ys_n p1_ys p1_zs_n p1_zs p4_radius p4_feed p4_halfWidths_n p4_halfWidths p3_disc_n r4.2.2.2.2.2.2.2.1 p3_kept_n p3_kept p3_heights_n r4.2.2.2.2.2.2.2.2)) (kX1_travel l D cA h_o h_p3 h_p4_1 h_p4_1_halfWidths h_p3_disc h_p3_kept h_p3_heights o_hasRun o_time o_ended o_x o_y o_z o_cut o_held p3_side p3_cells p3_targets p3_marks p3_discSize (p4_radius 1) (p4_feed 1) p4_halfWidths_n (p4_halfWidths 1) p3_disc_n p3_disc p3_kept_n p3_kept p3_heights_n p3_heights r1 r2 r3 0 N r4 er4) ivX1_70 ⟨rfl, rfl⟩ ⟨by decide, by decide⟩ rfl ⟨Nat.zero_le _, Nat.zero_le _⟩ rfl rfl [0, 2, 10, 14, 17, 18, 19] rfl (by decide) rfl rfl rfl (Nat.le_of_ble_eq_true rfl) dX1_obey_109 ?_
        obtain rfl := Option.some.inj hf0
        exact z_iret hE dX1_obey_112
      · rw [ek108] at hf0 ⊢
        refine z_stk (stk' := [.ref h_p4_2, .ref h_p3, .int 0, .int r3, .int r2, .int r1, .ref h_o]) rfl ?_
        obtain ⟨r4, er4, hf0⟩ := bp hf0
        refine z_calliV (pc := 109) (As := [.int r1, .int r2, .int r3, .int 0, .ref h_p3, .ref h_p4_2]) (rest := []) (ws' := (wsX1_obey cA h_o h_p1 h_p3 h_p4 h_p1_letters h_p1_digits h_p1_xs h_p1_ys h_p1_zs h_p4_0 h_p4_1 h_p4_2 h_p4_3 h_p4_0_halfWidths h_p4_1_halfWidths h_p4_2_halfWidths h_p4_3_halfWidths h_p3_disc h_p3_kept h_p3_heights o_hasRun r4.2.1 o_ended r4.2.2.1 r4.2.2.2.1 r4.2.2.2.2.1 r4.2.2.2.2.2.1 o_held p1_count p3_side p3_cells p3_targets p3_marks r4.2.2.2.2.2.2.1 p1_letters_n p1_letters p1_digits_n p1_digits p1_xs_n p1_xs p1_ys_n p1_ys p1_zs_n p1_zs p4_radius p4_feed p4_halfWidths_n p4_halfWidths p3_disc_n r4.2.2.2.2.2.2.2.1 p3_kept_n p3_kept p3_heights_n r4.2.2.2.2.2.2.2.2)) (kX1_travel l D cA h_o h_p3 h_p4_2 h_p4_2_halfWidths h_p3_disc h_p3_kept h_p3_heights o_hasRun o_time o_ended o_x o_y o_z o_cut o_held p3_side p3_cells p3_targets p3_marks p3_discSize (p4_radius 2) (p4_feed 2) p4_halfWidths_n (p4_halfWidths 2) p3_disc_n p3_disc p3_kept_n p3_kept p3_heights_n p3_heights r1 r2 r3 0 N r4 er4) ivX1_70 ⟨rfl, rfl⟩ ⟨by decide, by decide⟩ rfl ⟨Nat.zero_le _, Nat.zero_le _⟩ rfl rfl [0, 2, 11, 15, 17, 18, 19] rfl (by decide) rfl rfl rfl (Nat.le_of_ble_eq_true rfl) dX1_obey_109 ?_
        obtain rfl := Option.some.inj hf0
        exact z_iret hE dX1_obey_112
      · rw [ek108] at hf0 ⊢
        refine z_stk (stk' := [.ref h_p4_3, .ref h_p3, .int 0, .int r3, .int r2, .int r1, .ref h_o]) rfl ?_
        obtain ⟨r4, er4, hf0⟩ := bp hf0
        refine z_calliV (pc := 109) (As := [.int r1, .int r2, .int r3, .int 0, .ref h_p3, .ref h_p4_3]) (rest := []) (ws' := (wsX1_obey cA h_o h_p1 h_p3 h_p4 h_p1_letters h_p1_digits h_p1_xs h_p1_ys h_p1_zs h_p4_0 h_p4_1 h_p4_2 h_p4_3 h_p4_0_halfWidths h_p4_1_halfWidths h_p4_2_halfWidths h_p4_3_halfWidths h_p3_disc h_p3_kept h_p3_heights o_hasRun r4.2.1 o_ended r4.2.2.1 r4.2.2.2.1 r4.2.2.2.2.1 r4.2.2.2.2.2.1 o_held p1_count p3_side p3_cells p3_targets p3_marks r4.2.2.2.2.2.2.1 p1_letters_n p1_letters p1_digits_n p1_digits p1_xs_n p1_xs p1_ys_n p1_ys p1_zs_n p1_zs p4_radius p4_feed p4_halfWidths_n p4_halfWidths p3_disc_n r4.2.2.2.2.2.2.2.1 p3_kept_n p3_kept p3_heights_n r4.2.2.2.2.2.2.2.2)) (kX1_travel l D cA h_o h_p3 h_p4_3 h_p4_3_halfWidths h_p3_disc h_p3_kept h_p3_heights o_hasRun o_time o_ended o_x o_y o_z o_cut o_held p3_side p3_cells p3_targets p3_marks p3_discSize (p4_radius 3) (p4_feed 3) p4_halfWidths_n (p4_halfWidths 3) p3_disc_n p3_disc p3_kept_n p3_kept p3_heights_n p3_heights r1 r2 r3 0 N r4 er4) ivX1_70 ⟨rfl, rfl⟩ ⟨by decide, by decide⟩ rfl ⟨Nat.zero_le _, Nat.zero_le _⟩ rfl rfl [0, 2, 12, 16, 17, 18, 19] rfl (by decide) rfl rfl rfl (Nat.le_of_ble_eq_true rfl) dX1_obey_109 ?_
        obtain rfl := Option.some.inj hf0
        exact z_iret hE dX1_obey_112
    · refine z_iconst (pc := 96) (v := 1) dX1_obey_96 (by decide) ?_
      refine z_goto (pc := 97) (tgt := 101) dX1_obey_97 (by decide) ?_
      refine z_aload_n 6 (pc := 101) dX1_obey_101 rfl ?_
      refine z_aload 7 (pc := 102) dX1_obey_102 rfl ?_
      refine z_aload_n 3 (pc := 104) dX1_obey_104 rfl ?_
      refine z_get 0 7 (pc := 105) (v := .int o_held) rfl rfl inX1 (by decide) flX1_37 rfl dX1_obey_105 ?_
      refine z_aaload 3 4 (pc := 108) rfl rfl dX1_obey_108 hf0 (fun hf0 hk108 => ?_)
      rcases fam4 hk108 with ek108 | ek108 | ek108 | ek108
      · rw [ek108] at hf0 ⊢
        refine z_stk (stk' := [.ref h_p4_0, .ref h_p3, .int 1, .int r3, .int r2, .int r1, .ref h_o]) rfl ?_
        obtain ⟨r5, er5, hf0⟩ := bp hf0
        refine z_calliV (pc := 109) (As := [.int r1, .int r2, .int r3, .int 1, .ref h_p3, .ref h_p4_0]) (rest := []) (ws' := (wsX1_obey cA h_o h_p1 h_p3 h_p4 h_p1_letters h_p1_digits h_p1_xs h_p1_ys h_p1_zs h_p4_0 h_p4_1 h_p4_2 h_p4_3 h_p4_0_halfWidths h_p4_1_halfWidths h_p4_2_halfWidths h_p4_3_halfWidths h_p3_disc h_p3_kept h_p3_heights o_hasRun r5.2.1 o_ended r5.2.2.1 r5.2.2.2.1 r5.2.2.2.2.1 r5.2.2.2.2.2.1 o_held p1_count p3_side p3_cells p3_targets p3_marks r5.2.2.2.2.2.2.1 p1_letters_n p1_letters p1_digits_n p1_digits p1_xs_n p1_xs p1_ys_n p1_ys p1_zs_n p1_zs p4_radius p4_feed p4_halfWidths_n p4_halfWidths p3_disc_n r5.2.2.2.2.2.2.2.1 p3_kept_n p3_kept p3_heights_n r5.2.2.2.2.2.2.2.2)) (kX1_travel l D cA h_o h_p3 h_p4_0 h_p4_0_halfWidths h_p3_disc h_p3_kept h_p3_heights o_hasRun o_time o_ended o_x o_y o_z o_cut o_held p3_side p3_cells p3_targets p3_marks p3_discSize (p4_radius 0) (p4_feed 0) p4_halfWidths_n (p4_halfWidths 0) p3_disc_n p3_disc p3_kept_n p3_kept p3_heights_n p3_heights r1 r2 r3 1 N r5 er5) ivX1_70 ⟨rfl, rfl⟩ ⟨by decide, by decide⟩ rfl ⟨Nat.zero_le _, Nat.zero_le _⟩ rfl rfl [0, 2, 9, 13, 17, 18, 19] rfl (by decide) rfl rfl rfl (Nat.le_of_ble_eq_true rfl) dX1_obey_109 ?_
        obtain rfl := Option.some.inj hf0
        exact z_iret hE dX1_obey_112
      · rw [ek108] at hf0 ⊢
        refine z_stk (stk' := [.ref h_p4_1, .ref h_p3, .int 1, .int r3, .int r2, .int r1, .ref h_o]) rfl ?_
        obtain ⟨r5, er5, hf0⟩ := bp hf0
        refine z_calliV (pc := 109) (As := [.int r1, .int r2, .int r3, .int 1, .ref h_p3, .ref h_p4_1]) (rest := []) (ws' := (wsX1_obey cA h_o h_p1 h_p3 h_p4 h_p1_letters h_p1_digits h_p1_xs h_p1_ys h_p1_zs h_p4_0 h_p4_1 h_p4_2 h_p4_3 h_p4_0_halfWidths h_p4_1_halfWidths h_p4_2_halfWidths h_p4_3_halfWidths h_p3_disc h_p3_kept h_p3_heights o_hasRun r5.2.1 o_ended r5.2.2.1 r5.2.2.2.1 r5.2.2.2.2.1 r5.2.2.2.2.2.1 o_held p1_count p3_side p3_cells p3_targets p3_marks r5.2.2.2.2.2.2.1 p1_letters_n p1_letters p1_digits_n p1_digits p1_xs_n p1_xs p1_ys_n p1_ys p1_zs_n p1_zs p4_radius p4_feed p4_halfWidths_n p4_halfWidths p3_disc_n r5.2.2.2.2.2.2.2.1 p3_kept_n p3_kept p3_heights_n r5.2.2.2.2.2.2.2.2)) (kX1_travel l D cA h_o h_p3 h_p4_1 h_p4_1_halfWidths h_p3_disc h_p3_kept h_p3_heights o_hasRun o_time o_ended o_x o_y o_z o_cut o_held p3_side p3_cells p3_targets p3_marks p3_discSize (p4_radius 1) (p4_feed 1) p4_halfWidths_n (p4_halfWidths 1) p3_disc_n p3_disc p3_kept_n p3_kept p3_heights_n p3_heights r1 r2 r3 1 N r5 er5) ivX1_70 ⟨rfl, rfl⟩ ⟨by decide, by decide⟩ rfl ⟨Nat.zero_le _, Nat.zero_le _⟩ rfl rfl [0, 2, 10, 14, 17, 18, 19] rfl (by decide) rfl rfl rfl (Nat.le_of_ble_eq_true rfl) dX1_obey_109 ?_
        obtain rfl := Option.some.inj hf0
        exact z_iret hE dX1_obey_112
      · rw [ek108] at hf0 ⊢
        refine z_stk (stk' := [.ref h_p4_2, .ref h_p3, .int 1, .int r3, .int r2, .int r1, .ref h_o]) rfl ?_
        obtain ⟨r5, er5, hf0⟩ := bp hf0
        refine z_calliV (pc := 109) (As := [.int r1, .int r2, .int r3, .int 1, .ref h_p3, .ref h_p4_2]) (rest := []) (ws' := (wsX1_obey cA h_o h_p1 h_p3 h_p4 h_p1_letters h_p1_digits h_p1_xs h_p1_ys h_p1_zs h_p4_0 h_p4_1 h_p4_2 h_p4_3 h_p4_0_halfWidths h_p4_1_halfWidths h_p4_2_halfWidths h_p4_3_halfWidths h_p3_disc h_p3_kept h_p3_heights o_hasRun r5.2.1 o_ended r5.2.2.1 r5.2.2.2.1 r5.2.2.2.2.1 r5.2.2.2.2.2.1 o_held p1_count p3_side p3_cells p3_targets p3_marks r5.2.2.2.2.2.2.1 p1_letters_n p1_letters p1_digits_n p1_digits p1_xs_n p1_xs p1_ys_n p1_ys p1_zs_n p1_zs p4_radius p4_feed p4_halfWidths_n p4_halfWidths p3_disc_n r5.2.2.2.2.2.2.2.1 p3_kept_n p3_kept p3_heights_n r5.2.2.2.2.2.2.2.2)) (kX1_travel l D cA h_o h_p3 h_p4_2 h_p4_2_halfWidths h_p3_disc h_p3_kept h_p3_heights o_hasRun o_time o_ended o_x o_y o_z o_cut o_held p3_side p3_cells p3_targets p3_marks p3_discSize (p4_radius 2) (p4_feed 2) p4_halfWidths_n (p4_halfWidths 2) p3_disc_n p3_disc p3_kept_n p3_kept p3_heights_n p3_heights r1 r2 r3 1 N r5 er5) ivX1_70 ⟨rfl, rfl⟩ ⟨by decide, by decide⟩ rfl ⟨Nat.zero_le _, Nat.zero_le _⟩ rfl rfl [0, 2, 11, 15, 17, 18, 19] rfl (by decide) rfl rfl rfl (Nat.le_of_ble_eq_true rfl) dX1_obey_109 ?_
        obtain rfl := Option.some.inj hf0
        exact z_iret hE dX1_obey_112
      · rw [ek108] at hf0 ⊢
        refine z_stk (stk' := [.ref h_p4_3, .ref h_p3, .int 1, .int r3, .int r2, .int r1, .ref h_o]) rfl ?_
        obtain ⟨r5, er5, hf0⟩ := bp hf0
        refine z_calliV (pc := 109) (As := [.int r1, .int r2, .int r3, .int 1, .ref h_p3, .ref h_p4_3]) (rest := []) (ws' := (wsX1_obey cA h_o h_p1 h_p3 h_p4 h_p1_letters h_p1_digits h_p1_xs h_p1_ys h_p1_zs h_p4_0 h_p4_1 h_p4_2 h_p4_3 h_p4_0_halfWidths h_p4_1_halfWidths h_p4_2_halfWidths h_p4_3_halfWidths h_p3_disc h_p3_kept h_p3_heights o_hasRun r5.2.1 o_ended r5.2.2.1 r5.2.2.2.1 r5.2.2.2.2.1 r5.2.2.2.2.2.1 o_held p1_count p3_side p3_cells p3_targets p3_marks r5.2.2.2.2.2.2.1 p1_letters_n p1_letters p1_digits_n p1_digits p1_xs_n p1_xs p1_ys_n p1_ys p1_zs_n p1_zs p4_radius p4_feed p4_halfWidths_n p4_halfWidths p3_disc_n r5.2.2.2.2.2.2.2.1 p3_kept_n p3_kept p3_heights_n r5.2.2.2.2.2.2.2.2)) (kX1_travel l D cA h_o h_p3 h_p4_3 h_p4_3_halfWidths h_p3_disc h_p3_kept h_p3_heights o_hasRun o_time o_ended o_x o_y o_z o_cut o_held p3_side p3_cells p3_targets p3_marks p3_discSize (p4_radius 3) (p4_feed 3) p4_halfWidths_n (p4_halfWidths 3) p3_disc_n p3_disc p3_kept_n p3_kept p3_heights_n p3_heights r1 r2 r3 1 N r5 er5) ivX1_70 ⟨rfl, rfl⟩ ⟨by decide, by decide⟩ rfl ⟨Nat.zero_le _, Nat.zero_le _⟩ rfl rfl [0, 2, 12, 16, 17, 18, 19] rfl (by decide) rfl rfl rfl (Nat.le_of_ble_eq_true rfl) dX1_obey_109 ?_
        obtain rfl := Option.some.inj hf0
        exact z_iret hE dX1_obey_112
  · refine z_aload_n 0 (pc := 11) dX1_obey_11 rfl ?_
    refine z_aload_n 1 (pc := 12) dX1_obey_12 rfl ?_
    refine z_get 1 2 (pc := 13) (v := .ref h_p1_digits) rfl rfl inX3 (by decide) flX1_53 rfl dX1_obey_13 ?_
    refine z_iload_n 2 (pc := 16) dX1_obey_16 rfl ?_
    refine z_iaload 5 0 (pc := 17) rfl rfl dX1_obey_17 hf0 (fun hf0 => ?_)
    refine z_put 0 7 (pc := 18) (ws' := (wsX1_obey cA h_o h_p1 h_p3 h_p4 h_p1_letters h_p1_digits h_p1_xs h_p1_ys h_p1_zs h_p4_0 h_p4_1 h_p4_2 h_p4_3 h_p4_0_halfWidths h_p4_1_halfWidths h_p4_2_halfWidths h_p4_3_halfWidths h_p3_disc h_p3_kept h_p3_heights o_hasRun o_time o_ended o_x o_y o_z o_cut (p1_digits a2.toNatClampNeg) p1_count p3_side p3_cells p3_targets p3_marks p3_discSize p1_letters_n p1_letters p1_digits_n p1_digits p1_xs_n p1_xs p1_ys_n p1_ys p1_zs_n p1_zs p4_radius p4_feed p4_halfWidths_n p4_halfWidths p3_disc_n p3_disc p3_kept_n p3_kept p3_heights_n p3_heights)) rfl rfl inX1 tyX1 tyX1_ok nmX1 (by decide) flX1_37 rfl rfl rfl rfl (Nat.le_of_ble_eq_true rfl) dX1_obey_18 rfl ?_
    refine z_aload_n 0 (pc := 21) dX1_obey_21 rfl ?_
    refine z_dup (pc := 22) dX1_obey_22 rfl ?_
    refine z_get 0 1 (pc := 23) (v := .int o_time) rfl rfl inX1 (by decide) flX1_18 rfl dX1_obey_23 ?_
    refine z_bipush (pc := 26) (v := 10) dX1_obey_26 (by decide) ?_
    refine z_iadd (pc := 28) dX1_obey_28 ?_
    refine z_put 0 1 (pc := 29) (ws' := (wsX1_obey cA h_o h_p1 h_p3 h_p4 h_p1_letters h_p1_digits h_p1_xs h_p1_ys h_p1_zs h_p4_0 h_p4_1 h_p4_2 h_p4_3 h_p4_0_halfWidths h_p4_1_halfWidths h_p4_2_halfWidths h_p4_3_halfWidths h_p3_disc h_p3_kept h_p3_heights o_hasRun (o_time + 10) o_ended o_x o_y o_z o_cut (p1_digits a2.toNatClampNeg) p1_count p3_side p3_cells p3_targets p3_marks p3_discSize p1_letters_n p1_letters p1_digits_n p1_digits p1_xs_n p1_xs p1_ys_n p1_ys p1_zs_n p1_zs p4_radius p4_feed p4_halfWidths_n p4_halfWidths p3_disc_n p3_disc p3_kept_n p3_kept p3_heights_n p3_heights)) rfl rfl inX1 tyX1 tyX1_ok nmX1 (by decide) flX1_18 rfl rfl rfl rfl (Nat.le_of_ble_eq_true rfl) dX1_obey_29 rfl ?_
    refine z_iconst (pc := 32) (v := 0) dX1_obey_32 (by decide) ?_
    obtain rfl := Option.some.inj hf0
    exact z_iret hE dX1_obey_33

abbrev RX1_follow : Type := Int32 × Int32 × Int32 × Int32 × Int32 × Int32 × Int32 × Int32 × Int32 × Int32 × (Nat → Int32) × (Nat → Int32)
abbrev rmX1_follow : Room := { frames := 4, cells := 0, slots := 0, locals := 109 }
abbrev wsX1_follow (cA : Nat → ClassId) (h_o : Nat) (h_p1 : Nat) (h_p2 : Nat) (h_p3 : Nat) (h_p1_letters : Nat) (h_p1_digits : Nat) (h_p1_xs : Nat) (h_p1_ys : Nat) (h_p1_zs : Nat) (h_p3_0 : Nat) (h_p3_1 : Nat) (h_p3_2 : Nat) (h_p3_3 : Nat) (h_p3_0_halfWidths : Nat) (h_p3_1_halfWidths : Nat) (h_p3_2_halfWidths : Nat) (h_p3_3_halfWidths : Nat) (h_p2_disc : Nat) (h_p2_kept : Nat) (h_p2_heights : Nat) (o_hasRun : Int32) (o_time : Int32) (o_ended : Int32) (o_x : Int32) (o_y : Int32) (o_z : Int32) (o_cut : Int32) (o_held : Int32) (p1_count : Int32) (p2_side : Int32) (p2_cells : Int32) (p2_targets : Value) (p2_marks : Value) (p2_discSize : Int32) (p1_letters_n : Nat) (p1_letters : Nat → Int32) (p1_digits_n : Nat) (p1_digits : Nat → Int32) (p1_xs_n : Nat) (p1_xs : Nat → Int32) (p1_ys_n : Nat) (p1_ys : Nat → Int32) (p1_zs_n : Nat) (p1_zs : Nat → Int32) (p3_radius : Nat → Int32) (p3_feed : Nat → Int32) (p3_halfWidths_n : Nat) (p3_halfWidths : Nat → Nat → Int32) (p2_disc_n : Nat) (p2_disc : Nat → Int32) (p2_kept_n : Nat) (p2_kept : Nat → Int32) (p2_heights_n : Nat) (p2_heights : Nat → Int32) : va_W := [(h_o, .inr (1, [.int o_hasRun, .int o_time, .int o_ended, .int o_x, .int o_y, .int o_z, .int o_cut, .int o_held])), (h_p1, .inr (3, [.int p1_count, .ref h_p1_letters, .ref h_p1_digits, .ref h_p1_xs, .ref h_p1_ys, .ref h_p1_zs])), (h_p2, .inr (0, [.int p2_side, .int p2_cells, .ref h_p2_heights, p2_targets, .ref h_p2_kept, p2_marks, .ref h_p2_disc, .int p2_discSize])), (h_p3, .inl (cA 4, 4, .inr (.inr (.inr (.inr (rk4 h_p3_0 h_p3_1 h_p3_2 h_p3_3)))))), (h_p1_letters, .inl (cA 2, p1_letters_n, .inl p1_letters)), (h_p1_digits, .inl (cA 0, p1_digits_n, .inl p1_digits)), (h_p1_xs, .inl (cA 0, p1_xs_n, .inl p1_xs)), (h_p1_ys, .inl (cA 0, p1_ys_n, .inl p1_ys)), (h_p1_zs, .inl (cA 0, p1_zs_n, .inl p1_zs)), (h_p3_0, .inr (5, [.int (p3_radius 0), .int (p3_feed 0), .ref h_p3_0_halfWidths])), (h_p3_1, .inr (5, [.int (p3_radius 1), .int (p3_feed 1), .ref h_p3_1_halfWidths])), (h_p3_2, .inr (5, [.int (p3_radius 2), .int (p3_feed 2), .ref h_p3_2_halfWidths])), (h_p3_3, .inr (5, [.int (p3_radius 3), .int (p3_feed 3), .ref h_p3_3_halfWidths])), (h_p3_0_halfWidths, .inl (cA 0, p3_halfWidths_n, .inl (p3_halfWidths 0))), (h_p3_1_halfWidths, .inl (cA 0, p3_halfWidths_n, .inl (p3_halfWidths 1))), (h_p3_2_halfWidths, .inl (cA 0, p3_halfWidths_n, .inl (p3_halfWidths 2))), (h_p3_3_halfWidths, .inl (cA 0, p3_halfWidths_n, .inl (p3_halfWidths 3))), (h_p2_disc, .inl (cA 0, p2_disc_n, .inl p2_disc)), (h_p2_kept, .inl (cA 1, p2_kept_n, .inl p2_kept)), (h_p2_heights, .inl (cA 0, p2_heights_n, .inl p2_heights))]
def LX1_follow_12 (p1_count : Int32) (N : Nat) (p2_side : Int32) (p1_letters_n : Nat) (p1_letters : Nat → Int32) (p1_digits_n : Nat) (p1_digits : Nat → Int32) (p1_xs_n : Nat) (p1_xs : Nat → Int32) (p1_ys_n : Nat) (p1_ys : Nat → Int32) (p1_zs_n : Nat) (p1_zs : Nat → Int32) (p3_radius : Nat → Int32) (p3_feed : Nat → Int32) (p3_halfWidths_n : Nat) (p3_halfWidths : Nat → Nat → Int32) (p2_disc_n : Nat) (p2_kept_n : Nat) (p2_kept : Nat → Int32) (p2_heights_n : Nat) : Nat → Int32 → Int32 → Int32 → Int32 → Int32 → Int32 → Int32 → Int32 → (Nat → Int32) → Int32 → (Nat → Int32) → Option (RX1_follow)
  | 0, _, _, _, _, _, _, _, _, _, _, _ => none
  | n + 1, x4_12, o_cut_12, o_ended_12, o_held_12, o_time_12, o_x_12, o_y_12, o_z_12, p2_disc_12, p2_discSize_12, p2_heights_12 => (if p1_count ≤ x4_12 then some (0, 1, o_time_12, p1_count, o_x_12, o_y_12, o_z_12, o_cut_12, o_held_12, p2_discSize_12, p2_disc_12, p2_heights_12) else ((fX1_obey N x4_12 o_time_12 o_x_12 o_y_12 o_z_12 o_cut_12 o_held_12 p2_side p2_discSize_12 p1_letters_n p1_letters p1_digits_n p1_digits p1_xs_n p1_xs p1_ys_n p1_ys p1_zs_n p1_zs p3_radius p3_feed p3_halfWidths_n p3_halfWidths p2_disc_n p2_disc_12 p2_kept_n p2_kept p2_heights_n p2_heights_12).bind fun r2 => (if r2.1 = 0 then LX1_follow_12 p1_count N p2_side p1_letters_n p1_letters p1_digits_n p1_digits p1_xs_n p1_xs p1_ys_n p1_ys p1_zs_n p1_zs p3_radius p3_feed p3_halfWidths_n p3_halfWidths p2_disc_n p2_kept_n p2_kept p2_heights_n n (x4_12 + 1) r2.2.2.2.2.2.1 x4_12 r2.2.2.2.2.2.2.1 r2.2.1 r2.2.2.1 r2.2.2.2.1 r2.2.2.2.2.1 r2.2.2.2.2.2.2.2.2.1 r2.2.2.2.2.2.2.2.1 r2.2.2.2.2.2.2.2.2.2 else some (r2.1, 1, r2.2.1, x4_12, r2.2.2.1, r2.2.2.2.1, r2.2.2.2.2.1, r2.2.2.2.2.2.1, r2.2.2.2.2.2.2.1, r2.2.2.2.2.2.2.2.1, r2.2.2.2.2.2.2.2.2.1, r2.2.2.2.2.2.2.2.2.2))))
def fX1_follow (N : Nat)  (o_hasRun : Int32) (o_time : Int32) (o_ended : Int32) (o_x : Int32) (o_y : Int32) (o_z : Int32) (o_cut : Int32) (o_held : Int32) (p1_count : Int32) (p2_side : Int32) (p2_discSize : Int32) (p1_letters_n : Nat) (p1_letters : Nat → Int32) (p1_digits_n : Nat) (p1_digits : Nat → Int32) (p1_xs_n : Nat) (p1_xs : Nat → Int32) (p1_ys_n : Nat) (p1_ys : Nat → Int32) (p1_zs_n : Nat) (p1_zs : Nat → Int32) (p3_radius : Nat → Int32) (p3_feed : Nat → Int32) (p3_halfWidths_n : Nat) (p3_halfWidths : Nat → Nat → Int32) (p2_disc_n : Nat) (p2_disc : Nat → Int32) (p2_kept_n : Nat) (p2_kept : Nat → Int32) (p2_heights_n : Nat) (p2_heights : Nat → Int32) : Option RX1_follow :=
  ((fX1_startAnew N o_time o_ended o_x o_y o_z o_cut o_held).bind fun r1 => LX1_follow_12 p1_count N p2_side p1_letters_n p1_letters p1_digits_n p1_digits p1_xs_n p1_xs p1_ys_n p1_ys p1_zs_n p1_zs p3_radius p3_feed p3_halfWidths_n p3_halfWidths p2_disc_n p2_kept_n p2_kept p2_heights_n N 0 r1.2.2.2.2.2.1 r1.2.1 r1.2.2.2.2.2.2 r1.1 r1.2.2.1 r1.2.2.2.1 r1.2.2.2.2.1 p2_disc p2_discSize p2_heights)
set_option maxHeartbeats 4000000 in
set_option maxRecDepth 100000 in
theorem kX1_follow (l : Launch) (D : va_G) (cA : Nat → ClassId) (h_o : Nat) (h_p1 : Nat) (h_p2 : Nat) (h_p3 : Nat) (h_p1_letters : Nat) (h_p1_digits : Nat) (h_p1_xs : Nat) (h_p1_ys : Nat) (h_p1_zs : Nat) (h_p3_0 : Nat) (h_p3_1 : Nat) (h_p3_2 : Nat) (h_p3_3 : Nat) (h_p3_0_halfWidths : Nat) (h_p3_1_halfWidths : Nat) (h_p3_2_halfWidths : Nat) (h_p3_3_halfWidths : Nat) (h_p2_disc : Nat) (h_p2_kept : Nat) (h_p2_heights : Nat) (o_hasRun : Int32) (o_time : Int32) (o_ended : Int32) (o_x : Int32) (o_y : Int32) (o_z : Int32) (o_cut : Int32) (o_held : Int32) (p1_count : Int32) (p2_side : Int32) (p2_cells : Int32) (p2_targets : Value) (p2_marks : Value) (p2_discSize : Int32) (p1_letters_n : Nat) (p1_letters : Nat → Int32) (p1_digits_n : Nat) (p1_digits : Nat → Int32) (p1_xs_n : Nat) (p1_xs : Nat → Int32) (p1_ys_n : Nat) (p1_ys : Nat → Int32) (p1_zs_n : Nat) (p1_zs : Nat → Int32) (p3_radius : Nat → Int32) (p3_feed : Nat → Int32) (p3_halfWidths_n : Nat) (p3_halfWidths : Nat → Nat → Int32) (p2_disc_n : Nat) (p2_disc : Nat → Int32) (p2_kept_n : Nat) (p2_kept : Nat → Int32) (p2_heights_n : Nat) (p2_heights : Nat → Int32)  (N : Nat) (res : RX1_follow) (hf0 : fX1_follow N o_hasRun o_time o_ended o_x o_y o_z o_cut o_held p1_count p2_side p2_discSize p1_letters_n p1_letters p1_digits_n p1_digits p1_xs_n p1_xs p1_ys_n p1_ys p1_zs_n p1_zs p3_radius p3_feed p3_halfWidths_n p3_halfWidths p2_disc_n p2_disc p2_kept_n p2_kept p2_heights_n p2_heights = some res) : CtI l yX1_follow (Cond.code yX1_follow cX1_follow 6 (some .int) :: tblG) rmX1_follow D cA (wsX1_follow cA h_o h_p1 h_p2 h_p3 h_p1_letters h_p1_digits h_p1_xs h_p1_ys h_p1_zs h_p3_0 h_p3_1 h_p3_2 h_p3_3 h_p3_0_halfWidths h_p3_1_halfWidths h_p3_2_halfWidths h_p3_3_halfWidths h_p2_disc h_p2_kept h_p2_heights o_hasRun o_time o_ended o_x o_y o_z o_cut o_held p1_count p2_side p2_cells p2_targets p2_marks p2_discSize p1_letters_n p1_letters p1_digits_n p1_digits p1_xs_n p1_xs p1_ys_n p1_ys p1_zs_n p1_zs p3_radius p3_feed p3_halfWidths_n p3_halfWidths p2_disc_n p2_disc p2_kept_n p2_kept p2_heights_n p2_heights) [.ref h_o, .ref h_p1, .ref h_p2, .ref h_p3] res.1 (wsX1_follow cA h_o h_p1 h_p2 h_p3 h_p1_letters h_p1_digits h_p1_xs h_p1_ys h_p1_zs h_p3_0 h_p3_1 h_p3_2 h_p3_3 h_p3_0_halfWidths h_p3_1_halfWidths h_p3_2_halfWidths h_p3_3_halfWidths h_p2_disc h_p2_kept h_p2_heights res.2.1 res.2.2.1 res.2.2.2.1 res.2.2.2.2.1 res.2.2.2.2.2.1 res.2.2.2.2.2.2.1 res.2.2.2.2.2.2.2.1 res.2.2.2.2.2.2.2.2.1 p1_count p2_side p2_cells p2_targets p2_marks res.2.2.2.2.2.2.2.2.2.1 p1_letters_n p1_letters p1_digits_n p1_digits p1_xs_n p1_xs p1_ys_n p1_ys p1_zs_n p1_zs p3_radius p3_feed p3_halfWidths_n p3_halfWidths p2_disc_n res.2.2.2.2.2.2.2.2.2.2.1 p2_kept_n p2_kept p2_heights_n res.2.2.2.2.2.2.2.2.2.2.2) := by
  refine CtI.start (lv := [(0, .ref h_o), (1, .ref h_p1), (2, .ref h_p2), (3, .ref h_p3)]) (by decide) (Nat.le_of_ble_eq_true rfl) rfl (fun κ hE => ?_)
  rw [fX1_follow] at hf0
  refine z_aload_n 0 (pc := 0) dX1_follow_0 rfl ?_
  obtain ⟨r1, er1, hf0⟩ := bp hf0
  refine z_callvV (pc := 1) (As := []) (rest := []) (ws' := (wsX1_follow cA h_o h_p1 h_p2 h_p3 h_p1_letters h_p1_digits h_p1_xs h_p1_ys h_p1_zs h_p3_0 h_p3_1 h_p3_2 h_p3_3 h_p3_0_halfWidths h_p3_1_halfWidths h_p3_2_halfWidths h_p3_3_halfWidths h_p2_disc h_p2_kept h_p2_heights o_hasRun r1.1 r1.2.1 r1.2.2.1 r1.2.2.2.1 r1.2.2.2.2.1 r1.2.2.2.2.2.1 r1.2.2.2.2.2.2 p1_count p2_side p2_cells p2_targets p2_marks p2_discSize p1_letters_n p1_letters p1_digits_n p1_digits p1_xs_n p1_xs p1_ys_n p1_ys p1_zs_n p1_zs p3_radius p3_feed p3_halfWidths_n p3_halfWidths p2_disc_n p2_disc p2_kept_n p2_kept p2_heights_n p2_heights)) (kX1_startAnew l D cA h_o o_hasRun o_time o_ended o_x o_y o_z o_cut o_held  N r1 er1) ivX1_15 ⟨rfl, rfl⟩ ⟨by decide, by decide⟩ rfl ⟨Nat.zero_le _, Nat.zero_le _⟩ rfl rfl [0] rfl (by decide) rfl rfl rfl (Nat.le_of_ble_eq_true rfl) dX1_follow_1 ?_
  refine z_aload_n 0 (pc := 4) dX1_follow_4 rfl ?_
  refine z_iconst (pc := 5) (v := 1) dX1_follow_5 (by decide) ?_
  refine z_put 0 0 (pc := 6) (ws' := (wsX1_follow cA h_o h_p1 h_p2 h_p3 h_p1_letters h_p1_digits h_p1_xs h_p1_ys h_p1_zs h_p3_0 h_p3_1 h_p3_2 h_p3_3 h_p3_0_halfWidths h_p3_1_halfWidths h_p3_2_halfWidths h_p3_3_halfWidths h_p2_disc h_p2_kept h_p2_heights 1 r1.1 r1.2.1 r1.2.2.1 r1.2.2.2.1 r1.2.2.2.2.1 r1.2.2.2.2.2.1 r1.2.2.2.2.2.2 p1_count p2_side p2_cells p2_targets p2_marks p2_discSize p1_letters_n p1_letters p1_digits_n p1_digits p1_xs_n p1_xs p1_ys_n p1_ys p1_zs_n p1_zs p3_radius p3_feed p3_halfWidths_n p3_halfWidths p2_disc_n p2_disc p2_kept_n p2_kept p2_heights_n p2_heights)) rfl rfl inX1 tyX1 tyX1_ok nmX1 (by decide) flX1_9 rfl rfl (by decide) rfl (Nat.le_of_ble_eq_true rfl) dX1_follow_6 rfl ?_
  refine z_iconst (pc := 9) (v := 0) dX1_follow_9 (by decide) ?_
  refine z_istore (pc := 10) (lv' := [(4, .int 0), (0, .ref h_o), (1, .ref h_p1), (2, .ref h_p2), (3, .ref h_p3)]) dX1_follow_10 (by decide) rfl ?_
  have lp12 : ∀ (n : Nat) (x4_12 : Int32) (o_cut_12 : Int32) (o_ended_12 : Int32) (o_held_12 : Int32) (o_time_12 : Int32) (o_x_12 : Int32) (o_y_12 : Int32) (o_z_12 : Int32) (p2_disc_12 : Nat → Int32) (p2_discSize_12 : Int32) (p2_heights_12 : Nat → Int32), LX1_follow_12 p1_count N p2_side p1_letters_n p1_letters p1_digits_n p1_digits p1_xs_n p1_xs p1_ys_n p1_ys p1_zs_n p1_zs p3_radius p3_feed p3_halfWidths_n p3_halfWidths p2_disc_n p2_kept_n p2_kept p2_heights_n n x4_12 o_cut_12 o_ended_12 o_held_12 o_time_12 o_x_12 o_y_12 o_z_12 p2_disc_12 p2_discSize_12 p2_heights_12 = some res → V κ l D cA rmX1_follow cX1_follow 6 RX1 (some .int) 0 0 12 [(0, .ref h_o), (1, .ref h_p1), (2, .ref h_p2), (3, .ref h_p3), (4, .int x4_12)] [] (wsX1_follow cA h_o h_p1 h_p2 h_p3 h_p1_letters h_p1_digits h_p1_xs h_p1_ys h_p1_zs h_p3_0 h_p3_1 h_p3_2 h_p3_3 h_p3_0_halfWidths h_p3_1_halfWidths h_p3_2_halfWidths h_p3_3_halfWidths h_p2_disc h_p2_kept h_p2_heights 1 o_time_12 o_ended_12 o_x_12 o_y_12 o_z_12 o_cut_12 o_held_12 p1_count p2_side p2_cells p2_targets p2_marks p2_discSize_12 p1_letters_n p1_letters p1_digits_n p1_digits p1_xs_n p1_xs p1_ys_n p1_ys p1_zs_n p1_zs p3_radius p3_feed p3_halfWidths_n p3_halfWidths p2_disc_n p2_disc_12 p2_kept_n p2_kept p2_heights_n p2_heights_12) := by
    intro n
    induction n with
    | zero => intro x4_12 o_cut_12 o_ended_12 o_held_12 o_time_12 o_x_12 o_y_12 o_z_12 p2_disc_12 p2_discSize_12 p2_heights_12 hf0; rw [LX1_follow_12] at hf0; cases hf0
    | succ n12 ih12 =>
      intro x4_12 o_cut_12 o_ended_12 o_held_12 o_time_12 o_x_12 o_y_12 o_z_12 p2_disc_12 p2_discSize_12 p2_heights_12 hf0
      rw [LX1_follow_12] at hf0
      refine z_iload 4 (pc := 12) dX1_follow_12 rfl ?_
      refine z_aload_n 1 (pc := 14) dX1_follow_14 rfl ?_
      refine z_get 1 0 (pc := 15) (v := .int p1_count) rfl rfl inX3 (by decide) flX1_40 rfl dX1_follow_15 ?_
      refine z_icmp_ge (pc := 18) (tgt := 52) dX1_follow_18 (by decide) hf0 (fun hf0 => ?_) (fun hf0 => ?_)
      · refine z_aload_n 0 (pc := 52) dX1_follow_52 rfl ?_
        refine z_aload_n 1 (pc := 53) dX1_follow_53 rfl ?_
        refine z_get 1 0 (pc := 54) (v := .int p1_count) rfl rfl inX3 (by decide) flX1_40 rfl dX1_follow_54 ?_
        refine z_put 0 2 (pc := 57) (ws' := (wsX1_follow cA h_o h_p1 h_p2 h_p3 h_p1_letters h_p1_digits h_p1_xs h_p1_ys h_p1_zs h_p3_0 h_p3_1 h_p3_2 h_p3_3 h_p3_0_halfWidths h_p3_1_halfWidths h_p3_2_halfWidths h_p3_3_halfWidths h_p2_disc h_p2_kept h_p2_heights 1 o_time_12 p1_count o_x_12 o_y_12 o_z_12 o_cut_12 o_held_12 p1_count p2_side p2_cells p2_targets p2_marks p2_discSize_12 p1_letters_n p1_letters p1_digits_n p1_digits p1_xs_n p1_xs p1_ys_n p1_ys p1_zs_n p1_zs p3_radius p3_feed p3_halfWidths_n p3_halfWidths p2_disc_n p2_disc_12 p2_kept_n p2_kept p2_heights_n p2_heights_12)) rfl rfl inX1 tyX1 tyX1_ok nmX1 (by decide) flX1_22 rfl rfl rfl rfl (Nat.le_of_ble_eq_true rfl) dX1_follow_57 rfl ?_
        refine z_iconst (pc := 60) (v := 0) dX1_follow_60 (by decide) ?_
        obtain rfl := Option.some.inj hf0
        exact z_iret hE dX1_follow_61
      · refine z_aload_n 0 (pc := 21) dX1_follow_21 rfl ?_
        refine z_iload 4 (pc := 22) dX1_follow_22 rfl ?_
        refine z_put 0 2 (pc := 24) (ws' := (wsX1_follow cA h_o h_p1 h_p2 h_p3 h_p1_letters h_p1_digits h_p1_xs h_p1_ys h_p1_zs h_p3_0 h_p3_1 h_p3_2 h_p3_3 h_p3_0_halfWidths h_p3_1_halfWidths h_p3_2_halfWidths h_p3_3_halfWidths h_p2_disc h_p2_kept h_p2_heights 1 o_time_12 x4_12 o_x_12 o_y_12 o_z_12 o_cut_12 o_held_12 p1_count p2_side p2_cells p2_targets p2_marks p2_discSize_12 p1_letters_n p1_letters p1_digits_n p1_digits p1_xs_n p1_xs p1_ys_n p1_ys p1_zs_n p1_zs p3_radius p3_feed p3_halfWidths_n p3_halfWidths p2_disc_n p2_disc_12 p2_kept_n p2_kept p2_heights_n p2_heights_12)) rfl rfl inX1 tyX1 tyX1_ok nmX1 (by decide) flX1_22 rfl rfl rfl rfl (Nat.le_of_ble_eq_true rfl) dX1_follow_24 rfl ?_
        refine z_aload_n 0 (pc := 27) dX1_follow_27 rfl ?_
        refine z_aload_n 1 (pc := 28) dX1_follow_28 rfl ?_
        refine z_iload 4 (pc := 29) dX1_follow_29 rfl ?_
        refine z_aload_n 2 (pc := 31) dX1_follow_31 rfl ?_
        refine z_aload_n 3 (pc := 32) dX1_follow_32 rfl ?_
        obtain ⟨r2, er2, hf0⟩ := bp hf0
        refine z_calliV (pc := 33) (As := [.ref h_p1, .int x4_12, .ref h_p2, .ref h_p3]) (rest := []) (ws' := (wsX1_follow cA h_o h_p1 h_p2 h_p3 h_p1_letters h_p1_digits h_p1_xs h_p1_ys h_p1_zs h_p3_0 h_p3_1 h_p3_2 h_p3_3 h_p3_0_halfWidths h_p3_1_halfWidths h_p3_2_halfWidths h_p3_3_halfWidths h_p2_disc h_p2_kept h_p2_heights 1 r2.2.1 x4_12 r2.2.2.1 r2.2.2.2.1 r2.2.2.2.2.1 r2.2.2.2.2.2.1 r2.2.2.2.2.2.2.1 p1_count p2_side p2_cells p2_targets p2_marks r2.2.2.2.2.2.2.2.1 p1_letters_n p1_letters p1_digits_n p1_digits p1_xs_n p1_xs p1_ys_n p1_ys p1_zs_n p1_zs p3_radius p3_feed p3_halfWidths_n p3_halfWidths p2_disc_n r2.2.2.2.2.2.2.2.2.1 p2_kept_n p2_kept p2_heights_n r2.2.2.2.2.2.2.2.2.2)) (kX1_obey l D cA h_o h_p1 h_p2 h_p3 h_p1_letters h_p1_digits h_p1_xs h_p1_ys h_p1_zs h_p3_0 h_p3_1 h_p3_2 h_p3_3 h_p3_0_halfWidths h_p3_1_halfWidths h_p3_2_halfWidths h_p3_3_halfWidths h_p2_disc h_p2_kept h_p2_heights 1 o_time_12 x4_12 o_x_12 o_y_12 o_z_12 o_cut_12 o_held_12 p1_count p2_side p2_cells p2_targets p2_marks p2_discSize_12 p1_letters_n p1_letters p1_digits_n p1_digits p1_xs_n p1_xs p1_ys_n p1_ys p1_zs_n p1_zs p3_radius p3_feed p3_halfWidths_n p3_halfWidths p2_disc_n p2_disc_12 p2_kept_n p2_kept p2_heights_n p2_heights_12 x4_12 N r2 er2) ivX1_45 ⟨rfl, rfl⟩ ⟨by decide, by decide⟩ rfl ⟨Nat.zero_le _, Nat.zero_le _⟩ rfl rfl [0, 1, 2, 3, 4, 5, 6, 7, 8, 9, 10, 11, 12, 13, 14, 15, 16, 17, 18, 19] rfl (by decide) rfl rfl rfl (Nat.le_of_ble_eq_true rfl) dX1_follow_33 ?_
        refine z_istore (pc := 36) (lv' := [(5, .int r2.1), (0, .ref h_o), (1, .ref h_p1), (2, .ref h_p2), (3, .ref h_p3), (4, .int x4_12)]) dX1_follow_36 (by decide) rfl ?_
        refine z_iload 0 (pc := 38) dX1_follow_38 rfl ?_
        refine z_if_eq (pc := 40) (tgt := 46) dX1_follow_40 (by decide) hf0 (fun hf0 => ?_) (fun hf0 => ?_)
        · refine z_iinc 5 (pc := 46) (v := x4_12 + 1) (lv' := [(4, .int (x4_12 + 1)), (5, .int r2.1), (0, .ref h_o), (1, .ref h_p1), (2, .ref h_p2), (3, .ref h_p3)]) dX1_follow_46 rfl rfl (by decide) rfl ?_
          refine z_goto (pc := 49) (tgt := 12) dX1_follow_49 (by decide) ?_
          exact z_lv [2, 3, 4, 5, 0] rfl (ih12 (x4_12 + 1) r2.2.2.2.2.2.1 x4_12 r2.2.2.2.2.2.2.1 r2.2.1 r2.2.2.1 r2.2.2.2.1 r2.2.2.2.2.1 r2.2.2.2.2.2.2.2.2.1 r2.2.2.2.2.2.2.2.1 r2.2.2.2.2.2.2.2.2.2 hf0)
        · refine z_iload 0 (pc := 43) dX1_follow_43 rfl ?_
          obtain rfl := Option.some.inj hf0
          exact z_iret hE dX1_follow_45
  exact z_lv [1, 2, 3, 4, 0] rfl (lp12 N 0 r1.2.2.2.2.2.1 r1.2.1 r1.2.2.2.2.2.2 r1.1 r1.2.2.1 r1.2.2.2.1 r1.2.2.2.2.1 p2_disc p2_discSize p2_heights hf0)
end
section
abbrev RX6_unit : Type := Int32 × Int32 × (Nat → Int32)
abbrev rmX6_unit : Room := { frames := 1, cells := 0, slots := 0, locals := 21 }
abbrev wsX6_unit (cA : Nat → ClassId) (h_o : Nat) (h_o_reader : Nat) (h_o_reader_text : Nat) (o_grid : Value) (o_tools : Value) (o_machine : Value) (o_pieceCounter : Value) (o_program : Value) (o_draft : Value) (o_reader_side : Int32) (o_reader_length : Int32) (o_reader_place : Int32) (o_reader_text_n : Nat) (o_reader_text : Nat → Int32) : va_W := [(h_o, .inr (6, [o_grid, o_tools, .ref h_o_reader, o_machine, o_pieceCounter, o_program, o_draft])), (h_o_reader, .inr (4, [.int o_reader_side, .ref h_o_reader_text, .int o_reader_length, .int o_reader_place])), (h_o_reader_text, .inl (cA 0, o_reader_text_n, .inl o_reader_text))]
def fX6_unit (N : Nat) (a1 : Int32) (o_reader_length : Int32) (o_reader_text_n : Nat) (o_reader_text : Nat → Int32) : Option RX6_unit :=
  ((fX4_append N a1 o_reader_length o_reader_text_n o_reader_text).bind fun r1 => (if r1.1 = 0 ∨ r1.1 = 1 then some (r1.1, r1.2.1, r1.2.2) else none))
set_option maxHeartbeats 4000000 in
set_option maxRecDepth 100000 in
theorem kX6_unit (l : Launch) (D : va_G) (cA : Nat → ClassId) (h_o : Nat) (h_o_reader : Nat) (h_o_reader_text : Nat) (o_grid : Value) (o_tools : Value) (o_machine : Value) (o_pieceCounter : Value) (o_program : Value) (o_draft : Value) (o_reader_side : Int32) (o_reader_length : Int32) (o_reader_place : Int32) (o_reader_text_n : Nat) (o_reader_text : Nat → Int32) (a1 : Int32) (N : Nat) (res : RX6_unit) (hf0 : fX6_unit N a1 o_reader_length o_reader_text_n o_reader_text = some res) : CtI l yX6_unit (Cond.code yX6_unit cX6_unit 2 (some .boolean) :: tblG) rmX6_unit D cA (wsX6_unit cA h_o h_o_reader h_o_reader_text o_grid o_tools o_machine o_pieceCounter o_program o_draft o_reader_side o_reader_length o_reader_place o_reader_text_n o_reader_text) [.ref h_o, .int a1] res.1 (wsX6_unit cA h_o h_o_reader h_o_reader_text o_grid o_tools o_machine o_pieceCounter o_program o_draft o_reader_side res.2.1 o_reader_place o_reader_text_n res.2.2) := by
  refine CtI.start (lv := [(0, .ref h_o), (1, .int a1)]) (by decide) (Nat.le_of_ble_eq_true rfl) rfl (fun κ hE => ?_)
  rw [fX6_unit] at hf0
  refine z_aload_n 0 (pc := 0) dX6_unit_0 rfl ?_
  refine z_get 0 2 (pc := 1) (v := .ref h_o_reader) rfl rfl inX6 (by decide) flX6_37 rfl dX6_unit_1 ?_
  refine z_iload_n 1 (pc := 4) dX6_unit_4 rfl ?_
  obtain ⟨r1, er1, hf0⟩ := bp hf0
  refine z_calliV (pc := 5) (As := [.int a1]) (rest := []) (ws' := (wsX6_unit cA h_o h_o_reader h_o_reader_text o_grid o_tools o_machine o_pieceCounter o_program o_draft o_reader_side r1.2.1 o_reader_place o_reader_text_n r1.2.2)) (kX4_append l D cA h_o_reader h_o_reader_text o_reader_side o_reader_length o_reader_place o_reader_text_n o_reader_text a1 N r1 er1) ivX6_95 ⟨rfl, rfl⟩ ⟨by decide, by decide⟩ rfl ⟨Nat.zero_le _, Nat.zero_le _⟩ rfl rfl [1, 2] rfl (by decide) rfl rfl rfl (Nat.le_of_ble_eq_true rfl) dX6_unit_5 ?_
  exact z_zret dX6_unit_8 hf0 (fun hf0 => by obtain rfl := Option.some.inj hf0; exact hE)

abbrev RX6_read : Type := Int32 × Nat × Nat × Int32 × Int32 × Int32 × (Nat → Int32) × (Nat → Int32) × (Nat → Int32) × (Nat → Int32) × (Nat → Int32)
abbrev rmX6_read : Room := { frames := 6, cells := 0, slots := 0, locals := 135 }
abbrev wsX6_read (cA : Nat → ClassId) (h_o : Nat) (h_o_reader : Nat) (h_o_draft : Nat) (h_o_reader_text : Nat) (h_o_draft_letters : Nat) (h_o_draft_digits : Nat) (h_o_draft_xs : Nat) (h_o_draft_ys : Nat) (h_o_draft_zs : Nat) (h_o_program : Nat) (o_grid : Value) (o_tools : Value) (o_machine : Value) (o_pieceCounter : Value) (o_program : Nat) (o_draft : Nat) (o_reader_side : Int32) (o_reader_length : Int32) (o_reader_place : Int32) (o_draft_count : Int32) (o_reader_text_n : Nat) (o_reader_text : Nat → Int32) (o_draft_letters_n : Nat) (o_draft_letters : Nat → Int32) (o_draft_digits_n : Nat) (o_draft_digits : Nat → Int32) (o_draft_xs_n : Nat) (o_draft_xs : Nat → Int32) (o_draft_ys_n : Nat) (o_draft_ys : Nat → Int32) (o_draft_zs_n : Nat) (o_draft_zs : Nat → Int32) (o_program_count : Int32) (o_program_letters : Value) (o_program_digits : Value) (o_program_xs : Value) (o_program_ys : Value) (o_program_zs : Value) : va_W := [(h_o, .inr (6, [o_grid, o_tools, .ref h_o_reader, o_machine, o_pieceCounter, .ref o_program, .ref o_draft])), (h_o_reader, .inr (4, [.int o_reader_side, .ref h_o_reader_text, .int o_reader_length, .int o_reader_place])), (h_o_draft, .inr (3, [.int o_draft_count, .ref h_o_draft_letters, .ref h_o_draft_digits, .ref h_o_draft_xs, .ref h_o_draft_ys, .ref h_o_draft_zs])), (h_o_reader_text, .inl (cA 0, o_reader_text_n, .inl o_reader_text)), (h_o_draft_letters, .inl (cA 2, o_draft_letters_n, .inl o_draft_letters)), (h_o_draft_digits, .inl (cA 0, o_draft_digits_n, .inl o_draft_digits)), (h_o_draft_xs, .inl (cA 0, o_draft_xs_n, .inl o_draft_xs)), (h_o_draft_ys, .inl (cA 0, o_draft_ys_n, .inl o_draft_ys)), (h_o_draft_zs, .inl (cA 0, o_draft_zs_n, .inl o_draft_zs)), (h_o_program, .inr (3, [.int o_program_count, o_program_letters, o_program_digits, o_program_xs, o_program_ys, o_program_zs]))]
def fX6_read (N : Nat)  (o_program : Nat) (o_draft : Nat) (o_reader_side : Int32) (o_reader_length : Int32) (o_reader_place : Int32) (o_draft_count : Int32) (o_reader_text_n : Nat) (o_reader_text : Nat → Int32) (o_draft_letters_n : Nat) (o_draft_letters : Nat → Int32) (o_draft_digits_n : Nat) (o_draft_digits : Nat → Int32) (o_draft_xs_n : Nat) (o_draft_xs : Nat → Int32) (o_draft_ys_n : Nat) (o_draft_ys : Nat → Int32) (o_draft_zs_n : Nat) (o_draft_zs : Nat → Int32) : Option RX6_read :=
  ((fX4_parse N o_reader_side o_reader_length o_reader_place o_draft_count o_reader_text_n o_reader_text o_draft_letters_n o_draft_letters o_draft_digits_n o_draft_digits o_draft_xs_n o_draft_xs o_draft_ys_n o_draft_ys o_draft_zs_n o_draft_zs).bind fun r1 => (if r1.1 < 0 then some (r1.1, o_program, o_draft, r1.2.1, r1.2.2.1, r1.2.2.2.1, r1.2.2.2.2.1, r1.2.2.2.2.2.1, r1.2.2.2.2.2.2.1, r1.2.2.2.2.2.2.2.1, r1.2.2.2.2.2.2.2.2) else some (r1.1, o_draft, o_program, r1.2.1, r1.2.2.1, r1.2.2.2.1, r1.2.2.2.2.1, r1.2.2.2.2.2.1, r1.2.2.2.2.2.2.1, r1.2.2.2.2.2.2.2.1, r1.2.2.2.2.2.2.2.2)))
set_option maxHeartbeats 4000000 in
set_option maxRecDepth 100000 in
theorem kX6_read (l : Launch) (D : va_G) (cA : Nat → ClassId) (h_o : Nat) (h_o_reader : Nat) (h_o_draft : Nat) (h_o_reader_text : Nat) (h_o_draft_letters : Nat) (h_o_draft_digits : Nat) (h_o_draft_xs : Nat) (h_o_draft_ys : Nat) (h_o_draft_zs : Nat) (h_o_program : Nat) (o_grid : Value) (o_tools : Value) (o_machine : Value) (o_pieceCounter : Value) (o_reader_side : Int32) (o_reader_length : Int32) (o_reader_place : Int32) (o_draft_count : Int32) (o_reader_text_n : Nat) (o_reader_text : Nat → Int32) (o_draft_letters_n : Nat) (o_draft_letters : Nat → Int32) (o_draft_digits_n : Nat) (o_draft_digits : Nat → Int32) (o_draft_xs_n : Nat) (o_draft_xs : Nat → Int32) (o_draft_ys_n : Nat) (o_draft_ys : Nat → Int32) (o_draft_zs_n : Nat) (o_draft_zs : Nat → Int32) (o_program_count : Int32) (o_program_letters : Value) (o_program_digits : Value) (o_program_xs : Value) (o_program_ys : Value) (o_program_zs : Value)  (N : Nat) (res : RX6_read) (hf0 : fX6_read N h_o_program h_o_draft o_reader_side o_reader_length o_reader_place o_draft_count o_reader_text_n o_reader_text o_draft_letters_n o_draft_letters o_draft_digits_n o_draft_digits o_draft_xs_n o_draft_xs o_draft_ys_n o_draft_ys o_draft_zs_n o_draft_zs = some res) : CtI l yX6_read (Cond.code yX6_read cX6_read 3 (some .int) :: tblG) rmX6_read D cA (wsX6_read cA h_o h_o_reader h_o_draft h_o_reader_text h_o_draft_letters h_o_draft_digits h_o_draft_xs h_o_draft_ys h_o_draft_zs h_o_program o_grid o_tools o_machine o_pieceCounter h_o_program h_o_draft o_reader_side o_reader_length o_reader_place o_draft_count o_reader_text_n o_reader_text o_draft_letters_n o_draft_letters o_draft_digits_n o_draft_digits o_draft_xs_n o_draft_xs o_draft_ys_n o_draft_ys o_draft_zs_n o_draft_zs o_program_count o_program_letters o_program_digits o_program_xs o_program_ys o_program_zs) [.ref h_o] res.1 (wsX6_read cA h_o h_o_reader h_o_draft h_o_reader_text h_o_draft_letters h_o_draft_digits h_o_draft_xs h_o_draft_ys h_o_draft_zs h_o_program o_grid o_tools o_machine o_pieceCounter res.2.1 res.2.2.1 o_reader_side res.2.2.2.1 res.2.2.2.2.1 res.2.2.2.2.2.1 o_reader_text_n o_reader_text o_draft_letters_n res.2.2.2.2.2.2.1 o_draft_digits_n res.2.2.2.2.2.2.2.1 o_draft_xs_n res.2.2.2.2.2.2.2.2.1 o_draft_ys_n res.2.2.2.2.2.2.2.2.2.1 o_draft_zs_n res.2.2.2.2.2.2.2.2.2.2 o_program_count o_program_letters o_program_digits o_program_xs o_program_ys o_program_zs) := by
  refine CtI.start (lv := [(0, .ref h_o)]) (by decide) (Nat.le_of_ble_eq_true rfl) rfl (fun κ hE => ?_)
  rw [fX6_read] at hf0
  refine z_aload_n 0 (pc := 0) dX6_read_0 rfl ?_
  refine z_get 0 2 (pc := 1) (v := .ref h_o_reader) rfl rfl inX6 (by decide) flX6_37 rfl dX6_read_1 ?_
  refine z_aload_n 0 (pc := 4) dX6_read_4 rfl ?_
  refine z_get 0 6 (pc := 5) (v := .ref h_o_draft) rfl rfl inX6 (by decide) flX6_62 rfl dX6_read_5 ?_
  obtain ⟨r1, er1, hf0⟩ := bp hf0
  refine z_calliV (pc := 8) (As := [.ref h_o_draft]) (rest := []) (ws' := (wsX6_read cA h_o h_o_reader h_o_draft h_o_reader_text h_o_draft_letters h_o_draft_digits h_o_draft_xs h_o_draft_ys h_o_draft_zs h_o_program o_grid o_tools o_machine o_pieceCounter h_o_program h_o_draft o_reader_side r1.2.1 r1.2.2.1 r1.2.2.2.1 o_reader_text_n o_reader_text o_draft_letters_n r1.2.2.2.2.1 o_draft_digits_n r1.2.2.2.2.2.1 o_draft_xs_n r1.2.2.2.2.2.2.1 o_draft_ys_n r1.2.2.2.2.2.2.2.1 o_draft_zs_n r1.2.2.2.2.2.2.2.2 o_program_count o_program_letters o_program_digits o_program_xs o_program_ys o_program_zs)) (kX4_parse l D cA h_o_reader h_o_draft h_o_reader_text h_o_draft_letters h_o_draft_digits h_o_draft_xs h_o_draft_ys h_o_draft_zs o_reader_side o_reader_length o_reader_place o_draft_count o_reader_text_n o_reader_text o_draft_letters_n o_draft_letters o_draft_digits_n o_draft_digits o_draft_xs_n o_draft_xs o_draft_ys_n o_draft_ys o_draft_zs_n o_draft_zs  N r1 er1) ivX6_99 ⟨rfl, rfl⟩ ⟨by decide, by decide⟩ rfl ⟨Nat.zero_le _, Nat.zero_le _⟩ rfl rfl [1, 2, 3, 4, 5, 6, 7, 8] rfl (by decide) rfl rfl rfl (Nat.le_of_ble_eq_true rfl) dX6_read_8 ?_
  refine z_istore_n (pc := 11) (lv' := [(1, .int r1.1), (0, .ref h_o)]) dX6_read_11 (by decide) rfl ?_
  refine z_iload_n 0 (pc := 12) dX6_read_12 rfl ?_
  refine z_if_lt (pc := 13) (tgt := 34) dX6_read_13 (by decide) hf0 (fun hf0 => ?_) (fun hf0 => ?_)
  · refine z_iload_n 0 (pc := 34) dX6_read_34 rfl ?_
    obtain rfl := Option.some.inj hf0
    exact z_iret hE dX6_read_35
  · refine z_aload_n 1 (pc := 16) dX6_read_16 rfl ?_
    refine z_get 0 6 (pc := 17) (v := .ref h_o_draft) rfl rfl inX6 (by decide) flX6_62 rfl dX6_read_17 ?_
    refine z_astore_n (pc := 20) (lv' := [(2, .ref h_o_draft), (1, .int r1.1), (0, .ref h_o)]) dX6_read_20 (by decide) rfl ?_
    refine z_aload_n 2 (pc := 21) dX6_read_21 rfl ?_
    refine z_aload_n 2 (pc := 22) dX6_read_22 rfl ?_
    refine z_get 0 5 (pc := 23) (v := .ref h_o_program) rfl rfl inX6 (by decide) flX6_58 rfl dX6_read_23 ?_
    refine z_put 0 6 (pc := 26) (ws' := (wsX6_read cA h_o h_o_reader h_o_draft h_o_reader_text h_o_draft_letters h_o_draft_digits h_o_draft_xs h_o_draft_ys h_o_draft_zs h_o_program o_grid o_tools o_machine o_pieceCounter h_o_program h_o_program o_reader_side r1.2.1 r1.2.2.1 r1.2.2.2.1 o_reader_text_n o_reader_text o_draft_letters_n r1.2.2.2.2.1 o_draft_digits_n r1.2.2.2.2.2.1 o_draft_xs_n r1.2.2.2.2.2.2.1 o_draft_ys_n r1.2.2.2.2.2.2.2.1 o_draft_zs_n r1.2.2.2.2.2.2.2.2 o_program_count o_program_letters o_program_digits o_program_xs o_program_ys o_program_zs)) rfl rfl inX6 tyX6 tyX6_ok nmX6 (by decide) flX6_62 rfl rfl rfl rfl (Nat.le_of_ble_eq_true rfl) dX6_read_26 rfl ?_
    refine z_aload_n 2 (pc := 29) dX6_read_29 rfl ?_
    refine z_aload_n 0 (pc := 30) dX6_read_30 rfl ?_
    refine z_put 0 5 (pc := 31) (ws' := (wsX6_read cA h_o h_o_reader h_o_draft h_o_reader_text h_o_draft_letters h_o_draft_digits h_o_draft_xs h_o_draft_ys h_o_draft_zs h_o_program o_grid o_tools o_machine o_pieceCounter h_o_draft h_o_program o_reader_side r1.2.1 r1.2.2.1 r1.2.2.2.1 o_reader_text_n o_reader_text o_draft_letters_n r1.2.2.2.2.1 o_draft_digits_n r1.2.2.2.2.2.1 o_draft_xs_n r1.2.2.2.2.2.2.1 o_draft_ys_n r1.2.2.2.2.2.2.2.1 o_draft_zs_n r1.2.2.2.2.2.2.2.2 o_program_count o_program_letters o_program_digits o_program_xs o_program_ys o_program_zs)) rfl rfl inX6 tyX6 tyX6_ok nmX6 (by decide) flX6_58 rfl rfl rfl rfl (Nat.le_of_ble_eq_true rfl) dX6_read_31 rfl ?_
    refine z_iload_n 1 (pc := 34) dX6_read_34 rfl ?_
    obtain rfl := Option.some.inj hf0
    exact z_iret hE dX6_read_35

abbrev RX6_pieces : Type := Int32 × Int32 × (Nat → Int32) × (Nat → Int32) × (Nat → Int32)
abbrev rmX6_pieces : Room := { frames := 4, cells := 0, slots := 0, locals := 96 }
abbrev wsX6_pieces (cA : Nat → ClassId) (h_o : Nat) (h_o_pieceCounter : Nat) (h_o_grid : Nat) (h_o_pieceCounter_taken : Nat) (h_o_grid_heights : Nat) (h_o_pieceCounter_queueX : Nat) (h_o_pieceCounter_queueY : Nat) (o_tools : Value) (o_reader : Value) (o_machine : Value) (o_program : Value) (o_draft : Value) (o_pieceCounter_side : Int32) (o_pieceCounter_cells : Int32) (o_pieceCounter_queued : Int32) (o_grid_side : Int32) (o_grid_cells : Int32) (o_grid_targets : Value) (o_grid_kept : Value) (o_grid_marks : Value) (o_grid_disc : Value) (o_grid_discSize : Int32) (o_pieceCounter_taken_n : Nat) (o_pieceCounter_taken : Nat → Int32) (o_grid_heights_n : Nat) (o_grid_heights : Nat → Int32) (o_pieceCounter_queueX_n : Nat) (o_pieceCounter_queueX : Nat → Int32) (o_pieceCounter_queueY_n : Nat) (o_pieceCounter_queueY : Nat → Int32) : va_W := [(h_o, .inr (6, [.ref h_o_grid, o_tools, o_reader, o_machine, .ref h_o_pieceCounter, o_program, o_draft])), (h_o_pieceCounter, .inr (2, [.int o_pieceCounter_side, .int o_pieceCounter_cells, .ref h_o_pieceCounter_taken, .ref h_o_pieceCounter_queueX, .ref h_o_pieceCounter_queueY, .int o_pieceCounter_queued])), (h_o_grid, .inr (0, [.int o_grid_side, .int o_grid_cells, .ref h_o_grid_heights, o_grid_targets, o_grid_kept, o_grid_marks, o_grid_disc, .int o_grid_discSize])), (h_o_pieceCounter_taken, .inl (cA 1, o_pieceCounter_taken_n, .inl o_pieceCounter_taken)), (h_o_grid_heights, .inl (cA 0, o_grid_heights_n, .inl o_grid_heights)), (h_o_pieceCounter_queueX, .inl (cA 0, o_pieceCounter_queueX_n, .inl o_pieceCounter_queueX)), (h_o_pieceCounter_queueY, .inl (cA 0, o_pieceCounter_queueY_n, .inl o_pieceCounter_queueY))]
def fX6_pieces (N : Nat)  (o_pieceCounter_side : Int32) (o_pieceCounter_cells : Int32) (o_pieceCounter_queued : Int32) (o_grid_side : Int32) (o_pieceCounter_taken_n : Nat) (o_pieceCounter_taken : Nat → Int32) (o_grid_heights_n : Nat) (o_grid_heights : Nat → Int32) (o_pieceCounter_queueX_n : Nat) (o_pieceCounter_queueX : Nat → Int32) (o_pieceCounter_queueY_n : Nat) (o_pieceCounter_queueY : Nat → Int32) : Option RX6_pieces :=
  ((fX2_count N o_pieceCounter_side o_pieceCounter_cells o_pieceCounter_queued o_grid_side o_pieceCounter_taken_n o_pieceCounter_taken o_grid_heights_n o_grid_heights o_pieceCounter_queueX_n o_pieceCounter_queueX o_pieceCounter_queueY_n o_pieceCounter_queueY).bind fun r1 => some (r1.1, r1.2.1, r1.2.2.1, r1.2.2.2.1, r1.2.2.2.2))
set_option maxHeartbeats 4000000 in
set_option maxRecDepth 100000 in
theorem kX6_pieces (l : Launch) (D : va_G) (cA : Nat → ClassId) (h_o : Nat) (h_o_pieceCounter : Nat) (h_o_grid : Nat) (h_o_pieceCounter_taken : Nat) (h_o_grid_heights : Nat) (h_o_pieceCounter_queueX : Nat) (h_o_pieceCounter_queueY : Nat) (o_tools : Value) (o_reader : Value) (o_machine : Value) (o_program : Value) (o_draft : Value) (o_pieceCounter_side : Int32) (o_pieceCounter_cells : Int32) (o_pieceCounter_queued : Int32) (o_grid_side : Int32) (o_grid_cells : Int32) (o_grid_targets : Value) (o_grid_kept : Value) (o_grid_marks : Value) (o_grid_disc : Value) (o_grid_discSize : Int32) (o_pieceCounter_taken_n : Nat) (o_pieceCounter_taken : Nat → Int32) (o_grid_heights_n : Nat) (o_grid_heights : Nat → Int32) (o_pieceCounter_queueX_n : Nat) (o_pieceCounter_queueX : Nat → Int32) (o_pieceCounter_queueY_n : Nat) (o_pieceCounter_queueY : Nat → Int32)  (N : Nat) (res : RX6_pieces) (hf0 : fX6_pieces N o_pieceCounter_side o_pieceCounter_cells o_pieceCounter_queued o_grid_side o_pieceCounter_taken_n o_pieceCounter_taken o_grid_heights_n o_grid_heights o_pieceCounter_queueX_n o_pieceCounter_queueX o_pieceCounter_queueY_n o_pieceCounter_queueY = some res) : CtI l yX6_pieces (Cond.code yX6_pieces cX6_pieces 1 (some .int) :: tblG) rmX6_pieces D cA (wsX6_pieces cA h_o h_o_pieceCounter h_o_grid h_o_pieceCounter_taken h_o_grid_heights h_o_pieceCounter_queueX h_o_pieceCounter_queueY o_tools o_reader o_machine o_program o_draft o_pieceCounter_side o_pieceCounter_cells o_pieceCounter_queued o_grid_side o_grid_cells o_grid_targets o_grid_kept o_grid_marks o_grid_disc o_grid_discSize o_pieceCounter_taken_n o_pieceCounter_taken o_grid_heights_n o_grid_heights o_pieceCounter_queueX_n o_pieceCounter_queueX o_pieceCounter_queueY_n o_pieceCounter_queueY) [.ref h_o] res.1 (wsX6_pieces cA h_o h_o_pieceCounter h_o_grid h_o_pieceCounter_taken h_o_grid_heights h_o_pieceCounter_queueX h_o_pieceCounter_queueY o_tools o_reader o_machine o_program o_draft o_pieceCounter_side o_pieceCounter_cells res.2.1 o_grid_side o_grid_cells o_grid_targets o_grid_kept o_grid_marks o_grid_disc o_grid_discSize o_pieceCounter_taken_n res.2.2.1 o_grid_heights_n o_grid_heights o_pieceCounter_queueX_n res.2.2.2.1 o_pieceCounter_queueY_n res.2.2.2.2) := by
  refine CtI.start (lv := [(0, .ref h_o)]) (by decide) (Nat.le_of_ble_eq_true rfl) rfl (fun κ hE => ?_)
  rw [fX6_pieces] at hf0
  refine z_aload_n 0 (pc := 0) dX6_pieces_0 rfl ?_
  refine z_get 0 4 (pc := 1) (v := .ref h_o_pieceCounter) rfl rfl inX6 (by decide) flX6_51 rfl dX6_pieces_1 ?_
  refine z_aload_n 0 (pc := 4) dX6_pieces_4 rfl ?_
  refine z_get 0 0 (pc := 5) (v := .ref h_o_grid) rfl rfl inX6 (by decide) flX6_23 rfl dX6_pieces_5 ?_
  obtain ⟨r1, er1, hf0⟩ := bp hf0
  refine z_calliV (pc := 8) (As := [.ref h_o_grid]) (rest := []) (ws' := (wsX6_pieces cA h_o h_o_pieceCounter h_o_grid h_o_pieceCounter_taken h_o_grid_heights h_o_pieceCounter_queueX h_o_pieceCounter_queueY o_tools o_reader o_machine o_program o_draft o_pieceCounter_side o_pieceCounter_cells r1.2.1 o_grid_side o_grid_cells o_grid_targets o_grid_kept o_grid_marks o_grid_disc o_grid_discSize o_pieceCounter_taken_n r1.2.2.1 o_grid_heights_n o_grid_heights o_pieceCounter_queueX_n r1.2.2.2.1 o_pieceCounter_queueY_n r1.2.2.2.2)) (kX2_count l D cA h_o_pieceCounter h_o_grid h_o_pieceCounter_taken h_o_grid_heights h_o_pieceCounter_queueX h_o_pieceCounter_queueY o_pieceCounter_side o_pieceCounter_cells o_pieceCounter_queued o_grid_side o_grid_cells o_grid_targets o_grid_kept o_grid_marks o_grid_disc o_grid_discSize o_pieceCounter_taken_n o_pieceCounter_taken o_grid_heights_n o_grid_heights o_pieceCounter_queueX_n o_pieceCounter_queueX o_pieceCounter_queueY_n o_pieceCounter_queueY  N r1 er1) ivX6_171 ⟨rfl, rfl⟩ ⟨by decide, by decide⟩ rfl ⟨Nat.zero_le _, Nat.zero_le _⟩ rfl rfl [1, 2, 3, 4, 5, 6] rfl (by decide) rfl rfl rfl (Nat.le_of_ble_eq_true rfl) dX6_pieces_8 ?_
  obtain rfl := Option.some.inj hf0
  exact z_iret hE dX6_pieces_11

abbrev RX6_blank : Type := (Nat → Int32)
abbrev rmX6_blank : Room := { frames := 1, cells := 0, slots := 0, locals := 21 }
abbrev wsX6_blank (cA : Nat → ClassId) (h_o : Nat) (h_o_grid : Nat) (h_o_grid_heights : Nat) (o_tools : Value) (o_reader : Value) (o_machine : Value) (o_pieceCounter : Value) (o_program : Value) (o_draft : Value) (o_grid_side : Int32) (o_grid_cells : Int32) (o_grid_targets : Value) (o_grid_kept : Value) (o_grid_marks : Value) (o_grid_disc : Value) (o_grid_discSize : Int32) (o_grid_heights_n : Nat) (o_grid_heights : Nat → Int32) : va_W := [(h_o, .inr (6, [.ref h_o_grid, o_tools, o_reader, o_machine, o_pieceCounter, o_program, o_draft])), (h_o_grid, .inr (0, [.int o_grid_side, .int o_grid_cells, .ref h_o_grid_heights, o_grid_targets, o_grid_kept, o_grid_marks, o_grid_disc, .int o_grid_discSize])), (h_o_grid_heights, .inl (cA 0, o_grid_heights_n, .inl o_grid_heights))]
def fX6_blank (N : Nat)  (o_grid_cells : Int32) (o_grid_heights_n : Nat) (o_grid_heights : Nat → Int32) : Option RX6_blank :=
  ((fX0_fillUp N o_grid_cells o_grid_heights_n o_grid_heights).bind fun r1 => some r1)
set_option maxHeartbeats 4000000 in
set_option maxRecDepth 100000 in
theorem kX6_blank (l : Launch) (D : va_G) (cA : Nat → ClassId) (h_o : Nat) (h_o_grid : Nat) (h_o_grid_heights : Nat) (o_tools : Value) (o_reader : Value) (o_machine : Value) (o_pieceCounter : Value) (o_program : Value) (o_draft : Value) (o_grid_side : Int32) (o_grid_cells : Int32) (o_grid_targets : Value) (o_grid_kept : Value) (o_grid_marks : Value) (o_grid_disc : Value) (o_grid_discSize : Int32) (o_grid_heights_n : Nat) (o_grid_heights : Nat → Int32)  (N : Nat) (res : RX6_blank) (hf0 : fX6_blank N o_grid_cells o_grid_heights_n o_grid_heights = some res) : CtV l yX6_blank (Cond.code yX6_blank cX6_blank 1 (none) :: tblG) rmX6_blank D cA (wsX6_blank cA h_o h_o_grid h_o_grid_heights o_tools o_reader o_machine o_pieceCounter o_program o_draft o_grid_side o_grid_cells o_grid_targets o_grid_kept o_grid_marks o_grid_disc o_grid_discSize o_grid_heights_n o_grid_heights) [.ref h_o] (wsX6_blank cA h_o h_o_grid h_o_grid_heights o_tools o_reader o_machine o_pieceCounter o_program o_draft o_grid_side o_grid_cells o_grid_targets o_grid_kept o_grid_marks o_grid_disc o_grid_discSize o_grid_heights_n res) := by
  refine CtV.start (lv := [(0, .ref h_o)]) (by decide) (Nat.le_of_ble_eq_true rfl) rfl (fun κ hE => ?_)
  rw [fX6_blank] at hf0
  refine z_aload_n 0 (pc := 0) dX6_blank_0 rfl ?_
  refine z_get 0 0 (pc := 1) (v := .ref h_o_grid) rfl rfl inX6 (by decide) flX6_23 rfl dX6_blank_1 ?_
  obtain ⟨r1, er1, hf0⟩ := bp hf0
  refine z_callvV (pc := 4) (As := []) (rest := []) (ws' := (wsX6_blank cA h_o h_o_grid h_o_grid_heights o_tools o_reader o_machine o_pieceCounter o_program o_draft o_grid_side o_grid_cells o_grid_targets o_grid_kept o_grid_marks o_grid_disc o_grid_discSize o_grid_heights_n r1)) (kX0_fillUp l D cA h_o_grid h_o_grid_heights o_grid_side o_grid_cells o_grid_targets o_grid_kept o_grid_marks o_grid_disc o_grid_discSize o_grid_heights_n o_grid_heights  N r1 er1) ivX6_174 ⟨rfl, rfl⟩ ⟨by decide, by decide⟩ rfl ⟨Nat.zero_le _, Nat.zero_le _⟩ rfl rfl [1, 2] rfl (by decide) rfl rfl rfl (Nat.le_of_ble_eq_true rfl) dX6_blank_4 ?_
  obtain rfl := Option.some.inj hf0
  exact z_vret hE dX6_blank_7
end
